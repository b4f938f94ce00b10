/-! ===== the reference: whether a step may be; a draw ===== -/
theorem ltC.back {S S1 : Nat → Nat → Int32} {n : Nat} {sp : Nat → Nat} {lo : Int32} (h : ltC S n sp lo) (h1 : ∀ i, i < n → S1 69 i = S 69 i ∧ S1 70 i = S 70 i) : ltC (xu (xu S1 54 29 (nI n)) 54 30 lo) n sp lo :=
  ⟨by rw [xu_ne2 (by omega), xu_same], h.2.1, h.2.2.1, fun i hi => by
    rw [xu_ne1 (by omega), xu_ne1 (by omega), (h1 i hi).1, xu_ne1 (by omega), xu_ne1 (by omega), (h1 i hi).2]
    exact h.2.2.2.1 i hi, xu_same⟩
theorem ltC.same {S S1 : Nat → Nat → Int32} {n q : Nat} {sp : Nat → Nat} {lo lo2 : Int32} (h : ltC S n sp lo) (h1 : ltC S1 (n + 1) (nu sp n q) lo2) : ∀ i, i < n → S1 69 i = S 69 i ∧ S1 70 i = S 70 i := fun i hi => by
  obtain ⟨a1, a2, _⟩ := h.2.2.2.1 i hi
  obtain ⟨b1, b2, _⟩ := h1.2.2.2.1 i (by omega)
  have e : nu sp n q i = sp i := if_neg (by omega)
  rw [e] at b1 b2
  exact ⟨b1.trans a1.symm, b2.trans a2.symm⟩
theorem frL.back {S S1 : Nat → Nat → Int32} {a b : Int32} (h : frL S S1) : frL S (xu (xu S1 54 29 a) 54 30 b) := ⟨fun j h1 h2 h3 => by rw [xu_c h1, xu_c h1]; exact h.1 j h1 h2 h3, fun f h1 h2 => by rw [xu_ne2 h2, xu_ne2 h1]; exact h.2 f h1 h2⟩

set_option maxRecDepth 100000 in
set_option maxHeartbeats 1000000 in
theorem c_X10_mayStep (d : Nat) (S : Nat → Nat → Int32) (G : Nat → Nat → Int64) (s : sS) (hc : MS S s) (hr0 : ¬ sHr s = 0) (kd : Nat) (hk : kd < 5) (a : Nat) (ha : a < 8) (n : Nat) (sp : Nat → Nat) (lo : Int32) (hl : ltC S n sp lo) (hn : n < 17) : xC (d + 2) mX10_mayStep [.ref 54, .int (nI kd), .int (nI a)] (σF, S, G) 0 0 (fun r h' => ∃ S', h' = (σF, S', G) ∧ r = some (.int (xb (mayF (hD (sH s)) (hLo (sH s)) (sp (n - 1) / 6) (sp (n - 1) % 6) (lpN (sH s) kd) a = true))) ∧ ltC S' n sp lo ∧ frL S S') := by
  refine xC.of okX10_mayStep (Nat.le_of_ble_eq_true rfl) (L := [_, _, _, _, _, _]) rfl ?_
  refine xA.aload_n (i := 0) rfl rfl rfl rfl ?_
  refine xA.getI rfl f10_181 rfl rfl rfl ?_
  refine xA.topi (hl.1) ?_
  refine xA.istore_n (i := 3) (L' := [_, _, _, _, _, _]) rfl rfl (Nat.le_of_ble_eq_true rfl) rfl rfl ?_
  refine xA.aload_n (i := 0) rfl rfl rfl rfl ?_
  refine xA.getI rfl f10_184 rfl rfl rfl ?_
  refine xA.topi (hl.2.2.2.2) ?_
  refine xA.istore (L' := [_, _, _, _, _, _]) rfl (Nat.le_of_ble_eq_true rfl) rfl rfl ?_
  refine xA.aload_n (i := 0) rfl rfl rfl rfl ?_
  refine xA.iload_n (i := 1) rfl rfl rfl rfl ?_
  refine xA.iload_n (i := 2) rfl rfl rfl rfl ?_
  refine xA.callV (As := [_, _]) (h := (σF, _, _)) rfl k10_200 okX10_step rfl rfl rfl rfl (Nat.le_of_ble_eq_true rfl) (c_X10_step _ S G s hc hr0 (sH s) rfl kd hk a ha n sp lo hl hn) (Nat.le_refl _) (Nat.le_refl _) rfl rfl ?_
  rintro r9 h9 ⟨S2, rfl, ⟨hnx, rfl, rfl⟩ | ⟨q, hnx, rfl, hl2, hf2⟩⟩
  · skip
    refine xA.istore (L' := [_, _, _, _, _, _]) rfl (Nat.le_of_ble_eq_true rfl) rfl rfl ?_
    refine xA.aload_n (i := 0) rfl rfl rfl rfl ?_
    refine xA.iload_n (i := 3) rfl rfl rfl rfl ?_
    refine xA.putI rfl p10_181 rfl rfl rfl ?_
    refine xA.aload_n (i := 0) rfl rfl rfl rfl ?_
    refine xA.iload rfl rfl rfl ?_
    refine xA.putI rfl p10_184 rfl rfl rfl ?_
    refine xA.iload rfl rfl rfl ?_
    exact xA.iret rfl rfl rfl ⟨_, rfl, by rw [xb_f (fun z => by unfold mayF at z; rw [show nxH (hD (sH s)) (hLo (sH s)) (sp (n - 1) / 6) (sp (n - 1) % 6) a (lpN (sH s) kd) = none from hnx] at z; cases z)], hl.back (fun _ _ => ⟨rfl, rfl⟩), (frL.refl _).back⟩
  · skip
    refine xA.istore (L' := [_, _, _, _, _, _]) rfl (Nat.le_of_ble_eq_true rfl) rfl rfl ?_
    refine xA.aload_n (i := 0) rfl rfl rfl rfl ?_
    refine xA.iload_n (i := 3) rfl rfl rfl rfl ?_
    refine xA.putI rfl p10_181 rfl rfl rfl ?_
    refine xA.aload_n (i := 0) rfl rfl rfl rfl ?_
    refine xA.iload rfl rfl rfl ?_
    refine xA.putI rfl p10_184 rfl rfl rfl ?_
    refine xA.iload rfl rfl rfl ?_
    exact xA.iret rfl rfl rfl ⟨_, rfl, by rw [xb_t (by unfold mayF; rw [show nxH (hD (sH s)) (hLo (sH s)) (sp (n - 1) / 6) (sp (n - 1) % 6) a (lpN (sH s) kd) = some q from hnx]; rfl)], hl.back (hl.same hl2), hf2.back⟩
set_option maxRecDepth 100000 in
set_option maxHeartbeats 400000 in
theorem c_X10_draw (d : Nat) (S : Nat → Nat → Int32) (G : Nat → Nat → Int64) (w : Nat) (hw : 0 < w) (h8 : w ≤ 8) : xR d mX10_draw [.ref 54, .int (nI w)] S G (some (.int (drN (sdN (S 54 36)) (nI w)))) (xu S 54 36 (sdN (S 54 36))) G := by
  refine xC.of okX10_draw (Nat.le_of_ble_eq_true rfl) (L := [_, _]) rfl ?_
  refine xA.aload_n (i := 0) rfl rfl rfl rfl ?_
  refine xA.ldc2 (v := 1103515245) rfl w1199 rfl ?_
  refine xA.aload_n (i := 0) rfl rfl rfl rfl ?_
  refine xA.getI rfl f10_257 rfl rfl rfl ?_
  refine xA.i2l rfl rfl ?_
  refine xA.lmul rfl rfl ?_
  refine xA.ldc2 (v := 12345) rfl w1200 rfl ?_
  refine xA.ladd rfl rfl ?_
  refine xA.ldc2 (v := 2147483647) rfl w1201 rfl ?_
  refine xA.land rfl rfl ?_
  refine xA.l2i rfl rfl ?_
  refine xA.topi ((show _ = sdN (S 54 36) from rfl)) ?_
  refine xA.putI rfl p10_257 rfl rfl rfl ?_
  refine xA.aload_n (i := 0) rfl rfl rfl rfl ?_
  refine xA.getI rfl f10_257 rfl rfl rfl ?_
  refine xA.topi (xu_same) ?_
  refine xA.ldc_w (v := 65536) rfl w1202 rfl ?_
  refine xA.idiv rfl (by decide) rfl ?_
  refine xA.iload_n (i := 1) rfl rfl rfl rfl ?_
  refine xA.irem rfl (fun z => absurd ((nI_eq (b := 0) (by omega) (by omega)).mp z) (by omega)) rfl ?_
  exact xA.iret rfl rfl rfl ⟨rfl, rfl⟩

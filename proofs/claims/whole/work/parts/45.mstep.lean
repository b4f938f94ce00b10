/-! ===== the reference: a life tried ===== -/
/-- the life that is tried: so many spots; how often through the low door -/
def ltC (S : Nat → Nat → Int32) (n : Nat) (sp : Nat → Nat) (lo : Int32) : Prop := S 54 29 = nI n ∧ 1 ≤ n ∧ n ≤ 17 ∧ (∀ i, i < n → S 69 i = nI (sp i / 6) ∧ S 70 i = nI (sp i % 6) ∧ sp i < 360) ∧ S 54 30 = lo
/-- only the life that is tried changed -/
def frL (S S' : Nat → Nat → Int32) : Prop := (∀ j, ¬ j = 54 → ¬ j = 69 → ¬ j = 70 → S' j = S j) ∧ ∀ f, ¬ f = 29 → ¬ f = 30 → S' 54 f = S 54 f
theorem frL.refl (S : Nat → Nat → Int32) : frL S S := ⟨fun _ _ _ _ => rfl, fun _ _ _ => rfl⟩
theorem frL.trans {S S1 S2 : Nat → Nat → Int32} (h1 : frL S S1) (h2 : frL S1 S2) : frL S S2 := ⟨fun j a b c => (h2.1 j a b c).trans (h1.1 j a b c), fun f a b => (h2.2 f a b).trans (h1.2 f a b)⟩
theorem frL.ms {S S' : Nat → Nat → Int32} {s : sS} (h : MS S s) (hf : frL S S') : MS S' s := h.scr (fun j a b c => hf.1 j (by omega) (by omega) (by omega)) (fun f a b c d => hf.2 f b c)
theorem neg_lp : ∀ m, m < 10 → ∀ l, l < 11 → m < l → ¬ (0 : Int32) ≤ nI m + -nI l := by decide +kernel
theorem pos_lp {m l : Nat} (h : l ≤ m) : nI m + -nI l = nI (m - l) := by rw [← Int32.sub_eq_add_neg, nI_sub h]
theorem ltC.add {S : Nat → Nat → Int32} {n : Nat} {sp : Nat → Nat} {lo b mv rv : Int32} {q : Nat} (h : ltC S n sp lo) (hn : n < 17) (hq : q < 360) (hm : mv = nI (q / 6)) (hr : rv = nI (q % 6)) : ltC (xu (xu (xu (xu S 69 n mv) 70 n rv) 54 29 (nI (n + 1))) 54 30 (lo + b)) (n + 1) (nu sp n q) (lo + b) := by
  refine ⟨by rw [xu_ne2 (by omega), xu_same], by omega, by omega, fun i hi => ?_, xu_same⟩
  have e69 : xu (xu (xu (xu S 69 n mv) 70 n rv) 54 29 (nI (n + 1))) 54 30 (lo + b) 69 = xu S 69 n mv 69 := by rw [xu_c (by omega), xu_c (by omega), xu_c (by omega)]
  have e70 : xu (xu (xu (xu S 69 n mv) 70 n rv) 54 29 (nI (n + 1))) 54 30 (lo + b) 70 = xu (xu S 69 n mv) 70 n rv 70 := by rw [xu_c (by omega), xu_c (by omega)]
  rw [e69, e70]
  by_cases e : i = n
  · subst e
    rw [xu_same, xu_same]
    exact ⟨by simp only [nu, if_true]; exact hm, by simp only [nu, if_true]; exact hr, by simp only [nu, if_true]; exact hq⟩
  · obtain ⟨a1, a2, a3⟩ := h.2.2.2.1 i (by omega)
    rw [xu_ne2 e, xu_ne2 e, xu_ne1 (by omega)]
    simp only [nu, if_neg e]
    exact ⟨a1, a2, a3⟩
theorem frL.add {S : Nat → Nat → Int32} {n k : Nat} {mv rv a b : Int32} : frL S (xu (xu (xu (xu S 69 n mv) 70 k rv) 54 29 a) 54 30 b) := ⟨fun j h1 h2 h3 => by rw [xu_c h1, xu_c h1, xu_c h3, xu_c h2], fun f h1 h2 => by rw [xu_ne2 h2, xu_ne2 h1, xu_ne1 (by omega), xu_ne1 (by omega)]⟩

set_option maxRecDepth 100000 in
set_option maxHeartbeats 400000 in
theorem c_X10_beginLife (d : Nat) (S : Nat → Nat → Int32) (G : Nat → Nat → Int64) (x y : Int32) : xR d mX10_beginLife [.ref 54, .int x, .int y] S G none (xu (xu (xu (xu S 69 0 x) 70 0 y) 54 29 1) 54 30 0) G := by
  refine xC.of okX10_beginLife (Nat.le_of_ble_eq_true rfl) (L := [_, _, _]) rfl ?_
  refine xA.aload_n (i := 0) rfl rfl rfl rfl ?_
  refine xA.getR rfl f10_52 rfl rfl rfl rfl ?_
  refine xA.iconst (v := 0) rfl (by decide) rfl ?_
  refine xA.iload_n (i := 1) rfl rfl rfl rfl ?_
  refine xA.iast rfl rfl (vp_in_nI (n := 0) (by omega) (by omega)) rfl ?_
  refine xA.aload_n (i := 0) rfl rfl rfl rfl ?_
  refine xA.getR rfl f10_55 rfl rfl rfl rfl ?_
  refine xA.iconst (v := 0) rfl (by decide) rfl ?_
  refine xA.iload_n (i := 2) rfl rfl rfl rfl ?_
  refine xA.iast rfl rfl (vp_in_nI (n := 0) (by omega) (by omega)) rfl ?_
  refine xA.aload_n (i := 0) rfl rfl rfl rfl ?_
  refine xA.iconst (v := 1) rfl (by decide) rfl ?_
  refine xA.putI rfl p10_181 rfl rfl rfl ?_
  refine xA.aload_n (i := 0) rfl rfl rfl rfl ?_
  refine xA.iconst (v := 0) rfl (by decide) rfl ?_
  refine xA.putI rfl p10_184 rfl rfl rfl ?_
  exact xA.vret rfl rfl ⟨rfl, rfl⟩
theorem ltC_begin {S : Nat → Nat → Int32} {m r : Nat} (hm : m < 60) (hr : r < 6) : ltC (xu (xu (xu (xu S 69 0 (nI m)) 70 0 (nI r)) 54 29 1) 54 30 0) 1 (fun _ => m * 6 + r) 0 := by
  refine ⟨by rw [xu_ne2 (by omega), xu_same]; rfl, by omega, by omega, fun i hi => ?_, xu_same⟩
  have : i = 0 := by omega
  subst this
  have e69 : xu (xu (xu (xu S 69 0 (nI m)) 70 0 (nI r)) 54 29 1) 54 30 0 69 = xu S 69 0 (nI m) 69 := by rw [xu_c (by omega), xu_c (by omega), xu_c (by omega)]
  have e70 : xu (xu (xu (xu S 69 0 (nI m)) 70 0 (nI r)) 54 29 1) 54 30 0 70 = xu (xu S 69 0 (nI m)) 70 0 (nI r) 70 := by rw [xu_c (by omega), xu_c (by omega)]
  rw [e69, e70, xu_same, xu_same]
  exact ⟨congrArg nI (show m = (m * 6 + r) / 6 by omega), congrArg nI (show r = (m * 6 + r) % 6 by omega), show m * 6 + r < 360 by omega⟩

set_option maxRecDepth 100000 in
set_option maxHeartbeats 2000000 in
theorem c_X10_step (d : Nat) (S : Nat → Nat → Int32) (G : Nat → Nat → Int64) (s : sS) (hc : MS S s) (hr0 : ¬ sHr s = 0) (h : hS) (hh : h = sH s) (kd : Nat) (hk : kd < 5) (a : Nat) (ha : a < 8) (n : Nat) (sp : Nat → Nat) (lo : Int32) (hl : ltC S n sp lo) (hn : n < 17) : xC (d + 1) mX10_step [.ref 54, .int (nI kd), .int (nI a)] (σF, S, G) 0 0 (fun r h' => ∃ S', h' = (σF, S', G) ∧ ((NX h (lpN h kd) (sp (n - 1)) a = none ∧ r = some (.int 0) ∧ S' = S) ∨ (∃ q, NX h (lpN h kd) (sp (n - 1)) a = some q ∧ r = some (.int 1) ∧ ltC S' (n + 1) (nu sp n q) (lo + (if a = 7 then 1 else 0)) ∧ frL S S'))) := by
  subst hh
  obtain ⟨hpg, hho, hpp, htk, hgl, hsd, him, hno⟩ := hc
  obtain ⟨hok, _, hdr, _, hlo, hba, hdo, hsi, hon⟩ := hho.2.2.2 (by omega)
  have hb9 := hok.1.2.2.2.2.2.2.1 hok.2
  have hlo6 := hok.1.2.2.2.2.2.1 (by have := hok.2; omega)
  have hlp : lpN (sH s) kd ≤ 10 := by unfold lpN; split <;> omega
  have hn1 := hl.2.1
  have hat := hl.2.2.2.1 (n - 1) (by omega)
  have hat3 := hat.2.2
  obtain ⟨x, hx, ex, ebx⟩ := hdo (sp (n - 1) % 6) (Nat.mod_lt _ (by decide))
  refine xC.of okX10_step (Nat.le_of_ble_eq_true rfl) (L := [_, _, _, _, _, _]) rfl ?_
  by_cases h7 : a = 7
  · subst h7
    refine xA.aload_n (i := 0) rfl rfl rfl rfl ?_
    by_cases hle : lpN (sH s) kd ≤ sp (n - 1) / 6
    · skip
      refine xA.getR rfl f10_55 rfl rfl rfl rfl ?_
      refine xA.aload_n (i := 0) rfl rfl rfl rfl ?_
      refine xA.getI rfl f10_181 rfl rfl rfl ?_
      refine xA.topi (hl.1) ?_
      refine xA.iconst (v := 1) rfl (by decide) rfl ?_
      refine xA.isub rfl rfl ?_
      refine xA.topi ((show nI n - 1 = nI (n - 1) from nI_sub (a := n) (b := 1) (by omega))) ?_
      refine xA.iald rfl rfl (vp_in_nI (by omega) (by omega)) rfl ?_
      refine xA.topi ((show S 70 (nI (n - 1)).toNatClampNeg = nI (sp (n - 1) % 6) from by rw [nI_clamp (by omega)]; exact hat.2.1)) ?_
      refine xA.istore_n (i := 3) (L' := [_, _, _, _, _, _]) rfl rfl (Nat.le_of_ble_eq_true rfl) rfl rfl ?_
      refine xA.aload_n (i := 0) rfl rfl rfl rfl ?_
      refine xA.getR rfl f10_52 rfl rfl rfl rfl ?_
      refine xA.aload_n (i := 0) rfl rfl rfl rfl ?_
      refine xA.getI rfl f10_181 rfl rfl rfl ?_
      refine xA.topi (hl.1) ?_
      refine xA.iconst (v := 1) rfl (by decide) rfl ?_
      refine xA.isub rfl rfl ?_
      refine xA.topi ((show nI n - 1 = nI (n - 1) from nI_sub (a := n) (b := 1) (by omega))) ?_
      refine xA.iald rfl rfl (vp_in_nI (by omega) (by omega)) rfl ?_
      refine xA.topi ((show S 69 (nI (n - 1)).toNatClampNeg = nI (sp (n - 1) / 6) from by rw [nI_clamp (by omega)]; exact hat.1)) ?_
      refine xA.iload_n (i := 2) rfl rfl rfl rfl ?_
      refine xA.bipush (v := 7) rfl (by decide) rfl ?_
      refine xA.icmp_ne (tgt := 38) rfl rfl rfl (fun h26 => ?_) (fun h26 => ?_)
      · exact absurd rfl h26
      · refine xA.aload_n (i := 0) rfl rfl rfl rfl ?_
        refine xA.iload_n (i := 1) rfl rfl rfl rfl ?_
        refine xA.callVi (As := [_]) rfl k10_187 okX10_backOf rfl rfl rfl rfl (Nat.le_of_ble_eq_true rfl) (c_X10_backOf _ _ G (nI kd)) rfl rfl ?_
        refine xA.topi (show _ = nI (lpN (sH s) kd) from by rw [hba]; unfold lpN; simp only [show (nI kd = 2 ↔ kd = 2) from nI_eq (b := 2) (by omega) (by omega), nI_1]; split <;> rfl) ?_
        refine xA.ineg rfl rfl ?_
        refine xA.goto (q := 39) rfl rfl ?_
        refine xA.iadd rfl rfl ?_
        refine xA.topi (pos_lp hle) ?_
        refine xA.istore (L' := [_, _, _, _, _, _]) rfl (Nat.le_of_ble_eq_true rfl) rfl rfl ?_
        refine xA.iload_n (i := 2) rfl rfl rfl rfl ?_
        refine xA.bipush (v := 6) rfl (by decide) rfl ?_
        refine xA.icmp_eq (tgt := 82) rfl rfl rfl (fun h45 => ?_) (fun h45 => ?_)
        · exact absurd h45 (by decide)
        · refine xA.iload_n (i := 2) rfl rfl rfl rfl ?_
          refine xA.bipush (v := 7) rfl (by decide) rfl ?_
          refine xA.icmp_ne (tgt := 62) rfl rfl rfl (fun h51 => ?_) (fun h51 => ?_)
          · exact absurd rfl h51
          · refine xA.iload_n (i := 3) rfl rfl rfl rfl ?_
            refine xA.aload_n (i := 0) rfl rfl rfl rfl ?_
            refine xA.getI rfl f10_86 rfl rfl rfl ?_
            refine xA.topi (hlo) ?_
            refine xA.icmp_eq (tgt := 82) rfl rfl rfl (fun h59 => ?_) (fun h59 => ?_)
            · have e59 : (sp (n - 1) % 6) = hLo (sH s) := (nI_eq (by omega) (by omega)).mp h59
              refine xA.iconst (v := 1) rfl (by decide) rfl ?_
              refine xA.goto (q := 87) rfl rfl ?_
              refine xA.istore (L' := [_, _, _, _, _, _]) rfl (Nat.le_of_ble_eq_true rfl) rfl rfl ?_
              refine xA.iload rfl rfl rfl ?_
              refine xA.if_eq (tgt := 107) rfl rfl rfl (fun h91 => ?_) (fun h91 => ?_)
              · exact absurd h91 (by decide)
              · refine xA.iload rfl rfl rfl ?_
                refine xA.i2l rfl rfl ?_
                refine xA.lconst (v := 0) rfl (by decide) rfl ?_
                refine xA.ldc2 (v := 59) rfl w1064 rfl ?_
                refine xA.callSi (As := [_, _, _]) rfl k10_96 okX10_in rfl rfl (Nat.le_of_ble_eq_true rfl) (c_X10_in _ _ G (nI ((sp (n - 1) / 6) - lpN (sH s) kd)) 0 59) rfl rfl ?_
                refine xA.topi (xb_iff (in_rg (n := 59) (by omega))) ?_
                refine xA.if_ne (tgt := 109) rfl rfl rfl (fun h104 => ?_) (fun h104 => ?_)
                · rw [xb_ne0] at h104
                  refine xA.aload_n (i := 0) rfl rfl rfl rfl ?_
                  refine xA.getR rfl f10_52 rfl rfl rfl rfl ?_
                  refine xA.aload_n (i := 0) rfl rfl rfl rfl ?_
                  refine xA.getI rfl f10_181 rfl rfl rfl ?_
                  refine xA.topi (hl.1) ?_
                  refine xA.iload rfl rfl rfl ?_
                  refine xA.iast rfl rfl (vp_in_nI (by omega) (by omega)) rfl ?_
                  rw [nI_clamp (by omega)]
                  refine xA.aload_n (i := 0) rfl rfl rfl rfl ?_
                  refine xA.getR rfl f10_55 rfl rfl rfl rfl ?_
                  refine xA.aload_n (i := 0) rfl rfl rfl rfl ?_
                  refine xA.getI rfl f10_181 rfl rfl rfl ?_
                  refine xA.topi (((xu_ne1 (by omega)).trans hl.1)) ?_
                  refine xA.iload_n (i := 2) rfl rfl rfl rfl ?_
                  refine xA.bipush (v := 6) rfl (by decide) rfl ?_
                  refine xA.icmp_ge (tgt := 138) rfl rfl rfl (fun h131 => ?_) (fun h131 => ?_)
                  · refine xA.iload_n (i := 3) rfl rfl rfl rfl ?_
                    refine xA.iast rfl rfl (vp_in_nI (by omega) (by omega)) rfl ?_
                    rw [nI_clamp (by omega)]
                    refine xA.aload_n (i := 0) rfl rfl rfl rfl ?_
                    refine xA.dup rfl rfl rfl ?_
                    refine xA.getI rfl f10_181 rfl rfl rfl ?_
                    refine xA.topi (((xu_ne1 (by omega)).trans ((xu_ne1 (by omega)).trans hl.1))) ?_
                    refine xA.iconst (v := 1) rfl (by decide) rfl ?_
                    refine xA.iadd rfl rfl ?_
                    refine xA.topi (nI_1 _) ?_
                    refine xA.putI rfl p10_181 rfl rfl rfl ?_
                    refine xA.aload_n (i := 0) rfl rfl rfl rfl ?_
                    refine xA.dup rfl rfl rfl ?_
                    refine xA.getI rfl f10_184 rfl rfl rfl ?_
                    refine xA.topi (((xu_ne2 (by omega)).trans ((xu_ne1 (by omega)).trans ((xu_ne1 (by omega)).trans hl.2.2.2.2)))) ?_
                    refine xA.iload_n (i := 2) rfl rfl rfl rfl ?_
                    refine xA.bipush (v := 7) rfl (by decide) rfl ?_
                    refine xA.icmp_ne (tgt := 165) rfl rfl rfl (fun h158 => ?_) (fun h158 => ?_)
                    · exact absurd rfl h158
                    · refine xA.iconst (v := 1) rfl (by decide) rfl ?_
                      refine xA.goto (q := 166) rfl rfl ?_
                      refine xA.iadd rfl rfl ?_
                      refine xA.putI rfl p10_184 rfl rfl rfl ?_
                      refine xA.iconst (v := 1) rfl (by decide) rfl ?_
                      have hmq : (((sp (n - 1) / 6) - lpN (sH s) kd) * 6 + (sp (n - 1) % 6)) < 360 := by
                        omega
                      have hnx : NX (sH s) (lpN (sH s) kd) (sp (n - 1)) 7 = some ((((sp (n - 1) / 6) - lpN (sH s) kd) * 6 + (sp (n - 1) % 6))) := by
                        unfold NX nxH; rw [if_pos rfl, if_pos ⟨e59, hle⟩]
                      exact xA.iret rfl rfl rfl ⟨_, rfl, Or.inr ⟨(((sp (n - 1) / 6) - lpN (sH s) kd) * 6 + (sp (n - 1) % 6)), hnx, rfl, hl.add (by omega) hmq (by exact congrArg nI (by omega)) (by exact congrArg nI (by omega)), frL.add⟩⟩
                  · exact absurd (by decide) h131
                · rw [xb_eq0] at h104
                  refine xA.iconst (v := 0) rfl (by decide) rfl ?_
                  have hnn : NX (sH s) (lpN (sH s) kd) (sp (n - 1)) 7 = none := by
                    exact absurd (rg_of (show (sp (n - 1) / 6) - lpN (sH s) kd < 60 by omega) (by omega)) h104
                  exact xA.iret rfl rfl rfl ⟨S, rfl, Or.inl ⟨hnn, rfl, rfl⟩⟩
            · have e59 : ¬ (sp (n - 1) % 6) = hLo (sH s) := fun z => h59 (by rw [z])
              refine xA.iload_n (i := 2) rfl rfl rfl rfl ?_
              refine xA.bipush (v := 6) rfl (by decide) rfl ?_
              refine xA.icmp_ge (tgt := 86) rfl rfl rfl (fun h65 => ?_) (fun h65 => ?_)
              · refine xA.iconst (v := 0) rfl (by decide) rfl ?_
                refine xA.istore (L' := [_, _, _, _, _, _]) rfl (Nat.le_of_ble_eq_true rfl) rfl rfl ?_
                refine xA.iload rfl rfl rfl ?_
                refine xA.if_eq (tgt := 107) rfl rfl rfl (fun h91 => ?_) (fun h91 => ?_)
                · refine xA.iconst (v := 0) rfl (by decide) rfl ?_
                  have hnn : NX (sH s) (lpN (sH s) kd) (sp (n - 1)) 7 = none := by
                    unfold NX nxH; rw [if_pos rfl, if_neg (fun z => e59 z.1)]
                  exact xA.iret rfl rfl rfl ⟨S, rfl, Or.inl ⟨hnn, rfl, rfl⟩⟩
                · exact absurd rfl h91
              · exact absurd (by decide) h65
    · skip
      refine xA.getR rfl f10_55 rfl rfl rfl rfl ?_
      refine xA.aload_n (i := 0) rfl rfl rfl rfl ?_
      refine xA.getI rfl f10_181 rfl rfl rfl ?_
      refine xA.topi (hl.1) ?_
      refine xA.iconst (v := 1) rfl (by decide) rfl ?_
      refine xA.isub rfl rfl ?_
      refine xA.topi ((show nI n - 1 = nI (n - 1) from nI_sub (a := n) (b := 1) (by omega))) ?_
      refine xA.iald rfl rfl (vp_in_nI (by omega) (by omega)) rfl ?_
      refine xA.topi ((show S 70 (nI (n - 1)).toNatClampNeg = nI (sp (n - 1) % 6) from by rw [nI_clamp (by omega)]; exact hat.2.1)) ?_
      refine xA.istore_n (i := 3) (L' := [_, _, _, _, _, _]) rfl rfl (Nat.le_of_ble_eq_true rfl) rfl rfl ?_
      refine xA.aload_n (i := 0) rfl rfl rfl rfl ?_
      refine xA.getR rfl f10_52 rfl rfl rfl rfl ?_
      refine xA.aload_n (i := 0) rfl rfl rfl rfl ?_
      refine xA.getI rfl f10_181 rfl rfl rfl ?_
      refine xA.topi (hl.1) ?_
      refine xA.iconst (v := 1) rfl (by decide) rfl ?_
      refine xA.isub rfl rfl ?_
      refine xA.topi ((show nI n - 1 = nI (n - 1) from nI_sub (a := n) (b := 1) (by omega))) ?_
      refine xA.iald rfl rfl (vp_in_nI (by omega) (by omega)) rfl ?_
      refine xA.topi ((show S 69 (nI (n - 1)).toNatClampNeg = nI (sp (n - 1) / 6) from by rw [nI_clamp (by omega)]; exact hat.1)) ?_
      refine xA.iload_n (i := 2) rfl rfl rfl rfl ?_
      refine xA.bipush (v := 7) rfl (by decide) rfl ?_
      refine xA.icmp_ne (tgt := 38) rfl rfl rfl (fun h26 => ?_) (fun h26 => ?_)
      · exact absurd rfl h26
      · refine xA.aload_n (i := 0) rfl rfl rfl rfl ?_
        refine xA.iload_n (i := 1) rfl rfl rfl rfl ?_
        refine xA.callVi (As := [_]) rfl k10_187 okX10_backOf rfl rfl rfl rfl (Nat.le_of_ble_eq_true rfl) (c_X10_backOf _ _ G (nI kd)) rfl rfl ?_
        refine xA.topi (show _ = nI (lpN (sH s) kd) from by rw [hba]; unfold lpN; simp only [show (nI kd = 2 ↔ kd = 2) from nI_eq (b := 2) (by omega) (by omega), nI_1]; split <;> rfl) ?_
        refine xA.ineg rfl rfl ?_
        refine xA.goto (q := 39) rfl rfl ?_
        refine xA.iadd rfl rfl ?_
        refine xA.istore (L' := [_, _, _, _, _, _]) rfl (Nat.le_of_ble_eq_true rfl) rfl rfl ?_
        refine xA.iload_n (i := 2) rfl rfl rfl rfl ?_
        refine xA.bipush (v := 6) rfl (by decide) rfl ?_
        refine xA.icmp_eq (tgt := 82) rfl rfl rfl (fun h45 => ?_) (fun h45 => ?_)
        · exact absurd h45 (by decide)
        · refine xA.iload_n (i := 2) rfl rfl rfl rfl ?_
          refine xA.bipush (v := 7) rfl (by decide) rfl ?_
          refine xA.icmp_ne (tgt := 62) rfl rfl rfl (fun h51 => ?_) (fun h51 => ?_)
          · exact absurd rfl h51
          · refine xA.iload_n (i := 3) rfl rfl rfl rfl ?_
            refine xA.aload_n (i := 0) rfl rfl rfl rfl ?_
            refine xA.getI rfl f10_86 rfl rfl rfl ?_
            refine xA.topi (hlo) ?_
            refine xA.icmp_eq (tgt := 82) rfl rfl rfl (fun h59 => ?_) (fun h59 => ?_)
            · refine xA.iconst (v := 1) rfl (by decide) rfl ?_
              refine xA.goto (q := 87) rfl rfl ?_
              refine xA.istore (L' := [_, _, _, _, _, _]) rfl (Nat.le_of_ble_eq_true rfl) rfl rfl ?_
              refine xA.iload rfl rfl rfl ?_
              refine xA.if_eq (tgt := 107) rfl rfl rfl (fun h91 => ?_) (fun h91 => ?_)
              · exact absurd h91 (by decide)
              · refine xA.iload rfl rfl rfl ?_
                refine xA.i2l rfl rfl ?_
                refine xA.lconst (v := 0) rfl (by decide) rfl ?_
                refine xA.ldc2 (v := 59) rfl w1064 rfl ?_
                refine xA.callSi (As := [_, _, _]) rfl k10_96 okX10_in rfl rfl (Nat.le_of_ble_eq_true rfl) (c_X10_in _ _ G (nI (sp (n - 1) / 6) + -nI (lpN (sH s) kd)) 0 59) rfl rfl ?_
                refine xA.if_ne (tgt := 109) rfl rfl rfl (fun h104 => ?_) (fun h104 => ?_)
                · rw [xb_ne0] at h104
                  exact absurd h104.1 (neg_lp _ (by omega) _ (by omega) (by omega))
                · refine xA.iconst (v := 0) rfl (by decide) rfl ?_
                  exact xA.iret rfl rfl rfl ⟨S, rfl, Or.inl ⟨by unfold NX nxH; rw [if_pos rfl, if_neg (fun z => hle z.2)], rfl, rfl⟩⟩
            · refine xA.iload_n (i := 2) rfl rfl rfl rfl ?_
              refine xA.bipush (v := 6) rfl (by decide) rfl ?_
              refine xA.icmp_ge (tgt := 86) rfl rfl rfl (fun h65 => ?_) (fun h65 => ?_)
              · refine xA.iconst (v := 0) rfl (by decide) rfl ?_
                refine xA.istore (L' := [_, _, _, _, _, _]) rfl (Nat.le_of_ble_eq_true rfl) rfl rfl ?_
                refine xA.iload rfl rfl rfl ?_
                refine xA.if_eq (tgt := 107) rfl rfl rfl (fun h91 => ?_) (fun h91 => ?_)
                · refine xA.iconst (v := 0) rfl (by decide) rfl ?_
                  have hnn : NX (sH s) (lpN (sH s) kd) (sp (n - 1)) 7 = none := by
                    unfold NX nxH; rw [if_pos rfl, if_neg (fun z => hle z.2)]
                  exact xA.iret rfl rfl rfl ⟨S, rfl, Or.inl ⟨hnn, rfl, rfl⟩⟩
                · exact absurd rfl h91
              · exact absurd (by decide) h65
  · skip
    refine xA.aload_n (i := 0) rfl rfl rfl rfl ?_
    by_cases h6 : a = 6
    · subst h6
      refine xA.getR rfl f10_55 rfl rfl rfl rfl ?_
      refine xA.aload_n (i := 0) rfl rfl rfl rfl ?_
      refine xA.getI rfl f10_181 rfl rfl rfl ?_
      refine xA.topi (hl.1) ?_
      refine xA.iconst (v := 1) rfl (by decide) rfl ?_
      refine xA.isub rfl rfl ?_
      refine xA.topi ((show nI n - 1 = nI (n - 1) from nI_sub (a := n) (b := 1) (by omega))) ?_
      refine xA.iald rfl rfl (vp_in_nI (by omega) (by omega)) rfl ?_
      refine xA.topi ((show S 70 (nI (n - 1)).toNatClampNeg = nI (sp (n - 1) % 6) from by rw [nI_clamp (by omega)]; exact hat.2.1)) ?_
      refine xA.istore_n (i := 3) (L' := [_, _, _, _, _, _]) rfl rfl (Nat.le_of_ble_eq_true rfl) rfl rfl ?_
      refine xA.aload_n (i := 0) rfl rfl rfl rfl ?_
      refine xA.getR rfl f10_52 rfl rfl rfl rfl ?_
      refine xA.aload_n (i := 0) rfl rfl rfl rfl ?_
      refine xA.getI rfl f10_181 rfl rfl rfl ?_
      refine xA.topi (hl.1) ?_
      refine xA.iconst (v := 1) rfl (by decide) rfl ?_
      refine xA.isub rfl rfl ?_
      refine xA.topi ((show nI n - 1 = nI (n - 1) from nI_sub (a := n) (b := 1) (by omega))) ?_
      refine xA.iald rfl rfl (vp_in_nI (by omega) (by omega)) rfl ?_
      refine xA.topi ((show S 69 (nI (n - 1)).toNatClampNeg = nI (sp (n - 1) / 6) from by rw [nI_clamp (by omega)]; exact hat.1)) ?_
      refine xA.iload_n (i := 2) rfl rfl rfl rfl ?_
      refine xA.bipush (v := 7) rfl (by decide) rfl ?_
      refine xA.icmp_ne (tgt := 38) rfl rfl rfl (fun h26 => ?_) (fun h26 => ?_)
      · refine xA.iconst (v := 1) rfl (by decide) rfl ?_
        refine xA.iadd rfl rfl ?_
        refine xA.topi (nI_1 _) ?_
        refine xA.istore (L' := [_, _, _, _, _, _]) rfl (Nat.le_of_ble_eq_true rfl) rfl rfl ?_
        refine xA.iload_n (i := 2) rfl rfl rfl rfl ?_
        refine xA.bipush (v := 6) rfl (by decide) rfl ?_
        refine xA.icmp_eq (tgt := 82) rfl rfl rfl (fun h45 => ?_) (fun h45 => ?_)
        · refine xA.iconst (v := 1) rfl (by decide) rfl ?_
          refine xA.goto (q := 87) rfl rfl ?_
          refine xA.istore (L' := [_, _, _, _, _, _]) rfl (Nat.le_of_ble_eq_true rfl) rfl rfl ?_
          refine xA.iload rfl rfl rfl ?_
          refine xA.if_eq (tgt := 107) rfl rfl rfl (fun h91 => ?_) (fun h91 => ?_)
          · exact absurd h91 (by decide)
          · refine xA.iload rfl rfl rfl ?_
            refine xA.i2l rfl rfl ?_
            refine xA.lconst (v := 0) rfl (by decide) rfl ?_
            refine xA.ldc2 (v := 59) rfl w1064 rfl ?_
            refine xA.callSi (As := [_, _, _]) rfl k10_96 okX10_in rfl rfl (Nat.le_of_ble_eq_true rfl) (c_X10_in _ _ G (nI ((sp (n - 1) / 6) + 1)) 0 59) rfl rfl ?_
            refine xA.topi (xb_iff (in_rg (n := 59) (by omega))) ?_
            refine xA.if_ne (tgt := 109) rfl rfl rfl (fun h104 => ?_) (fun h104 => ?_)
            · rw [xb_ne0] at h104
              refine xA.aload_n (i := 0) rfl rfl rfl rfl ?_
              refine xA.getR rfl f10_52 rfl rfl rfl rfl ?_
              refine xA.aload_n (i := 0) rfl rfl rfl rfl ?_
              refine xA.getI rfl f10_181 rfl rfl rfl ?_
              refine xA.topi (hl.1) ?_
              refine xA.iload rfl rfl rfl ?_
              refine xA.iast rfl rfl (vp_in_nI (by omega) (by omega)) rfl ?_
              rw [nI_clamp (by omega)]
              refine xA.aload_n (i := 0) rfl rfl rfl rfl ?_
              refine xA.getR rfl f10_55 rfl rfl rfl rfl ?_
              refine xA.aload_n (i := 0) rfl rfl rfl rfl ?_
              refine xA.getI rfl f10_181 rfl rfl rfl ?_
              refine xA.topi (((xu_ne1 (by omega)).trans hl.1)) ?_
              refine xA.iload_n (i := 2) rfl rfl rfl rfl ?_
              refine xA.bipush (v := 6) rfl (by decide) rfl ?_
              refine xA.icmp_ge (tgt := 138) rfl rfl rfl (fun h131 => ?_) (fun h131 => ?_)
              · refine xA.iload_n (i := 3) rfl rfl rfl rfl ?_
                refine xA.iast rfl rfl (vp_in_nI (by omega) (by omega)) rfl ?_
                rw [nI_clamp (by omega)]
                refine xA.aload_n (i := 0) rfl rfl rfl rfl ?_
                refine xA.dup rfl rfl rfl ?_
                refine xA.getI rfl f10_181 rfl rfl rfl ?_
                refine xA.topi (((xu_ne1 (by omega)).trans ((xu_ne1 (by omega)).trans hl.1))) ?_
                refine xA.iconst (v := 1) rfl (by decide) rfl ?_
                refine xA.iadd rfl rfl ?_
                refine xA.topi (nI_1 _) ?_
                refine xA.putI rfl p10_181 rfl rfl rfl ?_
                refine xA.aload_n (i := 0) rfl rfl rfl rfl ?_
                refine xA.dup rfl rfl rfl ?_
                refine xA.getI rfl f10_184 rfl rfl rfl ?_
                refine xA.topi (((xu_ne2 (by omega)).trans ((xu_ne1 (by omega)).trans ((xu_ne1 (by omega)).trans hl.2.2.2.2)))) ?_
                refine xA.iload_n (i := 2) rfl rfl rfl rfl ?_
                refine xA.bipush (v := 7) rfl (by decide) rfl ?_
                refine xA.icmp_ne (tgt := 165) rfl rfl rfl (fun h158 => ?_) (fun h158 => ?_)
                · refine xA.iconst (v := 0) rfl (by decide) rfl ?_
                  refine xA.iadd rfl rfl ?_
                  refine xA.putI rfl p10_184 rfl rfl rfl ?_
                  refine xA.iconst (v := 1) rfl (by decide) rfl ?_
                  have hmq : (((sp (n - 1) / 6) + 1) * 6 + (sp (n - 1) % 6)) < 360 := by
                    have w : (sp (n - 1) / 6) + 1 < 60 := by have := h104.2; rw [nI_toInt (by omega)] at this; omega
                    omega
                  have hnx : NX (sH s) (lpN (sH s) kd) (sp (n - 1)) 6 = some ((((sp (n - 1) / 6) + 1) * 6 + (sp (n - 1) % 6))) := by
                    have w : (sp (n - 1) / 6) + 1 < 60 := by have := h104.2; rw [nI_toInt (by omega)] at this; omega
                    unfold NX nxH; rw [if_neg (by omega), if_neg (by omega), if_pos rfl]
                  exact xA.iret rfl rfl rfl ⟨_, rfl, Or.inr ⟨(((sp (n - 1) / 6) + 1) * 6 + (sp (n - 1) % 6)), hnx, rfl, hl.add (by omega) hmq (by exact congrArg nI (by omega)) (by exact congrArg nI (by omega)), frL.add⟩⟩
                · exact absurd h158 (by decide)
              · exact absurd (by decide) h131
            · rw [xb_eq0] at h104
              refine xA.iconst (v := 0) rfl (by decide) rfl ?_
              have hnn : NX (sH s) (lpN (sH s) kd) (sp (n - 1)) 6 = none := by
                have w : 60 ≤ (sp (n - 1) / 6) + 1 := by
                  rcases Nat.lt_or_ge ((sp (n - 1) / 6) + 1) 60 with z | z
                  · exact absurd (rg_of z (by omega)) h104
                  · exact z
                unfold NX nxH; rw [if_neg (by omega), if_pos w]
              exact xA.iret rfl rfl rfl ⟨S, rfl, Or.inl ⟨hnn, rfl, rfl⟩⟩
        · exact absurd rfl h45
      · exact absurd h26 (by decide)
    · have hs6 : a < 6 := by omega
      refine xA.getR rfl f10_55 rfl rfl rfl rfl ?_
      refine xA.aload_n (i := 0) rfl rfl rfl rfl ?_
      refine xA.getI rfl f10_181 rfl rfl rfl ?_
      refine xA.topi (hl.1) ?_
      refine xA.iconst (v := 1) rfl (by decide) rfl ?_
      refine xA.isub rfl rfl ?_
      refine xA.topi ((show nI n - 1 = nI (n - 1) from nI_sub (a := n) (b := 1) (by omega))) ?_
      refine xA.iald rfl rfl (vp_in_nI (by omega) (by omega)) rfl ?_
      refine xA.topi ((show S 70 (nI (n - 1)).toNatClampNeg = nI (sp (n - 1) % 6) from by rw [nI_clamp (by omega)]; exact hat.2.1)) ?_
      refine xA.istore_n (i := 3) (L' := [_, _, _, _, _, _]) rfl rfl (Nat.le_of_ble_eq_true rfl) rfl rfl ?_
      refine xA.aload_n (i := 0) rfl rfl rfl rfl ?_
      refine xA.getR rfl f10_52 rfl rfl rfl rfl ?_
      refine xA.aload_n (i := 0) rfl rfl rfl rfl ?_
      refine xA.getI rfl f10_181 rfl rfl rfl ?_
      refine xA.topi (hl.1) ?_
      refine xA.iconst (v := 1) rfl (by decide) rfl ?_
      refine xA.isub rfl rfl ?_
      refine xA.topi ((show nI n - 1 = nI (n - 1) from nI_sub (a := n) (b := 1) (by omega))) ?_
      refine xA.iald rfl rfl (vp_in_nI (by omega) (by omega)) rfl ?_
      refine xA.topi ((show S 69 (nI (n - 1)).toNatClampNeg = nI (sp (n - 1) / 6) from by rw [nI_clamp (by omega)]; exact hat.1)) ?_
      refine xA.iload_n (i := 2) rfl rfl rfl rfl ?_
      refine xA.bipush (v := 7) rfl (by decide) rfl ?_
      refine xA.icmp_ne (tgt := 38) rfl rfl rfl (fun h26 => ?_) (fun h26 => ?_)
      · refine xA.iconst (v := 1) rfl (by decide) rfl ?_
        refine xA.iadd rfl rfl ?_
        refine xA.topi (nI_1 _) ?_
        refine xA.istore (L' := [_, _, _, _, _, _]) rfl (Nat.le_of_ble_eq_true rfl) rfl rfl ?_
        refine xA.iload_n (i := 2) rfl rfl rfl rfl ?_
        refine xA.bipush (v := 6) rfl (by decide) rfl ?_
        refine xA.icmp_eq (tgt := 82) rfl rfl rfl (fun h45 => ?_) (fun h45 => ?_)
        · exact absurd ((nI_eq (b := 6) (by omega) (by omega)).mp h45) (by omega)
        · refine xA.iload_n (i := 2) rfl rfl rfl rfl ?_
          refine xA.bipush (v := 7) rfl (by decide) rfl ?_
          refine xA.icmp_ne (tgt := 62) rfl rfl rfl (fun h51 => ?_) (fun h51 => ?_)
          · refine xA.iload_n (i := 2) rfl rfl rfl rfl ?_
            refine xA.bipush (v := 6) rfl (by decide) rfl ?_
            refine xA.icmp_ge (tgt := 86) rfl rfl rfl (fun h65 => ?_) (fun h65 => ?_)
            · exact absurd h65 (nI_ge (b := 6) (by omega) (by omega))
            · refine xA.aload_n (i := 0) rfl rfl rfl rfl ?_
              refine xA.getR rfl f10_25 rfl rfl rfl rfl ?_
              refine xA.iload_n (i := 3) rfl rfl rfl rfl ?_
              refine xA.iald rfl rfl (vp_in_nI (by omega) (by decide)) rfl ?_
              refine xA.topi ((show S 60 (nI (sp (n - 1) % 6)).toNatClampNeg = nI x from by rw [nI_clamp (by omega)]; exact ex)) ?_
              refine xA.iload_n (i := 2) rfl rfl rfl rfl ?_
              refine xA.ishr rfl rfl ?_
              refine xA.iconst (v := 1) rfl (by decide) rfl ?_
              refine xA.iand rfl rfl ?_
              refine xA.topi (bit1 x hx a hs6) ?_
              refine xA.iconst (v := 1) rfl (by decide) rfl ?_
              refine xA.icmp_ne (tgt := 86) rfl rfl rfl (fun h79 => ?_) (fun h79 => ?_)
              · have e79 : hD (sH s) ((sp (n - 1) % 6) * 6 + a) = 0 := by
                  by_cases z : hD (sH s) ((sp (n - 1) % 6) * 6 + a) = 0
                  · exact z
                  · rw [if_pos ((ebx a hs6).mpr z)] at h79; exact absurd rfl h79
                refine xA.iconst (v := 0) rfl (by decide) rfl ?_
                refine xA.istore (L' := [_, _, _, _, _, _]) rfl (Nat.le_of_ble_eq_true rfl) rfl rfl ?_
                refine xA.iload rfl rfl rfl ?_
                refine xA.if_eq (tgt := 107) rfl rfl rfl (fun h91 => ?_) (fun h91 => ?_)
                · refine xA.iconst (v := 0) rfl (by decide) rfl ?_
                  have hnn : NX (sH s) (lpN (sH s) kd) (sp (n - 1)) a = none := by
                    unfold NX nxH; rw [if_neg (by omega)]
                    by_cases w : 60 ≤ (sp (n - 1) / 6) + 1
                    · rw [if_pos w]
                    · rw [if_neg w, if_neg (by omega), if_pos e79]
                  exact xA.iret rfl rfl rfl ⟨S, rfl, Or.inl ⟨hnn, rfl, rfl⟩⟩
                · exact absurd rfl h91
              · have e79 : ¬ hD (sH s) ((sp (n - 1) % 6) * 6 + a) = 0 := fun z => by rw [if_neg (fun w => (ebx a hs6).mp w z)] at h79; exact absurd h79 (by decide)
                refine xA.iconst (v := 1) rfl (by decide) rfl ?_
                refine xA.goto (q := 87) rfl rfl ?_
                refine xA.istore (L' := [_, _, _, _, _, _]) rfl (Nat.le_of_ble_eq_true rfl) rfl rfl ?_
                refine xA.iload rfl rfl rfl ?_
                refine xA.if_eq (tgt := 107) rfl rfl rfl (fun h91 => ?_) (fun h91 => ?_)
                · exact absurd h91 (by decide)
                · refine xA.iload rfl rfl rfl ?_
                  refine xA.i2l rfl rfl ?_
                  refine xA.lconst (v := 0) rfl (by decide) rfl ?_
                  refine xA.ldc2 (v := 59) rfl w1064 rfl ?_
                  refine xA.callSi (As := [_, _, _]) rfl k10_96 okX10_in rfl rfl (Nat.le_of_ble_eq_true rfl) (c_X10_in _ _ G (nI ((sp (n - 1) / 6) + 1)) 0 59) rfl rfl ?_
                  refine xA.topi (xb_iff (in_rg (n := 59) (by omega))) ?_
                  refine xA.if_ne (tgt := 109) rfl rfl rfl (fun h104 => ?_) (fun h104 => ?_)
                  · rw [xb_ne0] at h104
                    refine xA.aload_n (i := 0) rfl rfl rfl rfl ?_
                    refine xA.getR rfl f10_52 rfl rfl rfl rfl ?_
                    refine xA.aload_n (i := 0) rfl rfl rfl rfl ?_
                    refine xA.getI rfl f10_181 rfl rfl rfl ?_
                    refine xA.topi (hl.1) ?_
                    refine xA.iload rfl rfl rfl ?_
                    refine xA.iast rfl rfl (vp_in_nI (by omega) (by omega)) rfl ?_
                    rw [nI_clamp (by omega)]
                    refine xA.aload_n (i := 0) rfl rfl rfl rfl ?_
                    refine xA.getR rfl f10_55 rfl rfl rfl rfl ?_
                    refine xA.aload_n (i := 0) rfl rfl rfl rfl ?_
                    refine xA.getI rfl f10_181 rfl rfl rfl ?_
                    refine xA.topi (((xu_ne1 (by omega)).trans hl.1)) ?_
                    refine xA.iload_n (i := 2) rfl rfl rfl rfl ?_
                    refine xA.bipush (v := 6) rfl (by decide) rfl ?_
                    refine xA.icmp_ge (tgt := 138) rfl rfl rfl (fun h131 => ?_) (fun h131 => ?_)
                    · exact absurd h131 (nI_ge (b := 6) (by omega) (by omega))
                    · refine xA.iload_n (i := 2) rfl rfl rfl rfl ?_
                      refine xA.goto (q := 139) rfl rfl ?_
                      refine xA.iast rfl rfl (vp_in_nI (by omega) (by omega)) rfl ?_
                      rw [nI_clamp (by omega)]
                      refine xA.aload_n (i := 0) rfl rfl rfl rfl ?_
                      refine xA.dup rfl rfl rfl ?_
                      refine xA.getI rfl f10_181 rfl rfl rfl ?_
                      refine xA.topi (((xu_ne1 (by omega)).trans ((xu_ne1 (by omega)).trans hl.1))) ?_
                      refine xA.iconst (v := 1) rfl (by decide) rfl ?_
                      refine xA.iadd rfl rfl ?_
                      refine xA.topi (nI_1 _) ?_
                      refine xA.putI rfl p10_181 rfl rfl rfl ?_
                      refine xA.aload_n (i := 0) rfl rfl rfl rfl ?_
                      refine xA.dup rfl rfl rfl ?_
                      refine xA.getI rfl f10_184 rfl rfl rfl ?_
                      refine xA.topi (((xu_ne2 (by omega)).trans ((xu_ne1 (by omega)).trans ((xu_ne1 (by omega)).trans hl.2.2.2.2)))) ?_
                      refine xA.iload_n (i := 2) rfl rfl rfl rfl ?_
                      refine xA.bipush (v := 7) rfl (by decide) rfl ?_
                      refine xA.icmp_ne (tgt := 165) rfl rfl rfl (fun h158 => ?_) (fun h158 => ?_)
                      · refine xA.iconst (v := 0) rfl (by decide) rfl ?_
                        refine xA.iadd rfl rfl ?_
                        refine xA.putI rfl p10_184 rfl rfl rfl ?_
                        refine xA.iconst (v := 1) rfl (by decide) rfl ?_
                        have hmq : (((sp (n - 1) / 6) + 1) * 6 + a) < 360 := by
                          have w : (sp (n - 1) / 6) + 1 < 60 := by have := h104.2; rw [nI_toInt (by omega)] at this; omega
                          omega
                        have hnx : NX (sH s) (lpN (sH s) kd) (sp (n - 1)) a = some ((((sp (n - 1) / 6) + 1) * 6 + a)) := by
                          have w : (sp (n - 1) / 6) + 1 < 60 := by have := h104.2; rw [nI_toInt (by omega)] at this; omega
                          unfold NX nxH; rw [if_neg (by omega), if_neg (by omega), if_neg (by omega), if_neg e79]
                        exact xA.iret rfl rfl rfl ⟨_, rfl, Or.inr ⟨(((sp (n - 1) / 6) + 1) * 6 + a), hnx, rfl, (by rw [show (if a = 7 then (1 : Int32) else 0) = 0 from if_neg (by omega)]; exact hl.add (by omega) hmq (by exact congrArg nI (by omega)) (by exact congrArg nI (by omega))), frL.add⟩⟩
                      · exact absurd ((nI_eq (b := 7) (by omega) (by omega)).mp h158) (by omega)
                  · rw [xb_eq0] at h104
                    refine xA.iconst (v := 0) rfl (by decide) rfl ?_
                    have hnn : NX (sH s) (lpN (sH s) kd) (sp (n - 1)) a = none := by
                      have w : 60 ≤ (sp (n - 1) / 6) + 1 := by
                        rcases Nat.lt_or_ge ((sp (n - 1) / 6) + 1) 60 with z | z
                        · exact absurd (rg_of z (by omega)) h104
                        · exact z
                      unfold NX nxH; rw [if_neg (by omega), if_pos w]
                    exact xA.iret rfl rfl rfl ⟨S, rfl, Or.inl ⟨hnn, rfl, rfl⟩⟩
          · exact absurd ((nI_eq (b := 7) (by omega) (by omega)).mp h51) (by omega)
      · exact absurd ((nI_eq (b := 7) (by omega) (by omega)).mp h26) (by omega)

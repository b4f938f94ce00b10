/-! ===== the reference asks: locked, done, whose, pair ===== -/
set_option maxRecDepth 100000 in
set_option maxHeartbeats 1000000 in
theorem c_X10_goesThrough (d : Nat) (S : Nat → Nat → Int32) (G : Nat → Nat → Int64) (s : sS) (hc : MS S s) (p : Nat) (hp : p < sP s) (j : Nat) (hj : j < hNd (sH s)) : xR d mX10_goesThrough [.ref 54, .int (nI p), .int (nI j)] S G (some (.int (xb (thr (sH s) (sL s p) j = true)))) S G := by
  obtain ⟨hpg, hho, hpp, htk, hgl, hsd, him, hno⟩ := hc
  have hp4 := hpp.2.1
  obtain ⟨hkd, hkd5, hse, hlo, hrw, hg⟩ := hpp.2.2 p hp
  have hn17 := hg.1
  have hrg : rg (nI p) (sP s) := rg_of hp (by omega)
  have hcp : (nI p).toNatClampNeg = p := nI_clamp (by omega)
  have hhr : 0 < sHr s := by
    rcases Nat.eq_zero_or_pos (sHr s) with z | z
    · have := (hno z).1; omega
    · exact z
  obtain ⟨hok, _, hdr, _, _, _, hdo, hsi, hon⟩ := hho.2.2.2 hhr
  have hnd := hok.1.2.1
  have hm6 : ∀ x, x % 6 < 6 := fun x => Nat.mod_lt _ (by decide)
  obtain ⟨ho1, ho2, _⟩ := hok.1.2.2.2.2.2.2.2.2.2.2.2.2.1 j hj
  refine xC.of okX10_goesThrough (Nat.le_of_ble_eq_true rfl) (L := [_, _, _, _, _, _, _]) rfl ?_
  have loop : ∀ i, i ≤ lN' (sL s p) - 1 → ∀ x5 x6 : Option Value, xA none d mX10_goesThrough 0 0 0 0 5 [some (.ref 54), some (.int (nI p)), some (.int (nI j)), some (.int (xb (0 < cn (fun i => decide ((lSp (sL s p) i % 6 = hOn (sH s) j ∧ lSp (sL s p) (i + 1) % 6 = hTw (sH s) j) ∨ (lSp (sL s p) i % 6 = hTw (sH s) j ∧ lSp (sL s p) (i + 1) % 6 = hOn (sH s) j))) i))), some (.int (nI (i + 1))), x5, x6] [] (σF, S, G) (fun r' h' => r' = (some (.int (xb (thr (sH s) (sL s p) j = true)))) ∧ h' = (σF, S, G)) := by
    refine xloop (lN' (sL s p) - 1) (fun i hi ih => ?_) ?_
    · intro x5 x6
      refine xA.iload rfl rfl rfl ?_
      refine xA.aload_n (i := 0) rfl rfl rfl rfl ?_
      refine xA.getR rfl f10_40 rfl rfl rfl rfl ?_
      refine xA.iload_n (i := 1) rfl rfl rfl rfl ?_
      refine xA.iald rfl rfl (vp_in_nI (by omega) (by omega)) rfl ?_
      refine xA.topi ((show S 65 (nI p).toNatClampNeg = nI (lN' (sL s p)) from by rw [hcp]; exact hse)) ?_
      refine xA.icmp_ge (tgt := 106) rfl rfl rfl (fun h13 => ?_) (fun h13 => ?_)
      · exact absurd h13 (nI_ge (by omega) (by omega))
      · refine xA.aload_n (i := 0) rfl rfl rfl rfl ?_
        refine xA.getR rfl f10_49 rfl rfl rfl rfl ?_
        refine xA.bipush (v := 17) rfl (by decide) rfl ?_
        refine xA.iload_n (i := 1) rfl rfl rfl rfl ?_
        refine xA.imul rfl rfl ?_
        refine xA.topi (n17 p) ?_
        refine xA.iload rfl rfl rfl ?_
        refine xA.iadd rfl rfl ?_
        refine xA.topi (nI_add _ _) ?_
        refine xA.iconst (v := 1) rfl (by decide) rfl ?_
        refine xA.isub rfl rfl ?_
        refine xA.topi ((show nI (17 * p + (i + 1)) - 1 = nI (17 * p + i) from nI_sub (a := 17 * p + (i + 1)) (b := 1) (by omega))) ?_
        refine xA.iald rfl rfl (vp_in_nI (by omega) (by omega)) rfl ?_
        refine xA.topi ((show S 68 (nI (17 * p + i)).toNatClampNeg = nI (lSp (sL s p) (i) % 6) from by rw [nI_clamp (by omega)]; exact (hrw _ (by omega)).2)) ?_
        refine xA.istore (L' := [_, _, _, _, _, _, _]) rfl (Nat.le_of_ble_eq_true rfl) rfl rfl ?_
        refine xA.aload_n (i := 0) rfl rfl rfl rfl ?_
        refine xA.getR rfl f10_49 rfl rfl rfl rfl ?_
        refine xA.bipush (v := 17) rfl (by decide) rfl ?_
        refine xA.iload_n (i := 1) rfl rfl rfl rfl ?_
        refine xA.imul rfl rfl ?_
        refine xA.topi (n17 p) ?_
        refine xA.iload rfl rfl rfl ?_
        refine xA.iadd rfl rfl ?_
        refine xA.topi (nI_add _ _) ?_
        refine xA.iald rfl rfl (vp_in_nI (by omega) (by omega)) rfl ?_
        refine xA.topi ((show S 68 (nI (17 * p + (i + 1))).toNatClampNeg = nI (lSp (sL s p) (i + 1) % 6) from by rw [nI_clamp (by omega)]; exact (hrw _ (by omega)).2)) ?_
        refine xA.istore (L' := [_, _, _, _, _, _, _]) rfl (Nat.le_of_ble_eq_true rfl) rfl rfl ?_
        refine xA.iload_n (i := 3) rfl rfl rfl rfl ?_
        refine xA.if_ne (tgt := 94) rfl rfl rfl (fun h47 => ?_) (fun h47 => ?_)
        · rw [xb_ne0] at h47
          refine xA.iconst (v := 1) rfl (by decide) rfl ?_
          refine xA.topi (((xb_t (by first | exact cn_pos.mpr (by obtain ⟨q, q1, q2⟩ := cn_pos.mp h47; exact ⟨q, by omega, q2⟩) | exact cn_pos.mpr ⟨i, by omega, decide_eq_true (Or.inl ⟨e58, e69⟩)⟩ | exact cn_pos.mpr ⟨i, by omega, decide_eq_true (Or.inr ⟨e80, e91⟩)⟩)).symm : (1 : Int32) = xb (0 < cn (fun i => decide ((lSp (sL s p) i % 6 = hOn (sH s) j ∧ lSp (sL s p) (i + 1) % 6 = hTw (sH s) j) ∨ (lSp (sL s p) i % 6 = hTw (sH s) j ∧ lSp (sL s p) (i + 1) % 6 = hOn (sH s) j))) (i + 1)))) ?_
          refine xA.goto (q := 99) rfl rfl ?_
          refine xA.istore_n (i := 3) (L' := [_, _, _, _, _, _, _]) rfl rfl (Nat.le_of_ble_eq_true rfl) rfl rfl ?_
          refine xA.iinc (L' := [_, _, _, _, _, _, _]) rfl rfl (nI_1 _) rfl rfl ?_
          refine xA.goto (q := 5) rfl rfl ?_
          exact ih _ _
        · rw [xb_eq0] at h47
          refine xA.iload rfl rfl rfl ?_
          refine xA.aload_n (i := 0) rfl rfl rfl rfl ?_
          refine xA.getR rfl f10_31 rfl rfl rfl rfl ?_
          refine xA.iload_n (i := 2) rfl rfl rfl rfl ?_
          refine xA.iald rfl rfl (vp_in_nI (by omega) (by decide)) rfl ?_
          refine xA.topi ((show S 62 (nI j).toNatClampNeg = nI (hOn (sH s) j) from by rw [nI_clamp (by omega)]; exact (hon j hj).1)) ?_
          refine xA.icmp_ne (tgt := 72) rfl rfl rfl (fun h58 => ?_) (fun h58 => ?_)
          · have e58 : ¬ lSp (sL s p) i % 6 = hOn (sH s) j := fun z => h58 (by rw [z])
            refine xA.iload rfl rfl rfl ?_
            refine xA.aload_n (i := 0) rfl rfl rfl rfl ?_
            refine xA.getR rfl f10_34 rfl rfl rfl rfl ?_
            refine xA.iload_n (i := 2) rfl rfl rfl rfl ?_
            refine xA.iald rfl rfl (vp_in_nI (by omega) (by decide)) rfl ?_
            refine xA.topi ((show S 63 (nI j).toNatClampNeg = nI (hTw (sH s) j) from by rw [nI_clamp (by omega)]; exact (hon j hj).2)) ?_
            refine xA.icmp_ne (tgt := 98) rfl rfl rfl (fun h80 => ?_) (fun h80 => ?_)
            · have e80 : ¬ lSp (sL s p) i % 6 = hTw (sH s) j := fun z => h80 (by rw [z])
              refine xA.iconst (v := 0) rfl (by decide) rfl ?_
              refine xA.topi (((xb_f (fun z => by obtain ⟨q, q1, q2⟩ := cn_pos.mp z; by_cases e : q = i; (subst e; rcases of_decide_eq_true q2 with ⟨w1, w2⟩ | ⟨w1, w2⟩; (first | exact e58 w1 | exact e69 w2); (first | exact e80 w1 | exact e91 w2)); exact h47 (cn_pos.mpr ⟨q, by omega, q2⟩))).symm : (0 : Int32) = xb (0 < cn (fun i => decide ((lSp (sL s p) i % 6 = hOn (sH s) j ∧ lSp (sL s p) (i + 1) % 6 = hTw (sH s) j) ∨ (lSp (sL s p) i % 6 = hTw (sH s) j ∧ lSp (sL s p) (i + 1) % 6 = hOn (sH s) j))) (i + 1)))) ?_
              refine xA.istore_n (i := 3) (L' := [_, _, _, _, _, _, _]) rfl rfl (Nat.le_of_ble_eq_true rfl) rfl rfl ?_
              refine xA.iinc (L' := [_, _, _, _, _, _, _]) rfl rfl (nI_1 _) rfl rfl ?_
              refine xA.goto (q := 5) rfl rfl ?_
              exact ih _ _
            · have e80 : lSp (sL s p) i % 6 = hTw (sH s) j := (nI_eq (by omega) (by omega)).mp h80
              refine xA.iload rfl rfl rfl ?_
              refine xA.aload_n (i := 0) rfl rfl rfl rfl ?_
              refine xA.getR rfl f10_31 rfl rfl rfl rfl ?_
              refine xA.iload_n (i := 2) rfl rfl rfl rfl ?_
              refine xA.iald rfl rfl (vp_in_nI (by omega) (by decide)) rfl ?_
              refine xA.topi ((show S 62 (nI j).toNatClampNeg = nI (hOn (sH s) j) from by rw [nI_clamp (by omega)]; exact (hon j hj).1)) ?_
              refine xA.icmp_ne (tgt := 98) rfl rfl rfl (fun h91 => ?_) (fun h91 => ?_)
              · have e91 : ¬ lSp (sL s p) (i + 1) % 6 = hOn (sH s) j := fun z => h91 (by rw [z])
                refine xA.iconst (v := 0) rfl (by decide) rfl ?_
                refine xA.topi (((xb_f (fun z => by obtain ⟨q, q1, q2⟩ := cn_pos.mp z; by_cases e : q = i; (subst e; rcases of_decide_eq_true q2 with ⟨w1, w2⟩ | ⟨w1, w2⟩; (first | exact e58 w1 | exact e69 w2); (first | exact e80 w1 | exact e91 w2)); exact h47 (cn_pos.mpr ⟨q, by omega, q2⟩))).symm : (0 : Int32) = xb (0 < cn (fun i => decide ((lSp (sL s p) i % 6 = hOn (sH s) j ∧ lSp (sL s p) (i + 1) % 6 = hTw (sH s) j) ∨ (lSp (sL s p) i % 6 = hTw (sH s) j ∧ lSp (sL s p) (i + 1) % 6 = hOn (sH s) j))) (i + 1)))) ?_
                refine xA.istore_n (i := 3) (L' := [_, _, _, _, _, _, _]) rfl rfl (Nat.le_of_ble_eq_true rfl) rfl rfl ?_
                refine xA.iinc (L' := [_, _, _, _, _, _, _]) rfl rfl (nI_1 _) rfl rfl ?_
                refine xA.goto (q := 5) rfl rfl ?_
                exact ih _ _
              · have e91 : lSp (sL s p) (i + 1) % 6 = hOn (sH s) j := (nI_eq (by omega) (by omega)).mp h91
                refine xA.iconst (v := 1) rfl (by decide) rfl ?_
                refine xA.topi (((xb_t (by first | exact cn_pos.mpr (by obtain ⟨q, q1, q2⟩ := cn_pos.mp h47; exact ⟨q, by omega, q2⟩) | exact cn_pos.mpr ⟨i, by omega, decide_eq_true (Or.inl ⟨e58, e69⟩)⟩ | exact cn_pos.mpr ⟨i, by omega, decide_eq_true (Or.inr ⟨e80, e91⟩)⟩)).symm : (1 : Int32) = xb (0 < cn (fun i => decide ((lSp (sL s p) i % 6 = hOn (sH s) j ∧ lSp (sL s p) (i + 1) % 6 = hTw (sH s) j) ∨ (lSp (sL s p) i % 6 = hTw (sH s) j ∧ lSp (sL s p) (i + 1) % 6 = hOn (sH s) j))) (i + 1)))) ?_
                refine xA.goto (q := 99) rfl rfl ?_
                refine xA.istore_n (i := 3) (L' := [_, _, _, _, _, _, _]) rfl rfl (Nat.le_of_ble_eq_true rfl) rfl rfl ?_
                refine xA.iinc (L' := [_, _, _, _, _, _, _]) rfl rfl (nI_1 _) rfl rfl ?_
                refine xA.goto (q := 5) rfl rfl ?_
                exact ih _ _
          · have e58 : lSp (sL s p) i % 6 = hOn (sH s) j := (nI_eq (by omega) (by omega)).mp h58
            refine xA.iload rfl rfl rfl ?_
            refine xA.aload_n (i := 0) rfl rfl rfl rfl ?_
            refine xA.getR rfl f10_34 rfl rfl rfl rfl ?_
            refine xA.iload_n (i := 2) rfl rfl rfl rfl ?_
            refine xA.iald rfl rfl (vp_in_nI (by omega) (by decide)) rfl ?_
            refine xA.topi ((show S 63 (nI j).toNatClampNeg = nI (hTw (sH s) j) from by rw [nI_clamp (by omega)]; exact (hon j hj).2)) ?_
            refine xA.icmp_eq (tgt := 94) rfl rfl rfl (fun h69 => ?_) (fun h69 => ?_)
            · have e69 : lSp (sL s p) (i + 1) % 6 = hTw (sH s) j := (nI_eq (by omega) (by omega)).mp h69
              refine xA.iconst (v := 1) rfl (by decide) rfl ?_
              refine xA.topi (((xb_t (by first | exact cn_pos.mpr (by obtain ⟨q, q1, q2⟩ := cn_pos.mp h47; exact ⟨q, by omega, q2⟩) | exact cn_pos.mpr ⟨i, by omega, decide_eq_true (Or.inl ⟨e58, e69⟩)⟩ | exact cn_pos.mpr ⟨i, by omega, decide_eq_true (Or.inr ⟨e80, e91⟩)⟩)).symm : (1 : Int32) = xb (0 < cn (fun i => decide ((lSp (sL s p) i % 6 = hOn (sH s) j ∧ lSp (sL s p) (i + 1) % 6 = hTw (sH s) j) ∨ (lSp (sL s p) i % 6 = hTw (sH s) j ∧ lSp (sL s p) (i + 1) % 6 = hOn (sH s) j))) (i + 1)))) ?_
              refine xA.goto (q := 99) rfl rfl ?_
              refine xA.istore_n (i := 3) (L' := [_, _, _, _, _, _, _]) rfl rfl (Nat.le_of_ble_eq_true rfl) rfl rfl ?_
              refine xA.iinc (L' := [_, _, _, _, _, _, _]) rfl rfl (nI_1 _) rfl rfl ?_
              refine xA.goto (q := 5) rfl rfl ?_
              exact ih _ _
            · have e69 : ¬ lSp (sL s p) (i + 1) % 6 = hTw (sH s) j := fun z => h69 (by rw [z])
              refine xA.iload rfl rfl rfl ?_
              refine xA.aload_n (i := 0) rfl rfl rfl rfl ?_
              refine xA.getR rfl f10_34 rfl rfl rfl rfl ?_
              refine xA.iload_n (i := 2) rfl rfl rfl rfl ?_
              refine xA.iald rfl rfl (vp_in_nI (by omega) (by decide)) rfl ?_
              refine xA.topi ((show S 63 (nI j).toNatClampNeg = nI (hTw (sH s) j) from by rw [nI_clamp (by omega)]; exact (hon j hj).2)) ?_
              refine xA.icmp_ne (tgt := 98) rfl rfl rfl (fun h80 => ?_) (fun h80 => ?_)
              · have e80 : ¬ lSp (sL s p) i % 6 = hTw (sH s) j := fun z => h80 (by rw [z])
                refine xA.iconst (v := 0) rfl (by decide) rfl ?_
                refine xA.topi (((xb_f (fun z => by obtain ⟨q, q1, q2⟩ := cn_pos.mp z; by_cases e : q = i; (subst e; rcases of_decide_eq_true q2 with ⟨w1, w2⟩ | ⟨w1, w2⟩; (first | exact e58 w1 | exact e69 w2); (first | exact e80 w1 | exact e91 w2)); exact h47 (cn_pos.mpr ⟨q, by omega, q2⟩))).symm : (0 : Int32) = xb (0 < cn (fun i => decide ((lSp (sL s p) i % 6 = hOn (sH s) j ∧ lSp (sL s p) (i + 1) % 6 = hTw (sH s) j) ∨ (lSp (sL s p) i % 6 = hTw (sH s) j ∧ lSp (sL s p) (i + 1) % 6 = hOn (sH s) j))) (i + 1)))) ?_
                refine xA.istore_n (i := 3) (L' := [_, _, _, _, _, _, _]) rfl rfl (Nat.le_of_ble_eq_true rfl) rfl rfl ?_
                refine xA.iinc (L' := [_, _, _, _, _, _, _]) rfl rfl (nI_1 _) rfl rfl ?_
                refine xA.goto (q := 5) rfl rfl ?_
                exact ih _ _
              · have e80 : lSp (sL s p) i % 6 = hTw (sH s) j := (nI_eq (by omega) (by omega)).mp h80
                refine xA.iload rfl rfl rfl ?_
                refine xA.aload_n (i := 0) rfl rfl rfl rfl ?_
                refine xA.getR rfl f10_31 rfl rfl rfl rfl ?_
                refine xA.iload_n (i := 2) rfl rfl rfl rfl ?_
                refine xA.iald rfl rfl (vp_in_nI (by omega) (by decide)) rfl ?_
                refine xA.topi ((show S 62 (nI j).toNatClampNeg = nI (hOn (sH s) j) from by rw [nI_clamp (by omega)]; exact (hon j hj).1)) ?_
                refine xA.icmp_ne (tgt := 98) rfl rfl rfl (fun h91 => ?_) (fun h91 => ?_)
                · have e91 : ¬ lSp (sL s p) (i + 1) % 6 = hOn (sH s) j := fun z => h91 (by rw [z])
                  refine xA.iconst (v := 0) rfl (by decide) rfl ?_
                  refine xA.topi (((xb_f (fun z => by obtain ⟨q, q1, q2⟩ := cn_pos.mp z; by_cases e : q = i; (subst e; rcases of_decide_eq_true q2 with ⟨w1, w2⟩ | ⟨w1, w2⟩; (first | exact e58 w1 | exact e69 w2); (first | exact e80 w1 | exact e91 w2)); exact h47 (cn_pos.mpr ⟨q, by omega, q2⟩))).symm : (0 : Int32) = xb (0 < cn (fun i => decide ((lSp (sL s p) i % 6 = hOn (sH s) j ∧ lSp (sL s p) (i + 1) % 6 = hTw (sH s) j) ∨ (lSp (sL s p) i % 6 = hTw (sH s) j ∧ lSp (sL s p) (i + 1) % 6 = hOn (sH s) j))) (i + 1)))) ?_
                  refine xA.istore_n (i := 3) (L' := [_, _, _, _, _, _, _]) rfl rfl (Nat.le_of_ble_eq_true rfl) rfl rfl ?_
                  refine xA.iinc (L' := [_, _, _, _, _, _, _]) rfl rfl (nI_1 _) rfl rfl ?_
                  refine xA.goto (q := 5) rfl rfl ?_
                  exact ih _ _
                · have e91 : lSp (sL s p) (i + 1) % 6 = hOn (sH s) j := (nI_eq (by omega) (by omega)).mp h91
                  refine xA.iconst (v := 1) rfl (by decide) rfl ?_
                  refine xA.topi (((xb_t (by first | exact cn_pos.mpr (by obtain ⟨q, q1, q2⟩ := cn_pos.mp h47; exact ⟨q, by omega, q2⟩) | exact cn_pos.mpr ⟨i, by omega, decide_eq_true (Or.inl ⟨e58, e69⟩)⟩ | exact cn_pos.mpr ⟨i, by omega, decide_eq_true (Or.inr ⟨e80, e91⟩)⟩)).symm : (1 : Int32) = xb (0 < cn (fun i => decide ((lSp (sL s p) i % 6 = hOn (sH s) j ∧ lSp (sL s p) (i + 1) % 6 = hTw (sH s) j) ∨ (lSp (sL s p) i % 6 = hTw (sH s) j ∧ lSp (sL s p) (i + 1) % 6 = hOn (sH s) j))) (i + 1)))) ?_
                  refine xA.goto (q := 99) rfl rfl ?_
                  refine xA.istore_n (i := 3) (L' := [_, _, _, _, _, _, _]) rfl rfl (Nat.le_of_ble_eq_true rfl) rfl rfl ?_
                  refine xA.iinc (L' := [_, _, _, _, _, _, _]) rfl rfl (nI_1 _) rfl rfl ?_
                  refine xA.goto (q := 5) rfl rfl ?_
                  exact ih _ _
    · intro x5 x6
      refine xA.iload rfl rfl rfl ?_
      refine xA.aload_n (i := 0) rfl rfl rfl rfl ?_
      refine xA.getR rfl f10_40 rfl rfl rfl rfl ?_
      refine xA.iload_n (i := 1) rfl rfl rfl rfl ?_
      refine xA.iald rfl rfl (vp_in_nI (by omega) (by omega)) rfl ?_
      refine xA.topi ((show S 65 (nI p).toNatClampNeg = nI (lN' (sL s p)) from by rw [hcp]; exact hse)) ?_
      refine xA.icmp_ge (tgt := 106) rfl rfl rfl (fun h13 => ?_) (fun h13 => ?_)
      · refine xA.iload_n (i := 3) rfl rfl rfl rfl ?_
        exact xA.iret rfl rfl xb_nar ⟨by rw [thr]; exact congrArg (fun z => some (Value.int z)) (xb_iff decide_eq_true_iff.symm), rfl⟩
      · exact absurd (nI_le (by omega) (by omega)) h13
  refine xA.iconst (v := 0) rfl (by decide) rfl ?_
  refine xA.istore_n (i := 3) (L' := [_, _, _, _, _, _, _]) rfl rfl (Nat.le_of_ble_eq_true rfl) rfl rfl ?_
  refine xA.iconst (v := 1) rfl (by decide) rfl ?_
  refine xA.istore (L' := [_, _, _, _, _, _, _]) rfl (Nat.le_of_ble_eq_true rfl) rfl rfl ?_
  exact loop 0 (Nat.zero_le _) _ _
set_option maxRecDepth 100000 in
set_option maxHeartbeats 1000000 in
theorem c_X10_lockedOf (d : Nat) (S : Nat → Nat → Int32) (G : Nat → Nat → Int64) (s : sS) (hc : MS S s) (hhr : 0 < sHr s) : xR (d + 1) mX10_lockedOf [.ref 54] S G (some (.int (lkS (usersN s) (hNd (sH s))).1)) S G := by
  have hc0 := hc
  obtain ⟨hpg, hho, hpp, htk, hgl, hsd, him, hno⟩ := hc
  obtain ⟨hok, _, hdr, _, _, _, hdo, hsi, hon⟩ := hho.2.2.2 hhr
  have hnd := hok.1.2.1
  have hp4 := hpp.2.1
  refine xC.of okX10_lockedOf (Nat.le_of_ble_eq_true rfl) (L := [_, _, _, _, _, _]) rfl ?_
  have loop : ∀ i, i ≤ hNd (sH s) → ∀ x4 x5 : Option Value, xA none (d + 1) mX10_lockedOf 0 0 0 0 6 [some (.ref 54), some (.int (lkS (usersN s) i).1), some (.int (nI (lkS (usersN s) i).2)), some (.int (nI i)), x4, x5] [] (σF, S, G) (fun r' h' => r' = (some (.int (lkS (usersN s) (hNd (sH s))).1)) ∧ h' = (σF, S, G)) := by
    refine xloop (hNd (sH s)) (fun i hi ih => ?_) ?_
    · intro x4 x5
      refine xA.iload_n (i := 3) rfl rfl rfl rfl ?_
      refine xA.aload_n (i := 0) rfl rfl rfl rfl ?_
      refine xA.getI rfl f10_147 rfl rfl rfl ?_
      refine xA.topi (hdr) ?_
      refine xA.icmp_ge (tgt := 86) rfl rfl rfl (fun h11 => ?_) (fun h11 => ?_)
      · exact absurd h11 (nI_ge hi (by omega))
      · refine xA.iconst (v := 0) rfl (by decide) rfl ?_
        refine xA.istore (L' := [_, _, _, _, _, _]) rfl (Nat.le_of_ble_eq_true rfl) rfl rfl ?_
        refine xA.iconst (v := 0) rfl (by decide) rfl ?_
        refine xA.istore (L' := [_, _, _, _, _, _]) rfl (Nat.le_of_ble_eq_true rfl) rfl rfl ?_
        have loop2 : ∀ p, p ≤ sP s → xA none (d + 1) mX10_lockedOf 0 0 0 0 20 [some (.ref 54), some (.int (lkS (usersN s) i).1), some (.int (nI (lkS (usersN s) i).2)), some (.int (nI i)), some (.int (nI (cn (fun p => (lDb (sL s p)).testBit i) p))), some (.int (nI p))] [] (σF, S, G) (fun r' h' => r' = (some (.int (lkS (usersN s) (hNd (sH s))).1)) ∧ h' = (σF, S, G)) := by
          refine xloop (sP s) (fun p hp ih2 => ?_) ?_
          · skip
            refine xA.iload rfl rfl rfl ?_
            refine xA.aload_n (i := 0) rfl rfl rfl rfl ?_
            refine xA.getI rfl f10_156 rfl rfl rfl ?_
            refine xA.topi (hpp.1) ?_
            refine xA.icmp_ge (tgt := 55) rfl rfl rfl (fun h26 => ?_) (fun h26 => ?_)
            · exact absurd h26 (nI_ge hp (by omega))
            · have hthr := (hpp.2.2 p hp).2.2.2.2.2.2.2.2.2 i hi
              refine xA.iload rfl rfl rfl ?_
              refine xA.aload_n (i := 0) rfl rfl rfl rfl ?_
              refine xA.iload rfl rfl rfl ?_
              refine xA.iload_n (i := 3) rfl rfl rfl rfl ?_
              refine xA.callVi (As := [_, _]) rfl k10_226 okX10_goesThrough rfl rfl rfl rfl (Nat.le_of_ble_eq_true rfl) (c_X10_goesThrough d _ G s hc0 p hp i hi) rfl rfl ?_
              refine xA.if_eq (tgt := 45) rfl rfl rfl (fun h38 => ?_) (fun h38 => ?_)
              · rw [xb_eq0] at h38
                refine xA.iconst (v := 0) rfl (by decide) rfl ?_
                refine xA.iadd rfl rfl ?_
                refine xA.topi ((show _ = nI (cn (fun p => (lDb (sL s p)).testBit i) (p + 1)) from by first | exact cn_t (by rw [hthr]; exact h38) | exact cn_f (by rw [hthr]; exact Bool.eq_false_iff.mpr h38))) ?_
                refine xA.istore (L' := [_, _, _, _, _, _]) rfl (Nat.le_of_ble_eq_true rfl) rfl rfl ?_
                refine xA.iinc (L' := [_, _, _, _, _, _]) rfl rfl (nI_1 p) rfl rfl ?_
                refine xA.goto (q := 20) rfl rfl ?_
                exact ih2
              · rw [xb_ne0] at h38
                refine xA.iconst (v := 1) rfl (by decide) rfl ?_
                refine xA.goto (q := 46) rfl rfl ?_
                refine xA.iadd rfl rfl ?_
                refine xA.topi ((show _ = nI (cn (fun p => (lDb (sL s p)).testBit i) (p + 1)) from by first | exact cn_t (by rw [hthr]; exact h38) | exact cn_f (by rw [hthr]; exact Bool.eq_false_iff.mpr h38))) ?_
                refine xA.istore (L' := [_, _, _, _, _, _]) rfl (Nat.le_of_ble_eq_true rfl) rfl rfl ?_
                refine xA.iinc (L' := [_, _, _, _, _, _]) rfl rfl (nI_1 p) rfl rfl ?_
                refine xA.goto (q := 20) rfl rfl ?_
                exact ih2
          · have q1 : cn (fun p => (lDb (sL s p)).testBit i) (sP s) ≤ 4 := Nat.le_trans (cn_le _ _) hpp.2.1
            have q2 : (lkS (usersN s) i).2 ≤ 4 := lkS_le (usersN s) 4 (fun j => Nat.le_trans (cn_le _ _) hpp.2.1) i
            refine xA.iload rfl rfl rfl ?_
            refine xA.aload_n (i := 0) rfl rfl rfl rfl ?_
            refine xA.getI rfl f10_156 rfl rfl rfl ?_
            refine xA.topi (hpp.1) ?_
            refine xA.icmp_ge (tgt := 55) rfl rfl rfl (fun h26 => ?_) (fun h26 => ?_)
            · refine xA.iload rfl rfl rfl ?_
              refine xA.iload_n (i := 2) rfl rfl rfl rfl ?_
              refine xA.icmp_le (tgt := 65) rfl rfl rfl (fun h58 => ?_) (fun h58 => ?_)
              · have e58 : cn (fun p => (lDb (sL s p)).testBit i) (sP s) ≤ (lkS (usersN s) i).2 := (nI_leI (by omega) (by omega)).mp h58
                refine xA.iload_n (i := 1) rfl rfl rfl rfl ?_
                refine xA.istore_n (i := 1) (L' := [_, _, _, _, _, _]) rfl rfl (Nat.le_of_ble_eq_true rfl) rfl rfl ?_
                refine xA.iload rfl rfl rfl ?_
                refine xA.iload_n (i := 2) rfl rfl rfl rfl ?_
                refine xA.icmp_le (tgt := 78) rfl rfl rfl (fun h70 => ?_) (fun h70 => ?_)
                · have e70 : cn (fun p => (lDb (sL s p)).testBit i) (sP s) ≤ (lkS (usersN s) i).2 := (nI_leI (by omega) (by omega)).mp h70
                  refine xA.iload_n (i := 2) rfl rfl rfl rfl ?_
                  refine xA.istore_n (i := 2) (L' := [_, _, _, _, _, _]) rfl rfl (Nat.le_of_ble_eq_true rfl) rfl rfl ?_
                  refine xA.iinc (L' := [_, _, _, _, _, _]) rfl rfl (nI_1 i) rfl rfl ?_
                  refine xA.goto (q := 6) rfl rfl ?_
                  first
                    | exact absurd e58 e70
                    | exact absurd e70 e58
                    | (have ih := ih (some (.int (nI (usersN s i)))) (some (.int (nI (sP s))))
                       rw [lkS] at ih
                       first
                         | (rw [if_neg (by show ¬ _ < cn _ _; omega)] at ih; exact ih)
                         | (rw [if_pos (by show _ < cn _ _; omega)] at ih; exact ih))
                · have e70 : ¬ cn (fun p => (lDb (sL s p)).testBit i) (sP s) ≤ (lkS (usersN s) i).2 := mt (nI_leI (by omega) (by omega)).mpr h70
                  refine xA.iload rfl rfl rfl ?_
                  refine xA.goto (q := 79) rfl rfl ?_
                  refine xA.istore_n (i := 2) (L' := [_, _, _, _, _, _]) rfl rfl (Nat.le_of_ble_eq_true rfl) rfl rfl ?_
                  refine xA.iinc (L' := [_, _, _, _, _, _]) rfl rfl (nI_1 i) rfl rfl ?_
                  refine xA.goto (q := 6) rfl rfl ?_
                  first
                    | exact absurd e58 e70
                    | exact absurd e70 e58
                    | (have ih := ih (some (.int (nI (usersN s i)))) (some (.int (nI (sP s))))
                       rw [lkS] at ih
                       first
                         | (rw [if_neg (by show ¬ _ < cn _ _; omega)] at ih; exact ih)
                         | (rw [if_pos (by show _ < cn _ _; omega)] at ih; exact ih))
              · have e58 : ¬ cn (fun p => (lDb (sL s p)).testBit i) (sP s) ≤ (lkS (usersN s) i).2 := mt (nI_leI (by omega) (by omega)).mpr h58
                refine xA.iload_n (i := 3) rfl rfl rfl rfl ?_
                refine xA.goto (q := 66) rfl rfl ?_
                refine xA.istore_n (i := 1) (L' := [_, _, _, _, _, _]) rfl rfl (Nat.le_of_ble_eq_true rfl) rfl rfl ?_
                refine xA.iload rfl rfl rfl ?_
                refine xA.iload_n (i := 2) rfl rfl rfl rfl ?_
                refine xA.icmp_le (tgt := 78) rfl rfl rfl (fun h70 => ?_) (fun h70 => ?_)
                · have e70 : cn (fun p => (lDb (sL s p)).testBit i) (sP s) ≤ (lkS (usersN s) i).2 := (nI_leI (by omega) (by omega)).mp h70
                  refine xA.iload_n (i := 2) rfl rfl rfl rfl ?_
                  refine xA.istore_n (i := 2) (L' := [_, _, _, _, _, _]) rfl rfl (Nat.le_of_ble_eq_true rfl) rfl rfl ?_
                  refine xA.iinc (L' := [_, _, _, _, _, _]) rfl rfl (nI_1 i) rfl rfl ?_
                  refine xA.goto (q := 6) rfl rfl ?_
                  first
                    | exact absurd e58 e70
                    | exact absurd e70 e58
                    | (have ih := ih (some (.int (nI (usersN s i)))) (some (.int (nI (sP s))))
                       rw [lkS] at ih
                       first
                         | (rw [if_neg (by show ¬ _ < cn _ _; omega)] at ih; exact ih)
                         | (rw [if_pos (by show _ < cn _ _; omega)] at ih; exact ih))
                · have e70 : ¬ cn (fun p => (lDb (sL s p)).testBit i) (sP s) ≤ (lkS (usersN s) i).2 := mt (nI_leI (by omega) (by omega)).mpr h70
                  refine xA.iload rfl rfl rfl ?_
                  refine xA.goto (q := 79) rfl rfl ?_
                  refine xA.istore_n (i := 2) (L' := [_, _, _, _, _, _]) rfl rfl (Nat.le_of_ble_eq_true rfl) rfl rfl ?_
                  refine xA.iinc (L' := [_, _, _, _, _, _]) rfl rfl (nI_1 i) rfl rfl ?_
                  refine xA.goto (q := 6) rfl rfl ?_
                  first
                    | exact absurd e58 e70
                    | exact absurd e70 e58
                    | (have ih := ih (some (.int (nI (usersN s i)))) (some (.int (nI (sP s))))
                       rw [lkS] at ih
                       first
                         | (rw [if_neg (by show ¬ _ < cn _ _; omega)] at ih; exact ih)
                         | (rw [if_pos (by show _ < cn _ _; omega)] at ih; exact ih))
            · exact absurd (nI_le (Nat.le_refl _) (by omega)) h26
        exact loop2 0 (Nat.zero_le _)
    · intro x4 x5
      refine xA.iload_n (i := 3) rfl rfl rfl rfl ?_
      refine xA.aload_n (i := 0) rfl rfl rfl rfl ?_
      refine xA.getI rfl f10_147 rfl rfl rfl ?_
      refine xA.topi (hdr) ?_
      refine xA.icmp_ge (tgt := 86) rfl rfl rfl (fun h11 => ?_) (fun h11 => ?_)
      · refine xA.iload_n (i := 1) rfl rfl rfl rfl ?_
        exact xA.iret rfl rfl rfl ⟨rfl, rfl⟩
      · exact absurd (nI_le (Nat.le_refl _) (by omega)) h11
  refine xA.iconst (v := (-1)) rfl (by decide) rfl ?_
  refine xA.istore_n (i := 1) (L' := [_, _, _, _, _, _]) rfl rfl (Nat.le_of_ble_eq_true rfl) rfl rfl ?_
  refine xA.iconst (v := 0) rfl (by decide) rfl ?_
  refine xA.istore_n (i := 2) (L' := [_, _, _, _, _, _]) rfl rfl (Nat.le_of_ble_eq_true rfl) rfl rfl ?_
  refine xA.iconst (v := 0) rfl (by decide) rfl ?_
  refine xA.istore_n (i := 3) (L' := [_, _, _, _, _, _]) rfl rfl (Nat.le_of_ble_eq_true rfl) rfl rfl ?_
  exact loop 0 (Nat.zero_le _) _ _
set_option maxRecDepth 100000 in
set_option maxHeartbeats 400000 in
theorem m_locked (d : Nat) (S : Nat → Nat → Int32) (G : Nat → Nat → Int64) (s : sS) (hc : MS S s) : xR (d + 2) mX10_locked [.ref 54] S G (some (.int (aLocked s))) S G := by
  have hc0 := hc
  obtain ⟨hpg, hho, hpp, htk, hgl, hsd, him, hno⟩ := hc
  refine xC.of okX10_locked (Nat.le_of_ble_eq_true rfl) (L := [_]) rfl ?_
  refine xA.aload_n (i := 0) rfl rfl rfl rfl ?_
  refine xA.callVi (As := []) rfl k10_171 okX10_lacks rfl rfl rfl rfl (Nat.le_of_ble_eq_true rfl) (c_X10_lacks (d + 1) _ G) rfl rfl ?_
  refine xA.if_eq (tgt := 12) rfl rfl rfl (fun h4 => ?_) (fun h4 => ?_)
  · rw [xb_eq0, mlk hho] at h4
    refine xA.aload_n (i := 0) rfl rfl rfl rfl ?_
    refine xA.callVi (As := []) rfl k10_229 okX10_lockedOf rfl rfl rfl rfl (Nat.le_of_ble_eq_true rfl) (c_X10_lockedOf d _ G s hc0 (by omega)) rfl rfl ?_
    exact xA.iret rfl rfl rfl ⟨by first | (rw [aLocked, if_pos h4]; done) | (rw [aLocked, if_neg h4]; done), rfl⟩
  · rw [xb_ne0, mlk hho] at h4
    refine xA.bipush (v := (-103)) rfl (by decide) rfl ?_
    refine xA.goto (q := 16) rfl rfl ?_
    exact xA.iret rfl rfl rfl ⟨by first | (rw [aLocked, if_pos h4]; done) | (rw [aLocked, if_neg h4]; done), rfl⟩
theorem orI_or (f g : Nat → Int32) (n : Nat) : orI (fun i => f i ||| g i) n = orI f n ||| orI g n := by
  induction n with
  | zero => exact (Int32.or_self).symm
  | succ n ih =>
    simp only [orI]
    rw [ih, Int32.or_assoc, Int32.or_assoc]
    congr 1
    rw [← Int32.or_assoc, ← Int32.or_assoc, Int32.or_comm (orI g n) (f n)]
theorem orI_0 (n : Nat) : orI (fun _ => 0) n = 0 := by
  induction n with
  | zero => rfl
  | succ n ih => rw [orI, ih]; rfl
theorem orI_swap (f : Nat → Nat → Int32) (m n : Nat) : orI (fun i => orI (fun j => f i j) n) m = orI (fun j => orI (fun i => f i j) m) n := by
  induction m with
  | zero => exact (orI_0 n).symm
  | succ m ih =>
    rw [orI, ih]
    exact (orI_or _ _ n).symm

set_option maxRecDepth 100000 in
set_option maxHeartbeats 1000000 in
theorem c_X10_doneBy (d : Nat) (S : Nat → Nat → Int32) (G : Nat → Nat → Int64) (t : tS) (htn : S 54 31 = nI t.1) (htr : mtR S 71 t) (l : lS) (h17 : lN' l ≤ 17) (am ar k0 N : Nat) (hA : σF[am]? = some (.inr (.inl N))) (hR : σF[ar]? = some (.inr (.inl N))) (hN : k0 + lN' l ≤ N) (hN2 : N ≤ 100) (hrw : rwC S am ar k0 l) : xR (d + 1) mX10_doneBy [.ref 54, .ref am, .ref ar, .int (nI k0), .int (nI (lN' l))] S G (some (.int (doneN t l))) S G := by
  refine xC.of okX10_doneBy (Nat.le_of_ble_eq_true rfl) (L := [_, _, _, _, _, _, _, _]) rfl ?_
  have ht5 := htr.1
  have loop : ∀ i, i ≤ t.1 → ∀ x7 : Option Value, xA none (d + 1) mX10_doneBy 0 0 0 0 6 [some (.ref 54), some (.ref am), some (.ref ar), some (.int (nI k0)), some (.int (nI (lN' l))), some (.int (orI (fun q => orI (fun j => tkN t (lSp l j) q) (lN' l)) i)), some (.int (nI i)), x7] [] (σF, S, G) (fun r' h' => r' = (some (.int (doneN t l))) ∧ h' = (σF, S, G)) := by
    refine xloop t.1 (fun i hi ih => ?_) ?_
    · intro x7
      refine xA.iload rfl rfl rfl ?_
      refine xA.aload_n (i := 0) rfl rfl rfl rfl ?_
      refine xA.getI rfl f10_159 rfl rfl rfl ?_
      refine xA.topi (htn) ?_
      refine xA.icmp_ge (tgt := 103) rfl rfl rfl (fun h12 => ?_) (fun h12 => ?_)
      · exact absurd h12 (nI_ge hi (by omega))
      · refine xA.iload_n (i := 3) rfl rfl rfl rfl ?_
        refine xA.istore (L' := [_, _, _, _, _, _, _, _]) rfl (Nat.le_of_ble_eq_true rfl) rfl rfl ?_
        have loop2 : ∀ k, k ≤ lN' l → xA none (d + 1) mX10_doneBy 0 0 0 0 18 [some (.ref 54), some (.ref am), some (.ref ar), some (.int (nI k0)), some (.int (nI (lN' l))), some (.int ((orI (fun q => orI (fun j => tkN t (lSp l j) q) (lN' l)) i) ||| orI (fun j => tkN t (lSp l j) i) k)), some (.int (nI i)), some (.int (nI (k0 + k)))] [] (σF, S, G) (fun r' h' => r' = (some (.int (doneN t l))) ∧ h' = (σF, S, G)) := by
          refine xloop (lN' l) (fun k hk2 ih2 => ?_) ?_
          · skip
            refine xA.iload rfl rfl rfl ?_
            refine xA.iload_n (i := 3) rfl rfl rfl rfl ?_
            refine xA.iload rfl rfl rfl ?_
            refine xA.iadd rfl rfl ?_
            refine xA.topi (nI_add _ _) ?_
            refine xA.icmp_ge (tgt := 97) rfl rfl rfl (fun h24 => ?_) (fun h24 => ?_)
            · exact absurd h24 (nI_ge (by omega) (by omega))
            · refine xA.iload rfl rfl rfl ?_
              refine xA.aload_n (i := 2) rfl rfl rfl rfl ?_
              refine xA.iload rfl rfl rfl ?_
              refine xA.iald rfl hR (vp_in_nI (by omega) (by omega)) rfl ?_
              refine xA.topi ((show S ar (nI (k0 + k)).toNatClampNeg = nI (lSp l k % 6) from by rw [nI_clamp (by omega)]; exact (hrw _ hk2).2)) ?_
              refine xA.aload_n (i := 0) rfl rfl rfl rfl ?_
              refine xA.getR rfl f10_58 rfl rfl rfl rfl ?_
              refine xA.iconst (v := 3) rfl (by decide) rfl ?_
              refine xA.iload rfl rfl rfl ?_
              refine xA.imul rfl rfl ?_
              refine xA.topi (n3 i) ?_
              refine xA.iald rfl rfl (vp_in_nI (by omega) (by omega)) rfl ?_
              refine xA.topi ((show S 71 (nI (3 * i)).toNatClampNeg = t.2.1 i from by rw [nI_clamp (by omega)]; exact (htr.2 i hi).1)) ?_
              refine xA.icmp_ne (tgt := 87) rfl rfl rfl (fun h42 => ?_) (fun h42 => ?_)
              · refine xA.iconst (v := 0) rfl (by decide) rfl ?_
                refine xA.ior rfl rfl ?_
                refine xA.topi ((show _ = (orI (fun q => orI (fun j => tkN t (lSp l j) q) (lN' l)) i) ||| orI (fun j => tkN t (lSp l j) i) (k + 1) from by rw [orI, ← Int32.or_assoc]; congr 1; show _ = tkN t (lSp l k) i; rw [tkN]; first | (rw [if_pos ⟨h42.symm, h77⟩]; done) | (rw [if_neg (fun z => h77 z.2)]; done) | (rw [if_neg (fun z => h42 z.1.symm)]; done))) ?_
                refine xA.istore (L' := [_, _, _, _, _, _, _, _]) rfl (Nat.le_of_ble_eq_true rfl) rfl rfl ?_
                refine xA.iinc (L' := [_, _, _, _, _, _, _, _]) rfl rfl (nI_1 _) rfl rfl ?_
                refine xA.goto (q := 18) rfl rfl ?_
                exact ih2
              · refine xA.aload_n (i := 1) rfl rfl rfl rfl ?_
                refine xA.iload rfl rfl rfl ?_
                refine xA.iald rfl hA (vp_in_nI (by omega) (by omega)) rfl ?_
                refine xA.topi ((show S am (nI (k0 + k)).toNatClampNeg = nI (lSp l k / 6) from by rw [nI_clamp (by omega)]; exact (hrw _ hk2).1)) ?_
                refine xA.i2l rfl rfl ?_
                refine xA.aload_n (i := 0) rfl rfl rfl rfl ?_
                refine xA.getR rfl f10_58 rfl rfl rfl rfl ?_
                refine xA.iconst (v := 3) rfl (by decide) rfl ?_
                refine xA.iload rfl rfl rfl ?_
                refine xA.imul rfl rfl ?_
                refine xA.topi (n3 i) ?_
                refine xA.iconst (v := 1) rfl (by decide) rfl ?_
                refine xA.iadd rfl rfl ?_
                refine xA.topi (nI_1 _) ?_
                refine xA.iald rfl rfl (vp_in_nI (by omega) (by omega)) rfl ?_
                refine xA.topi ((show S 71 (nI (3 * i + 1)).toNatClampNeg = t.2.2.1 i from by rw [nI_clamp (by omega)]; exact (htr.2 i hi).2.1)) ?_
                refine xA.i2l rfl rfl ?_
                refine xA.aload_n (i := 0) rfl rfl rfl rfl ?_
                refine xA.getR rfl f10_58 rfl rfl rfl rfl ?_
                refine xA.iconst (v := 3) rfl (by decide) rfl ?_
                refine xA.iload rfl rfl rfl ?_
                refine xA.imul rfl rfl ?_
                refine xA.topi (n3 i) ?_
                refine xA.iconst (v := 2) rfl (by decide) rfl ?_
                refine xA.iadd rfl rfl ?_
                refine xA.topi (nI_add (3 * i) 2) ?_
                refine xA.iald rfl rfl (vp_in_nI (by omega) (by omega)) rfl ?_
                refine xA.topi ((show S 71 (nI (3 * i + 2)).toNatClampNeg = t.2.2.2 i from by rw [nI_clamp (by omega)]; exact (htr.2 i hi).2.2)) ?_
                refine xA.i2l rfl rfl ?_
                refine xA.callSi (As := [_, _, _]) rfl k10_96 okX10_in rfl rfl (Nat.le_of_ble_eq_true rfl) (c_X10_in d _ G (nI (lSp l k / 6)) (t.2.2.1 i) (t.2.2.2 i)) rfl rfl ?_
                refine xA.if_eq (tgt := 87) rfl rfl rfl (fun h77 => ?_) (fun h77 => ?_)
                · rw [xb_eq0] at h77
                  refine xA.iconst (v := 0) rfl (by decide) rfl ?_
                  refine xA.ior rfl rfl ?_
                  refine xA.topi ((show _ = (orI (fun q => orI (fun j => tkN t (lSp l j) q) (lN' l)) i) ||| orI (fun j => tkN t (lSp l j) i) (k + 1) from by rw [orI, ← Int32.or_assoc]; congr 1; show _ = tkN t (lSp l k) i; rw [tkN]; first | (rw [if_pos ⟨h42.symm, h77⟩]; done) | (rw [if_neg (fun z => h77 z.2)]; done) | (rw [if_neg (fun z => h42 z.1.symm)]; done))) ?_
                  refine xA.istore (L' := [_, _, _, _, _, _, _, _]) rfl (Nat.le_of_ble_eq_true rfl) rfl rfl ?_
                  refine xA.iinc (L' := [_, _, _, _, _, _, _, _]) rfl rfl (nI_1 _) rfl rfl ?_
                  refine xA.goto (q := 18) rfl rfl ?_
                  exact ih2
                · rw [xb_ne0] at h77
                  refine xA.iconst (v := 1) rfl (by decide) rfl ?_
                  refine xA.iload rfl rfl rfl ?_
                  refine xA.ishl rfl rfl ?_
                  refine xA.goto (q := 88) rfl rfl ?_
                  refine xA.ior rfl rfl ?_
                  refine xA.topi ((show _ = (orI (fun q => orI (fun j => tkN t (lSp l j) q) (lN' l)) i) ||| orI (fun j => tkN t (lSp l j) i) (k + 1) from by rw [orI, ← Int32.or_assoc]; congr 1; show _ = tkN t (lSp l k) i; rw [tkN]; first | (rw [if_pos ⟨h42.symm, h77⟩]; done) | (rw [if_neg (fun z => h77 z.2)]; done) | (rw [if_neg (fun z => h42 z.1.symm)]; done))) ?_
                  refine xA.istore (L' := [_, _, _, _, _, _, _, _]) rfl (Nat.le_of_ble_eq_true rfl) rfl rfl ?_
                  refine xA.iinc (L' := [_, _, _, _, _, _, _, _]) rfl rfl (nI_1 _) rfl rfl ?_
                  refine xA.goto (q := 18) rfl rfl ?_
                  exact ih2
          · skip
            refine xA.iload rfl rfl rfl ?_
            refine xA.iload_n (i := 3) rfl rfl rfl rfl ?_
            refine xA.iload rfl rfl rfl ?_
            refine xA.iadd rfl rfl ?_
            refine xA.topi (nI_add _ _) ?_
            refine xA.icmp_ge (tgt := 97) rfl rfl rfl (fun h24 => ?_) (fun h24 => ?_)
            · refine xA.iinc (L' := [_, _, _, _, _, _, _, _]) rfl rfl (nI_1 i) rfl rfl ?_
              refine xA.goto (q := 6) rfl rfl ?_
              exact ih _
            · exact absurd (nI_le (Nat.le_refl _) (by omega)) h24
        have h0 := loop2 0 (Nat.zero_le _)
        rw [orI, Int32.or_zero] at h0
        exact h0
    · intro x7
      refine xA.iload rfl rfl rfl ?_
      refine xA.aload_n (i := 0) rfl rfl rfl rfl ?_
      refine xA.getI rfl f10_159 rfl rfl rfl ?_
      refine xA.topi (htn) ?_
      refine xA.icmp_ge (tgt := 103) rfl rfl rfl (fun h12 => ?_) (fun h12 => ?_)
      · refine xA.iload rfl rfl rfl ?_
        exact xA.iret rfl rfl rfl ⟨by rw [doneN, orI_swap (fun q j => tkN t (lSp l j) q)], rfl⟩
      · exact absurd (nI_le (Nat.le_refl _) (by omega)) h12
  refine xA.iconst (v := 0) rfl (by decide) rfl ?_
  refine xA.istore (L' := [_, _, _, _, _, _, _, _]) rfl (Nat.le_of_ble_eq_true rfl) rfl rfl ?_
  refine xA.iconst (v := 0) rfl (by decide) rfl ?_
  refine xA.istore (L' := [_, _, _, _, _, _, _, _]) rfl (Nat.le_of_ble_eq_true rfl) rfl rfl ?_
  exact loop 0 (Nat.zero_le _) _
set_option maxRecDepth 100000 in
set_option maxHeartbeats 400000 in
theorem c_X10_doneNow (d : Nat) (S : Nat → Nat → Int32) (G : Nat → Nat → Int64) (s : sS) (hc : MS S s) (p : Nat) (hp : p < sP s) : xR (d + 2) mX10_doneNow [.ref 54, .int (nI p)] S G (some (.int (doneN (sTk s) (sL s p)))) S G := by
  obtain ⟨hpg, hho, hpp, htk, hgl, hsd, him, hno⟩ := hc
  have hp4 := hpp.2.1
  obtain ⟨hkd, hkd5, hse, hlo, hrw, hg⟩ := hpp.2.2 p hp
  have hn17 := hg.1
  have hrg : rg (nI p) (sP s) := rg_of hp (by omega)
  have hcp : (nI p).toNatClampNeg = p := nI_clamp (by omega)
  refine xC.of okX10_doneNow (Nat.le_of_ble_eq_true rfl) (L := [_, _]) rfl ?_
  refine xA.aload_n (i := 0) rfl rfl rfl rfl ?_
  refine xA.aload_n (i := 0) rfl rfl rfl rfl ?_
  refine xA.getR rfl f10_46 rfl rfl rfl rfl ?_
  refine xA.aload_n (i := 0) rfl rfl rfl rfl ?_
  refine xA.getR rfl f10_49 rfl rfl rfl rfl ?_
  refine xA.bipush (v := 17) rfl (by decide) rfl ?_
  refine xA.iload_n (i := 1) rfl rfl rfl rfl ?_
  refine xA.imul rfl rfl ?_
  refine xA.topi (n17 p) ?_
  refine xA.aload_n (i := 0) rfl rfl rfl rfl ?_
  refine xA.getR rfl f10_40 rfl rfl rfl rfl ?_
  refine xA.iload_n (i := 1) rfl rfl rfl rfl ?_
  refine xA.iald rfl rfl (vp_in_nI (by omega) (by omega)) rfl ?_
  refine xA.topi ((show S 65 (nI p).toNatClampNeg = nI (lN' (sL s p)) from by rw [hcp]; exact hse)) ?_
  refine xA.callVi (As := [_, _, _, _]) rfl k10_232 okX10_doneBy rfl rfl rfl rfl (Nat.le_of_ble_eq_true rfl) (c_X10_doneBy d _ G (sTk s) htk.1 htk.2 (sL s p) hn17 67 68 (17 * p) 68 rfl rfl (by omega) (by omega) hrw) rfl rfl ?_
  exact xA.iret rfl rfl rfl ⟨rfl, rfl⟩
set_option maxRecDepth 100000 in
set_option maxHeartbeats 400000 in
theorem m_done (d : Nat) (S : Nat → Nat → Int32) (G : Nat → Nat → Int64) (s : sS) (hc : MS S s) (x : Int32) : xR (d + 3) mX10_done [.ref 54, .int x] S G (some (.int (aDone s x))) S G := by
  have hc0 := hc
  obtain ⟨hpg, hho, hpp, htk, hgl, hsd, him, hno⟩ := hc
  refine xC.of okX10_done (Nat.le_of_ble_eq_true rfl) (L := [_, _]) rfl ?_
  refine xA.aload_n (i := 0) rfl rfl rfl rfl ?_
  refine xA.iload_n (i := 1) rfl rfl rfl rfl ?_
  refine xA.callVi (As := [_]) rfl k10_193 okX10_isPerson rfl rfl rfl rfl (Nat.le_of_ble_eq_true rfl) (c_X10_isPerson (d + 1) _ G x (sP s) hpp.1 hpp.2.1) rfl rfl ?_
  refine xA.if_eq (tgt := 16) rfl rfl rfl (fun h5 => ?_) (fun h5 => ?_)
  · rw [xb_eq0] at h5
    refine xA.bipush (v := (-101)) rfl (by decide) rfl ?_
    exact xA.iret rfl rfl rfl ⟨by first | (rw [aDone, if_neg h5]; done) | (rw [aDone, if_pos h5, hcp]; done), rfl⟩
  · rw [xb_ne0] at h5
    obtain ⟨p, hp, rfl⟩ := rg_nI h5 (by have := hpp.2.1; omega)
    have hcp : (nI p).toNatClampNeg = p := nI_clamp (by have := hpp.2.1; omega)
    refine xA.aload_n (i := 0) rfl rfl rfl rfl ?_
    refine xA.iload_n (i := 1) rfl rfl rfl rfl ?_
    refine xA.callVi (As := [_]) rfl k10_236 okX10_doneNow rfl rfl rfl rfl (Nat.le_of_ble_eq_true rfl) (c_X10_doneNow d _ G s hc0 p hp) rfl rfl ?_
    refine xA.goto (q := 18) rfl rfl ?_
    exact xA.iret rfl rfl rfl ⟨by first | (rw [aDone, if_neg h5]; done) | (rw [aDone, if_pos h5, hcp]; done), rfl⟩
set_option maxRecDepth 100000 in
set_option maxHeartbeats 1000000 in
theorem c_X10_whoseOf (d : Nat) (S : Nat → Nat → Int32) (G : Nat → Nat → Int64) (s : sS) (hc : MS S s) : xR (d + 2) mX10_whoseOf [.ref 54] S G (some (.int (whoseN s))) S G := by
  have hc0 := hc
  obtain ⟨hpg, hho, hpp, htk, hgl, hsd, him, hno⟩ := hc
  have hp4 := hpp.2.1
  have hg8 := hgl.2.1
  refine xC.of okX10_whoseOf (Nat.le_of_ble_eq_true rfl) (L := [_, _, _, _, _]) rfl ?_
  have loop : ∀ i, i ≤ sP s → ∀ x3 x4 : Option Value, xA none (d + 2) mX10_whoseOf 0 0 0 0 4 [some (.ref 54), some (.int (orI (fun p => if allN (sGl s) (sL s p) = true then 1 <<< (nI p &&& 31) else (0 : Int32)) i)), some (.int (nI i)), x3, x4] [] (σF, S, G) (fun r' h' => r' = (some (.int (whoseN s))) ∧ h' = (σF, S, G)) := by
    refine xloop (sP s) (fun i hi ih => ?_) ?_
    · intro x3 x4
      refine xA.iload_n (i := 2) rfl rfl rfl rfl ?_
      refine xA.aload_n (i := 0) rfl rfl rfl rfl ?_
      refine xA.getI rfl f10_156 rfl rfl rfl ?_
      refine xA.topi (hpp.1) ?_
      refine xA.icmp_ge (tgt := 72) rfl rfl rfl (fun h9 => ?_) (fun h9 => ?_)
      · exact absurd h9 (nI_ge hi (by omega))
      · refine xA.iconst (v := 1) rfl (by decide) rfl ?_
        refine xA.istore_n (i := 3) (L' := [_, _, _, _, _]) rfl rfl (Nat.le_of_ble_eq_true rfl) rfl rfl ?_
        refine xA.iconst (v := 0) rfl (by decide) rfl ?_
        refine xA.istore (L' := [_, _, _, _, _]) rfl (Nat.le_of_ble_eq_true rfl) rfl rfl ?_
        have loop2 : ∀ k, k ≤ (sGl s).1 → xA none (d + 2) mX10_whoseOf 0 0 0 0 17 [some (.ref 54), some (.int (orI (fun p => if allN (sGl s) (sL s p) = true then 1 <<< (nI p &&& 31) else (0 : Int32)) i)), some (.int (nI i)), some (.int (xb (cn (fun q => decide (atN (sL s i) (nI ((sGl s).2 q)) = 0)) k = 0))), some (.int (nI k))] [] (σF, S, G) (fun r' h' => r' = (some (.int (whoseN s))) ∧ h' = (σF, S, G)) := by
          refine xloop (sGl s).1 (fun k hk2 ih2 => ?_) ?_
          · skip
            refine xA.iload rfl rfl rfl ?_
            refine xA.aload_n (i := 0) rfl rfl rfl rfl ?_
            refine xA.getI rfl f10_162 rfl rfl rfl ?_
            refine xA.topi (hgl.1) ?_
            refine xA.icmp_ge (tgt := 52) rfl rfl rfl (fun h23 => ?_) (fun h23 => ?_)
            · exact absurd h23 (nI_ge hk2 (by omega))
            · refine xA.iload_n (i := 3) rfl rfl rfl rfl ?_
              refine xA.if_eq (tgt := 44) rfl rfl rfl (fun h27 => ?_) (fun h27 => ?_)
              · rw [xb_eq0] at h27
                refine xA.iconst (v := 0) rfl (by decide) rfl ?_
                refine xA.topi (((xb_f (show ¬ cn (fun q => decide (atN (sL s i) (nI ((sGl s).2 q)) = 0)) (k + 1) = 0 by rw [cn]; first | exact (fun z => h27 (by omega)) | (rw [decide_eq_true (show atN (sL s i) (nI ((sGl s).2 k)) = 0 by omega)]; simp))).symm : (0 : Int32) = xb (cn (fun q => decide (atN (sL s i) (nI ((sGl s).2 q)) = 0)) (k + 1) = 0))) ?_
                refine xA.istore_n (i := 3) (L' := [_, _, _, _, _]) rfl rfl (Nat.le_of_ble_eq_true rfl) rfl rfl ?_
                refine xA.iinc (L' := [_, _, _, _, _]) rfl rfl (nI_1 k) rfl rfl ?_
                refine xA.goto (q := 17) rfl rfl ?_
                exact ih2
              · rw [xb_ne0] at h27
                refine xA.aload_n (i := 0) rfl rfl rfl rfl ?_
                refine xA.iload_n (i := 2) rfl rfl rfl rfl ?_
                refine xA.iload rfl rfl rfl ?_
                refine xA.callVi (As := [_, _]) rfl k10_246 okX10_isThere rfl rfl rfl rfl (Nat.le_of_ble_eq_true rfl) (c_X10_isThere d _ G s hc0 i hi k hk2) rfl rfl ?_
                refine xA.if_eq (tgt := 44) rfl rfl rfl (fun h37 => ?_) (fun h37 => ?_)
                · rw [xb_eq0] at h37
                  refine xA.iconst (v := 0) rfl (by decide) rfl ?_
                  refine xA.topi (((xb_f (show ¬ cn (fun q => decide (atN (sL s i) (nI ((sGl s).2 q)) = 0)) (k + 1) = 0 by rw [cn]; first | exact (fun z => h27 (by omega)) | (rw [decide_eq_true (show atN (sL s i) (nI ((sGl s).2 k)) = 0 by omega)]; simp))).symm : (0 : Int32) = xb (cn (fun q => decide (atN (sL s i) (nI ((sGl s).2 q)) = 0)) (k + 1) = 0))) ?_
                  refine xA.istore_n (i := 3) (L' := [_, _, _, _, _]) rfl rfl (Nat.le_of_ble_eq_true rfl) rfl rfl ?_
                  refine xA.iinc (L' := [_, _, _, _, _]) rfl rfl (nI_1 k) rfl rfl ?_
                  refine xA.goto (q := 17) rfl rfl ?_
                  exact ih2
                · rw [xb_ne0] at h37
                  refine xA.iconst (v := 1) rfl (by decide) rfl ?_
                  refine xA.topi (((xb_t (show cn (fun q => decide (atN (sL s i) (nI ((sGl s).2 q)) = 0)) (k + 1) = 0 by rw [cn, h27, decide_eq_false (show ¬ atN (sL s i) (nI ((sGl s).2 k)) = 0 by omega)]; rfl)).symm : (1 : Int32) = xb (cn (fun q => decide (atN (sL s i) (nI ((sGl s).2 q)) = 0)) (k + 1) = 0))) ?_
                  refine xA.goto (q := 45) rfl rfl ?_
                  refine xA.istore_n (i := 3) (L' := [_, _, _, _, _]) rfl rfl (Nat.le_of_ble_eq_true rfl) rfl rfl ?_
                  refine xA.iinc (L' := [_, _, _, _, _]) rfl rfl (nI_1 k) rfl rfl ?_
                  refine xA.goto (q := 17) rfl rfl ?_
                  exact ih2
          · skip
            refine xA.iload rfl rfl rfl ?_
            refine xA.aload_n (i := 0) rfl rfl rfl rfl ?_
            refine xA.getI rfl f10_162 rfl rfl rfl ?_
            refine xA.topi (hgl.1) ?_
            refine xA.icmp_ge (tgt := 52) rfl rfl rfl (fun h23 => ?_) (fun h23 => ?_)
            · refine xA.iload_n (i := 1) rfl rfl rfl rfl ?_
              refine xA.iload_n (i := 3) rfl rfl rfl rfl ?_
              refine xA.if_eq (tgt := 63) rfl rfl rfl (fun h54 => ?_) (fun h54 => ?_)
              · rw [xb_eq0] at h54
                refine xA.iconst (v := 0) rfl (by decide) rfl ?_
                refine xA.ior rfl rfl ?_
                refine xA.topi ((show _ = orI (fun p => if allN (sGl s) (sL s p) = true then 1 <<< (nI p &&& 31) else (0 : Int32)) (i + 1) from by rw [orI]; congr 1; first | (rw [if_pos (show allN (sGl s) (sL s i) = true from decide_eq_true h54)]; done) | (rw [if_neg (show ¬ allN (sGl s) (sL s i) = true from fun z => h54 (of_decide_eq_true z))]; done))) ?_
                refine xA.istore_n (i := 1) (L' := [_, _, _, _, _]) rfl rfl (Nat.le_of_ble_eq_true rfl) rfl rfl ?_
                refine xA.iinc (L' := [_, _, _, _, _]) rfl rfl (nI_1 i) rfl rfl ?_
                refine xA.goto (q := 4) rfl rfl ?_
                exact ih _ _
              · rw [xb_ne0] at h54
                refine xA.iconst (v := 1) rfl (by decide) rfl ?_
                refine xA.iload_n (i := 2) rfl rfl rfl rfl ?_
                refine xA.ishl rfl rfl ?_
                refine xA.goto (q := 64) rfl rfl ?_
                refine xA.ior rfl rfl ?_
                refine xA.topi ((show _ = orI (fun p => if allN (sGl s) (sL s p) = true then 1 <<< (nI p &&& 31) else (0 : Int32)) (i + 1) from by rw [orI]; congr 1; first | (rw [if_pos (show allN (sGl s) (sL s i) = true from decide_eq_true h54)]; done) | (rw [if_neg (show ¬ allN (sGl s) (sL s i) = true from fun z => h54 (of_decide_eq_true z))]; done))) ?_
                refine xA.istore_n (i := 1) (L' := [_, _, _, _, _]) rfl rfl (Nat.le_of_ble_eq_true rfl) rfl rfl ?_
                refine xA.iinc (L' := [_, _, _, _, _]) rfl rfl (nI_1 i) rfl rfl ?_
                refine xA.goto (q := 4) rfl rfl ?_
                exact ih _ _
            · exact absurd (nI_le (Nat.le_refl _) (by omega)) h23
        exact loop2 0 (Nat.zero_le _)
    · intro x3 x4
      refine xA.iload_n (i := 2) rfl rfl rfl rfl ?_
      refine xA.aload_n (i := 0) rfl rfl rfl rfl ?_
      refine xA.getI rfl f10_156 rfl rfl rfl ?_
      refine xA.topi (hpp.1) ?_
      refine xA.icmp_ge (tgt := 72) rfl rfl rfl (fun h9 => ?_) (fun h9 => ?_)
      · refine xA.iload_n (i := 1) rfl rfl rfl rfl ?_
        exact xA.iret rfl rfl rfl ⟨rfl, rfl⟩
      · exact absurd (nI_le (Nat.le_refl _) (by omega)) h9
  refine xA.iconst (v := 0) rfl (by decide) rfl ?_
  refine xA.istore_n (i := 1) (L' := [_, _, _, _, _]) rfl rfl (Nat.le_of_ble_eq_true rfl) rfl rfl ?_
  refine xA.iconst (v := 0) rfl (by decide) rfl ?_
  refine xA.istore_n (i := 2) (L' := [_, _, _, _, _]) rfl rfl (Nat.le_of_ble_eq_true rfl) rfl rfl ?_
  exact loop 0 (Nat.zero_le _) _ _
set_option maxRecDepth 100000 in
set_option maxHeartbeats 400000 in
theorem m_whose (d : Nat) (S : Nat → Nat → Int32) (G : Nat → Nat → Int64) (s : sS) (hc : MS S s) : xR (d + 3) mX10_whose [.ref 54] S G (some (.int (whoseN s))) S G := by
  refine xC.of okX10_whose (Nat.le_of_ble_eq_true rfl) (L := [_]) rfl ?_
  refine xA.aload_n (i := 0) rfl rfl rfl rfl ?_
  refine xA.callVi (As := []) rfl k10_249 okX10_whoseOf rfl rfl rfl rfl (Nat.le_of_ble_eq_true rfl) (c_X10_whoseOf d _ G s hc) rfl rfl ?_
  exact xA.iret rfl rfl rfl ⟨rfl, rfl⟩
set_option maxRecDepth 100000 in
set_option maxHeartbeats 400000 in
theorem c_X10_pairOf (d : Nat) (S : Nat → Nat → Int32) (G : Nat → Nat → Int64) (s : sS) (hc : MS S s) (p b : Nat) (hp : p < sP s) (hb : b < sP s) : xR (d + 2) mX10_pairOf [.ref 54, .int (nI p), .int (nI b)] S G (some (.int (pairN (sGl s) (sL s p) (sL s b)))) S G := by
  have hc0 := hc
  obtain ⟨hpg, hho, hpp, htk, hgl, hsd, him, hno⟩ := hc
  have hg8 := hgl.2.1
  refine xC.of okX10_pairOf (Nat.le_of_ble_eq_true rfl) (L := [_, _, _, _, _]) rfl ?_
  have loop : ∀ i, i ≤ (sGl s).1 → xA none (d + 2) mX10_pairOf 0 0 0 0 5 [some (.ref 54), some (.int (nI p)), some (.int (nI b)), some (.int (prI (fun q => (if 0 < atN (sL s p) (nI ((sGl s).2 q)) then (1 : Int32) else 0) + (if 0 < atN (sL s b) (nI ((sGl s).2 q)) then 1 else 0)) i)), some (.int (nI i))] [] (σF, S, G) (fun r' h' => r' = (some (.int (pairN (sGl s) (sL s p) (sL s b)))) ∧ h' = (σF, S, G)) := by
    refine xloop (sGl s).1 (fun i hi ih => ?_) ?_
    · skip
      refine xA.iload rfl rfl rfl ?_
      refine xA.aload_n (i := 0) rfl rfl rfl rfl ?_
      refine xA.getI rfl f10_162 rfl rfl rfl ?_
      refine xA.topi (hgl.1) ?_
      refine xA.icmp_ge (tgt := 54) rfl rfl rfl (fun h11 => ?_) (fun h11 => ?_)
      · exact absurd h11 (nI_ge hi (by omega))
      · refine xA.iload_n (i := 3) rfl rfl rfl rfl ?_
        refine xA.aload_n (i := 0) rfl rfl rfl rfl ?_
        refine xA.iload_n (i := 1) rfl rfl rfl rfl ?_
        refine xA.iload rfl rfl rfl ?_
        refine xA.callVi (As := [_, _]) rfl k10_246 okX10_isThere rfl rfl rfl rfl (Nat.le_of_ble_eq_true rfl) (c_X10_isThere d _ G s hc0 p hp i hi) rfl rfl ?_
        refine xA.if_eq (tgt := 29) rfl rfl rfl (fun h22 => ?_) (fun h22 => ?_)
        · rw [xb_eq0] at h22
          refine xA.iconst (v := 0) rfl (by decide) rfl ?_
          refine xA.aload_n (i := 0) rfl rfl rfl rfl ?_
          refine xA.iload_n (i := 2) rfl rfl rfl rfl ?_
          refine xA.iload rfl rfl rfl ?_
          refine xA.callVi (As := [_, _]) rfl k10_246 okX10_isThere rfl rfl rfl rfl (Nat.le_of_ble_eq_true rfl) (c_X10_isThere d _ G s hc0 b hb i hi) rfl rfl ?_
          refine xA.if_eq (tgt := 44) rfl rfl rfl (fun h37 => ?_) (fun h37 => ?_)
          · rw [xb_eq0] at h37
            refine xA.iconst (v := 0) rfl (by decide) rfl ?_
            refine xA.iadd rfl rfl ?_
            refine xA.imul rfl rfl ?_
            refine xA.topi ((show _ = prI (fun q => (if 0 < atN (sL s p) (nI ((sGl s).2 q)) then (1 : Int32) else 0) + (if 0 < atN (sL s b) (nI ((sGl s).2 q)) then 1 else 0)) (i + 1) from by rw [prI]; congr 1; first | (rw [if_pos h22, if_pos h37]; done) | (rw [if_pos h22, if_neg h37]; done) | (rw [if_neg h22, if_pos h37]; done) | (rw [if_neg h22, if_neg h37]; done))) ?_
            refine xA.istore_n (i := 3) (L' := [_, _, _, _, _]) rfl rfl (Nat.le_of_ble_eq_true rfl) rfl rfl ?_
            refine xA.iinc (L' := [_, _, _, _, _]) rfl rfl (nI_1 i) rfl rfl ?_
            refine xA.goto (q := 5) rfl rfl ?_
            exact ih
          · rw [xb_ne0] at h37
            refine xA.iconst (v := 1) rfl (by decide) rfl ?_
            refine xA.goto (q := 45) rfl rfl ?_
            refine xA.iadd rfl rfl ?_
            refine xA.imul rfl rfl ?_
            refine xA.topi ((show _ = prI (fun q => (if 0 < atN (sL s p) (nI ((sGl s).2 q)) then (1 : Int32) else 0) + (if 0 < atN (sL s b) (nI ((sGl s).2 q)) then 1 else 0)) (i + 1) from by rw [prI]; congr 1; first | (rw [if_pos h22, if_pos h37]; done) | (rw [if_pos h22, if_neg h37]; done) | (rw [if_neg h22, if_pos h37]; done) | (rw [if_neg h22, if_neg h37]; done))) ?_
            refine xA.istore_n (i := 3) (L' := [_, _, _, _, _]) rfl rfl (Nat.le_of_ble_eq_true rfl) rfl rfl ?_
            refine xA.iinc (L' := [_, _, _, _, _]) rfl rfl (nI_1 i) rfl rfl ?_
            refine xA.goto (q := 5) rfl rfl ?_
            exact ih
        · rw [xb_ne0] at h22
          refine xA.iconst (v := 1) rfl (by decide) rfl ?_
          refine xA.goto (q := 30) rfl rfl ?_
          refine xA.aload_n (i := 0) rfl rfl rfl rfl ?_
          refine xA.iload_n (i := 2) rfl rfl rfl rfl ?_
          refine xA.iload rfl rfl rfl ?_
          refine xA.callVi (As := [_, _]) rfl k10_246 okX10_isThere rfl rfl rfl rfl (Nat.le_of_ble_eq_true rfl) (c_X10_isThere d _ G s hc0 b hb i hi) rfl rfl ?_
          refine xA.if_eq (tgt := 44) rfl rfl rfl (fun h37 => ?_) (fun h37 => ?_)
          · rw [xb_eq0] at h37
            refine xA.iconst (v := 0) rfl (by decide) rfl ?_
            refine xA.iadd rfl rfl ?_
            refine xA.imul rfl rfl ?_
            refine xA.topi ((show _ = prI (fun q => (if 0 < atN (sL s p) (nI ((sGl s).2 q)) then (1 : Int32) else 0) + (if 0 < atN (sL s b) (nI ((sGl s).2 q)) then 1 else 0)) (i + 1) from by rw [prI]; congr 1; first | (rw [if_pos h22, if_pos h37]; done) | (rw [if_pos h22, if_neg h37]; done) | (rw [if_neg h22, if_pos h37]; done) | (rw [if_neg h22, if_neg h37]; done))) ?_
            refine xA.istore_n (i := 3) (L' := [_, _, _, _, _]) rfl rfl (Nat.le_of_ble_eq_true rfl) rfl rfl ?_
            refine xA.iinc (L' := [_, _, _, _, _]) rfl rfl (nI_1 i) rfl rfl ?_
            refine xA.goto (q := 5) rfl rfl ?_
            exact ih
          · rw [xb_ne0] at h37
            refine xA.iconst (v := 1) rfl (by decide) rfl ?_
            refine xA.goto (q := 45) rfl rfl ?_
            refine xA.iadd rfl rfl ?_
            refine xA.imul rfl rfl ?_
            refine xA.topi ((show _ = prI (fun q => (if 0 < atN (sL s p) (nI ((sGl s).2 q)) then (1 : Int32) else 0) + (if 0 < atN (sL s b) (nI ((sGl s).2 q)) then 1 else 0)) (i + 1) from by rw [prI]; congr 1; first | (rw [if_pos h22, if_pos h37]; done) | (rw [if_pos h22, if_neg h37]; done) | (rw [if_neg h22, if_pos h37]; done) | (rw [if_neg h22, if_neg h37]; done))) ?_
            refine xA.istore_n (i := 3) (L' := [_, _, _, _, _]) rfl rfl (Nat.le_of_ble_eq_true rfl) rfl rfl ?_
            refine xA.iinc (L' := [_, _, _, _, _]) rfl rfl (nI_1 i) rfl rfl ?_
            refine xA.goto (q := 5) rfl rfl ?_
            exact ih
    · skip
      refine xA.iload rfl rfl rfl ?_
      refine xA.aload_n (i := 0) rfl rfl rfl rfl ?_
      refine xA.getI rfl f10_162 rfl rfl rfl ?_
      refine xA.topi (hgl.1) ?_
      refine xA.icmp_ge (tgt := 54) rfl rfl rfl (fun h11 => ?_) (fun h11 => ?_)
      · refine xA.iload_n (i := 3) rfl rfl rfl rfl ?_
        exact xA.iret rfl rfl rfl ⟨rfl, rfl⟩
      · exact absurd (nI_le (Nat.le_refl _) (by omega)) h11
  refine xA.iconst (v := 1) rfl (by decide) rfl ?_
  refine xA.istore_n (i := 3) (L' := [_, _, _, _, _]) rfl rfl (Nat.le_of_ble_eq_true rfl) rfl rfl ?_
  refine xA.iconst (v := 0) rfl (by decide) rfl ?_
  refine xA.istore (L' := [_, _, _, _, _]) rfl (Nat.le_of_ble_eq_true rfl) rfl rfl ?_
  exact loop 0 (Nat.zero_le _)
set_option maxRecDepth 100000 in
set_option maxHeartbeats 400000 in
theorem m_pair (d : Nat) (S : Nat → Nat → Int32) (G : Nat → Nat → Int64) (s : sS) (hc : MS S s) (x y : Int32) : xR (d + 3) mX10_pair [.ref 54, .int x, .int y] S G (some (.int (aPair s x y))) S G := by
  have hc0 := hc
  obtain ⟨hpg, hho, hpp, htk, hgl, hsd, him, hno⟩ := hc
  refine xC.of okX10_pair (Nat.le_of_ble_eq_true rfl) (L := [_, _, _]) rfl ?_
  refine xA.aload_n (i := 0) rfl rfl rfl rfl ?_
  refine xA.iload_n (i := 1) rfl rfl rfl rfl ?_
  refine xA.iload_n (i := 2) rfl rfl rfl rfl ?_
  refine xA.callVi (As := [_, _]) rfl k10_220 okX10_arePair rfl rfl rfl rfl (Nat.le_of_ble_eq_true rfl) (c_X10_arePair d _ G s hc0 x y) rfl rfl ?_
  refine xA.if_eq (tgt := 18) rfl rfl rfl (fun h6 => ?_) (fun h6 => ?_)
  · rw [xb_eq0] at h6
    refine xA.bipush (v := (-101)) rfl (by decide) rfl ?_
    exact xA.iret rfl rfl rfl ⟨by first | (rw [aPair, if_neg h6]; done) | (rw [aPair, if_pos h6, hcp, hcb]; done), rfl⟩
  · rw [xb_ne0] at h6
    obtain ⟨p, hp, rfl⟩ := rg_nI h6.1 (by have := hpp.2.1; omega)
    obtain ⟨b, hb, rfl⟩ := rg_nI h6.2.1 (by have := hpp.2.1; omega)
    have hcp : (nI p).toNatClampNeg = p := nI_clamp (by have := hpp.2.1; omega)
    have hcb : (nI b).toNatClampNeg = b := nI_clamp (by have := hpp.2.1; omega)
    refine xA.aload_n (i := 0) rfl rfl rfl rfl ?_
    refine xA.iload_n (i := 1) rfl rfl rfl rfl ?_
    refine xA.iload_n (i := 2) rfl rfl rfl rfl ?_
    refine xA.callVi (As := [_, _]) rfl k10_252 okX10_pairOf rfl rfl rfl rfl (Nat.le_of_ble_eq_true rfl) (c_X10_pairOf d _ G s hc0 p b hp hb) rfl rfl ?_
    refine xA.goto (q := 20) rfl rfl ?_
    exact xA.iret rfl rfl rfl ⟨by first | (rw [aPair, if_neg h6]; done) | (rw [aPair, if_pos h6, hcp, hcb]; done), rfl⟩

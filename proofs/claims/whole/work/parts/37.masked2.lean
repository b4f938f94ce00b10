/-! ===== the reference asks: selves ===== -/
theorem sp_eq {a m r : Nat} (ha : a < 360) (hm : m < 60) (hr : r < 6) : nI a = nI (m * 6 + r) ↔ nI (a / 6) = nI m ∧ nI (a % 6) = nI r := by
  rw [nI_eq (by omega) (by omega), nI_eq (by omega) (by omega), nI_eq (by omega) (by omega)]
  omega

set_option maxRecDepth 100000 in
set_option maxHeartbeats 400000 in
theorem c_X10_thereOf (d : Nat) (S : Nat → Nat → Int32) (G : Nat → Nat → Int64) (s : sS) (hc : MS S s) (p : Nat) (hp : p < sP s) (m r : Nat) (hm : m < 60) (hr : r < 6) : xR d mX10_thereOf [.ref 54, .int (nI p), .int (nI m), .int (nI r)] S G (some (.int (nI (atN (sL s p) (nI (m * 6 + r)))))) S G := by
  obtain ⟨hpg, hho, hpp, htk, hgl, hsd, him, hno⟩ := hc
  have hp4 := hpp.2.1
  obtain ⟨hkd, hkd5, hse, hlo, hrw, hg⟩ := hpp.2.2 p hp
  have hn17 := hg.1
  have hrg : rg (nI p) (sP s) := rg_of hp (by omega)
  have hcp : (nI p).toNatClampNeg = p := nI_clamp (by omega)
  refine xC.of okX10_thereOf (Nat.le_of_ble_eq_true rfl) (L := [_, _, _, _, _, _]) rfl ?_
  have loop : ∀ i, i ≤ (lN' (sL s p)) → xA none d mX10_thereOf 0 0 0 0 6 [some (.ref 54), some (.int (nI p)), some (.int (nI m)), some (.int (nI r)), some (.int (nI (cn (fun j => decide (nI (lSp (sL s p) j) = nI (m * 6 + r))) i))), some (.int (nI i))] [] (σF, S, G) (fun r' h' => r' = (some (.int (nI (atN (sL s p) (nI (m * 6 + r)))))) ∧ h' = (σF, S, G)) := by
    refine xloop (lN' (sL s p)) (fun i hi ih => ?_) ?_
    · skip
      refine xA.iload rfl rfl rfl ?_
      refine xA.aload_n (i := 0) rfl rfl rfl rfl ?_
      refine xA.getR rfl f10_40 rfl rfl rfl rfl ?_
      refine xA.iload_n (i := 1) rfl rfl rfl rfl ?_
      refine xA.iald rfl rfl (vp_in_nI (by omega) (by omega)) rfl ?_
      refine xA.topi ((show S 65 (nI p).toNatClampNeg = nI (lN' (sL s p)) from by rw [hcp]; exact hse)) ?_
      refine xA.icmp_ge (tgt := 65) rfl rfl rfl (fun h14 => ?_) (fun h14 => ?_)
      · exact absurd h14 (nI_ge hi (by omega))
      · refine xA.iload rfl rfl rfl ?_
        refine xA.aload_n (i := 0) rfl rfl rfl rfl ?_
        refine xA.getR rfl f10_46 rfl rfl rfl rfl ?_
        refine xA.bipush (v := 17) rfl (by decide) rfl ?_
        refine xA.iload_n (i := 1) rfl rfl rfl rfl ?_
        refine xA.imul rfl rfl ?_
        refine xA.topi (n17 p) ?_
        refine xA.iload rfl rfl rfl ?_
        refine xA.iadd rfl rfl ?_
        refine xA.topi (nI_add _ _) ?_
        refine xA.iald rfl rfl (vp_in_nI (by omega) (by omega)) rfl ?_
        refine xA.topi ((show S 67 (nI (17 * p + i)).toNatClampNeg = nI (lSp (sL s p) i / 6) from by rw [nI_clamp (by omega)]; exact (hrw _ (by omega)).1)) ?_
        refine xA.iload_n (i := 2) rfl rfl rfl rfl ?_
        refine xA.icmp_ne (tgt := 55) rfl rfl rfl (fun h32 => ?_) (fun h32 => ?_)
        · refine xA.iconst (v := 0) rfl (by decide) rfl ?_
          refine xA.iadd rfl rfl ?_
          refine xA.topi ((show _ = nI (cn (fun j => decide (nI (lSp (sL s p) j) = nI (m * 6 + r))) (i + 1)) from by first | exact cn_t (decide_eq_true ((sp_eq (hg.2.1 i hi) hm hr).mpr ⟨h32, h48⟩)) | exact cn_f (decide_eq_false (fun q => h32 ((sp_eq (hg.2.1 i hi) hm hr).mp q).1)) | exact cn_f (decide_eq_false (fun q => h48 ((sp_eq (hg.2.1 i hi) hm hr).mp q).2)))) ?_
          refine xA.istore (L' := [_, _, _, _, _, _]) rfl (Nat.le_of_ble_eq_true rfl) rfl rfl ?_
          refine xA.iinc (L' := [_, _, _, _, _, _]) rfl rfl (nI_1 i) rfl rfl ?_
          refine xA.goto (q := 6) rfl rfl ?_
          exact ih
        · refine xA.aload_n (i := 0) rfl rfl rfl rfl ?_
          refine xA.getR rfl f10_49 rfl rfl rfl rfl ?_
          refine xA.bipush (v := 17) rfl (by decide) rfl ?_
          refine xA.iload_n (i := 1) rfl rfl rfl rfl ?_
          refine xA.imul rfl rfl ?_
          refine xA.topi (n17 p) ?_
          refine xA.iload rfl rfl rfl ?_
          refine xA.iadd rfl rfl ?_
          refine xA.topi (nI_add _ _) ?_
          refine xA.iald rfl rfl (vp_in_nI (by omega) (by omega)) rfl ?_
          refine xA.topi ((show S 68 (nI (17 * p + i)).toNatClampNeg = nI (lSp (sL s p) i % 6) from by rw [nI_clamp (by omega)]; exact (hrw _ (by omega)).2)) ?_
          refine xA.iload_n (i := 3) rfl rfl rfl rfl ?_
          refine xA.icmp_ne (tgt := 55) rfl rfl rfl (fun h48 => ?_) (fun h48 => ?_)
          · refine xA.iconst (v := 0) rfl (by decide) rfl ?_
            refine xA.iadd rfl rfl ?_
            refine xA.topi ((show _ = nI (cn (fun j => decide (nI (lSp (sL s p) j) = nI (m * 6 + r))) (i + 1)) from by first | exact cn_t (decide_eq_true ((sp_eq (hg.2.1 i hi) hm hr).mpr ⟨h32, h48⟩)) | exact cn_f (decide_eq_false (fun q => h32 ((sp_eq (hg.2.1 i hi) hm hr).mp q).1)) | exact cn_f (decide_eq_false (fun q => h48 ((sp_eq (hg.2.1 i hi) hm hr).mp q).2)))) ?_
            refine xA.istore (L' := [_, _, _, _, _, _]) rfl (Nat.le_of_ble_eq_true rfl) rfl rfl ?_
            refine xA.iinc (L' := [_, _, _, _, _, _]) rfl rfl (nI_1 i) rfl rfl ?_
            refine xA.goto (q := 6) rfl rfl ?_
            exact ih
          · refine xA.iconst (v := 1) rfl (by decide) rfl ?_
            refine xA.goto (q := 56) rfl rfl ?_
            refine xA.iadd rfl rfl ?_
            refine xA.topi ((show _ = nI (cn (fun j => decide (nI (lSp (sL s p) j) = nI (m * 6 + r))) (i + 1)) from by first | exact cn_t (decide_eq_true ((sp_eq (hg.2.1 i hi) hm hr).mpr ⟨h32, h48⟩)) | exact cn_f (decide_eq_false (fun q => h32 ((sp_eq (hg.2.1 i hi) hm hr).mp q).1)) | exact cn_f (decide_eq_false (fun q => h48 ((sp_eq (hg.2.1 i hi) hm hr).mp q).2)))) ?_
            refine xA.istore (L' := [_, _, _, _, _, _]) rfl (Nat.le_of_ble_eq_true rfl) rfl rfl ?_
            refine xA.iinc (L' := [_, _, _, _, _, _]) rfl rfl (nI_1 i) rfl rfl ?_
            refine xA.goto (q := 6) rfl rfl ?_
            exact ih
    · skip
      refine xA.iload rfl rfl rfl ?_
      refine xA.aload_n (i := 0) rfl rfl rfl rfl ?_
      refine xA.getR rfl f10_40 rfl rfl rfl rfl ?_
      refine xA.iload_n (i := 1) rfl rfl rfl rfl ?_
      refine xA.iald rfl rfl (vp_in_nI (by omega) (by omega)) rfl ?_
      refine xA.topi ((show S 65 (nI p).toNatClampNeg = nI (lN' (sL s p)) from by rw [hcp]; exact hse)) ?_
      refine xA.icmp_ge (tgt := 65) rfl rfl rfl (fun h14 => ?_) (fun h14 => ?_)
      · refine xA.iload rfl rfl rfl ?_
        exact xA.iret rfl rfl rfl ⟨rfl, rfl⟩
      · exact absurd (nI_le (Nat.le_refl _) (by omega)) h14
  refine xA.iconst (v := 0) rfl (by decide) rfl ?_
  refine xA.istore (L' := [_, _, _, _, _, _]) rfl (Nat.le_of_ble_eq_true rfl) rfl rfl ?_
  refine xA.iconst (v := 0) rfl (by decide) rfl ?_
  refine xA.istore (L' := [_, _, _, _, _, _]) rfl (Nat.le_of_ble_eq_true rfl) rfl rfl ?_
  exact loop 0 (Nat.zero_le _)
set_option maxRecDepth 100000 in
set_option maxHeartbeats 400000 in
theorem c_X10_isThere (d : Nat) (S : Nat → Nat → Int32) (G : Nat → Nat → Int64) (s : sS) (hc : MS S s) (p : Nat) (hp : p < sP s) (q : Nat) (hq : q < (sGl s).1) : xR (d + 1) mX10_isThere [.ref 54, .int (nI p), .int (nI q)] S G (some (.int (xb (0 < atN (sL s p) (nI ((sGl s).2 q)))))) S G := by
  have hc0 := hc
  obtain ⟨hpg, hho, hpp, htk, hgl, hsd, him, hno⟩ := hc
  have hg8 := hgl.2.1
  have h360 := (hgl.2.2 q hq).2.2
  have hat : atN (sL s p) (nI ((sGl s).2 q)) ≤ 17 := Nat.le_trans (cn_le _ _) (hpp.2.2 p hp).2.2.2.2.2.1
  refine xC.of okX10_isThere (Nat.le_of_ble_eq_true rfl) (L := [_, _, _]) rfl ?_
  refine xA.aload_n (i := 0) rfl rfl rfl rfl ?_
  refine xA.iload_n (i := 1) rfl rfl rfl rfl ?_
  refine xA.aload_n (i := 0) rfl rfl rfl rfl ?_
  refine xA.getR rfl f10_61 rfl rfl rfl rfl ?_
  refine xA.iconst (v := 2) rfl (by decide) rfl ?_
  refine xA.iload_n (i := 2) rfl rfl rfl rfl ?_
  refine xA.imul rfl rfl ?_
  refine xA.topi (n2 q) ?_
  refine xA.iald rfl rfl (vp_in_nI (by omega) (by omega)) rfl ?_
  refine xA.topi ((show S 72 (nI (2 * q)).toNatClampNeg = nI ((sGl s).2 q / 6) from by rw [nI_clamp (by omega)]; exact (hgl.2.2 q hq).1)) ?_
  refine xA.aload_n (i := 0) rfl rfl rfl rfl ?_
  refine xA.getR rfl f10_61 rfl rfl rfl rfl ?_
  refine xA.iconst (v := 2) rfl (by decide) rfl ?_
  refine xA.iload_n (i := 2) rfl rfl rfl rfl ?_
  refine xA.imul rfl rfl ?_
  refine xA.topi (n2 q) ?_
  refine xA.iconst (v := 1) rfl (by decide) rfl ?_
  refine xA.iadd rfl rfl ?_
  refine xA.topi (nI_1 _) ?_
  refine xA.iald rfl rfl (vp_in_nI (by omega) (by omega)) rfl ?_
  refine xA.topi ((show S 72 (nI (2 * q + 1)).toNatClampNeg = nI ((sGl s).2 q % 6) from by rw [nI_clamp (by omega)]; exact (hgl.2.2 q hq).2.1)) ?_
  refine xA.callVi (As := [_, _, _]) rfl k10_206 okX10_thereOf rfl rfl rfl rfl (Nat.le_of_ble_eq_true rfl) (c_X10_thereOf d _ G s hc0 p hp ((sGl s).2 q / 6) ((sGl s).2 q % 6) (by omega) (by omega)) rfl rfl ?_
  refine xA.topi (show _ = nI (atN (sL s p) (nI ((sGl s).2 q))) from by rw [show (sGl s).2 q / 6 * 6 + (sGl s).2 q % 6 = (sGl s).2 q by omega]) ?_
  refine xA.if_le (tgt := 30) rfl rfl rfl (fun h23 => ?_) (fun h23 => ?_)
  · refine xA.iconst (v := 0) rfl (by decide) rfl ?_
    exact xA.iret rfl rfl rfl ⟨by first | (rw [xb_t (nI_posi h23)]; done) | (rw [xb_f (fun z => absurd h23 (by rw [show (0 : Int32) = nI 0 from rfl, nI_leI (by omega) (by omega)]; omega))]; done), rfl⟩
  · refine xA.iconst (v := 1) rfl (by decide) rfl ?_
    refine xA.goto (q := 31) rfl rfl ?_
    exact xA.iret rfl rfl rfl ⟨by first | (rw [xb_t (nI_posi h23)]; done) | (rw [xb_f (fun z => absurd h23 (by rw [show (0 : Int32) = nI 0 from rfl, nI_leI (by omega) (by omega)]; omega))]; done), rfl⟩
set_option maxRecDepth 100000 in
set_option maxHeartbeats 400000 in
theorem m_there (d : Nat) (S : Nat → Nat → Int32) (G : Nat → Nat → Int64) (s : sS) (hc : MS S s) (x m r : Int32) : xR (d + 2) mX10_there [.ref 54, .int x, .int m, .int r] S G (some (.int (aThere s x m r))) S G := by
  have hc0 := hc
  obtain ⟨hpg, hho, hpp, htk, hgl, hsd, him, hno⟩ := hc
  refine xC.of okX10_there (Nat.le_of_ble_eq_true rfl) (L := [_, _, _, _]) rfl ?_
  refine xA.aload_n (i := 0) rfl rfl rfl rfl ?_
  refine xA.iload_n (i := 1) rfl rfl rfl rfl ?_
  refine xA.callVi (As := [_]) rfl k10_193 okX10_isPerson rfl rfl rfl rfl (Nat.le_of_ble_eq_true rfl) (c_X10_isPerson d _ G x (sP s) hpp.1 hpp.2.1) rfl rfl ?_
  refine xA.if_eq (tgt := 15) rfl rfl rfl (fun h5 => ?_) (fun h5 => ?_)
  · rw [xb_eq0] at h5
    refine xA.bipush (v := (-101)) rfl (by decide) rfl ?_
    exact xA.iret rfl rfl rfl ⟨by rw [aThere, if_neg]; rintro ⟨q1, q2⟩; first | exact h5 q1 | exact h12 q2, rfl⟩
  · rw [xb_ne0] at h5
    refine xA.iload_n (i := 3) rfl rfl rfl rfl ?_
    refine xA.callSi (As := [_]) rfl k10_168 okX10_isRoom rfl rfl (Nat.le_of_ble_eq_true rfl) (c_X10_isRoom d _ G r) rfl rfl ?_
    refine xA.if_ne (tgt := 18) rfl rfl rfl (fun h12 => ?_) (fun h12 => ?_)
    · rw [xb_ne0] at h12
      refine xA.iload_n (i := 2) rfl rfl rfl rfl ?_
      refine xA.i2l rfl rfl ?_
      refine xA.lconst (v := 0) rfl (by decide) rfl ?_
      refine xA.ldc2 (v := 59) rfl w1064 rfl ?_
      refine xA.callSi (As := [_, _, _]) rfl k10_96 okX10_in rfl rfl (Nat.le_of_ble_eq_true rfl) (c_X10_in (d + 1) _ G m 0 59) rfl rfl ?_
      refine xA.topi (xb_iff (in_rg (n := 59) (by omega))) ?_
      refine xA.if_eq (tgt := 40) rfl rfl rfl (fun h27 => ?_) (fun h27 => ?_)
      · rw [xb_eq0] at h27
        refine xA.bipush (v := (-102)) rfl (by decide) rfl ?_
        exact xA.iret rfl rfl rfl ⟨by first | (rw [aThere, if_pos ⟨h5, h12⟩, if_neg h27]; done) | (rw [aThere, if_pos ⟨h5, h12⟩, if_pos h27, hcp, nI_spot]; done), rfl⟩
      · rw [xb_ne0] at h27
        obtain ⟨p, hp, rfl⟩ := rg_nI h5 (by have := hpp.2.1; omega)
        have hcp : (nI p).toNatClampNeg = p := nI_clamp (by have := hpp.2.1; omega)
        obtain ⟨mm, hmm, rfl⟩ := rg_nI h27 (by omega)
        obtain ⟨rr, hrr, rfl⟩ := rg_nI h12 (by omega)
        refine xA.aload_n (i := 0) rfl rfl rfl rfl ?_
        refine xA.iload_n (i := 1) rfl rfl rfl rfl ?_
        refine xA.iload_n (i := 2) rfl rfl rfl rfl ?_
        refine xA.iload_n (i := 3) rfl rfl rfl rfl ?_
        refine xA.callVi (As := [_, _, _]) rfl k10_206 okX10_thereOf rfl rfl rfl rfl (Nat.le_of_ble_eq_true rfl) (c_X10_thereOf (d + 1) _ G s hc0 p hp mm rr hmm hrr) rfl rfl ?_
        refine xA.goto (q := 42) rfl rfl ?_
        exact xA.iret rfl rfl rfl ⟨by first | (rw [aThere, if_pos ⟨h5, h12⟩, if_neg h27]; done) | (rw [aThere, if_pos ⟨h5, h12⟩, if_pos h27, hcp, nI_spot]; done), rfl⟩
    · rw [xb_eq0] at h12
      refine xA.bipush (v := (-101)) rfl (by decide) rfl ?_
      exact xA.iret rfl rfl rfl ⟨by rw [aThere, if_neg]; rintro ⟨q1, q2⟩; first | exact h5 q1 | exact h12 q2, rfl⟩
set_option maxRecDepth 100000 in
set_option maxHeartbeats 400000 in
theorem m_self (d : Nat) (S : Nat → Nat → Int32) (G : Nat → Nat → Int64) (s : sS) (hc : MS S s) (x q w : Int32) : xR (d + 2) mX10_self [.ref 54, .int x, .int q, .int w] S G (some (.int (aSelf s x q w))) S G := by
  obtain ⟨hpg, hho, hpp, htk, hgl, hsd, him, hno⟩ := hc
  refine xC.of okX10_self (Nat.le_of_ble_eq_true rfl) (L := [_, _, _, _]) rfl ?_
  refine xA.aload_n (i := 0) rfl rfl rfl rfl ?_
  refine xA.iload_n (i := 1) rfl rfl rfl rfl ?_
  refine xA.callVi (As := [_]) rfl k10_193 okX10_isPerson rfl rfl rfl rfl (Nat.le_of_ble_eq_true rfl) (c_X10_isPerson d _ G x (sP s) hpp.1 hpp.2.1) rfl rfl ?_
  refine xA.if_eq (tgt := 26) rfl rfl rfl (fun h5 => ?_) (fun h5 => ?_)
  · rw [xb_eq0] at h5
    refine xA.bipush (v := (-101)) rfl (by decide) rfl ?_
    exact xA.iret rfl rfl rfl ⟨by first | (rw [aSelf, if_neg (fun z => h5 z.1)]; done) | (rw [aSelf, if_neg (fun z => h23 (by rw [hcp] at z; exact z.2))]; done), rfl⟩
  · rw [xb_ne0] at h5
    obtain ⟨p, hp, rfl⟩ := rg_nI h5 (by have := hpp.2.1; omega)
    have hp4 := hpp.2.1
    obtain ⟨hkd, hkd5, hse, hlo, hrw, hg⟩ := hpp.2.2 p hp
    have hn17 := hg.1
    have hrg : rg (nI p) (sP s) := rg_of hp (by omega)
    have hcp : (nI p).toNatClampNeg = p := nI_clamp (by omega)
    refine xA.iload_n (i := 2) rfl rfl rfl rfl ?_
    refine xA.i2l rfl rfl ?_
    refine xA.lconst (v := 0) rfl (by decide) rfl ?_
    refine xA.aload_n (i := 0) rfl rfl rfl rfl ?_
    refine xA.getR rfl f10_40 rfl rfl rfl rfl ?_
    refine xA.iload_n (i := 1) rfl rfl rfl rfl ?_
    refine xA.iald rfl rfl (vp_in_nI (by omega) (by omega)) rfl ?_
    refine xA.topi ((show S 65 (nI p).toNatClampNeg = nI (lN' (sL s p)) from by rw [hcp]; exact hse)) ?_
    refine xA.iconst (v := 1) rfl (by decide) rfl ?_
    refine xA.isub rfl rfl ?_
    refine xA.i2l rfl rfl ?_
    refine xA.callSi (As := [_, _, _]) rfl k10_96 okX10_in rfl rfl (Nat.le_of_ble_eq_true rfl) (c_X10_in (d + 1) _ G q 0 (nI (lN' (sL s p)) - 1)) rfl rfl ?_
    refine xA.topi (xb_iff (in_rgm (by omega))) ?_
    refine xA.if_ne (tgt := 29) rfl rfl rfl (fun h23 => ?_) (fun h23 => ?_)
    · rw [xb_ne0] at h23
      obtain ⟨i, hi, rfl⟩ := rg_nI h23 (by omega)
      have hci : (nI i).toNatClampNeg = i := nI_clamp (by omega)
      refine xA.iload_n (i := 3) rfl rfl rfl rfl ?_
      refine xA.if_ne (tgt := 47) rfl rfl rfl (fun h30 => ?_) (fun h30 => ?_)
      · refine xA.iload_n (i := 3) rfl rfl rfl rfl ?_
        refine xA.iconst (v := 1) rfl (by decide) rfl ?_
        refine xA.icmp_ne (tgt := 66) rfl rfl rfl (fun h49 => ?_) (fun h49 => ?_)
        · refine xA.bipush (v := (-102)) rfl (by decide) rfl ?_
          exact xA.iret rfl rfl rfl ⟨by first | (rw [aSelf, hcp, if_pos ⟨h5, h23⟩, if_pos h30, hci]; done) | (rw [aSelf, hcp, if_pos ⟨h5, h23⟩, if_neg h30, if_pos h49, hci]; done) | (rw [aSelf, hcp, if_pos ⟨h5, h23⟩, if_neg h30, if_neg h49]; done), rfl⟩
        · refine xA.aload_n (i := 0) rfl rfl rfl rfl ?_
          refine xA.getR rfl f10_49 rfl rfl rfl rfl ?_
          refine xA.bipush (v := 17) rfl (by decide) rfl ?_
          refine xA.iload_n (i := 1) rfl rfl rfl rfl ?_
          refine xA.imul rfl rfl ?_
          refine xA.topi (n17 p) ?_
          refine xA.iload_n (i := 2) rfl rfl rfl rfl ?_
          refine xA.iadd rfl rfl ?_
          refine xA.topi (nI_add _ _) ?_
          refine xA.iald rfl rfl (vp_in_nI (by omega) (by omega)) rfl ?_
          refine xA.topi ((show S 68 (nI (17 * p + i)).toNatClampNeg = nI (lSp (sL s p) i % 6) from by rw [nI_clamp (by omega)]; exact (hrw _ (by omega)).2)) ?_
          refine xA.goto (q := 68) rfl rfl ?_
          exact xA.iret rfl rfl rfl ⟨by first | (rw [aSelf, hcp, if_pos ⟨h5, h23⟩, if_pos h30, hci]; done) | (rw [aSelf, hcp, if_pos ⟨h5, h23⟩, if_neg h30, if_pos h49, hci]; done) | (rw [aSelf, hcp, if_pos ⟨h5, h23⟩, if_neg h30, if_neg h49]; done), rfl⟩
      · refine xA.aload_n (i := 0) rfl rfl rfl rfl ?_
        refine xA.getR rfl f10_46 rfl rfl rfl rfl ?_
        refine xA.bipush (v := 17) rfl (by decide) rfl ?_
        refine xA.iload_n (i := 1) rfl rfl rfl rfl ?_
        refine xA.imul rfl rfl ?_
        refine xA.topi (n17 p) ?_
        refine xA.iload_n (i := 2) rfl rfl rfl rfl ?_
        refine xA.iadd rfl rfl ?_
        refine xA.topi (nI_add _ _) ?_
        refine xA.iald rfl rfl (vp_in_nI (by omega) (by omega)) rfl ?_
        refine xA.topi ((show S 67 (nI (17 * p + i)).toNatClampNeg = nI (lSp (sL s p) i / 6) from by rw [nI_clamp (by omega)]; exact (hrw _ (by omega)).1)) ?_
        refine xA.goto (q := 68) rfl rfl ?_
        exact xA.iret rfl rfl rfl ⟨by first | (rw [aSelf, hcp, if_pos ⟨h5, h23⟩, if_pos h30, hci]; done) | (rw [aSelf, hcp, if_pos ⟨h5, h23⟩, if_neg h30, if_pos h49, hci]; done) | (rw [aSelf, hcp, if_pos ⟨h5, h23⟩, if_neg h30, if_neg h49]; done), rfl⟩
    · rw [xb_eq0] at h23
      refine xA.bipush (v := (-101)) rfl (by decide) rfl ?_
      exact xA.iret rfl rfl rfl ⟨by first | (rw [aSelf, if_neg (fun z => h5 z.1)]; done) | (rw [aSelf, if_neg (fun z => h23 (by rw [hcp] at z; exact z.2))]; done), rfl⟩
set_option maxRecDepth 100000 in
set_option maxHeartbeats 400000 in
theorem c_X10_countOf (d : Nat) (S : Nat → Nat → Int32) (G : Nat → Nat → Int64) (s : sS) (hc : MS S s) (w : Int32) : xR d mX10_countOf [.ref 54, .int w] S G (some (.int (aCount s w))) S G := by
  obtain ⟨hpg, hho, hpp, htk, hgl, hsd, him, hno⟩ := hc
  refine xC.of okX10_countOf (Nat.le_of_ble_eq_true rfl) (L := [_, _]) rfl ?_
  refine xA.iload_n (i := 1) rfl rfl rfl rfl ?_
  by_cases h1_0 : w = 0
  · subst h1_0
    refine xA.tsIn (q := 56) rfl (by decide) (by decide) rfl rfl ?_
    refine xA.aload_n (i := 0) rfl rfl rfl rfl ?_
    refine xA.getI rfl f10_147 rfl rfl rfl ?_
    refine xA.topi (hho.f.1) ?_
    exact xA.iret rfl rfl rfl ⟨rfl, rfl⟩
  by_cases h1_1 : w = 1
  · subst h1_1
    refine xA.tsIn (q := 61) rfl (by decide) (by decide) rfl rfl ?_
    refine xA.aload_n (i := 0) rfl rfl rfl rfl ?_
    refine xA.getI rfl f10_150 rfl rfl rfl ?_
    refine xA.topi (hho.f.2.1) ?_
    exact xA.iret rfl rfl rfl ⟨rfl, rfl⟩
  by_cases h1_2 : w = 2
  · subst h1_2
    refine xA.tsIn (q := 66) rfl (by decide) (by decide) rfl rfl ?_
    refine xA.aload_n (i := 0) rfl rfl rfl rfl ?_
    refine xA.getI rfl f10_156 rfl rfl rfl ?_
    refine xA.topi (hpp.1) ?_
    exact xA.iret rfl rfl rfl ⟨rfl, rfl⟩
  by_cases h1_3 : w = 3
  · subst h1_3
    refine xA.tsIn (q := 71) rfl (by decide) (by decide) rfl rfl ?_
    refine xA.aload_n (i := 0) rfl rfl rfl rfl ?_
    refine xA.getI rfl f10_159 rfl rfl rfl ?_
    refine xA.topi (htk.1) ?_
    exact xA.iret rfl rfl rfl ⟨rfl, rfl⟩
  by_cases h1_4 : w = 4
  · subst h1_4
    refine xA.tsIn (q := 76) rfl (by decide) (by decide) rfl rfl ?_
    refine xA.aload_n (i := 0) rfl rfl rfl rfl ?_
    refine xA.getI rfl f10_162 rfl rfl rfl ?_
    refine xA.topi (hgl.1) ?_
    exact xA.iret rfl rfl rfl ⟨rfl, rfl⟩
  by_cases h1_5 : w = 5
  · subst h1_5
    refine xA.tsIn (q := 81) rfl (by decide) (by decide) rfl rfl ?_
    refine xA.aload_n (i := 0) rfl rfl rfl rfl ?_
    refine xA.getI rfl f10_91 rfl rfl rfl ?_
    refine xA.topi (hpg.1) ?_
    exact xA.iret rfl rfl rfl ⟨rfl, rfl⟩
  by_cases h1_6 : w = 6
  · subst h1_6
    refine xA.tsIn (q := 86) rfl (by decide) (by decide) rfl rfl ?_
    refine xA.aload_n (i := 0) rfl rfl rfl rfl ?_
    refine xA.getI rfl f10_165 rfl rfl rfl ?_
    refine xA.topi (hho.1) ?_
    exact xA.iret rfl rfl rfl ⟨rfl, rfl⟩
  by_cases h1_7 : w = 7
  · subst h1_7
    refine xA.tsIn (q := 91) rfl (by decide) (by decide) rfl rfl ?_
    refine xA.aload_n (i := 0) rfl rfl rfl rfl ?_
    refine xA.getI rfl f10_239 rfl rfl rfl ?_
    refine xA.topi (hsd.1) ?_
    exact xA.iret rfl rfl rfl ⟨rfl, rfl⟩
  by_cases h1_8 : w = 8
  · subst h1_8
    refine xA.tsIn (q := 96) rfl (by decide) (by decide) rfl rfl ?_
    refine xA.aload_n (i := 0) rfl rfl rfl rfl ?_
    refine xA.getI rfl f10_153 rfl rfl rfl ?_
    refine xA.topi (hho.f.2.2.1) ?_
    exact xA.iret rfl rfl rfl ⟨rfl, rfl⟩
  by_cases h1_9 : w = 9
  · subst h1_9
    refine xA.tsIn (q := 101) rfl (by decide) (by decide) rfl rfl ?_
    refine xA.aload_n (i := 0) rfl rfl rfl rfl ?_
    refine xA.getI rfl f10_86 rfl rfl rfl ?_
    refine xA.topi (hho.f.2.2.2) ?_
    exact xA.iret rfl rfl rfl ⟨rfl, rfl⟩
  refine xA.tsOut (q := 106) rfl (ts_out10 h1_0 h1_1 h1_2 h1_3 h1_4 h1_5 h1_6 h1_7 h1_8 h1_9) rfl ?_
  refine xA.bipush (v := (-102)) rfl (by decide) rfl ?_
  exact xA.iret rfl rfl rfl ⟨by simp only [aCount, h1_0, h1_1, h1_2, h1_3, h1_4, h1_5, h1_6, h1_7, h1_8, h1_9, if_false], rfl⟩
set_option maxRecDepth 100000 in
set_option maxHeartbeats 400000 in
theorem m_count (d : Nat) (S : Nat → Nat → Int32) (G : Nat → Nat → Int64) (s : sS) (hc : MS S s) (w : Int32) : xR (d + 1) mX10_count [.ref 54, .int w] S G (some (.int (aCount s w))) S G := by
  refine xC.of okX10_count (Nat.le_of_ble_eq_true rfl) (L := [_, _]) rfl ?_
  refine xA.aload_n (i := 0) rfl rfl rfl rfl ?_
  refine xA.iload_n (i := 1) rfl rfl rfl rfl ?_
  refine xA.callVi (As := [_]) rfl k10_288 okX10_countOf rfl rfl rfl rfl (Nat.le_of_ble_eq_true rfl) (c_X10_countOf d _ G s hc w) rfl rfl ?_
  exact xA.iret rfl rfl rfl ⟨rfl, rfl⟩

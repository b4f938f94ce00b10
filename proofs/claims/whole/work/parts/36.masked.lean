/-! ===== the reference asks ===== -/
theorem bit1 : ∀ x, x < 64 → ∀ b, b < 6 → (nI x >>> (nI b &&& 31)) &&& 1 = (if x.testBit b = true then 1 else 0) := by decide +kernel
theorem n17 (p : Nat) : (17 : Int32) * nI p = nI (17 * p) := by rw [show (17 : Int32) = nI 17 from rfl, nI_mul]
theorem n2 (p : Nat) : (2 : Int32) * nI p = nI (2 * p) := by rw [show (2 : Int32) = nI 2 from rfl, nI_mul]
theorem n3 (p : Nat) : (3 : Int32) * nI p = nI (3 * p) := by rw [show (3 : Int32) = nI 3 from rfl, nI_mul]

set_option maxRecDepth 100000 in
set_option maxHeartbeats 400000 in
theorem c_X10_betweenOf (d : Nat) (S : Nat → Nat → Int32) (G : Nat → Nat → Int64) (s : sS) (hc : MS S s) (hr : ¬ sHr s = 0) (a b : Nat) (ha : a < 6) (hb : b < 6) : xR d mX10_betweenOf [.ref 54, .int (nI a), .int (nI b)] S G (some (.int ((if hD (sH s) (a * 6 + b) = 0 then 0 else 1) + (if (hSr (sH s) a).testBit b = true then 2 else 0)))) S G := by
  obtain ⟨hpg, hho, hpp, htk, hgl, hsd, him, hno⟩ := hc
  obtain ⟨hok, _, _, _, _, _, hdo, hsi, _⟩ := hho.2.2.2 (by omega)
  obtain ⟨x, hx, ex, ebx⟩ := hdo a ha
  have hs64 := hok.1.2.2.2.2.2.2.2.2.1 a
  refine xC.of okX10_betweenOf (Nat.le_of_ble_eq_true rfl) (L := [_, _, _]) rfl ?_
  refine xA.aload_n (i := 0) rfl rfl rfl rfl ?_
  refine xA.getR rfl f10_25 rfl rfl rfl rfl ?_
  refine xA.iload_n (i := 1) rfl rfl rfl rfl ?_
  refine xA.iald rfl rfl (vp_in_nI (by omega) (by omega)) rfl ?_
  refine xA.topi ((show S 60 (nI a).toNatClampNeg = nI x from by rw [nI_clamp (by omega)]; exact ex)) ?_
  refine xA.iload_n (i := 2) rfl rfl rfl rfl ?_
  refine xA.ishr rfl rfl ?_
  refine xA.iconst (v := 1) rfl (by decide) rfl ?_
  refine xA.iand rfl rfl ?_
  refine xA.topi (bit1 x hx b hb) ?_
  refine xA.iconst (v := 2) rfl (by decide) rfl ?_
  refine xA.aload_n (i := 0) rfl rfl rfl rfl ?_
  refine xA.getR rfl f10_28 rfl rfl rfl rfl ?_
  refine xA.iload_n (i := 1) rfl rfl rfl rfl ?_
  refine xA.iald rfl rfl (vp_in_nI (by omega) (by omega)) rfl ?_
  refine xA.topi ((show S 61 (nI a).toNatClampNeg = nI (hSr (sH s) a) from by rw [nI_clamp (by omega)]; exact hsi a ha)) ?_
  refine xA.iload_n (i := 2) rfl rfl rfl rfl ?_
  refine xA.ishr rfl rfl ?_
  refine xA.iconst (v := 1) rfl (by decide) rfl ?_
  refine xA.iand rfl rfl ?_
  refine xA.topi (bit1 _ hs64 b hb) ?_
  refine xA.imul rfl rfl ?_
  refine xA.iadd rfl rfl ?_
  refine xA.topi ((show (if x.testBit b = true then (1 : Int32) else 0) + 2 * (if (hSr (sH s) a).testBit b = true then 1 else 0) = (if hD (sH s) (a * 6 + b) = 0 then 0 else 1) + (if (hSr (sH s) a).testBit b = true then 2 else 0) from by simp only [ebx b hb]; by_cases z : hD (sH s) (a * 6 + b) = 0 <;> by_cases w : (hSr (sH s) a).testBit b = true <;> simp [z, w])) ?_
  exact xA.iret rfl rfl rfl ⟨rfl, rfl⟩
set_option maxRecDepth 100000 in
set_option maxHeartbeats 400000 in
theorem m_between (d : Nat) (S : Nat → Nat → Int32) (G : Nat → Nat → Int64) (s : sS) (hc : MS S s) (a b : Int32) : xR (d + 2) mX10_between [.ref 54, .int a, .int b] S G (some (.int (aBetween s a b))) S G := by
  have hc0 := hc
  obtain ⟨hpg, hho, hpp, htk, hgl, hsd, him, hno⟩ := hc
  refine xC.of okX10_between (Nat.le_of_ble_eq_true rfl) (L := [_, _, _]) rfl ?_
  refine xA.iload_n (i := 1) rfl rfl rfl rfl ?_
  refine xA.callSi (As := [_]) rfl k10_168 okX10_isRoom rfl rfl (Nat.le_of_ble_eq_true rfl) (c_X10_isRoom d _ G a) rfl rfl ?_
  refine xA.if_eq (tgt := 19) rfl rfl rfl (fun h4 => ?_) (fun h4 => ?_)
  · rw [xb_eq0] at h4
    refine xA.bipush (v := (-101)) rfl (by decide) rfl ?_
    exact xA.iret rfl rfl rfl ⟨by rw [aBetween, if_neg (by rintro ⟨q1, q2, q3⟩; first | exact h4 q1 | exact h11 q2 | exact q3 h16)], rfl⟩
  · rw [xb_ne0] at h4
    refine xA.iload_n (i := 2) rfl rfl rfl rfl ?_
    refine xA.callSi (As := [_]) rfl k10_168 okX10_isRoom rfl rfl (Nat.le_of_ble_eq_true rfl) (c_X10_isRoom d _ G b) rfl rfl ?_
    refine xA.if_eq (tgt := 19) rfl rfl rfl (fun h11 => ?_) (fun h11 => ?_)
    · rw [xb_eq0] at h11
      refine xA.bipush (v := (-101)) rfl (by decide) rfl ?_
      exact xA.iret rfl rfl rfl ⟨by rw [aBetween, if_neg (by rintro ⟨q1, q2, q3⟩; first | exact h4 q1 | exact h11 q2 | exact q3 h16)], rfl⟩
    · rw [xb_ne0] at h11
      refine xA.iload_n (i := 1) rfl rfl rfl rfl ?_
      refine xA.iload_n (i := 2) rfl rfl rfl rfl ?_
      refine xA.icmp_ne (tgt := 22) rfl rfl rfl (fun h16 => ?_) (fun h16 => ?_)
      · refine xA.aload_n (i := 0) rfl rfl rfl rfl ?_
        refine xA.callVi (As := []) rfl k10_171 okX10_lacks rfl rfl rfl rfl (Nat.le_of_ble_eq_true rfl) (c_X10_lacks (d + 1) _ G) rfl rfl ?_
        refine xA.if_eq (tgt := 34) rfl rfl rfl (fun h26 => ?_) (fun h26 => ?_)
        · rw [xb_eq0, mlk hho] at h26
          obtain ⟨i, hi, rfl⟩ := rg_nI h4 (by omega)
          obtain ⟨j, hj, rfl⟩ := rg_nI h11 (by omega)
          have hci : (nI i).toNatClampNeg = i := nI_clamp (by omega)
          have hcj : (nI j).toNatClampNeg = j := nI_clamp (by omega)
          refine xA.aload_n (i := 0) rfl rfl rfl rfl ?_
          refine xA.iload_n (i := 1) rfl rfl rfl rfl ?_
          refine xA.iload_n (i := 2) rfl rfl rfl rfl ?_
          refine xA.callVi (As := [_, _]) rfl k10_175 okX10_betweenOf rfl rfl rfl rfl (Nat.le_of_ble_eq_true rfl) (c_X10_betweenOf (d + 1) _ G s hc0 h26 i j hi hj) rfl rfl ?_
          exact xA.iret rfl rfl rfl ⟨by first | (rw [aBetween, if_pos ⟨h4, h11, h16⟩, if_pos h26]; done) | (exact congrArg (fun z => some (Value.int z)) (Eq.symm (by rw [aBetween, if_pos ⟨h4, h11, h16⟩, if_neg h26, hci, hcj]))), rfl⟩
        · rw [xb_ne0, mlk hho] at h26
          refine xA.bipush (v := (-103)) rfl (by decide) rfl ?_
          refine xA.goto (q := 40) rfl rfl ?_
          exact xA.iret rfl rfl rfl ⟨by first | (rw [aBetween, if_pos ⟨h4, h11, h16⟩, if_pos h26]; done) | (exact congrArg (fun z => some (Value.int z)) (Eq.symm (by rw [aBetween, if_pos ⟨h4, h11, h16⟩, if_neg h26, hci, hcj]))), rfl⟩
      · refine xA.bipush (v := (-101)) rfl (by decide) rfl ?_
        exact xA.iret rfl rfl rfl ⟨by rw [aBetween, if_neg (by rintro ⟨q1, q2, q3⟩; first | exact h4 q1 | exact h11 q2 | exact q3 h16)], rfl⟩
set_option maxRecDepth 100000 in
set_option maxHeartbeats 400000 in
theorem c_X10_tell (d : Nat) (S : Nat → Nat → Int32) (G : Nat → Nat → Int64) (s : sS) (hc : MS S s) (p : Nat) (hp : p < sP s) (w : Int32) : xR d mX10_tell [.ref 54, .int (nI p), .int w] S G (some (.int (aAbout s (nI p) w))) S G := by
  obtain ⟨hpg, hho, hpp, htk, hgl, hsd, him, hno⟩ := hc
  have hp4 := hpp.2.1
  obtain ⟨hkd, hkd5, hse, hlo, hrw, hg⟩ := hpp.2.2 p hp
  have hn17 := hg.1
  have hrg : rg (nI p) (sP s) := rg_of hp (by omega)
  have hcp : (nI p).toNatClampNeg = p := nI_clamp (by omega)
  refine xC.of okX10_tell (Nat.le_of_ble_eq_true rfl) (L := [_, _, _, _]) rfl ?_
  refine xA.bipush (v := 17) rfl (by decide) rfl ?_
  refine xA.iload_n (i := 1) rfl rfl rfl rfl ?_
  refine xA.imul rfl rfl ?_
  refine xA.topi (n17 p) ?_
  refine xA.aload_n (i := 0) rfl rfl rfl rfl ?_
  refine xA.getR rfl f10_40 rfl rfl rfl rfl ?_
  refine xA.iload_n (i := 1) rfl rfl rfl rfl ?_
  refine xA.iald rfl rfl (vp_in_nI (by omega) (by omega)) rfl ?_
  refine xA.topi ((show S 65 (nI p).toNatClampNeg = nI (lN' (sL s p)) from by rw [hcp]; exact hse)) ?_
  refine xA.iadd rfl rfl ?_
  refine xA.topi (nI_add _ _) ?_
  refine xA.iconst (v := 1) rfl (by decide) rfl ?_
  refine xA.isub rfl rfl ?_
  refine xA.istore_n (i := 3) (L' := [_, _, _, _]) rfl rfl (Nat.le_of_ble_eq_true rfl) rfl rfl ?_
  refine xA.iload_n (i := 2) rfl rfl rfl rfl ?_
  by_cases h15_0 : w = 0
  · subst h15_0
    refine xA.tsIn (q := 48) rfl (by decide) (by decide) rfl rfl ?_
    refine xA.aload_n (i := 0) rfl rfl rfl rfl ?_
    refine xA.getR rfl f10_37 rfl rfl rfl rfl ?_
    refine xA.iload_n (i := 1) rfl rfl rfl rfl ?_
    refine xA.iald rfl rfl (vp_in_nI (by omega) (by omega)) rfl ?_
    refine xA.topi ((show S 64 (nI p).toNatClampNeg = nI (sKd s p) from by rw [hcp]; exact hkd)) ?_
    exact xA.iret rfl rfl rfl ⟨by rw [aAbout, if_pos hrg, hcp]; first | rfl | (rw [if_neg h15_0, if_neg h15_1, if_neg h15_2, if_neg h15_3, if_neg h15_4]; done) | (simp [hz]; done) | (simp [hz]; rfl), rfl⟩
  by_cases h15_1 : w = 1
  · subst h15_1
    refine xA.tsIn (q := 55) rfl (by decide) (by decide) rfl rfl ?_
    refine xA.aload_n (i := 0) rfl rfl rfl rfl ?_
    refine xA.getR rfl f10_40 rfl rfl rfl rfl ?_
    refine xA.iload_n (i := 1) rfl rfl rfl rfl ?_
    refine xA.iald rfl rfl (vp_in_nI (by omega) (by omega)) rfl ?_
    refine xA.topi ((show S 65 (nI p).toNatClampNeg = nI (lN' (sL s p)) from by rw [hcp]; exact hse)) ?_
    exact xA.iret rfl rfl rfl ⟨by rw [aAbout, if_pos hrg, hcp]; first | rfl | (rw [if_neg h15_0, if_neg h15_1, if_neg h15_2, if_neg h15_3, if_neg h15_4]; done) | (simp [hz]; done) | (simp [hz]; rfl), rfl⟩
  by_cases h15_2 : w = 2
  · subst h15_2
    refine xA.tsIn (q := 62) rfl (by decide) (by decide) rfl rfl ?_
    refine xA.aload_n (i := 0) rfl rfl rfl rfl ?_
    refine xA.getR rfl f10_43 rfl rfl rfl rfl ?_
    refine xA.iload_n (i := 1) rfl rfl rfl rfl ?_
    refine xA.iald rfl rfl (vp_in_nI (by omega) (by omega)) rfl ?_
    refine xA.topi ((show S 66 (nI p).toNatClampNeg = nI (lTh (sL s p)) from by rw [hcp]; exact hlo)) ?_
    exact xA.iret rfl rfl rfl ⟨by rw [aAbout, if_pos hrg, hcp]; first | rfl | (rw [if_neg h15_0, if_neg h15_1, if_neg h15_2, if_neg h15_3, if_neg h15_4]; done) | (simp [hz]; done) | (simp [hz]; rfl), rfl⟩
  by_cases h15_3 : w = 3
  · subst h15_3
    refine xA.tsIn (q := 69) rfl (by decide) (by decide) rfl rfl ?_
    refine xA.aload_n (i := 0) rfl rfl rfl rfl ?_
    refine xA.getR rfl f10_40 rfl rfl rfl rfl ?_
    refine xA.iload_n (i := 1) rfl rfl rfl rfl ?_
    refine xA.iald rfl rfl (vp_in_nI (by omega) (by omega)) rfl ?_
    refine xA.topi ((show S 65 (nI p).toNatClampNeg = nI (lN' (sL s p)) from by rw [hcp]; exact hse)) ?_
    refine xA.if_ne (tgt := 82) rfl rfl rfl (fun h75 => ?_) (fun h75 => ?_)
    · have hz : ¬ lN' (sL s p) = 0 := fun z => h75 (by rw [z]; rfl)
      refine xA.aload_n (i := 0) rfl rfl rfl rfl ?_
      refine xA.getR rfl f10_46 rfl rfl rfl rfl ?_
      refine xA.iload_n (i := 3) rfl rfl rfl rfl ?_
      refine xA.topi (show nI (17 * p + lN' (sL s p)) - 1 = nI (17 * p + (lN' (sL s p) - 1)) from by rw [show (1 : Int32) = nI 1 from rfl, nI_sub (by omega)]; congr 1; omega) ?_
      refine xA.iald rfl rfl (vp_in_nI (by omega) (by omega)) rfl ?_
      refine xA.topi ((show S 67 (nI (17 * p + (lN' (sL s p) - 1))).toNatClampNeg = nI (lSp (sL s p) (lN' (sL s p) - 1) / 6) from by rw [nI_clamp (by omega)]; exact (hrw _ (by omega)).1)) ?_
      exact xA.iret rfl rfl rfl ⟨by rw [aAbout, if_pos hrg, hcp]; first | rfl | (rw [if_neg h15_0, if_neg h15_1, if_neg h15_2, if_neg h15_3, if_neg h15_4]; done) | (simp [hz]; done) | (simp [hz]; rfl), rfl⟩
    · have hz : lN' (sL s p) = 0 := (nI_eq (b := 0) (by omega) (by omega)).mp h75
      refine xA.iconst (v := (-1)) rfl (by decide) rfl ?_
      refine xA.goto (q := 88) rfl rfl ?_
      exact xA.iret rfl rfl rfl ⟨by rw [aAbout, if_pos hrg, hcp]; first | rfl | (rw [if_neg h15_0, if_neg h15_1, if_neg h15_2, if_neg h15_3, if_neg h15_4]; done) | (simp [hz]; done) | (simp [hz]; rfl), rfl⟩
  by_cases h15_4 : w = 4
  · subst h15_4
    refine xA.tsIn (q := 89) rfl (by decide) (by decide) rfl rfl ?_
    refine xA.aload_n (i := 0) rfl rfl rfl rfl ?_
    refine xA.getR rfl f10_40 rfl rfl rfl rfl ?_
    refine xA.iload_n (i := 1) rfl rfl rfl rfl ?_
    refine xA.iald rfl rfl (vp_in_nI (by omega) (by omega)) rfl ?_
    refine xA.topi ((show S 65 (nI p).toNatClampNeg = nI (lN' (sL s p)) from by rw [hcp]; exact hse)) ?_
    refine xA.if_ne (tgt := 102) rfl rfl rfl (fun h95 => ?_) (fun h95 => ?_)
    · have hz : ¬ lN' (sL s p) = 0 := fun z => h95 (by rw [z]; rfl)
      refine xA.aload_n (i := 0) rfl rfl rfl rfl ?_
      refine xA.getR rfl f10_49 rfl rfl rfl rfl ?_
      refine xA.iload_n (i := 3) rfl rfl rfl rfl ?_
      refine xA.topi (show nI (17 * p + lN' (sL s p)) - 1 = nI (17 * p + (lN' (sL s p) - 1)) from by rw [show (1 : Int32) = nI 1 from rfl, nI_sub (by omega)]; congr 1; omega) ?_
      refine xA.iald rfl rfl (vp_in_nI (by omega) (by omega)) rfl ?_
      refine xA.topi ((show S 68 (nI (17 * p + (lN' (sL s p) - 1))).toNatClampNeg = nI (lSp (sL s p) (lN' (sL s p) - 1) % 6) from by rw [nI_clamp (by omega)]; exact (hrw _ (by omega)).2)) ?_
      exact xA.iret rfl rfl rfl ⟨by rw [aAbout, if_pos hrg, hcp]; first | rfl | (rw [if_neg h15_0, if_neg h15_1, if_neg h15_2, if_neg h15_3, if_neg h15_4]; done) | (simp [hz]; done) | (simp [hz]; rfl), rfl⟩
    · have hz : lN' (sL s p) = 0 := (nI_eq (b := 0) (by omega) (by omega)).mp h95
      refine xA.iconst (v := (-1)) rfl (by decide) rfl ?_
      refine xA.goto (q := 108) rfl rfl ?_
      exact xA.iret rfl rfl rfl ⟨by rw [aAbout, if_pos hrg, hcp]; first | rfl | (rw [if_neg h15_0, if_neg h15_1, if_neg h15_2, if_neg h15_3, if_neg h15_4]; done) | (simp [hz]; done) | (simp [hz]; rfl), rfl⟩
  refine xA.tsOut (q := 109) rfl (ts_out5 h15_0 h15_1 h15_2 h15_3 h15_4) rfl ?_
  refine xA.bipush (v := (-102)) rfl (by decide) rfl ?_
  exact xA.iret rfl rfl rfl ⟨by rw [aAbout, if_pos hrg, hcp]; first | rfl | (rw [if_neg h15_0, if_neg h15_1, if_neg h15_2, if_neg h15_3, if_neg h15_4]; done) | (simp [hz]; done) | (simp [hz]; rfl), rfl⟩
set_option maxRecDepth 100000 in
set_option maxHeartbeats 400000 in
theorem m_about (d : Nat) (S : Nat → Nat → Int32) (G : Nat → Nat → Int64) (s : sS) (hc : MS S s) (x w : Int32) : xR (d + 2) mX10_about [.ref 54, .int x, .int w] S G (some (.int (aAbout s x w))) S G := by
  have hc0 := hc
  obtain ⟨hpg, hho, hpp, htk, hgl, hsd, him, hno⟩ := hc
  refine xC.of okX10_about (Nat.le_of_ble_eq_true rfl) (L := [_, _, _]) rfl ?_
  refine xA.aload_n (i := 0) rfl rfl rfl rfl ?_
  refine xA.iload_n (i := 1) rfl rfl rfl rfl ?_
  refine xA.callVi (As := [_]) rfl k10_193 okX10_isPerson rfl rfl rfl rfl (Nat.le_of_ble_eq_true rfl) (c_X10_isPerson d _ G x (sP s) hpp.1 hpp.2.1) rfl rfl ?_
  refine xA.if_eq (tgt := 17) rfl rfl rfl (fun h5 => ?_) (fun h5 => ?_)
  · rw [xb_eq0] at h5
    refine xA.bipush (v := (-101)) rfl (by decide) rfl ?_
    exact xA.iret rfl rfl rfl ⟨by first | rfl | (rw [aAbout, if_neg h5]; done), rfl⟩
  · rw [xb_ne0] at h5
    obtain ⟨p, hp, rfl⟩ := rg_nI h5 (by have := hpp.2.1; omega)
    refine xA.aload_n (i := 0) rfl rfl rfl rfl ?_
    refine xA.iload_n (i := 1) rfl rfl rfl rfl ?_
    refine xA.iload_n (i := 2) rfl rfl rfl rfl ?_
    refine xA.callVi (As := [_, _]) rfl k10_203 okX10_tell rfl rfl rfl rfl (Nat.le_of_ble_eq_true rfl) (c_X10_tell (d + 1) _ G s hc0 p hp w) rfl rfl ?_
    refine xA.goto (q := 19) rfl rfl ?_
    exact xA.iret rfl rfl rfl ⟨by first | rfl | (rw [aAbout, if_neg h5]; done), rfl⟩
theorem iff_in {P : Prop} {x : Int32} (h : ¬ x = 0 ↔ P) : x = 0 ↔ ¬ P := by rw [← h, Decidable.not_not]

set_option maxRecDepth 100000 in
set_option maxHeartbeats 400000 in
theorem m_as (d : Nat) (S : Nat → Nat → Int32) (G : Nat → Nat → Int64) (s : sS) (hc : MS S s) (x k : Int32) : xR (d + 2) mX10_as [.ref 54, .int x, .int k] S G (some (.int (aAs s x k))) S G := by
  obtain ⟨hpg, hho, hpp, htk, hgl, hsd, him, hno⟩ := hc
  refine xC.of okX10_as (Nat.le_of_ble_eq_true rfl) (L := [_, _, _, _]) rfl ?_
  refine xA.aload_n (i := 0) rfl rfl rfl rfl ?_
  refine xA.iload_n (i := 1) rfl rfl rfl rfl ?_
  refine xA.callVi (As := [_]) rfl k10_193 okX10_isPerson rfl rfl rfl rfl (Nat.le_of_ble_eq_true rfl) (c_X10_isPerson d _ G x (sP s) hpp.1 hpp.2.1) rfl rfl ?_
  refine xA.if_ne (tgt := 11) rfl rfl rfl (fun h5 => ?_) (fun h5 => ?_)
  · rw [xb_ne0] at h5
    obtain ⟨p, hp, rfl⟩ := rg_nI h5 (by have := hpp.2.1; omega)
    have hp4 := hpp.2.1
    obtain ⟨hkd, hkd5, hse, hlo, hrw, hg⟩ := hpp.2.2 p hp
    have hn17 := hg.1
    have hrg : rg (nI p) (sP s) := rg_of hp (by omega)
    have hcp : (nI p).toNatClampNeg = p := nI_clamp (by omega)
    refine xA.iload_n (i := 2) rfl rfl rfl rfl ?_
    refine xA.i2l rfl rfl ?_
    refine xA.lconst (v := 0) rfl (by decide) rfl ?_
    refine xA.ldc2 (v := 4) rfl w1043 rfl ?_
    refine xA.callSi (As := [_, _, _]) rfl k10_96 okX10_in rfl rfl (Nat.le_of_ble_eq_true rfl) (c_X10_in (d + 1) _ G k 0 4) rfl rfl ?_
    refine xA.topi (xb_iff (in_rg (n := 4) (by omega))) ?_
    refine xA.if_ne (tgt := 26) rfl rfl rfl (fun h20 => ?_) (fun h20 => ?_)
    · rw [xb_ne0] at h20
      refine xA.iload_n (i := 2) rfl rfl rfl rfl ?_
      refine xA.if_eq (tgt := 55) rfl rfl rfl (fun h27 => ?_) (fun h27 => ?_)
      · refine xA.iconst (v := 1) rfl (by decide) rfl ?_
        refine xA.goto (q := 60) rfl rfl ?_
        refine xA.istore_n (i := 3) (L' := [_, _, _, _]) rfl rfl (Nat.le_of_ble_eq_true rfl) rfl rfl ?_
        refine xA.iload_n (i := 3) rfl rfl rfl rfl ?_
        refine xA.if_eq (tgt := 69) rfl rfl rfl (fun h62 => ?_) (fun h62 => ?_)
        · refine xA.iconst (v := (-1)) rfl (by decide) rfl ?_
          first
            | exact absurd h62 (by decide)
            | exact absurd rfl h62
            | exact xA.iret rfl rfl rfl ⟨by rw [aAs, if_pos h5, if_pos h20, hcp]; first | (rw [if_pos (Or.inl h27)]; done) | (rw [if_pos (Or.inr (Or.inl h37))]; done) | (rw [if_pos (Or.inr (Or.inr ⟨h42, h52⟩))]; done) | (rw [if_neg (by rintro (q | q | ⟨q1, q2⟩); exact h27 q; exact h37 q; first | exact h42 q1 | exact h52 q2)]; done), rfl⟩
        · refine xA.iload_n (i := 1) rfl rfl rfl rfl ?_
          refine xA.goto (q := 70) rfl rfl ?_
          first
            | exact absurd h62 (by decide)
            | exact absurd rfl h62
            | exact xA.iret rfl rfl rfl ⟨by rw [aAs, if_pos h5, if_pos h20, hcp]; first | (rw [if_pos (Or.inl h27)]; done) | (rw [if_pos (Or.inr (Or.inl h37))]; done) | (rw [if_pos (Or.inr (Or.inr ⟨h42, h52⟩))]; done) | (rw [if_neg (by rintro (q | q | ⟨q1, q2⟩); exact h27 q; exact h37 q; first | exact h42 q1 | exact h52 q2)]; done), rfl⟩
      · refine xA.iload_n (i := 2) rfl rfl rfl rfl ?_
        refine xA.aload_n (i := 0) rfl rfl rfl rfl ?_
        refine xA.getR rfl f10_37 rfl rfl rfl rfl ?_
        refine xA.iload_n (i := 1) rfl rfl rfl rfl ?_
        refine xA.iald rfl rfl (vp_in_nI (by omega) (by omega)) rfl ?_
        refine xA.topi ((show S 64 (nI p).toNatClampNeg = nI (sKd s p) from by rw [hcp]; exact hkd)) ?_
        refine xA.icmp_eq (tgt := 55) rfl rfl rfl (fun h37 => ?_) (fun h37 => ?_)
        · refine xA.iconst (v := 1) rfl (by decide) rfl ?_
          refine xA.goto (q := 60) rfl rfl ?_
          refine xA.istore_n (i := 3) (L' := [_, _, _, _]) rfl rfl (Nat.le_of_ble_eq_true rfl) rfl rfl ?_
          refine xA.iload_n (i := 3) rfl rfl rfl rfl ?_
          refine xA.if_eq (tgt := 69) rfl rfl rfl (fun h62 => ?_) (fun h62 => ?_)
          · refine xA.iconst (v := (-1)) rfl (by decide) rfl ?_
            first
              | exact absurd h62 (by decide)
              | exact absurd rfl h62
              | exact xA.iret rfl rfl rfl ⟨by rw [aAs, if_pos h5, if_pos h20, hcp]; first | (rw [if_pos (Or.inl h27)]; done) | (rw [if_pos (Or.inr (Or.inl h37))]; done) | (rw [if_pos (Or.inr (Or.inr ⟨h42, h52⟩))]; done) | (rw [if_neg (by rintro (q | q | ⟨q1, q2⟩); exact h27 q; exact h37 q; first | exact h42 q1 | exact h52 q2)]; done), rfl⟩
          · refine xA.iload_n (i := 1) rfl rfl rfl rfl ?_
            refine xA.goto (q := 70) rfl rfl ?_
            first
              | exact absurd h62 (by decide)
              | exact absurd rfl h62
              | exact xA.iret rfl rfl rfl ⟨by rw [aAs, if_pos h5, if_pos h20, hcp]; first | (rw [if_pos (Or.inl h27)]; done) | (rw [if_pos (Or.inr (Or.inl h37))]; done) | (rw [if_pos (Or.inr (Or.inr ⟨h42, h52⟩))]; done) | (rw [if_neg (by rintro (q | q | ⟨q1, q2⟩); exact h27 q; exact h37 q; first | exact h42 q1 | exact h52 q2)]; done), rfl⟩
        · refine xA.iload_n (i := 2) rfl rfl rfl rfl ?_
          refine xA.iconst (v := 3) rfl (by decide) rfl ?_
          refine xA.icmp_ne (tgt := 59) rfl rfl rfl (fun h42 => ?_) (fun h42 => ?_)
          · refine xA.iconst (v := 0) rfl (by decide) rfl ?_
            refine xA.istore_n (i := 3) (L' := [_, _, _, _]) rfl rfl (Nat.le_of_ble_eq_true rfl) rfl rfl ?_
            refine xA.iload_n (i := 3) rfl rfl rfl rfl ?_
            refine xA.if_eq (tgt := 69) rfl rfl rfl (fun h62 => ?_) (fun h62 => ?_)
            · refine xA.iconst (v := (-1)) rfl (by decide) rfl ?_
              first
                | exact absurd h62 (by decide)
                | exact absurd rfl h62
                | exact xA.iret rfl rfl rfl ⟨by rw [aAs, if_pos h5, if_pos h20, hcp]; first | (rw [if_pos (Or.inl h27)]; done) | (rw [if_pos (Or.inr (Or.inl h37))]; done) | (rw [if_pos (Or.inr (Or.inr ⟨h42, h52⟩))]; done) | (rw [if_neg (by rintro (q | q | ⟨q1, q2⟩); exact h27 q; exact h37 q; first | exact h42 q1 | exact h52 q2)]; done), rfl⟩
            · refine xA.iload_n (i := 1) rfl rfl rfl rfl ?_
              refine xA.goto (q := 70) rfl rfl ?_
              first
                | exact absurd h62 (by decide)
                | exact absurd rfl h62
                | exact xA.iret rfl rfl rfl ⟨by rw [aAs, if_pos h5, if_pos h20, hcp]; first | (rw [if_pos (Or.inl h27)]; done) | (rw [if_pos (Or.inr (Or.inl h37))]; done) | (rw [if_pos (Or.inr (Or.inr ⟨h42, h52⟩))]; done) | (rw [if_neg (by rintro (q | q | ⟨q1, q2⟩); exact h27 q; exact h37 q; first | exact h42 q1 | exact h52 q2)]; done), rfl⟩
          · refine xA.aload_n (i := 0) rfl rfl rfl rfl ?_
            refine xA.getR rfl f10_37 rfl rfl rfl rfl ?_
            refine xA.iload_n (i := 1) rfl rfl rfl rfl ?_
            refine xA.iald rfl rfl (vp_in_nI (by omega) (by omega)) rfl ?_
            refine xA.topi ((show S 64 (nI p).toNatClampNeg = nI (sKd s p) from by rw [hcp]; exact hkd)) ?_
            refine xA.iconst (v := 4) rfl (by decide) rfl ?_
            refine xA.icmp_ne (tgt := 59) rfl rfl rfl (fun h52 => ?_) (fun h52 => ?_)
            · refine xA.iconst (v := 0) rfl (by decide) rfl ?_
              refine xA.istore_n (i := 3) (L' := [_, _, _, _]) rfl rfl (Nat.le_of_ble_eq_true rfl) rfl rfl ?_
              refine xA.iload_n (i := 3) rfl rfl rfl rfl ?_
              refine xA.if_eq (tgt := 69) rfl rfl rfl (fun h62 => ?_) (fun h62 => ?_)
              · refine xA.iconst (v := (-1)) rfl (by decide) rfl ?_
                first
                  | exact absurd h62 (by decide)
                  | exact absurd rfl h62
                  | exact xA.iret rfl rfl rfl ⟨by rw [aAs, if_pos h5, if_pos h20, hcp]; first | (rw [if_pos (Or.inl h27)]; done) | (rw [if_pos (Or.inr (Or.inl h37))]; done) | (rw [if_pos (Or.inr (Or.inr ⟨h42, h52⟩))]; done) | (rw [if_neg (by rintro (q | q | ⟨q1, q2⟩); exact h27 q; exact h37 q; first | exact h42 q1 | exact h52 q2)]; done), rfl⟩
              · refine xA.iload_n (i := 1) rfl rfl rfl rfl ?_
                refine xA.goto (q := 70) rfl rfl ?_
                first
                  | exact absurd h62 (by decide)
                  | exact absurd rfl h62
                  | exact xA.iret rfl rfl rfl ⟨by rw [aAs, if_pos h5, if_pos h20, hcp]; first | (rw [if_pos (Or.inl h27)]; done) | (rw [if_pos (Or.inr (Or.inl h37))]; done) | (rw [if_pos (Or.inr (Or.inr ⟨h42, h52⟩))]; done) | (rw [if_neg (by rintro (q | q | ⟨q1, q2⟩); exact h27 q; exact h37 q; first | exact h42 q1 | exact h52 q2)]; done), rfl⟩
            · refine xA.iconst (v := 1) rfl (by decide) rfl ?_
              refine xA.goto (q := 60) rfl rfl ?_
              refine xA.istore_n (i := 3) (L' := [_, _, _, _]) rfl rfl (Nat.le_of_ble_eq_true rfl) rfl rfl ?_
              refine xA.iload_n (i := 3) rfl rfl rfl rfl ?_
              refine xA.if_eq (tgt := 69) rfl rfl rfl (fun h62 => ?_) (fun h62 => ?_)
              · refine xA.iconst (v := (-1)) rfl (by decide) rfl ?_
                first
                  | exact absurd h62 (by decide)
                  | exact absurd rfl h62
                  | exact xA.iret rfl rfl rfl ⟨by rw [aAs, if_pos h5, if_pos h20, hcp]; first | (rw [if_pos (Or.inl h27)]; done) | (rw [if_pos (Or.inr (Or.inl h37))]; done) | (rw [if_pos (Or.inr (Or.inr ⟨h42, h52⟩))]; done) | (rw [if_neg (by rintro (q | q | ⟨q1, q2⟩); exact h27 q; exact h37 q; first | exact h42 q1 | exact h52 q2)]; done), rfl⟩
              · refine xA.iload_n (i := 1) rfl rfl rfl rfl ?_
                refine xA.goto (q := 70) rfl rfl ?_
                first
                  | exact absurd h62 (by decide)
                  | exact absurd rfl h62
                  | exact xA.iret rfl rfl rfl ⟨by rw [aAs, if_pos h5, if_pos h20, hcp]; first | (rw [if_pos (Or.inl h27)]; done) | (rw [if_pos (Or.inr (Or.inl h37))]; done) | (rw [if_pos (Or.inr (Or.inr ⟨h42, h52⟩))]; done) | (rw [if_neg (by rintro (q | q | ⟨q1, q2⟩); exact h27 q; exact h37 q; first | exact h42 q1 | exact h52 q2)]; done), rfl⟩
    · rw [xb_eq0] at h20
      refine xA.bipush (v := (-102)) rfl (by decide) rfl ?_
      exact xA.iret rfl rfl rfl ⟨by rw [aAs, if_pos h5, if_neg h20], rfl⟩
  · rw [xb_eq0] at h5
    refine xA.bipush (v := (-101)) rfl (by decide) rfl ?_
    exact xA.iret rfl rfl rfl ⟨by rw [aAs, if_neg h5], rfl⟩

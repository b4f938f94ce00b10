/-! ===== the reference: a house read ===== -/
def drB (S : Nat → Int32) (D : Nat → Nat) : Prop := ∀ a, a < 6 → ∃ x, x < 64 ∧ S a = nI x ∧ ∀ b, b < 6 → (x.testBit b = true ↔ ¬ D (a * 6 + b) = 0)
/-- the reference has read so far -/
def MH (S : Nat → Nat → Int32) (h : hS) : Prop := S 54 11 = nI (hSt h) ∧ S 54 6 = nI (hNd h) ∧ S 54 7 = nI (hNs h) ∧ (4 ≤ hSt h → S 54 8 = nI (hLo h)) ∧ (5 ≤ hSt h → S 54 9 = nI (hBa h)) ∧ ((hSt h = 1 ∨ hSt h = 7) → S 54 10 = nI (hFi h)) ∧ drB (S 56) (hD h) ∧ (∀ a, a < 6 → S 57 a = nI (hSr h a)) ∧ ∀ j, j < hNd h → S 58 j = nI (hOn h j) ∧ S 59 j = nI (hTw h j)
/-- only what is read changed -/
def frH (S S' : Nat → Nat → Int32) : Prop := (∀ j, ¬ j = 54 → ¬ (56 ≤ j ∧ j < 60) → S' j = S j) ∧ ∀ f, ¬ (6 ≤ f ∧ f < 12) → S' 54 f = S 54 f
theorem frH.refl (S : Nat → Nat → Int32) : frH S S := ⟨fun _ _ _ => rfl, fun _ _ => rfl⟩
theorem frH.trans {S S1 S2 : Nat → Nat → Int32} (h1 : frH S S1) (h2 : frH S1 S2) : frH S S2 := ⟨fun j a b => (h2.1 j a b).trans (h1.1 j a b), fun f a => (h2.2 f a).trans (h1.2 f a)⟩
theorem frH.ms {S S' : Nat → Nat → Int32} {s : sS} (h : MS S s) (hf : frH S S') : MS S' s := h.scr (fun j a b c => hf.1 j (by omega) b) (fun f a b c d => hf.2 f a)
theorem frH.f {S S' : Nat → Nat → Int32} {k : Nat} {v : Int32} (h : frH S S') (hk : 6 ≤ k ∧ k < 12) : frH S (xu S' 54 k v) := ⟨fun j a b => (xu_c a).trans (h.1 j a b), fun f a => (xu_ne2 (by omega)).trans (h.2 f a)⟩
theorem frH.c {S S' : Nat → Nat → Int32} {a k : Nat} {v : Int32} (h : frH S S') (ha : 56 ≤ a ∧ a < 60) : frH S (xu S' a k v) := ⟨fun j b c => (xu_c (by omega)).trans (h.1 j b c), fun f b => (xu_ne1 (by omega)).trans (h.2 f b)⟩
theorem MH.f {S S' : Nat → Nat → Int32} {h h2 : hS} (hm : MH S h) (hj : ∀ j, ¬ j = 54 → S' j = S j) (e11 : S' 54 11 = nI (hSt h2)) (ed : hNd h2 = hNd h) (es : hNs h2 = hNs h) (e6 : S' 54 6 = S 54 6) (e7 : S' 54 7 = S 54 7) (e8 : 4 ≤ hSt h2 → S' 54 8 = nI (hLo h2)) (e9 : 5 ≤ hSt h2 → S' 54 9 = nI (hBa h2)) (e10 : (hSt h2 = 1 ∨ hSt h2 = 7) → S' 54 10 = nI (hFi h2)) (eD : hD h2 = hD h) (eS : hSr h2 = hSr h) (eO : hOn h2 = hOn h) (eT : hTw h2 = hTw h) : MH S' h2 := by
  obtain ⟨a1, a2, a3, a4, a5, a6, a7, a8, a9⟩ := hm
  refine ⟨e11, by rw [e6, ed]; exact a2, by rw [e7, es]; exact a3, e8, e9, e10, ?_, ?_, ?_⟩
  · rw [hj 56 (by omega), eD]; exact a7
  · rw [hj 57 (by omega), eS]; exact a8
  · rw [hj 58 (by omega), hj 59 (by omega), ed, eO, eT]; exact a9
theorem hdg_in {c lo hi : Nat} (hc : c ≤ 126) (hl : lo ≤ 9) (hh : hi ≤ 9) : (nI lo ≤ nI c - 48 ∧ nI c - 48 ≤ nI hi) ↔ (hdg c lo hi).isSome = true := by
  rw [hdg_is, Int32.le_iff_toInt_le, Int32.le_iff_toInt_le, i32_sub48 hc, nI_toInt (by omega), nI_toInt (by omega)]
  omega
theorem hdg_rg {c : Nat} (hc : c ≤ 126) : rg (nI c - 48) 6 ↔ (hdg c 0 5).isSome = true := by
  rw [hdg_is]
  unfold rg
  rw [i32_sub48 hc]
  omega
theorem hdg_ev {c lo hi v : Nat} (h : hdg c lo hi = some v) : nI c - 48 = nI v := by
  have := hdg_some h
  rw [i32_sub48n (by omega)]; congr 1; omega

set_option maxRecDepth 100000 in
set_option maxHeartbeats 400000 in
theorem c_X10_goDoorN (d : Nat) (S : Nat → Nat → Int32) (G : Nat → Nat → Int64) (x : Int32) (hx : ¬ rg x 6) : xR (d + 1) mX10_goDoor [.ref 54, .int x] S G (some (.int 0)) S G := by
  refine xC.of okX10_goDoor (Nat.le_of_ble_eq_true rfl) (L := [_, _, _]) rfl ?_
  refine xA.iload_n (i := 1) rfl rfl rfl rfl ?_
  refine xA.i2l rfl rfl ?_
  refine xA.lconst (v := 0) rfl (by decide) rfl ?_
  refine xA.ldc2 (v := 5) rfl w997 rfl ?_
  refine xA.callSi (As := [_, _, _]) rfl k10_96 okX10_in rfl rfl (Nat.le_of_ble_eq_true rfl) (c_X10_in d _ G x 0 5) rfl rfl ?_
  refine xA.topi (xb_iff (in_rg (n := 5) (by omega))) ?_
  refine xA.if_eq (tgt := 40) rfl rfl rfl (fun h9 => ?_) (fun h9 => ?_)
  · rw [xb_eq0] at h9
    refine xA.iconst (v := 0) rfl (by decide) rfl ?_
    refine xA.istore_n (i := 2) (L' := [_, _, _]) rfl rfl (Nat.le_of_ble_eq_true rfl) rfl rfl ?_
    refine xA.iload_n (i := 2) rfl rfl rfl rfl ?_
    refine xA.if_eq (tgt := 109) rfl rfl rfl (fun h43 => ?_) (fun h43 => ?_)
    · refine xA.iload_n (i := 2) rfl rfl rfl rfl ?_
      exact xA.iret rfl rfl rfl ⟨rfl, rfl⟩
    · exact absurd rfl h43
  · rw [xb_ne0] at h9
    exact absurd h9 hx
set_option maxRecDepth 100000 in
set_option maxHeartbeats 400000 in
theorem c_X10_goDoorF (d : Nat) (S : Nat → Nat → Int32) (G : Nat → Nat → Int64) (v f xf : Nat) (hv : v < 6) (hf : f < 6) (hfi : S 54 10 = nI f) (hxf : xf < 64) (ef : S 56 f = nI xf) (hq : v = f ∨ xf.testBit v = true) : xR (d + 1) mX10_goDoor [.ref 54, .int (nI v)] S G (some (.int 0)) S G := by
  refine xC.of okX10_goDoor (Nat.le_of_ble_eq_true rfl) (L := [_, _, _]) rfl ?_
  refine xA.iload_n (i := 1) rfl rfl rfl rfl ?_
  refine xA.i2l rfl rfl ?_
  refine xA.lconst (v := 0) rfl (by decide) rfl ?_
  refine xA.ldc2 (v := 5) rfl w997 rfl ?_
  refine xA.callSi (As := [_, _, _]) rfl k10_96 okX10_in rfl rfl (Nat.le_of_ble_eq_true rfl) (c_X10_in d _ G (nI v) 0 5) rfl rfl ?_
  refine xA.topi (xb_iff (in_rg (n := 5) (by omega))) ?_
  refine xA.if_eq (tgt := 40) rfl rfl rfl (fun h9 => ?_) (fun h9 => ?_)
  · rw [xb_eq0] at h9
    exact absurd (rg_of hv (by omega)) h9
  · rw [xb_ne0] at h9
    refine xA.iload_n (i := 1) rfl rfl rfl rfl ?_
    refine xA.aload_n (i := 0) rfl rfl rfl rfl ?_
    refine xA.getI rfl f10_100 rfl rfl rfl ?_
    refine xA.topi (hfi) ?_
    refine xA.icmp_eq (tgt := 40) rfl rfl rfl (fun h17 => ?_) (fun h17 => ?_)
    · refine xA.iconst (v := 0) rfl (by decide) rfl ?_
      refine xA.istore_n (i := 2) (L' := [_, _, _]) rfl rfl (Nat.le_of_ble_eq_true rfl) rfl rfl ?_
      refine xA.iload_n (i := 2) rfl rfl rfl rfl ?_
      refine xA.if_eq (tgt := 109) rfl rfl rfl (fun h43 => ?_) (fun h43 => ?_)
      · refine xA.iload_n (i := 2) rfl rfl rfl rfl ?_
        exact xA.iret rfl rfl rfl ⟨rfl, rfl⟩
      · exact absurd rfl h43
    · refine xA.aload_n (i := 0) rfl rfl rfl rfl ?_
      refine xA.getR rfl f10_13 rfl rfl rfl rfl ?_
      refine xA.aload_n (i := 0) rfl rfl rfl rfl ?_
      refine xA.getI rfl f10_100 rfl rfl rfl ?_
      refine xA.topi (hfi) ?_
      refine xA.iald rfl rfl (vp_in_nI (by omega) (by omega)) rfl ?_
      refine xA.topi ((show S 56 (nI f).toNatClampNeg = nI xf from by rw [nI_clamp (by omega)]; exact ef)) ?_
      refine xA.iload_n (i := 1) rfl rfl rfl rfl ?_
      refine xA.ishr rfl rfl ?_
      refine xA.iconst (v := 1) rfl (by decide) rfl ?_
      refine xA.iand rfl rfl ?_
      refine xA.topi ((show (nI xf >>> (nI v &&& 31)) &&& 1 = (if xf.testBit v = true then 1 else 0) from bit1 xf hxf v hv)) ?_
      refine xA.if_ne (tgt := 40) rfl rfl rfl (fun h33 => ?_) (fun h33 => ?_)
      · refine xA.iconst (v := 0) rfl (by decide) rfl ?_
        refine xA.istore_n (i := 2) (L' := [_, _, _]) rfl rfl (Nat.le_of_ble_eq_true rfl) rfl rfl ?_
        refine xA.iload_n (i := 2) rfl rfl rfl rfl ?_
        refine xA.if_eq (tgt := 109) rfl rfl rfl (fun h43 => ?_) (fun h43 => ?_)
        · refine xA.iload_n (i := 2) rfl rfl rfl rfl ?_
          exact xA.iret rfl rfl rfl ⟨rfl, rfl⟩
        · exact absurd rfl h43
      · rcases hq with z | z
        · exact absurd (by rw [z]) h17
        · rw [z] at h33; exact absurd h33 (by decide)
set_option maxRecDepth 100000 in
set_option maxHeartbeats 400000 in
theorem c_X10_goDoorT (d : Nat) (S : Nat → Nat → Int32) (G : Nat → Nat → Int64) (v f xf xv nd : Nat) (hv : v < 6) (hf : f < 6) (hfi : S 54 10 = nI f) (hxf : xf < 64) (ef : S 56 f = nI xf) (hxv : xv < 64) (ev : S 56 v = nI xv) (hne : ¬ v = f) (hb : xf.testBit v = false) (hnd : S 54 6 = nI nd) (hn10 : nd < 10) : xR (d + 1) mX10_goDoor [.ref 54, .int (nI v)] S G (some (.int 1)) (xu (xu (xu (xu (xu S 56 f (nI (xf ||| 2 ^ v))) 56 v (nI (xv ||| 2 ^ f))) 58 nd (nI f)) 59 nd (nI v)) 54 6 (nI (nd + 1))) G := by
  refine xC.of okX10_goDoor (Nat.le_of_ble_eq_true rfl) (L := [_, _, _]) rfl ?_
  refine xA.iload_n (i := 1) rfl rfl rfl rfl ?_
  refine xA.i2l rfl rfl ?_
  refine xA.lconst (v := 0) rfl (by decide) rfl ?_
  refine xA.ldc2 (v := 5) rfl w997 rfl ?_
  refine xA.callSi (As := [_, _, _]) rfl k10_96 okX10_in rfl rfl (Nat.le_of_ble_eq_true rfl) (c_X10_in d _ G (nI v) 0 5) rfl rfl ?_
  refine xA.topi (xb_iff (in_rg (n := 5) (by omega))) ?_
  refine xA.if_eq (tgt := 40) rfl rfl rfl (fun h9 => ?_) (fun h9 => ?_)
  · rw [xb_eq0] at h9
    exact absurd (rg_of hv (by omega)) h9
  · rw [xb_ne0] at h9
    refine xA.iload_n (i := 1) rfl rfl rfl rfl ?_
    refine xA.aload_n (i := 0) rfl rfl rfl rfl ?_
    refine xA.getI rfl f10_100 rfl rfl rfl ?_
    refine xA.topi (hfi) ?_
    refine xA.icmp_eq (tgt := 40) rfl rfl rfl (fun h17 => ?_) (fun h17 => ?_)
    · exact absurd ((nI_eq (by omega) (by omega)).mp h17) hne
    · refine xA.aload_n (i := 0) rfl rfl rfl rfl ?_
      refine xA.getR rfl f10_13 rfl rfl rfl rfl ?_
      refine xA.aload_n (i := 0) rfl rfl rfl rfl ?_
      refine xA.getI rfl f10_100 rfl rfl rfl ?_
      refine xA.topi (hfi) ?_
      refine xA.iald rfl rfl (vp_in_nI (by omega) (by omega)) rfl ?_
      refine xA.topi ((show S 56 (nI f).toNatClampNeg = nI xf from by rw [nI_clamp (by omega)]; exact ef)) ?_
      refine xA.iload_n (i := 1) rfl rfl rfl rfl ?_
      refine xA.ishr rfl rfl ?_
      refine xA.iconst (v := 1) rfl (by decide) rfl ?_
      refine xA.iand rfl rfl ?_
      refine xA.topi ((show (nI xf >>> (nI v &&& 31)) &&& 1 = (if xf.testBit v = true then 1 else 0) from bit1 xf hxf v hv)) ?_
      refine xA.if_ne (tgt := 40) rfl rfl rfl (fun h33 => ?_) (fun h33 => ?_)
      · rw [hb] at h33; exact absurd rfl h33
      · refine xA.iconst (v := 1) rfl (by decide) rfl ?_
        refine xA.goto (q := 41) rfl rfl ?_
        refine xA.istore_n (i := 2) (L' := [_, _, _]) rfl rfl (Nat.le_of_ble_eq_true rfl) rfl rfl ?_
        refine xA.iload_n (i := 2) rfl rfl rfl rfl ?_
        refine xA.if_eq (tgt := 109) rfl rfl rfl (fun h43 => ?_) (fun h43 => ?_)
        · exact absurd h43 (by decide)
        · refine xA.aload_n (i := 0) rfl rfl rfl rfl ?_
          refine xA.getR rfl f10_13 rfl rfl rfl rfl ?_
          refine xA.aload_n (i := 0) rfl rfl rfl rfl ?_
          refine xA.getI rfl f10_100 rfl rfl rfl ?_
          refine xA.topi (hfi) ?_
          refine xA.dup2 rfl rfl rfl rfl ?_
          refine xA.iald rfl rfl (vp_in_nI (by omega) (by omega)) rfl ?_
          refine xA.topi ((show S 56 (nI f).toNatClampNeg = nI xf from by rw [nI_clamp (by omega)]; exact ef)) ?_
          refine xA.iconst (v := 1) rfl (by decide) rfl ?_
          refine xA.iload_n (i := 1) rfl rfl rfl rfl ?_
          refine xA.ishl rfl rfl ?_
          refine xA.topi (nI_shl v (by omega)) ?_
          refine xA.ior rfl rfl ?_
          refine xA.topi (nI_or _ _) ?_
          refine xA.iast rfl rfl (vp_in_nI (by omega) (by omega)) rfl ?_
          rw [nI_clamp (by omega)]
          refine xA.aload_n (i := 0) rfl rfl rfl rfl ?_
          refine xA.getR rfl f10_13 rfl rfl rfl rfl ?_
          refine xA.iload_n (i := 1) rfl rfl rfl rfl ?_
          refine xA.dup2 rfl rfl rfl rfl ?_
          refine xA.iald rfl rfl (vp_in_nI (by omega) (by omega)) rfl ?_
          refine xA.topi ((show xu S 56 f (nI (xf ||| 2 ^ v)) 56 (nI v).toNatClampNeg = nI xv from by rw [nI_clamp (by omega), xu_ne2 hne]; exact ev)) ?_
          refine xA.iconst (v := 1) rfl (by decide) rfl ?_
          refine xA.aload_n (i := 0) rfl rfl rfl rfl ?_
          refine xA.getI rfl f10_100 rfl rfl rfl ?_
          refine xA.topi (((xu_ne1 (by omega)).trans hfi)) ?_
          refine xA.ishl rfl rfl ?_
          refine xA.topi (nI_shl f (by omega)) ?_
          refine xA.ior rfl rfl ?_
          refine xA.topi (nI_or _ _) ?_
          refine xA.iast rfl rfl (vp_in_nI (by omega) (by omega)) rfl ?_
          rw [nI_clamp (by omega)]
          refine xA.aload_n (i := 0) rfl rfl rfl rfl ?_
          refine xA.getR rfl f10_19 rfl rfl rfl rfl ?_
          refine xA.aload_n (i := 0) rfl rfl rfl rfl ?_
          refine xA.getI rfl f10_103 rfl rfl rfl ?_
          refine xA.topi (((xu_ne1 (by omega)).trans ((xu_ne1 (by omega)).trans hnd))) ?_
          refine xA.aload_n (i := 0) rfl rfl rfl rfl ?_
          refine xA.getI rfl f10_100 rfl rfl rfl ?_
          refine xA.topi (((xu_ne1 (by omega)).trans ((xu_ne1 (by omega)).trans hfi))) ?_
          refine xA.iast rfl rfl (vp_in_nI (by omega) (by omega)) rfl ?_
          rw [nI_clamp (by omega)]
          refine xA.aload_n (i := 0) rfl rfl rfl rfl ?_
          refine xA.getR rfl f10_22 rfl rfl rfl rfl ?_
          refine xA.aload_n (i := 0) rfl rfl rfl rfl ?_
          refine xA.getI rfl f10_103 rfl rfl rfl ?_
          refine xA.topi (((xu_ne1 (by omega)).trans ((xu_ne1 (by omega)).trans ((xu_ne1 (by omega)).trans hnd)))) ?_
          refine xA.iload_n (i := 1) rfl rfl rfl rfl ?_
          refine xA.iast rfl rfl (vp_in_nI (by omega) (by omega)) rfl ?_
          rw [nI_clamp (by omega)]
          refine xA.aload_n (i := 0) rfl rfl rfl rfl ?_
          refine xA.dup rfl rfl rfl ?_
          refine xA.getI rfl f10_103 rfl rfl rfl ?_
          refine xA.topi (((xu_ne1 (by omega)).trans ((xu_ne1 (by omega)).trans ((xu_ne1 (by omega)).trans ((xu_ne1 (by omega)).trans hnd))))) ?_
          refine xA.iconst (v := 1) rfl (by decide) rfl ?_
          refine xA.iadd rfl rfl ?_
          refine xA.topi (nI_1 nd) ?_
          refine xA.putI rfl p10_103 rfl rfl rfl ?_
          refine xA.iload_n (i := 2) rfl rfl rfl rfl ?_
          exact xA.iret rfl rfl rfl ⟨rfl, rfl⟩
set_option maxRecDepth 100000 in
set_option maxHeartbeats 400000 in
theorem c_X10_goSightN (d : Nat) (S : Nat → Nat → Int32) (G : Nat → Nat → Int64) (x : Int32) (hx : ¬ rg x 6) : xR (d + 1) mX10_goSight [.ref 54, .int x] S G (some (.int 0)) S G := by
  refine xC.of okX10_goSight (Nat.le_of_ble_eq_true rfl) (L := [_, _, _]) rfl ?_
  refine xA.iload_n (i := 1) rfl rfl rfl rfl ?_
  refine xA.i2l rfl rfl ?_
  refine xA.lconst (v := 0) rfl (by decide) rfl ?_
  refine xA.ldc2 (v := 5) rfl w997 rfl ?_
  refine xA.callSi (As := [_, _, _]) rfl k10_96 okX10_in rfl rfl (Nat.le_of_ble_eq_true rfl) (c_X10_in d _ G x 0 5) rfl rfl ?_
  refine xA.topi (xb_iff (in_rg (n := 5) (by omega))) ?_
  refine xA.if_eq (tgt := 40) rfl rfl rfl (fun h9 => ?_) (fun h9 => ?_)
  · rw [xb_eq0] at h9
    refine xA.iconst (v := 0) rfl (by decide) rfl ?_
    refine xA.istore_n (i := 2) (L' := [_, _, _]) rfl rfl (Nat.le_of_ble_eq_true rfl) rfl rfl ?_
    refine xA.iload_n (i := 2) rfl rfl rfl rfl ?_
    refine xA.if_eq (tgt := 86) rfl rfl rfl (fun h43 => ?_) (fun h43 => ?_)
    · refine xA.iload_n (i := 2) rfl rfl rfl rfl ?_
      exact xA.iret rfl rfl rfl ⟨rfl, rfl⟩
    · exact absurd rfl h43
  · rw [xb_ne0] at h9
    exact absurd h9 hx
set_option maxRecDepth 100000 in
set_option maxHeartbeats 400000 in
theorem c_X10_goSightF (d : Nat) (S : Nat → Nat → Int32) (G : Nat → Nat → Int64) (v f xf : Nat) (hv : v < 6) (hf : f < 6) (hfi : S 54 10 = nI f) (hxf : xf < 64) (ef : S 57 f = nI xf) (hq : v = f ∨ xf.testBit v = true) : xR (d + 1) mX10_goSight [.ref 54, .int (nI v)] S G (some (.int 0)) S G := by
  refine xC.of okX10_goSight (Nat.le_of_ble_eq_true rfl) (L := [_, _, _]) rfl ?_
  refine xA.iload_n (i := 1) rfl rfl rfl rfl ?_
  refine xA.i2l rfl rfl ?_
  refine xA.lconst (v := 0) rfl (by decide) rfl ?_
  refine xA.ldc2 (v := 5) rfl w997 rfl ?_
  refine xA.callSi (As := [_, _, _]) rfl k10_96 okX10_in rfl rfl (Nat.le_of_ble_eq_true rfl) (c_X10_in d _ G (nI v) 0 5) rfl rfl ?_
  refine xA.topi (xb_iff (in_rg (n := 5) (by omega))) ?_
  refine xA.if_eq (tgt := 40) rfl rfl rfl (fun h9 => ?_) (fun h9 => ?_)
  · rw [xb_eq0] at h9
    exact absurd (rg_of hv (by omega)) h9
  · rw [xb_ne0] at h9
    refine xA.iload_n (i := 1) rfl rfl rfl rfl ?_
    refine xA.aload_n (i := 0) rfl rfl rfl rfl ?_
    refine xA.getI rfl f10_100 rfl rfl rfl ?_
    refine xA.topi (hfi) ?_
    refine xA.icmp_eq (tgt := 40) rfl rfl rfl (fun h17 => ?_) (fun h17 => ?_)
    · refine xA.iconst (v := 0) rfl (by decide) rfl ?_
      refine xA.istore_n (i := 2) (L' := [_, _, _]) rfl rfl (Nat.le_of_ble_eq_true rfl) rfl rfl ?_
      refine xA.iload_n (i := 2) rfl rfl rfl rfl ?_
      refine xA.if_eq (tgt := 86) rfl rfl rfl (fun h43 => ?_) (fun h43 => ?_)
      · refine xA.iload_n (i := 2) rfl rfl rfl rfl ?_
        exact xA.iret rfl rfl rfl ⟨rfl, rfl⟩
      · exact absurd rfl h43
    · refine xA.aload_n (i := 0) rfl rfl rfl rfl ?_
      refine xA.getR rfl f10_16 rfl rfl rfl rfl ?_
      refine xA.aload_n (i := 0) rfl rfl rfl rfl ?_
      refine xA.getI rfl f10_100 rfl rfl rfl ?_
      refine xA.topi (hfi) ?_
      refine xA.iald rfl rfl (vp_in_nI (by omega) (by omega)) rfl ?_
      refine xA.topi ((show S 57 (nI f).toNatClampNeg = nI xf from by rw [nI_clamp (by omega)]; exact ef)) ?_
      refine xA.iload_n (i := 1) rfl rfl rfl rfl ?_
      refine xA.ishr rfl rfl ?_
      refine xA.iconst (v := 1) rfl (by decide) rfl ?_
      refine xA.iand rfl rfl ?_
      refine xA.topi ((show (nI xf >>> (nI v &&& 31)) &&& 1 = (if xf.testBit v = true then 1 else 0) from bit1 xf hxf v hv)) ?_
      refine xA.if_ne (tgt := 40) rfl rfl rfl (fun h33 => ?_) (fun h33 => ?_)
      · refine xA.iconst (v := 0) rfl (by decide) rfl ?_
        refine xA.istore_n (i := 2) (L' := [_, _, _]) rfl rfl (Nat.le_of_ble_eq_true rfl) rfl rfl ?_
        refine xA.iload_n (i := 2) rfl rfl rfl rfl ?_
        refine xA.if_eq (tgt := 86) rfl rfl rfl (fun h43 => ?_) (fun h43 => ?_)
        · refine xA.iload_n (i := 2) rfl rfl rfl rfl ?_
          exact xA.iret rfl rfl rfl ⟨rfl, rfl⟩
        · exact absurd rfl h43
      · rcases hq with z | z
        · exact absurd (by rw [z]) h17
        · rw [z] at h33; exact absurd h33 (by decide)
set_option maxRecDepth 100000 in
set_option maxHeartbeats 400000 in
theorem c_X10_goSightT (d : Nat) (S : Nat → Nat → Int32) (G : Nat → Nat → Int64) (v f xf xv nd : Nat) (hv : v < 6) (hf : f < 6) (hfi : S 54 10 = nI f) (hxf : xf < 64) (ef : S 57 f = nI xf) (hxv : xv < 64) (ev : S 57 v = nI xv) (hne : ¬ v = f) (hb : xf.testBit v = false) (hnd : S 54 7 = nI nd) : xR (d + 1) mX10_goSight [.ref 54, .int (nI v)] S G (some (.int 1)) (xu (xu (xu S 57 f (nI (xf ||| 2 ^ v))) 57 v (nI (xv ||| 2 ^ f))) 54 7 (nI (nd + 1))) G := by
  refine xC.of okX10_goSight (Nat.le_of_ble_eq_true rfl) (L := [_, _, _]) rfl ?_
  refine xA.iload_n (i := 1) rfl rfl rfl rfl ?_
  refine xA.i2l rfl rfl ?_
  refine xA.lconst (v := 0) rfl (by decide) rfl ?_
  refine xA.ldc2 (v := 5) rfl w997 rfl ?_
  refine xA.callSi (As := [_, _, _]) rfl k10_96 okX10_in rfl rfl (Nat.le_of_ble_eq_true rfl) (c_X10_in d _ G (nI v) 0 5) rfl rfl ?_
  refine xA.topi (xb_iff (in_rg (n := 5) (by omega))) ?_
  refine xA.if_eq (tgt := 40) rfl rfl rfl (fun h9 => ?_) (fun h9 => ?_)
  · rw [xb_eq0] at h9
    exact absurd (rg_of hv (by omega)) h9
  · rw [xb_ne0] at h9
    refine xA.iload_n (i := 1) rfl rfl rfl rfl ?_
    refine xA.aload_n (i := 0) rfl rfl rfl rfl ?_
    refine xA.getI rfl f10_100 rfl rfl rfl ?_
    refine xA.topi (hfi) ?_
    refine xA.icmp_eq (tgt := 40) rfl rfl rfl (fun h17 => ?_) (fun h17 => ?_)
    · exact absurd ((nI_eq (by omega) (by omega)).mp h17) hne
    · refine xA.aload_n (i := 0) rfl rfl rfl rfl ?_
      refine xA.getR rfl f10_16 rfl rfl rfl rfl ?_
      refine xA.aload_n (i := 0) rfl rfl rfl rfl ?_
      refine xA.getI rfl f10_100 rfl rfl rfl ?_
      refine xA.topi (hfi) ?_
      refine xA.iald rfl rfl (vp_in_nI (by omega) (by omega)) rfl ?_
      refine xA.topi ((show S 57 (nI f).toNatClampNeg = nI xf from by rw [nI_clamp (by omega)]; exact ef)) ?_
      refine xA.iload_n (i := 1) rfl rfl rfl rfl ?_
      refine xA.ishr rfl rfl ?_
      refine xA.iconst (v := 1) rfl (by decide) rfl ?_
      refine xA.iand rfl rfl ?_
      refine xA.topi ((show (nI xf >>> (nI v &&& 31)) &&& 1 = (if xf.testBit v = true then 1 else 0) from bit1 xf hxf v hv)) ?_
      refine xA.if_ne (tgt := 40) rfl rfl rfl (fun h33 => ?_) (fun h33 => ?_)
      · rw [hb] at h33; exact absurd rfl h33
      · refine xA.iconst (v := 1) rfl (by decide) rfl ?_
        refine xA.goto (q := 41) rfl rfl ?_
        refine xA.istore_n (i := 2) (L' := [_, _, _]) rfl rfl (Nat.le_of_ble_eq_true rfl) rfl rfl ?_
        refine xA.iload_n (i := 2) rfl rfl rfl rfl ?_
        refine xA.if_eq (tgt := 86) rfl rfl rfl (fun h43 => ?_) (fun h43 => ?_)
        · exact absurd h43 (by decide)
        · refine xA.aload_n (i := 0) rfl rfl rfl rfl ?_
          refine xA.getR rfl f10_16 rfl rfl rfl rfl ?_
          refine xA.aload_n (i := 0) rfl rfl rfl rfl ?_
          refine xA.getI rfl f10_100 rfl rfl rfl ?_
          refine xA.topi (hfi) ?_
          refine xA.dup2 rfl rfl rfl rfl ?_
          refine xA.iald rfl rfl (vp_in_nI (by omega) (by omega)) rfl ?_
          refine xA.topi ((show S 57 (nI f).toNatClampNeg = nI xf from by rw [nI_clamp (by omega)]; exact ef)) ?_
          refine xA.iconst (v := 1) rfl (by decide) rfl ?_
          refine xA.iload_n (i := 1) rfl rfl rfl rfl ?_
          refine xA.ishl rfl rfl ?_
          refine xA.topi (nI_shl v (by omega)) ?_
          refine xA.ior rfl rfl ?_
          refine xA.topi (nI_or _ _) ?_
          refine xA.iast rfl rfl (vp_in_nI (by omega) (by omega)) rfl ?_
          rw [nI_clamp (by omega)]
          refine xA.aload_n (i := 0) rfl rfl rfl rfl ?_
          refine xA.getR rfl f10_16 rfl rfl rfl rfl ?_
          refine xA.iload_n (i := 1) rfl rfl rfl rfl ?_
          refine xA.dup2 rfl rfl rfl rfl ?_
          refine xA.iald rfl rfl (vp_in_nI (by omega) (by omega)) rfl ?_
          refine xA.topi ((show xu S 57 f (nI (xf ||| 2 ^ v)) 57 (nI v).toNatClampNeg = nI xv from by rw [nI_clamp (by omega), xu_ne2 hne]; exact ev)) ?_
          refine xA.iconst (v := 1) rfl (by decide) rfl ?_
          refine xA.aload_n (i := 0) rfl rfl rfl rfl ?_
          refine xA.getI rfl f10_100 rfl rfl rfl ?_
          refine xA.topi (((xu_ne1 (by omega)).trans hfi)) ?_
          refine xA.ishl rfl rfl ?_
          refine xA.topi (nI_shl f (by omega)) ?_
          refine xA.ior rfl rfl ?_
          refine xA.topi (nI_or _ _) ?_
          refine xA.iast rfl rfl (vp_in_nI (by omega) (by omega)) rfl ?_
          rw [nI_clamp (by omega)]
          refine xA.aload_n (i := 0) rfl rfl rfl rfl ?_
          refine xA.dup rfl rfl rfl ?_
          refine xA.getI rfl f10_106 rfl rfl rfl ?_
          refine xA.topi (((xu_ne1 (by omega)).trans ((xu_ne1 (by omega)).trans hnd))) ?_
          refine xA.iconst (v := 1) rfl (by decide) rfl ?_
          refine xA.iadd rfl rfl ?_
          refine xA.topi (nI_1 nd) ?_
          refine xA.putI rfl p10_106 rfl rfl rfl ?_
          refine xA.iload_n (i := 2) rfl rfl rfl rfl ?_
          exact xA.iret rfl rfl rfl ⟨rfl, rfl⟩
theorem or_tb {x v b : Nat} : (x ||| 2 ^ v).testBit b = (x.testBit b || decide (v = b)) := by rw [Nat.testBit_or, Nat.testBit_two_pow]
theorem MH.door {S : Nat → Nat → Int32} {h : hS} (hm : MH S h) (ho : hOk h) (hs : hSt h = 1) (v xf xv : Nat) (hv : v < 6) (hne : ¬ v = hFi h) (hxf : xf < 64) (hxv : xv < 64) (hbf : ∀ b, b < 6 → (xf.testBit b = true ↔ ¬ hD h (hFi h * 6 + b) = 0)) (hbv : ∀ b, b < 6 → (xv.testBit b = true ↔ ¬ hD h (v * 6 + b) = 0)) :
    MH (xu (xu (xu (xu (xu (xu S 54 11 (nI (hSt h + 1))) 56 (hFi h) (nI (xf ||| 2 ^ v))) 56 v (nI (xv ||| 2 ^ hFi h))) 58 (hNd h) (nI (hFi h))) 59 (hNd h) (nI v)) 54 6 (nI (hNd h + 1))) (2, hNd h + 1, hNs h, hLo h, hBa h, hFi h, nu (nu (hD h) (hFi h * 6 + v) (hNd h + 1)) (v * 6 + hFi h) (hNd h + 1), hSr h, nu (hOn h) (hNd h) (hFi h), nu (hTw h) (hNd h) v) := by
  have hfi := ho.2.2.2.2.2.2.2.1 (Or.inl hs)
  obtain ⟨a1, a2, a3, a4, a5, a6, a7, a8, a9⟩ := hm
  have nz : ¬ hNd h + 1 = 0 := by omega
  refine ⟨?_, xu_same, ?_, fun z => absurd z (by show ¬ 4 ≤ 2; omega), fun z => absurd z (by show ¬ 5 ≤ 2; omega), fun z => absurd z (by show ¬ (2 = 1 ∨ 2 = 7); omega), fun a ha => ?_, fun a ha => ?_, fun j hj => ?_⟩
  · rw [xu_ne2 (by omega), xu_ne1 (by omega), xu_ne1 (by omega), xu_ne1 (by omega), xu_ne1 (by omega), xu_same, hs]
  · rw [xu_ne2 (by omega), xu_ne1 (by omega), xu_ne1 (by omega), xu_ne1 (by omega), xu_ne1 (by omega), xu_ne2 (by omega)]; exact a3
  · rw [xu_c (by omega), xu_c (by omega), xu_c (by omega)]
    show ∃ x, x < 64 ∧ _ ∧ ∀ b, b < 6 → (x.testBit b = true ↔ ¬ nu (nu (hD h) (hFi h * 6 + v) (hNd h + 1)) (v * 6 + hFi h) (hNd h + 1) (a * 6 + b) = 0)
    by_cases e1 : a = v
    · subst e1
      refine ⟨_, or_lt64 hxv hfi, xu_same, fun b hb => ?_⟩
      rw [or_tb, Bool.or_eq_true, decide_eq_true_eq, hbv b hb]
      by_cases e2 : b = hFi h
      · rw [e2, nu_same]; exact ⟨fun _ => nz, fun _ => Or.inr rfl⟩
      · rw [nu_ne (by omega), nu_ne (by omega)]; exact ⟨fun z => z.elim id (fun w => absurd w.symm e2), Or.inl⟩
    · rw [xu_ne2 e1]
      by_cases e3 : a = hFi h
      · subst e3
        refine ⟨_, or_lt64 hxf hv, xu_same, fun b hb => ?_⟩
        rw [or_tb, Bool.or_eq_true, decide_eq_true_eq, hbf b hb]
        by_cases e2 : b = v
        · rw [e2, nu_ne (by omega), nu_same]; exact ⟨fun _ => nz, fun _ => Or.inr rfl⟩
        · rw [nu_ne (by omega), nu_ne (by omega)]; exact ⟨fun z => z.elim id (fun w => absurd w.symm e2), Or.inl⟩
      · obtain ⟨x, hx, ex, ebx⟩ := a7 a ha
        refine ⟨x, hx, by rw [xu_ne2 e3, xu_ne1 (by omega)]; exact ex, fun b hb => ?_⟩
        rw [nu_ne (by omega), nu_ne (by omega)]; exact ebx b hb
  · rw [xu_ne1 (by omega), xu_ne1 (by omega), xu_ne1 (by omega), xu_ne1 (by omega), xu_ne1 (by omega), xu_ne1 (by omega)]; exact a8 a ha
  · have hj2 : j < hNd h + 1 := hj
    show _ = nI (nu (hOn h) (hNd h) (hFi h) j) ∧ _ = nI (nu (hTw h) (hNd h) v j)
    by_cases e : j = hNd h
    · subst e
      rw [nu_same, nu_same]
      refine ⟨?_, ?_⟩
      · rw [xu_ne1 (by omega), xu_ne1 (by omega), xu_same]
      · rw [xu_ne1 (by omega), xu_same]
    · obtain ⟨b1, b2⟩ := a9 j (by omega)
      rw [nu_ne e, nu_ne e]
      refine ⟨?_, ?_⟩
      · rw [xu_ne1 (by omega), xu_ne1 (by omega), xu_ne2 e, xu_ne1 (by omega), xu_ne1 (by omega), xu_ne1 (by omega)]; exact b1
      · rw [xu_ne1 (by omega), xu_ne2 e, xu_ne1 (by omega), xu_ne1 (by omega), xu_ne1 (by omega), xu_ne1 (by omega)]; exact b2
theorem MH.sight {S : Nat → Nat → Int32} {h : hS} (hm : MH S h) (ho : hOk h) (hs : hSt h = 7) (v : Nat) (hv : v < 6) (hne : ¬ v = hFi h) :
    MH (xu (xu (xu (xu S 54 11 (nI (hSt h + 1))) 57 (hFi h) (nI (hSr h (hFi h) ||| 2 ^ v))) 57 v (nI (hSr h v ||| 2 ^ hFi h))) 54 7 (nI (hNs h + 1))) (8, hNd h, hNs h + 1, hLo h, hBa h, hFi h, hD h, nu (nu (hSr h) (hFi h) (hSr h (hFi h) ||| 2 ^ v)) v (hSr h v ||| 2 ^ hFi h), hOn h, hTw h) := by
  obtain ⟨a1, a2, a3, a4, a5, a6, a7, a8, a9⟩ := hm
  have k4 := a4 (by omega)
  have k5 := a5 (by omega)
  refine ⟨?_, ?_, xu_same, fun z => ?_, fun z => ?_, fun z => absurd z (by show ¬ (8 = 1 ∨ 8 = 7); omega), fun a ha => ?_, fun a ha => ?_, fun j hj => ?_⟩
  · rw [xu_ne2 (by omega), xu_ne1 (by omega), xu_ne1 (by omega), xu_same, hs]
  · rw [xu_ne2 (by omega), xu_ne1 (by omega), xu_ne1 (by omega), xu_ne2 (by omega)]; exact a2
  · rw [xu_ne2 (by omega), xu_ne1 (by omega), xu_ne1 (by omega), xu_ne2 (by omega)]; exact k4
  · rw [xu_ne2 (by omega), xu_ne1 (by omega), xu_ne1 (by omega), xu_ne2 (by omega)]; exact k5
  · rw [xu_c (by omega), xu_c (by omega), xu_c (by omega), xu_c (by omega)]; exact a7 a ha
  · show _ = nI (nu (nu (hSr h) (hFi h) (hSr h (hFi h) ||| 2 ^ v)) v (hSr h v ||| 2 ^ hFi h) a)
    rw [xu_ne1 (by omega)]
    by_cases e1 : a = v
    · subst e1; rw [nu_same, xu_same]
    · rw [nu_ne e1, xu_ne2 e1]
      by_cases e3 : a = hFi h
      · rw [e3, nu_same, xu_same]
      · rw [nu_ne e3, xu_ne2 e3, xu_ne1 (by omega)]; exact a8 a ha
  · rw [xu_c (by omega), xu_c (by omega), xu_c (by omega), xu_c (by omega), xu_c (by omega), xu_c (by omega), xu_c (by omega), xu_c (by omega)]; exact a9 j hj

set_option maxRecDepth 100000 in
set_option maxHeartbeats 2000000 in
theorem c_X10_goHouse (d : Nat) (S : Nat → Nat → Int32) (G : Nat → Nat → Int64) (h : hS) (ho : hOk h) (hm : MH S h) (c : Nat) (h126 : c ≤ 126) : xC (d + 2) mX10_goHouse [.ref 54, .int (nI c)] (σF, S, G) 0 0 (fun r h' => ∃ S', h' = (σF, S', G) ∧ frH S S' ∧ ((hstep h c = none ∧ r = some (.int 0)) ∨ ∃ h2, hstep h c = some h2 ∧ r = some (.int 1) ∧ MH S' h2)) := by
  refine xC.of okX10_goHouse (Nat.le_of_ble_eq_true rfl) (L := [_, _, _, _]) rfl ?_
  refine xA.iload_n (i := 1) rfl rfl rfl rfl ?_
  refine xA.bipush (v := 48) rfl (by decide) rfl ?_
  refine xA.isub rfl rfl ?_
  refine xA.istore_n (i := 2) (L' := [_, _, _, _]) rfl rfl (Nat.le_of_ble_eq_true rfl) rfl rfl ?_
  refine xA.aload_n (i := 0) rfl rfl rfl rfl ?_
  refine xA.getI rfl f10_109 rfl rfl rfl ?_
  refine xA.topi (hm.1) ?_
  refine xA.istore_n (i := 3) (L' := [_, _, _, _]) rfl rfl (Nat.le_of_ble_eq_true rfl) rfl rfl ?_
  refine xA.aload_n (i := 0) rfl rfl rfl rfl ?_
  refine xA.dup rfl rfl rfl ?_
  refine xA.getI rfl f10_109 rfl rfl rfl ?_
  refine xA.topi (hm.1) ?_
  refine xA.iconst (v := 1) rfl (by decide) rfl ?_
  refine xA.iadd rfl rfl ?_
  refine xA.topi (nI_1 _) ?_
  refine xA.putI rfl p10_109 rfl rfl rfl ?_
  refine xA.iload_n (i := 3) rfl rfl rfl rfl ?_
  by_cases h21_0 : hSt h = 0
  · have hs := h21_0; refine xA.topi (congrArg nI hs : _ = nI 0) ?_
    refine xA.tsIn (q := 68) rfl (by decide) (by decide) rfl rfl ?_
    rcases hd : hdg c 0 5 with _ | v
    · skip
      refine xA.aload_n (i := 0) rfl rfl rfl rfl ?_
      refine xA.iload_n (i := 2) rfl rfl rfl rfl ?_
      refine xA.putI rfl p10_100 rfl rfl rfl ?_
      refine xA.iload_n (i := 2) rfl rfl rfl rfl ?_
      refine xA.i2l rfl rfl ?_
      refine xA.lconst (v := 0) rfl (by decide) rfl ?_
      refine xA.ldc2 (v := 5) rfl w997 rfl ?_
      refine xA.callSi (As := [_, _, _]) rfl k10_96 okX10_in rfl rfl (Nat.le_of_ble_eq_true rfl) (c_X10_in (d + 1) _ G (nI c - 48) (nI 0) (nI 5)) rfl rfl ?_
      refine xA.topi (xb_f (fun z => by have := (hdg_in (lo := 0) (hi := 5) h126 (by omega) (by omega)).mp z; rw [hd] at this; cases this)) ?_
      exact xA.iret rfl rfl rfl ⟨_, rfl, (((frH.refl _).f (by omega)).f (by omega)), Or.inl ⟨by simp [hstep, hs, hd], rfl⟩⟩
    · skip
      refine xA.aload_n (i := 0) rfl rfl rfl rfl ?_
      refine xA.iload_n (i := 2) rfl rfl rfl rfl ?_
      refine xA.topi (hdg_ev hd) ?_
      refine xA.putI rfl p10_100 rfl rfl rfl ?_
      refine xA.iload_n (i := 2) rfl rfl rfl rfl ?_
      refine xA.i2l rfl rfl ?_
      refine xA.lconst (v := 0) rfl (by decide) rfl ?_
      refine xA.ldc2 (v := 5) rfl w997 rfl ?_
      refine xA.callSi (As := [_, _, _]) rfl k10_96 okX10_in rfl rfl (Nat.le_of_ble_eq_true rfl) (c_X10_in (d + 1) _ G (nI c - 48) (nI 0) (nI 5)) rfl rfl ?_
      refine xA.topi (xb_t ((hdg_in (lo := 0) (hi := 5) h126 (by omega) (by omega)).mpr (by rw [hd]; rfl))) ?_
      exact xA.iret rfl rfl rfl ⟨_, rfl, (((frH.refl _).f (by omega)).f (by omega)), Or.inr ⟨_, by simp [hstep, hs, hd], rfl, hm.f (h2 := (hSt h + 1, hNd h, hNs h, hLo h, hBa h, v, hD h, hSr h, hOn h, hTw h)) (fun j hj => (xu_c hj).trans (xu_c hj)) ((xu_ne2 (by omega)).trans xu_same) rfl rfl ((xu_ne2 (by omega)).trans ((xu_ne2 (by omega)).trans rfl)) ((xu_ne2 (by omega)).trans ((xu_ne2 (by omega)).trans rfl)) (fun z => ((xu_ne2 (by omega)).trans ((xu_ne2 (by omega)).trans (hm.2.2.2.1 (by have z : 4 ≤ hSt h + 1 := z; omega))))) (fun z => ((xu_ne2 (by omega)).trans ((xu_ne2 (by omega)).trans (hm.2.2.2.2.1 (by have z : 5 ≤ hSt h + 1 := z; omega))))) (fun _ => xu_same) rfl rfl rfl rfl⟩⟩
  by_cases h21_1 : hSt h = 1
  · have hs := h21_1; refine xA.topi (congrArg nI hs : _ = nI 1) ?_
    refine xA.tsIn (q := 83) rfl (by decide) (by decide) rfl rfl ?_
    rcases hd : hdg c 0 5 with _ | v
    · skip
      refine xA.aload_n (i := 0) rfl rfl rfl rfl ?_
      refine xA.iload_n (i := 2) rfl rfl rfl rfl ?_
      refine xA.callVi (As := [_]) rfl k10_112 okX10_goDoor rfl rfl rfl rfl (Nat.le_of_ble_eq_true rfl) (c_X10_goDoorN d _ G (nI c - 48) (fun z => by have := (hdg_rg h126).mp z; rw [hd] at this; cases this)) rfl rfl ?_
      exact xA.iret rfl rfl rfl ⟨_, rfl, ((frH.refl _).f (by omega)), Or.inl ⟨by simp [hstep, hs, hd], rfl⟩⟩
    · have hv := hdg_some hd
      have hfi := ho.2.2.2.2.2.2.2.1 (Or.inl hs)
      obtain ⟨xf, hxf, exf, hbf⟩ := hm.2.2.2.2.2.2.1 (hFi h) hfi
      obtain ⟨xv, hxv, exv, hbv⟩ := hm.2.2.2.2.2.2.1 v (by omega)
      refine xA.aload_n (i := 0) rfl rfl rfl rfl ?_
      by_cases hcd : v ≠ hFi h ∧ hD h (hFi h * 6 + v) = 0
      · skip
        refine xA.iload_n (i := 2) rfl rfl rfl rfl ?_
        refine xA.topi (hdg_ev hd) ?_
        refine xA.callVi (As := [_]) rfl k10_112 okX10_goDoor rfl rfl rfl rfl (Nat.le_of_ble_eq_true rfl) (c_X10_goDoorT d _ G v (hFi h) xf xv (hNd h) (by omega) hfi ((xu_ne2 (by omega)).trans (hm.2.2.2.2.2.1 (Or.inl hs))) hxf ((xu_ne1 (by omega)).trans exf) hxv ((xu_ne1 (by omega)).trans exv) hcd.1 (by rw [← Bool.not_eq_true, hbf v (by omega)]; exact not_not_intro hcd.2) ((xu_ne2 (by omega)).trans hm.2.1) (ho.2.2.1 (by omega))) rfl rfl ?_
        exact xA.iret rfl rfl rfl ⟨_, rfl, (((((((frH.refl _).f (by omega)).c (by omega)).c (by omega)).c (by omega)).c (by omega)).f (by omega)), Or.inr ⟨_, by simp only [hstep, hs, hd]; simp [hcd], rfl, hm.door ho hs v xf xv (by omega) hcd.1 hxf hxv hbf hbv⟩⟩
      · skip
        refine xA.iload_n (i := 2) rfl rfl rfl rfl ?_
        refine xA.topi (hdg_ev hd) ?_
        refine xA.callVi (As := [_]) rfl k10_112 okX10_goDoor rfl rfl rfl rfl (Nat.le_of_ble_eq_true rfl) (c_X10_goDoorF d _ G v (hFi h) xf (by omega) hfi ((xu_ne2 (by omega)).trans (hm.2.2.2.2.2.1 (Or.inl hs))) hxf ((xu_ne1 (by omega)).trans exf) (by by_cases e : v = hFi h; exact Or.inl e; exact Or.inr ((hbf v (by omega)).mpr (fun z => hcd ⟨e, z⟩)))) rfl rfl ?_
        exact xA.iret rfl rfl rfl ⟨_, rfl, ((frH.refl _).f (by omega)), Or.inl ⟨by simp only [hstep, hs, hd]; simp [-not_and, -ne_eq, hcd], rfl⟩⟩
  by_cases h21_2 : hSt h = 2
  · have hs := h21_2; refine xA.topi (congrArg nI hs : _ = nI 2) ?_
    refine xA.tsIn (q := 89) rfl (by decide) (by decide) rfl rfl ?_
    by_cases hd : c = 59
    · have hd3 : ¬ c = 44 := by omega
      refine xA.aload_n (i := 0) rfl rfl rfl rfl ?_
      refine xA.iload_n (i := 1) rfl rfl rfl rfl ?_
      refine xA.bipush (v := 44) rfl (by decide) rfl ?_
      refine xA.icmp_ne (tgt := 100) rfl rfl rfl (fun h93 => ?_) (fun h93 => ?_)
      · refine xA.iconst (v := 3) rfl (by decide) rfl ?_
        refine xA.putI rfl p10_109 rfl rfl rfl ?_
        refine xA.iload_n (i := 1) rfl rfl rfl rfl ?_
        refine xA.bipush (v := 44) rfl (by decide) rfl ?_
        refine xA.icmp_ne (tgt := 127) rfl rfl rfl (fun h107 => ?_) (fun h107 => ?_)
        · refine xA.iload_n (i := 1) rfl rfl rfl rfl ?_
          refine xA.bipush (v := 59) rfl (by decide) rfl ?_
          refine xA.icmp_ne (tgt := 137) rfl rfl rfl (fun h130 => ?_) (fun h130 => ?_)
          · exact absurd (by rw [hd]; rfl) h130
          · refine xA.iconst (v := 1) rfl (by decide) rfl ?_
            refine xA.goto (q := 138) rfl rfl ?_
            exact xA.iret rfl rfl rfl ⟨_, rfl, (((frH.refl _).f (by omega)).f (by omega)), Or.inr ⟨_, by simp [hstep, hs, hd], rfl, hm.f (h2 := (3, h.2)) (fun j hj => (xu_c hj).trans (xu_c hj)) xu_same rfl rfl ((xu_ne2 (by omega)).trans ((xu_ne2 (by omega)).trans rfl)) ((xu_ne2 (by omega)).trans ((xu_ne2 (by omega)).trans rfl)) (fun z => absurd z (by show ¬ 4 ≤ 3; omega)) (fun z => absurd z (by show ¬ 5 ≤ 3; omega)) (fun z => absurd z (by show ¬ (3 = 1 ∨ 3 = 7); omega)) rfl rfl rfl rfl⟩⟩
        · exact absurd ((nI_eq (b := 44) (by omega) (by omega)).mp h107) hd3
      · exact absurd ((nI_eq (b := 44) (by omega) (by omega)).mp h93) hd3
    · skip
      refine xA.aload_n (i := 0) rfl rfl rfl rfl ?_
      by_cases hd3 : c = 44
      · skip
        refine xA.iload_n (i := 1) rfl rfl rfl rfl ?_
        by_cases hd2 : hNd h < 10
        · skip
          refine xA.bipush (v := 44) rfl (by decide) rfl ?_
          refine xA.icmp_ne (tgt := 100) rfl rfl rfl (fun h93 => ?_) (fun h93 => ?_)
          · exact absurd (by rw [hd3]; rfl) h93
          · refine xA.iconst (v := 0) rfl (by decide) rfl ?_
            refine xA.goto (q := 101) rfl rfl ?_
            refine xA.putI rfl p10_109 rfl rfl rfl ?_
            refine xA.iload_n (i := 1) rfl rfl rfl rfl ?_
            refine xA.bipush (v := 44) rfl (by decide) rfl ?_
            refine xA.icmp_ne (tgt := 127) rfl rfl rfl (fun h107 => ?_) (fun h107 => ?_)
            · exact absurd (by rw [hd3]; rfl) h107
            · refine xA.aload_n (i := 0) rfl rfl rfl rfl ?_
              refine xA.getI rfl f10_103 rfl rfl rfl ?_
              refine xA.topi (((xu_ne2 (by omega)).trans ((xu_ne2 (by omega)).trans hm.2.1))) ?_
              refine xA.bipush (v := 10) rfl (by decide) rfl ?_
              refine xA.icmp_ge (tgt := 123) rfl rfl rfl (fun h116 => ?_) (fun h116 => ?_)
              · exact absurd h116 (nI_ge (b := 10) hd2 (by omega))
              · refine xA.iconst (v := 1) rfl (by decide) rfl ?_
                refine xA.goto (q := 138) rfl rfl ?_
                exact xA.iret rfl rfl rfl ⟨_, rfl, (((frH.refl _).f (by omega)).f (by omega)), Or.inr ⟨_, by simp [hstep, hs, hd3, hd2], rfl, hm.f (h2 := (0, h.2)) (fun j hj => (xu_c hj).trans (xu_c hj)) xu_same rfl rfl ((xu_ne2 (by omega)).trans ((xu_ne2 (by omega)).trans rfl)) ((xu_ne2 (by omega)).trans ((xu_ne2 (by omega)).trans rfl)) (fun z => absurd z (by show ¬ 4 ≤ 0; omega)) (fun z => absurd z (by show ¬ 5 ≤ 0; omega)) (fun z => absurd z (by show ¬ (0 = 1 ∨ 0 = 7); omega)) rfl rfl rfl rfl⟩⟩
        · skip
          refine xA.bipush (v := 44) rfl (by decide) rfl ?_
          refine xA.icmp_ne (tgt := 100) rfl rfl rfl (fun h93 => ?_) (fun h93 => ?_)
          · exact absurd (by rw [hd3]; rfl) h93
          · refine xA.iconst (v := 0) rfl (by decide) rfl ?_
            refine xA.goto (q := 101) rfl rfl ?_
            refine xA.putI rfl p10_109 rfl rfl rfl ?_
            refine xA.iload_n (i := 1) rfl rfl rfl rfl ?_
            refine xA.bipush (v := 44) rfl (by decide) rfl ?_
            refine xA.icmp_ne (tgt := 127) rfl rfl rfl (fun h107 => ?_) (fun h107 => ?_)
            · exact absurd (by rw [hd3]; rfl) h107
            · refine xA.aload_n (i := 0) rfl rfl rfl rfl ?_
              refine xA.getI rfl f10_103 rfl rfl rfl ?_
              refine xA.topi (((xu_ne2 (by omega)).trans ((xu_ne2 (by omega)).trans hm.2.1))) ?_
              refine xA.bipush (v := 10) rfl (by decide) rfl ?_
              refine xA.icmp_ge (tgt := 123) rfl rfl rfl (fun h116 => ?_) (fun h116 => ?_)
              · refine xA.iconst (v := 0) rfl (by decide) rfl ?_
                refine xA.goto (q := 138) rfl rfl ?_
                exact xA.iret rfl rfl rfl ⟨_, rfl, (((frH.refl _).f (by omega)).f (by omega)), Or.inl ⟨by simp [hstep, hs, hd3, hd2], rfl⟩⟩
              · exact absurd (nI_le (a := 10) (by omega) (by have := ho.2.1; omega)) h116
      · skip
        refine xA.iload_n (i := 1) rfl rfl rfl rfl ?_
        refine xA.bipush (v := 44) rfl (by decide) rfl ?_
        refine xA.icmp_ne (tgt := 100) rfl rfl rfl (fun h93 => ?_) (fun h93 => ?_)
        · refine xA.iconst (v := 3) rfl (by decide) rfl ?_
          refine xA.putI rfl p10_109 rfl rfl rfl ?_
          refine xA.iload_n (i := 1) rfl rfl rfl rfl ?_
          refine xA.bipush (v := 44) rfl (by decide) rfl ?_
          refine xA.icmp_ne (tgt := 127) rfl rfl rfl (fun h107 => ?_) (fun h107 => ?_)
          · refine xA.iload_n (i := 1) rfl rfl rfl rfl ?_
            refine xA.bipush (v := 59) rfl (by decide) rfl ?_
            refine xA.icmp_ne (tgt := 137) rfl rfl rfl (fun h130 => ?_) (fun h130 => ?_)
            · refine xA.iconst (v := 0) rfl (by decide) rfl ?_
              exact xA.iret rfl rfl rfl ⟨_, rfl, (((frH.refl _).f (by omega)).f (by omega)), Or.inl ⟨by simp [hstep, hs, hd, hd3], rfl⟩⟩
            · exact absurd ((nI_eq (b := 59) (by omega) (by omega)).mp h130) hd
          · exact absurd ((nI_eq (b := 44) (by omega) (by omega)).mp h107) hd3
        · exact absurd ((nI_eq (b := 44) (by omega) (by omega)).mp h93) hd3
  by_cases h21_3 : hSt h = 3
  · have hs := h21_3; refine xA.topi (congrArg nI hs : _ = nI 3) ?_
    refine xA.tsIn (q := 139) rfl (by decide) (by decide) rfl rfl ?_
    rcases hd : hdg c 0 5 with _ | v
    · skip
      refine xA.aload_n (i := 0) rfl rfl rfl rfl ?_
      refine xA.iload_n (i := 2) rfl rfl rfl rfl ?_
      refine xA.putI rfl p10_116 rfl rfl rfl ?_
      refine xA.iload_n (i := 2) rfl rfl rfl rfl ?_
      refine xA.i2l rfl rfl ?_
      refine xA.lconst (v := 0) rfl (by decide) rfl ?_
      refine xA.ldc2 (v := 5) rfl w997 rfl ?_
      refine xA.callSi (As := [_, _, _]) rfl k10_96 okX10_in rfl rfl (Nat.le_of_ble_eq_true rfl) (c_X10_in (d + 1) _ G (nI c - 48) (nI 0) (nI 5)) rfl rfl ?_
      refine xA.topi (xb_f (fun z => by have := (hdg_in (lo := 0) (hi := 5) h126 (by omega) (by omega)).mp z; rw [hd] at this; cases this)) ?_
      exact xA.iret rfl rfl rfl ⟨_, rfl, (((frH.refl _).f (by omega)).f (by omega)), Or.inl ⟨by simp [hstep, hs, hd], rfl⟩⟩
    · skip
      refine xA.aload_n (i := 0) rfl rfl rfl rfl ?_
      refine xA.iload_n (i := 2) rfl rfl rfl rfl ?_
      refine xA.topi (hdg_ev hd) ?_
      refine xA.putI rfl p10_116 rfl rfl rfl ?_
      refine xA.iload_n (i := 2) rfl rfl rfl rfl ?_
      refine xA.i2l rfl rfl ?_
      refine xA.lconst (v := 0) rfl (by decide) rfl ?_
      refine xA.ldc2 (v := 5) rfl w997 rfl ?_
      refine xA.callSi (As := [_, _, _]) rfl k10_96 okX10_in rfl rfl (Nat.le_of_ble_eq_true rfl) (c_X10_in (d + 1) _ G (nI c - 48) (nI 0) (nI 5)) rfl rfl ?_
      refine xA.topi (xb_t ((hdg_in (lo := 0) (hi := 5) h126 (by omega) (by omega)).mpr (by rw [hd]; rfl))) ?_
      exact xA.iret rfl rfl rfl ⟨_, rfl, (((frH.refl _).f (by omega)).f (by omega)), Or.inr ⟨_, by simp [hstep, hs, hd], rfl, hm.f (h2 := (4, hNd h, hNs h, v, hBa h, hFi h, hD h, hSr h, hOn h, hTw h)) (fun j hj => (xu_c hj).trans (xu_c hj)) (by rw [xu_ne2 (by omega), xu_same, hs]) rfl rfl ((xu_ne2 (by omega)).trans ((xu_ne2 (by omega)).trans rfl)) ((xu_ne2 (by omega)).trans ((xu_ne2 (by omega)).trans rfl)) (fun _ => xu_same) (fun z => absurd z (by show ¬ 5 ≤ 4; omega)) (fun z => absurd z (by show ¬ (4 = 1 ∨ 4 = 7); omega)) rfl rfl rfl rfl⟩⟩
  by_cases h21_4 : hSt h = 4
  · have hs := h21_4; refine xA.topi (congrArg nI hs : _ = nI 4) ?_
    refine xA.tsIn (q := 154) rfl (by decide) (by decide) rfl rfl ?_
    rcases hd : hdg c 1 9 with _ | v
    · skip
      refine xA.aload_n (i := 0) rfl rfl rfl rfl ?_
      refine xA.iload_n (i := 2) rfl rfl rfl rfl ?_
      refine xA.putI rfl p10_119 rfl rfl rfl ?_
      refine xA.iload_n (i := 2) rfl rfl rfl rfl ?_
      refine xA.i2l rfl rfl ?_
      refine xA.lconst (v := 1) rfl (by decide) rfl ?_
      refine xA.ldc2 (v := 9) rfl w1005 rfl ?_
      refine xA.callSi (As := [_, _, _]) rfl k10_96 okX10_in rfl rfl (Nat.le_of_ble_eq_true rfl) (c_X10_in (d + 1) _ G (nI c - 48) (nI 1) (nI 9)) rfl rfl ?_
      refine xA.topi (xb_f (fun z => by have := (hdg_in (lo := 1) (hi := 9) h126 (by omega) (by omega)).mp z; rw [hd] at this; cases this)) ?_
      exact xA.iret rfl rfl rfl ⟨_, rfl, (((frH.refl _).f (by omega)).f (by omega)), Or.inl ⟨by simp [hstep, hs, hd], rfl⟩⟩
    · skip
      refine xA.aload_n (i := 0) rfl rfl rfl rfl ?_
      refine xA.iload_n (i := 2) rfl rfl rfl rfl ?_
      refine xA.topi (hdg_ev hd) ?_
      refine xA.putI rfl p10_119 rfl rfl rfl ?_
      refine xA.iload_n (i := 2) rfl rfl rfl rfl ?_
      refine xA.i2l rfl rfl ?_
      refine xA.lconst (v := 1) rfl (by decide) rfl ?_
      refine xA.ldc2 (v := 9) rfl w1005 rfl ?_
      refine xA.callSi (As := [_, _, _]) rfl k10_96 okX10_in rfl rfl (Nat.le_of_ble_eq_true rfl) (c_X10_in (d + 1) _ G (nI c - 48) (nI 1) (nI 9)) rfl rfl ?_
      refine xA.topi (xb_t ((hdg_in (lo := 1) (hi := 9) h126 (by omega) (by omega)).mpr (by rw [hd]; rfl))) ?_
      exact xA.iret rfl rfl rfl ⟨_, rfl, (((frH.refl _).f (by omega)).f (by omega)), Or.inr ⟨_, by simp [hstep, hs, hd], rfl, hm.f (h2 := (5, hNd h, hNs h, hLo h, v, hFi h, hD h, hSr h, hOn h, hTw h)) (fun j hj => (xu_c hj).trans (xu_c hj)) (by rw [xu_ne2 (by omega), xu_same, hs]) rfl rfl ((xu_ne2 (by omega)).trans ((xu_ne2 (by omega)).trans rfl)) ((xu_ne2 (by omega)).trans ((xu_ne2 (by omega)).trans rfl)) (fun _ => ((xu_ne2 (by omega)).trans ((xu_ne2 (by omega)).trans (hm.2.2.2.1 (by omega))))) (fun _ => xu_same) (fun z => absurd z (by show ¬ (5 = 1 ∨ 5 = 7); omega)) rfl rfl rfl rfl⟩⟩
  by_cases h21_5 : hSt h = 5
  · have hs := h21_5; refine xA.topi (congrArg nI hs : _ = nI 5) ?_
    refine xA.tsIn (q := 169) rfl (by decide) (by decide) rfl rfl ?_
    by_cases hd : c = 59
    · skip
      refine xA.iload_n (i := 1) rfl rfl rfl rfl ?_
      refine xA.bipush (v := 59) rfl (by decide) rfl ?_
      refine xA.icmp_ne (tgt := 179) rfl rfl rfl (fun h172 => ?_) (fun h172 => ?_)
      · exact absurd (by rw [hd]; rfl) h172
      · refine xA.iconst (v := 1) rfl (by decide) rfl ?_
        refine xA.goto (q := 180) rfl rfl ?_
        exact xA.iret rfl rfl rfl ⟨_, rfl, ((frH.refl _).f (by omega)), Or.inr ⟨_, by simp [hstep, hs, hd], rfl, hm.f (h2 := (6, h.2)) (fun j hj => xu_c hj) (by rw [xu_same, hs]) rfl rfl ((xu_ne2 (by omega)).trans rfl) ((xu_ne2 (by omega)).trans rfl) (fun _ => ((xu_ne2 (by omega)).trans (hm.2.2.2.1 (by omega)))) (fun _ => ((xu_ne2 (by omega)).trans (hm.2.2.2.2.1 (by omega)))) (fun z => absurd z (by show ¬ (6 = 1 ∨ 6 = 7); omega)) rfl rfl rfl rfl⟩⟩
    · skip
      refine xA.iload_n (i := 1) rfl rfl rfl rfl ?_
      refine xA.bipush (v := 59) rfl (by decide) rfl ?_
      refine xA.icmp_ne (tgt := 179) rfl rfl rfl (fun h172 => ?_) (fun h172 => ?_)
      · refine xA.iconst (v := 0) rfl (by decide) rfl ?_
        exact xA.iret rfl rfl rfl ⟨_, rfl, ((frH.refl _).f (by omega)), Or.inl ⟨by simp [hstep, hs, hd], rfl⟩⟩
      · exact absurd ((nI_eq (b := 59) (by omega) (by omega)).mp h172) hd
  by_cases h21_6 : hSt h = 6
  · have hs := h21_6; refine xA.topi (congrArg nI hs : _ = nI 6) ?_
    refine xA.tsIn (q := 68) rfl (by decide) (by decide) rfl rfl ?_
    rcases hd : hdg c 0 5 with _ | v
    · skip
      refine xA.aload_n (i := 0) rfl rfl rfl rfl ?_
      refine xA.iload_n (i := 2) rfl rfl rfl rfl ?_
      refine xA.putI rfl p10_100 rfl rfl rfl ?_
      refine xA.iload_n (i := 2) rfl rfl rfl rfl ?_
      refine xA.i2l rfl rfl ?_
      refine xA.lconst (v := 0) rfl (by decide) rfl ?_
      refine xA.ldc2 (v := 5) rfl w997 rfl ?_
      refine xA.callSi (As := [_, _, _]) rfl k10_96 okX10_in rfl rfl (Nat.le_of_ble_eq_true rfl) (c_X10_in (d + 1) _ G (nI c - 48) (nI 0) (nI 5)) rfl rfl ?_
      refine xA.topi (xb_f (fun z => by have := (hdg_in (lo := 0) (hi := 5) h126 (by omega) (by omega)).mp z; rw [hd] at this; cases this)) ?_
      exact xA.iret rfl rfl rfl ⟨_, rfl, (((frH.refl _).f (by omega)).f (by omega)), Or.inl ⟨by simp [hstep, hs, hd], rfl⟩⟩
    · skip
      refine xA.aload_n (i := 0) rfl rfl rfl rfl ?_
      refine xA.iload_n (i := 2) rfl rfl rfl rfl ?_
      refine xA.topi (hdg_ev hd) ?_
      refine xA.putI rfl p10_100 rfl rfl rfl ?_
      refine xA.iload_n (i := 2) rfl rfl rfl rfl ?_
      refine xA.i2l rfl rfl ?_
      refine xA.lconst (v := 0) rfl (by decide) rfl ?_
      refine xA.ldc2 (v := 5) rfl w997 rfl ?_
      refine xA.callSi (As := [_, _, _]) rfl k10_96 okX10_in rfl rfl (Nat.le_of_ble_eq_true rfl) (c_X10_in (d + 1) _ G (nI c - 48) (nI 0) (nI 5)) rfl rfl ?_
      refine xA.topi (xb_t ((hdg_in (lo := 0) (hi := 5) h126 (by omega) (by omega)).mpr (by rw [hd]; rfl))) ?_
      exact xA.iret rfl rfl rfl ⟨_, rfl, (((frH.refl _).f (by omega)).f (by omega)), Or.inr ⟨_, by simp [hstep, hs, hd], rfl, hm.f (h2 := (hSt h + 1, hNd h, hNs h, hLo h, hBa h, v, hD h, hSr h, hOn h, hTw h)) (fun j hj => (xu_c hj).trans (xu_c hj)) ((xu_ne2 (by omega)).trans xu_same) rfl rfl ((xu_ne2 (by omega)).trans ((xu_ne2 (by omega)).trans rfl)) ((xu_ne2 (by omega)).trans ((xu_ne2 (by omega)).trans rfl)) (fun z => ((xu_ne2 (by omega)).trans ((xu_ne2 (by omega)).trans (hm.2.2.2.1 (by have z : 4 ≤ hSt h + 1 := z; omega))))) (fun z => ((xu_ne2 (by omega)).trans ((xu_ne2 (by omega)).trans (hm.2.2.2.2.1 (by have z : 5 ≤ hSt h + 1 := z; omega))))) (fun _ => xu_same) rfl rfl rfl rfl⟩⟩
  by_cases h21_7 : hSt h = 7
  · have hs := h21_7; refine xA.topi (congrArg nI hs : _ = nI 7) ?_
    refine xA.tsIn (q := 181) rfl (by decide) (by decide) rfl rfl ?_
    rcases hd : hdg c 0 5 with _ | v
    · skip
      refine xA.aload_n (i := 0) rfl rfl rfl rfl ?_
      refine xA.iload_n (i := 2) rfl rfl rfl rfl ?_
      refine xA.callVi (As := [_]) rfl k10_124 okX10_goSight rfl rfl rfl rfl (Nat.le_of_ble_eq_true rfl) (c_X10_goSightN d _ G (nI c - 48) (fun z => by have := (hdg_rg h126).mp z; rw [hd] at this; cases this)) rfl rfl ?_
      exact xA.iret rfl rfl rfl ⟨_, rfl, ((frH.refl _).f (by omega)), Or.inl ⟨by simp [hstep, hs, hd], rfl⟩⟩
    · have hv := hdg_some hd
      have hfi := ho.2.2.2.2.2.2.2.1 (Or.inr hs)
      have hx := ho.2.2.2.2.2.2.2.2.1
      have hsi := hm.2.2.2.2.2.2.2.1
      refine xA.aload_n (i := 0) rfl rfl rfl rfl ?_
      by_cases hcd : v ≠ hFi h ∧ (hSr h (hFi h)).testBit v = false
      · skip
        refine xA.iload_n (i := 2) rfl rfl rfl rfl ?_
        refine xA.topi (hdg_ev hd) ?_
        refine xA.callVi (As := [_]) rfl k10_124 okX10_goSight rfl rfl rfl rfl (Nat.le_of_ble_eq_true rfl) (c_X10_goSightT d _ G v (hFi h) (hSr h (hFi h)) (hSr h v) (hNs h) (by omega) hfi ((xu_ne2 (by omega)).trans (hm.2.2.2.2.2.1 (Or.inr hs))) (hx _) ((xu_ne1 (by omega)).trans (hsi _ hfi)) (hx _) ((xu_ne1 (by omega)).trans (hsi _ (by omega))) hcd.1 hcd.2 ((xu_ne2 (by omega)).trans hm.2.2.1)) rfl rfl ?_
        exact xA.iret rfl rfl rfl ⟨_, rfl, (((((frH.refl _).f (by omega)).c (by omega)).c (by omega)).f (by omega)), Or.inr ⟨_, by simp only [hstep, hs, hd]; simp [hcd], rfl, hm.sight ho hs v (by omega) hcd.1⟩⟩
      · skip
        refine xA.iload_n (i := 2) rfl rfl rfl rfl ?_
        refine xA.topi (hdg_ev hd) ?_
        refine xA.callVi (As := [_]) rfl k10_124 okX10_goSight rfl rfl rfl rfl (Nat.le_of_ble_eq_true rfl) (c_X10_goSightF d _ G v (hFi h) (hSr h (hFi h)) (by omega) hfi ((xu_ne2 (by omega)).trans (hm.2.2.2.2.2.1 (Or.inr hs))) (hx _) ((xu_ne1 (by omega)).trans (hsi _ hfi)) (by by_cases e : v = hFi h; exact Or.inl e; exact Or.inr (by by_cases e2 : (hSr h (hFi h)).testBit v = true; exact e2; exact absurd ⟨e, by simpa using e2⟩ hcd))) rfl rfl ?_
        exact xA.iret rfl rfl rfl ⟨_, rfl, ((frH.refl _).f (by omega)), Or.inl ⟨by simp only [hstep, hs, hd]; simp [-not_and, -ne_eq, hcd], rfl⟩⟩
  have hs : hSt h = 8 := by have := ho.1; omega
  refine xA.topi (congrArg nI hs : _ = nI 8) ?_
  refine xA.tsOut (q := 187) rfl (by decide) rfl ?_
  by_cases hd : c = 44
  · have hd3 := hd
    refine xA.aload_n (i := 0) rfl rfl rfl rfl ?_
    by_cases hd2 : hNs h < 4
    · skip
      refine xA.bipush (v := 6) rfl (by decide) rfl ?_
      refine xA.putI rfl p10_109 rfl rfl rfl ?_
      refine xA.iload_n (i := 1) rfl rfl rfl rfl ?_
      refine xA.bipush (v := 44) rfl (by decide) rfl ?_
      refine xA.icmp_ne (tgt := 211) rfl rfl rfl (fun h196 => ?_) (fun h196 => ?_)
      · exact absurd (by rw [hd3]; rfl) h196
      · refine xA.aload_n (i := 0) rfl rfl rfl rfl ?_
        refine xA.getI rfl f10_106 rfl rfl rfl ?_
        refine xA.topi (((xu_ne2 (by omega)).trans ((xu_ne2 (by omega)).trans hm.2.2.1))) ?_
        refine xA.iconst (v := 4) rfl (by decide) rfl ?_
        refine xA.icmp_ge (tgt := 211) rfl rfl rfl (fun h204 => ?_) (fun h204 => ?_)
        · exact absurd h204 (nI_ge (b := 4) hd2 (by omega))
        · refine xA.iconst (v := 1) rfl (by decide) rfl ?_
          refine xA.goto (q := 212) rfl rfl ?_
          exact xA.iret rfl rfl rfl ⟨_, rfl, (((frH.refl _).f (by omega)).f (by omega)), Or.inr ⟨_, by simp [hstep, hs, hd, hd2], rfl, hm.f (h2 := (6, h.2)) (fun j hj => (xu_c hj).trans (xu_c hj)) xu_same rfl rfl ((xu_ne2 (by omega)).trans ((xu_ne2 (by omega)).trans rfl)) ((xu_ne2 (by omega)).trans ((xu_ne2 (by omega)).trans rfl)) (fun _ => ((xu_ne2 (by omega)).trans ((xu_ne2 (by omega)).trans (hm.2.2.2.1 (by omega))))) (fun _ => ((xu_ne2 (by omega)).trans ((xu_ne2 (by omega)).trans (hm.2.2.2.2.1 (by omega))))) (fun z => absurd z (by show ¬ (6 = 1 ∨ 6 = 7); omega)) rfl rfl rfl rfl⟩⟩
    · skip
      refine xA.bipush (v := 6) rfl (by decide) rfl ?_
      refine xA.putI rfl p10_109 rfl rfl rfl ?_
      refine xA.iload_n (i := 1) rfl rfl rfl rfl ?_
      refine xA.bipush (v := 44) rfl (by decide) rfl ?_
      refine xA.icmp_ne (tgt := 211) rfl rfl rfl (fun h196 => ?_) (fun h196 => ?_)
      · exact absurd (by rw [hd3]; rfl) h196
      · refine xA.aload_n (i := 0) rfl rfl rfl rfl ?_
        refine xA.getI rfl f10_106 rfl rfl rfl ?_
        refine xA.topi (((xu_ne2 (by omega)).trans ((xu_ne2 (by omega)).trans hm.2.2.1))) ?_
        refine xA.iconst (v := 4) rfl (by decide) rfl ?_
        refine xA.icmp_ge (tgt := 211) rfl rfl rfl (fun h204 => ?_) (fun h204 => ?_)
        · refine xA.iconst (v := 0) rfl (by decide) rfl ?_
          exact xA.iret rfl rfl rfl ⟨_, rfl, (((frH.refl _).f (by omega)).f (by omega)), Or.inl ⟨by simp [hstep, hs, hd, hd2], rfl⟩⟩
        · exact absurd (nI_le (a := 4) (by omega) (by have := ho.2.2.2.1; omega)) h204
  · have hd3 := hd
    refine xA.aload_n (i := 0) rfl rfl rfl rfl ?_
    refine xA.bipush (v := 6) rfl (by decide) rfl ?_
    refine xA.putI rfl p10_109 rfl rfl rfl ?_
    refine xA.iload_n (i := 1) rfl rfl rfl rfl ?_
    refine xA.bipush (v := 44) rfl (by decide) rfl ?_
    refine xA.icmp_ne (tgt := 211) rfl rfl rfl (fun h196 => ?_) (fun h196 => ?_)
    · refine xA.iconst (v := 0) rfl (by decide) rfl ?_
      exact xA.iret rfl rfl rfl ⟨_, rfl, (((frH.refl _).f (by omega)).f (by omega)), Or.inl ⟨by simp [hstep, hs, hd], rfl⟩⟩
    · exact absurd ((nI_eq (b := 44) (by omega) (by omega)).mp h196) hd3

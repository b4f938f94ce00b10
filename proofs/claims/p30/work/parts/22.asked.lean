variable {τ : List xSh}
/-! ===== the class's methods that ask ===== -/
set_option maxRecDepth 100000 in
set_option maxHeartbeats 400000 in
theorem c_X9_personAt (d : Nat) (S : Nat → Nat → Int32) (G : Nat → Nat → Int64) (P : Nat) (hP : S 0 10 = nI P) (h4 : P ≤ 4) (i : Nat) (hi : i < P) : xR τ d mX9_personAt [.ref 0, .int (nI i)] S G (some (.ref (42 + 3 * i))) S G := by
  refine xC.of okX9_personAt (Nat.le_of_ble_eq_true rfl) (L := [_, _]) rfl ?_
  refine xA.iload_n (i := 1) rfl rfl rfl rfl ?_
  refine xA.if_lt (tgt := 30) rfl rfl rfl (fun h1 => ?_) (fun h1 => ?_)
  · exact absurd h1 (nI_pos (by omega))
  · refine xA.iload_n (i := 1) rfl rfl rfl rfl ?_
    refine xA.aload_n (i := 0) rfl rfl rfl rfl ?_
    refine xA.getI rfl f9_105 rfl rfl rfl ?_
    refine xA.topi (hP) ?_
    refine xA.icmp_ge (tgt := 30) rfl rfl rfl (fun h9 => ?_) (fun h9 => ?_)
    · exact absurd h9 (nI_ge hi (by omega))
    · refine xA.iload_n (i := 1) rfl rfl rfl rfl ?_
      refine xA.aload_n (i := 0) rfl rfl rfl rfl ?_
      refine xA.getR rfl f9_35 rfl rfl rfl rfl ?_
      refine xA.alenR rfl rfl rfl ?_
      refine xA.icmp_ge (tgt := 30) rfl rfl rfl (fun h18 => ?_) (fun h18 => ?_)
      · exact absurd h18 (nI_ge (b := 4) (by omega) (by omega))
      · refine xA.aload_n (i := 0) rfl rfl rfl rfl ?_
        refine xA.getR rfl f9_35 rfl rfl rfl rfl ?_
        refine xA.iload_n (i := 1) rfl rfl rfl rfl ?_
        refine xA.aald rfl rfl (vp_in_nI (n := i) (by show i < 4; omega) (by show 4 < _; omega)) (by rw [nI_clamp (by omega)]; exact pAt i (by omega)) rfl ?_
        refine xA.goto (q := 31) rfl rfl ?_
        exact xA.aret rfl rfl (Or.inr ⟨_, rfl⟩) ⟨rfl, rfl⟩
set_option maxRecDepth 100000 in
set_option maxHeartbeats 400000 in
theorem c_X9_personAtN (d : Nat) (S : Nat → Nat → Int32) (G : Nat → Nat → Int64) (P : Nat) (hP : S 0 10 = nI P) (h4 : P ≤ 4) (x : Int32) (hx : ¬ rg x P) : xR τ d mX9_personAt [.ref 0, .int x] S G (some .null) S G := by
  refine xC.of okX9_personAt (Nat.le_of_ble_eq_true rfl) (L := [_, _]) rfl ?_
  refine xA.iload_n (i := 1) rfl rfl rfl rfl ?_
  refine xA.if_lt (tgt := 30) rfl rfl rfl (fun h1 => ?_) (fun h1 => ?_)
  · refine xA.null rfl rfl ?_
    exact xA.aret rfl rfl (Or.inl rfl) ⟨rfl, rfl⟩
  · refine xA.iload_n (i := 1) rfl rfl rfl rfl ?_
    refine xA.aload_n (i := 0) rfl rfl rfl rfl ?_
    refine xA.getI rfl f9_105 rfl rfl rfl ?_
    refine xA.topi (hP) ?_
    refine xA.icmp_ge (tgt := 30) rfl rfl rfl (fun h9 => ?_) (fun h9 => ?_)
    · refine xA.null rfl rfl ?_
      exact xA.aret rfl rfl (Or.inl rfl) ⟨rfl, rfl⟩
    · exact absurd (by rw [Int32.le_iff_toInt_le, nI_toInt (by omega)] at h9; rw [Int32.lt_iff_toInt_lt, Int32.toInt_zero] at h1; exact ⟨by omega, by omega⟩) hx
set_option maxRecDepth 100000 in
set_option maxHeartbeats 400000 in
theorem c_X9_forget (d : Nat) (S : Nat → Nat → Int32) (G : Nat → Nat → Int64)  : xR τ (d + 1) mX9_forget [.ref 0] S G (some (.int (S 16 1))) (xu S 16 1 0) G := by
  refine xC.of okX9_forget (Nat.le_of_ble_eq_true rfl) (L := [_, _]) rfl ?_
  refine xA.aload_n (i := 0) rfl rfl rfl rfl ?_
  refine xA.getR rfl f9_49 rfl rfl rfl rfl ?_
  refine xA.callVi (As := []) rfl k9_235 okX0_size rfl rfl rfl rfl (Nat.le_of_ble_eq_true rfl) (c_X0_size d _ G 16 iG16) rfl rfl ?_
  refine xA.istore_n (i := 1) (L' := [_, _]) rfl rfl (Nat.le_of_ble_eq_true rfl) rfl rfl ?_
  refine xA.aload_n (i := 0) rfl rfl rfl rfl ?_
  refine xA.getR rfl f9_49 rfl rfl rfl rfl ?_
  refine xA.callVv (As := []) rfl k9_109 okX0_clear rfl rfl rfl rfl (Nat.le_of_ble_eq_true rfl) (c_X0_clear d _ G 16 iG16) rfl rfl ?_
  refine xA.iload_n (i := 1) rfl rfl rfl rfl ?_
  exact xA.iret rfl rfl rfl ⟨rfl, rfl⟩
def aAbout (s : sS) (p what : Int32) : Int32 := if rg p (sP s) then
    (if what = 0 then nI (sKd s p.toNatClampNeg) else if what = 1 then nI (lN' (sL s p.toNatClampNeg)) else if what = 2 then nI (lTh (sL s p.toNatClampNeg))
     else if what = 3 then (if lN' (sL s p.toNatClampNeg) = 0 then -1 else nI (lSp (sL s p.toNatClampNeg) (lN' (sL s p.toNatClampNeg) - 1) / 6))
     else if what = 4 then (if lN' (sL s p.toNatClampNeg) = 0 then -1 else nI (lSp (sL s p.toNatClampNeg) (lN' (sL s p.toNatClampNeg) - 1) % 6)) else -102) else -101
def aAs (s : sS) (p k : Int32) : Int32 := if rg p (sP s) then (if rg k 5 then (if k = 0 ∨ k = nI (sKd s p.toNatClampNeg) ∨ (k = 3 ∧ nI (sKd s p.toNatClampNeg) = 4) then p else -1) else -102) else -101
def aSelf (s : sS) (p q what : Int32) : Int32 := if rg p (sP s) ∧ rg q (lN' (sL s p.toNatClampNeg)) then (if what = 0 then nI (lSp (sL s p.toNatClampNeg) q.toNatClampNeg / 6) else if what = 1 then nI (lSp (sL s p.toNatClampNeg) q.toNatClampNeg % 6) else -102) else -101
def aThere (s : sS) (p m r : Int32) : Int32 := if rg p (sP s) ∧ rg r 6 then (if rg m 60 then nI (atN (sL s p.toNatClampNeg) (m * 6 + r)) else -102) else -101
def aMet (s : sS) (p : Int32) : Int32 := if rg p (sP s) then metN (sH s) (sKd s p.toNatClampNeg) (sL s p.toNatClampNeg) else -101
def fmN (l : lS) : Int32 := (fmS (fun j => nI (lSp l j / 6)) (inN l) (lN' l)).1
def aMost (s : sS) (p what : Int32) : Int32 := if rg p (sP s) then (if what = 0 ∨ what = 1 then (if what = 1 then fmN (sL s p.toNatClampNeg) else nI (inN (sL s p.toNatClampNeg) (fmN (sL s p.toNatClampNeg)))) else -102) else -101
def meetN (l v : lS) : Int32 := fwS (fun j => nI (lSp l j / 6)) (fun j => decide (0 < atN v (nI (lSp l j)))) (lN' l)
def aMeet (s : sS) (a b : Int32) : Int32 := if rg a (sP s) ∧ rg b (sP s) ∧ ¬ a = b then meetN (sL s a.toNatClampNeg) (sL s b.toNatClampNeg) else -101
def tkN (t : tS) (sp i : Nat) : Int32 := if t.2.1 i = nI (sp % 6) ∧ t.2.2.1 i ≤ nI (sp / 6) ∧ nI (sp / 6) ≤ t.2.2.2 i then 1 <<< (nI i &&& 31) else 0
def doneN (t : tS) (l : lS) : Int32 := orI (fun j => orI (tkN t (lSp l j)) t.1) (lN' l)
def aDone (s : sS) (p : Int32) : Int32 := if rg p (sP s) then doneN (sTk s) (sL s p.toNatClampNeg) else -101
def pairN (g : gS) (l v : lS) : Int32 := prI (fun q => (if 0 < atN l (nI (g.2 q)) then (1 : Int32) else 0) + (if 0 < atN v (nI (g.2 q)) then 1 else 0)) g.1
def aPair (s : sS) (a b : Int32) : Int32 := if rg a (sP s) ∧ rg b (sP s) ∧ ¬ a = b then pairN (sGl s) (sL s a.toNatClampNeg) (sL s b.toNatClampNeg) else -101
def allN (g : gS) (l : lS) : Bool := decide (cn (fun q => decide (atN l (nI (g.2 q)) = 0)) g.1 = 0)
def whoseN (s : sS) : Int32 := orI (fun p => if allN (sGl s) (sL s p) = true then 1 <<< (nI p &&& 31) else 0) (sP s)
def usersN (s : sS) (j : Nat) : Nat := cn (fun p => (lDb (sL s p)).testBit j) (sP s)
/-- the door without which most could not; by the first ones -/
def lkS (u : Nat → Nat) : Nat → Int32 × Nat
  | 0 => (-1, 0)
  | i + 1 => if (lkS u i).2 < u i then (nI i, u i) else lkS u i
def aLocked (s : sS) : Int32 := if sHr s = 0 then -103 else (lkS (usersN s) (hNd (sH s))).1
theorem lC_last {S : Nat → Nat → Int32} {k : Nat} {l : lS} (h : lC S k l) (hn : ¬ lN' l = 0) : S k 1 = nI (lN' l - 1 + 1) := by rw [h.1, show lN' l - 1 + 1 = lN' l by omega]
theorem orI_congr {f g : Nat → Int32} {n : Nat} (h : ∀ i, i < n → f i = g i) : orI f n = orI g n := by
  induction n with
  | zero => rfl
  | succ n ih => rw [orI, orI, ih (fun i hi => h i (by omega)), h n (by omega)]
theorem tkC_at {S : Nat → Nat → Int32} {k : Nat} {t : tS} (h : tkC S k t) {x : Int32} {sp : Nat} (hx : x = nI (sp / 6 * 6 + sp % 6)) (hs : sp < 360) : orI (tkB S k x) t.1 = orI (tkN t sp) t.1 := by
  have e1 : xmin x = nI (sp / 6) := by rw [hx]; exact xmin_nI (by omega) (by omega)
  have e2 : xroom x = nI (sp % 6) := by rw [hx]; exact xroom_nI (by omega) (by omega)
  refine orI_congr fun i hi => ?_
  obtain ⟨a1, a2, a3⟩ := h.2.2 i hi
  unfold tkB tkN tkD
  rw [e1, e2, a1, a2, a3]
theorem prI_congr {f g : Nat → Int32} {n : Nat} (h : ∀ i, i < n → f i = g i) : prI f n = prI g n := by
  induction n with
  | zero => rfl
  | succ n ih => rw [prI, prI, ih (fun i hi => h i (by omega)), h n (by omega)]
theorem lC_done {S : Nat → Nat → Int32} {k q : Nat} {t : tS} {l : lS} (ht : tkC S k t) (hl : lC S q l) (hg : ∀ i, i < lN' l → lSp l i < 360) : orI (fun j => orI (tkB S k (S (q + 1) j)) t.1) (lN' l) = doneN t l := orI_congr fun i hi => tkC_at ht (lC_sp hl hg hi) (hg i hi)
theorem lC_meet {S : Nat → Nat → Int32} {k q : Nat} {l v : lS} (hl : lC S k l) (hg : ∀ i, i < lN' l → lSp l i < 360) (hv : lC S q v) : fwS (fun j => xmin (S (k + 1) j)) (fun j => decide (0 < cn (fun i => decide (S (q + 1) i = S (k + 1) j)) (lN' v))) (lN' l) = meetN l v :=
  fwS_congr fun i hi => ⟨lC_xmin hl hg hi, by rw [lC_at hv, hl.2.2.2 i hi]⟩
theorem lC_fm {S : Nat → Nat → Int32} {k : Nat} {l : lS} (hl : lC S k l) (hg : ∀ i, i < lN' l → lSp l i < 360) : (fmS (fun j => xmin (S (k + 1) j)) (fun x => cn (fun j => decide (xmin (S (k + 1) j) = x)) (lN' l)) (lN' l)).1 = fmN l := by
  rw [fmS_congr (mi' := fun j => nI (lSp l j / 6)) (c' := inN l) (fun i hi => lC_xmin hl hg hi) (fun x => lC_in hl hg x)]
  rfl
theorem cnS_at {S : Nat → Nat → Int32} {k : Nat} {l : lS} (hl : lC S k l) (x : Int32) : cnS S k (lN' l) x = atN l x := lC_at hl x

theorem ts_out5 {w : Int32} (h0 : ¬ w = 0) (h1 : ¬ w = 1) (h2 : ¬ w = 2) (h3 : ¬ w = 3) (h4 : ¬ w = 4) : w.toInt < 0 ∨ 4 < w.toInt := by
  simp only [i32_ext, Int32.reduceToInt] at h0 h1 h2 h3 h4
  omega
theorem ts_out10 {w : Int32} (h0 : ¬ w = 0) (h1 : ¬ w = 1) (h2 : ¬ w = 2) (h3 : ¬ w = 3) (h4 : ¬ w = 4) (h5 : ¬ w = 5) (h6 : ¬ w = 6) (h7 : ¬ w = 7) (h8 : ¬ w = 8) (h9 : ¬ w = 9) : w.toInt < 0 ∨ 9 < w.toInt := by
  simp only [i32_ext, Int32.reduceToInt] at h0 h1 h2 h3 h4 h5 h6 h7 h8 h9
  omega

set_option maxRecDepth 100000 in
set_option maxHeartbeats 400000 in
theorem c_X9_about (d : Nat) (S : Nat → Nat → Int32) (G : Nat → Nat → Int64) (s : sS) (hc : CS S s) (x what : Int32) : xR τ (d + 2) mX9_about [.ref 0, .int x, .int what] S G (some (.int (aAbout s x what))) S G := by
  obtain ⟨hpg, hho, hpp, htk, hgl, hsd, him, hno⟩ := hc
  refine xC.of okX9_about (Nat.le_of_ble_eq_true rfl) (L := [_, _, _, _, _]) rfl ?_
  by_cases hx : rg x (sP s)
  · obtain ⟨i, hi, rfl⟩ := rg_nI hx (by have := hpp.2.1; omega)
    have hi4 : i < 4 := by have := hpp.2.1; omega
    have hci : (nI i).toNatClampNeg = i := nI_clamp (by omega)
    obtain ⟨hkd, hkd5, hl, hg⟩ := hpp.2.2 i hi
    refine xA.aload_n (i := 0) rfl rfl rfl rfl ?_
    refine xA.iload_n (i := 1) rfl rfl rfl rfl ?_
    refine xA.callVr (As := [_]) rfl k9_134 okX9_personAt rfl rfl rfl rfl (Nat.le_of_ble_eq_true rfl) (c_X9_personAt (d + 1) _ G (sP s) hpp.1 hpp.2.1 i hi) rfl rfl ?_
    refine xA.astore_n (i := 3) (L' := [_, _, _, _, _]) rfl rfl (Nat.le_of_ble_eq_true rfl) rfl rfl ?_
    by_cases hz : lN' (sL s i) = 0
    · skip
      refine xA.aload_n (i := 3) rfl rfl rfl rfl ?_
      refine xA.ifnonnull (q := 13) rfl rfl ?_
      refine xA.aload_n (i := 3) rfl rfl rfl rfl ?_
      refine xA.callVr (As := []) rfl k9_152 okX5_lived (isP i hi4).1 rfl rfl rfl (Nat.le_of_ble_eq_true rfl) (c_X5_lived (d + 1) _ G (42 + 3 * i) (isP i hi4)) rfl rfl ?_
      refine xA.callVi (As := []) rfl k9_163 okX3_lastSpot (isP i hi4).2.1 rfl rfl rfl (Nat.le_of_ble_eq_true rfl) (c_X3_lastSpot0 d _ G (42 + 3 * i + 1) (isP i hi4).2 (by rw [hl.1, hz])) rfl rfl ?_
      refine xA.istore (L' := [_, _, _, _, _]) rfl (Nat.le_of_ble_eq_true rfl) rfl rfl ?_
      refine xA.iload_n (i := 2) rfl rfl rfl rfl ?_
      by_cases h23_0 : what = 0
      · subst h23_0
        refine xA.tsIn (q := 56) rfl (by decide) (by decide) rfl rfl ?_
        refine xA.aload_n (i := 3) rfl rfl rfl rfl ?_
        refine xA.callVi (As := []) rfl k9_142 okX5_kind (isP i hi4).1 rfl rfl rfl (Nat.le_of_ble_eq_true rfl) (c_X5_kind (d + 1) _ G (42 + 3 * i) (isP i hi4)) rfl rfl ?_
        refine xA.topi hkd ?_
        exact xA.iret rfl rfl rfl ⟨by rw [aAbout, if_pos hx, hci]; first | rfl | (rw [if_neg h23_0, if_neg h23_1, if_neg h23_2, if_neg h23_3, if_neg h23_4]; done) | (simp [hz]; done) | (simp [hz]; rfl), rfl⟩
      by_cases h23_1 : what = 1
      · subst h23_1
        refine xA.tsIn (q := 61) rfl (by decide) (by decide) rfl rfl ?_
        refine xA.aload_n (i := 3) rfl rfl rfl rfl ?_
        refine xA.callVr (As := []) rfl k9_152 okX5_lived (isP i hi4).1 rfl rfl rfl (Nat.le_of_ble_eq_true rfl) (c_X5_lived (d + 1) _ G (42 + 3 * i) (isP i hi4)) rfl rfl ?_
        refine xA.callVi (As := []) rfl k9_160 okX3_selves (isP i hi4).2.1 rfl rfl rfl (Nat.le_of_ble_eq_true rfl) (c_X3_selves (d + 1) _ G (42 + 3 * i + 1) (isP i hi4).2) rfl rfl ?_
        refine xA.topi hl.1 ?_
        exact xA.iret rfl rfl rfl ⟨by rw [aAbout, if_pos hx, hci]; first | rfl | (rw [if_neg h23_0, if_neg h23_1, if_neg h23_2, if_neg h23_3, if_neg h23_4]; done) | (simp [hz]; done) | (simp [hz]; rfl), rfl⟩
      by_cases h23_2 : what = 2
      · subst h23_2
        refine xA.tsIn (q := 69) rfl (by decide) (by decide) rfl rfl ?_
        refine xA.aload_n (i := 3) rfl rfl rfl rfl ?_
        refine xA.callVr (As := []) rfl k9_152 okX5_lived (isP i hi4).1 rfl rfl rfl (Nat.le_of_ble_eq_true rfl) (c_X5_lived (d + 1) _ G (42 + 3 * i) (isP i hi4)) rfl rfl ?_
        refine xA.callVi (As := []) rfl k9_166 okX3_throughs (isP i hi4).2.1 rfl rfl rfl (Nat.le_of_ble_eq_true rfl) (c_X3_throughs (d + 1) _ G (42 + 3 * i + 1) (isP i hi4).2) rfl rfl ?_
        refine xA.topi hl.2.1 ?_
        exact xA.iret rfl rfl rfl ⟨by rw [aAbout, if_pos hx, hci]; first | rfl | (rw [if_neg h23_0, if_neg h23_1, if_neg h23_2, if_neg h23_3, if_neg h23_4]; done) | (simp [hz]; done) | (simp [hz]; rfl), rfl⟩
      by_cases h23_3 : what = 3
      · subst h23_3
        refine xA.tsIn (q := 77) rfl (by decide) (by decide) rfl rfl ?_
        refine xA.iload rfl rfl rfl ?_
        refine xA.callSi (As := [_]) rfl k9_169 okX9_minuteOf rfl rfl (Nat.le_of_ble_eq_true rfl) (c_X9_minuteOf (d + 1) _ G _) rfl rfl ?_
        refine xA.topi (show xmin (-1) = -1 from rfl) ?_
        exact xA.iret rfl rfl rfl ⟨by rw [aAbout, if_pos hx, hci]; first | rfl | (rw [if_neg h23_0, if_neg h23_1, if_neg h23_2, if_neg h23_3, if_neg h23_4]; done) | (simp [hz]; done) | (simp [hz]; rfl), rfl⟩
      by_cases h23_4 : what = 4
      · subst h23_4
        refine xA.tsIn (q := 83) rfl (by decide) (by decide) rfl rfl ?_
        refine xA.iload rfl rfl rfl ?_
        refine xA.callSi (As := [_]) rfl k9_172 okX9_roomOf rfl rfl (Nat.le_of_ble_eq_true rfl) (c_X9_roomOf (d + 1) _ G _) rfl rfl ?_
        refine xA.topi (show xroom (-1) = -1 from rfl) ?_
        exact xA.iret rfl rfl rfl ⟨by rw [aAbout, if_pos hx, hci]; first | rfl | (rw [if_neg h23_0, if_neg h23_1, if_neg h23_2, if_neg h23_3, if_neg h23_4]; done) | (simp [hz]; done) | (simp [hz]; rfl), rfl⟩
      refine xA.tsOut (q := 89) rfl (ts_out5 h23_0 h23_1 h23_2 h23_3 h23_4) rfl ?_
      refine xA.bipush (v := (-102)) rfl (by decide) rfl ?_
      exact xA.iret rfl rfl rfl ⟨by rw [aAbout, if_pos hx, hci]; first | rfl | (rw [if_neg h23_0, if_neg h23_1, if_neg h23_2, if_neg h23_3, if_neg h23_4]; done) | (simp [hz]; done) | (simp [hz]; rfl), rfl⟩
    · skip
      refine xA.aload_n (i := 3) rfl rfl rfl rfl ?_
      refine xA.ifnonnull (q := 13) rfl rfl ?_
      refine xA.aload_n (i := 3) rfl rfl rfl rfl ?_
      refine xA.callVr (As := []) rfl k9_152 okX5_lived (isP i hi4).1 rfl rfl rfl (Nat.le_of_ble_eq_true rfl) (c_X5_lived (d + 1) _ G (42 + 3 * i) (isP i hi4)) rfl rfl ?_
      refine xA.callVi (As := []) rfl k9_163 okX3_lastSpot (isP i hi4).2.1 rfl rfl rfl (Nat.le_of_ble_eq_true rfl) (c_X3_lastSpot d _ G (42 + 3 * i + 1) (isP i hi4).2 (lN' (sL s i) - 1) (lC_last hl hz) (by have := hg.1; omega)) rfl rfl ?_
      refine xA.istore (L' := [_, _, _, _, _]) rfl (Nat.le_of_ble_eq_true rfl) rfl rfl ?_
      refine xA.iload_n (i := 2) rfl rfl rfl rfl ?_
      by_cases h23_0 : what = 0
      · subst h23_0
        refine xA.tsIn (q := 56) rfl (by decide) (by decide) rfl rfl ?_
        refine xA.aload_n (i := 3) rfl rfl rfl rfl ?_
        refine xA.callVi (As := []) rfl k9_142 okX5_kind (isP i hi4).1 rfl rfl rfl (Nat.le_of_ble_eq_true rfl) (c_X5_kind (d + 1) _ G (42 + 3 * i) (isP i hi4)) rfl rfl ?_
        refine xA.topi hkd ?_
        exact xA.iret rfl rfl rfl ⟨by rw [aAbout, if_pos hx, hci]; first | rfl | (rw [if_neg h23_0, if_neg h23_1, if_neg h23_2, if_neg h23_3, if_neg h23_4]; done) | (simp [hz]; done) | (simp [hz]; rfl), rfl⟩
      by_cases h23_1 : what = 1
      · subst h23_1
        refine xA.tsIn (q := 61) rfl (by decide) (by decide) rfl rfl ?_
        refine xA.aload_n (i := 3) rfl rfl rfl rfl ?_
        refine xA.callVr (As := []) rfl k9_152 okX5_lived (isP i hi4).1 rfl rfl rfl (Nat.le_of_ble_eq_true rfl) (c_X5_lived (d + 1) _ G (42 + 3 * i) (isP i hi4)) rfl rfl ?_
        refine xA.callVi (As := []) rfl k9_160 okX3_selves (isP i hi4).2.1 rfl rfl rfl (Nat.le_of_ble_eq_true rfl) (c_X3_selves (d + 1) _ G (42 + 3 * i + 1) (isP i hi4).2) rfl rfl ?_
        refine xA.topi hl.1 ?_
        exact xA.iret rfl rfl rfl ⟨by rw [aAbout, if_pos hx, hci]; first | rfl | (rw [if_neg h23_0, if_neg h23_1, if_neg h23_2, if_neg h23_3, if_neg h23_4]; done) | (simp [hz]; done) | (simp [hz]; rfl), rfl⟩
      by_cases h23_2 : what = 2
      · subst h23_2
        refine xA.tsIn (q := 69) rfl (by decide) (by decide) rfl rfl ?_
        refine xA.aload_n (i := 3) rfl rfl rfl rfl ?_
        refine xA.callVr (As := []) rfl k9_152 okX5_lived (isP i hi4).1 rfl rfl rfl (Nat.le_of_ble_eq_true rfl) (c_X5_lived (d + 1) _ G (42 + 3 * i) (isP i hi4)) rfl rfl ?_
        refine xA.callVi (As := []) rfl k9_166 okX3_throughs (isP i hi4).2.1 rfl rfl rfl (Nat.le_of_ble_eq_true rfl) (c_X3_throughs (d + 1) _ G (42 + 3 * i + 1) (isP i hi4).2) rfl rfl ?_
        refine xA.topi hl.2.1 ?_
        exact xA.iret rfl rfl rfl ⟨by rw [aAbout, if_pos hx, hci]; first | rfl | (rw [if_neg h23_0, if_neg h23_1, if_neg h23_2, if_neg h23_3, if_neg h23_4]; done) | (simp [hz]; done) | (simp [hz]; rfl), rfl⟩
      by_cases h23_3 : what = 3
      · subst h23_3
        refine xA.tsIn (q := 77) rfl (by decide) (by decide) rfl rfl ?_
        refine xA.iload rfl rfl rfl ?_
        refine xA.callSi (As := [_]) rfl k9_169 okX9_minuteOf rfl rfl (Nat.le_of_ble_eq_true rfl) (c_X9_minuteOf (d + 1) _ G _) rfl rfl ?_
        refine xA.topi (lC_xmin hl hg.2.1 (by omega)) ?_
        exact xA.iret rfl rfl rfl ⟨by rw [aAbout, if_pos hx, hci]; first | rfl | (rw [if_neg h23_0, if_neg h23_1, if_neg h23_2, if_neg h23_3, if_neg h23_4]; done) | (simp [hz]; done) | (simp [hz]; rfl), rfl⟩
      by_cases h23_4 : what = 4
      · subst h23_4
        refine xA.tsIn (q := 83) rfl (by decide) (by decide) rfl rfl ?_
        refine xA.iload rfl rfl rfl ?_
        refine xA.callSi (As := [_]) rfl k9_172 okX9_roomOf rfl rfl (Nat.le_of_ble_eq_true rfl) (c_X9_roomOf (d + 1) _ G _) rfl rfl ?_
        refine xA.topi (lC_xroom hl hg.2.1 (by omega)) ?_
        exact xA.iret rfl rfl rfl ⟨by rw [aAbout, if_pos hx, hci]; first | rfl | (rw [if_neg h23_0, if_neg h23_1, if_neg h23_2, if_neg h23_3, if_neg h23_4]; done) | (simp [hz]; done) | (simp [hz]; rfl), rfl⟩
      refine xA.tsOut (q := 89) rfl (ts_out5 h23_0 h23_1 h23_2 h23_3 h23_4) rfl ?_
      refine xA.bipush (v := (-102)) rfl (by decide) rfl ?_
      exact xA.iret rfl rfl rfl ⟨by rw [aAbout, if_pos hx, hci]; first | rfl | (rw [if_neg h23_0, if_neg h23_1, if_neg h23_2, if_neg h23_3, if_neg h23_4]; done) | (simp [hz]; done) | (simp [hz]; rfl), rfl⟩
  · skip
    refine xA.aload_n (i := 0) rfl rfl rfl rfl ?_
    refine xA.iload_n (i := 1) rfl rfl rfl rfl ?_
    refine xA.callVr (As := [_]) rfl k9_134 okX9_personAt rfl rfl rfl rfl (Nat.le_of_ble_eq_true rfl) (c_X9_personAtN (d + 1) _ G (sP s) hpp.1 hpp.2.1 x hx) rfl rfl ?_
    refine xA.astoreN_n (i := 3) (L' := [_, _, _, _, _]) rfl rfl (Nat.le_of_ble_eq_true rfl) rfl rfl ?_
    refine xA.aloadN_n (i := 3) rfl rfl rfl rfl ?_
    refine xA.ifnonnullN rfl rfl ?_
    refine xA.bipush (v := (-101)) rfl (by decide) rfl ?_
    exact xA.iret rfl rfl rfl ⟨by rw [aAbout, if_neg (by first | exact hx | (rintro ⟨q, -⟩; exact hx q))], rfl⟩
set_option maxRecDepth 100000 in
set_option maxHeartbeats 400000 in
theorem c_X9_as (d : Nat) (S : Nat → Nat → Int32) (G : Nat → Nat → Int64) (s : sS) (hc : CS S s) (x k : Int32) : xR τ (d + 1) mX9_as [.ref 0, .int x, .int k] S G (some (.int (aAs s x k))) S G := by
  obtain ⟨hpg, hho, hpp, htk, hgl, hsd, him, hno⟩ := hc
  refine xC.of okX9_as (Nat.le_of_ble_eq_true rfl) (L := [_, _, _, _]) rfl ?_
  by_cases hx : rg x (sP s)
  · obtain ⟨i, hi, rfl⟩ := rg_nI hx (by have := hpp.2.1; omega)
    have hi4 : i < 4 := by have := hpp.2.1; omega
    have hci : (nI i).toNatClampNeg = i := nI_clamp (by omega)
    obtain ⟨hkd, hkd5, hl, hg⟩ := hpp.2.2 i hi
    refine xA.aload_n (i := 0) rfl rfl rfl rfl ?_
    refine xA.iload_n (i := 1) rfl rfl rfl rfl ?_
    refine xA.callVr (As := [_]) rfl k9_134 okX9_personAt rfl rfl rfl rfl (Nat.le_of_ble_eq_true rfl) (c_X9_personAt d _ G (sP s) hpp.1 hpp.2.1 i hi) rfl rfl ?_
    refine xA.astore_n (i := 3) (L' := [_, _, _, _]) rfl rfl (Nat.le_of_ble_eq_true rfl) rfl rfl ?_
    refine xA.aload_n (i := 3) rfl rfl rfl rfl ?_
    refine xA.ifnonnull (q := 13) rfl rfl ?_
    refine xA.iload_n (i := 2) rfl rfl rfl rfl ?_
    refine xA.callSi (As := [_]) rfl k9_131 okX9_isKind rfl rfl (Nat.le_of_ble_eq_true rfl) (c_X9_isKind d _ G _) rfl rfl ?_
    refine xA.if_ne (tgt := 23) rfl rfl rfl (fun h17 => ?_) (fun h17 => ?_)
    · rw [xb_ne0] at h17
      refine xA.aload_n (i := 3) rfl rfl rfl rfl ?_
      refine xA.callVi (As := []) rfl k9_142 okX5_kind (isP i hi4).1 rfl rfl rfl (Nat.le_of_ble_eq_true rfl) (c_X5_kind d _ G (42 + 3 * i) (isP i hi4)) rfl rfl ?_
      refine xA.topi hkd ?_
      refine xA.iload_n (i := 2) rfl rfl rfl rfl ?_
      refine xA.callSi (As := [_, _]) rfl k9_175 okX9_isOfKind rfl rfl (Nat.le_of_ble_eq_true rfl) (c_X9_isOfKind d _ G _ _) rfl rfl ?_
      refine xA.if_eq (tgt := 38) rfl rfl rfl (fun h31 => ?_) (fun h31 => ?_)
      · rw [xb_eq0] at h31
        refine xA.iconst (v := (-1)) rfl (by decide) rfl ?_
        exact xA.iret rfl rfl rfl ⟨by rw [aAs, if_pos hx, hci]; first | (rw [if_neg h17]; done) | (rw [if_pos h17, if_pos h31]; done) | (rw [if_pos h17, if_neg h31]; done), rfl⟩
      · rw [xb_ne0] at h31
        refine xA.iload_n (i := 1) rfl rfl rfl rfl ?_
        refine xA.goto (q := 39) rfl rfl ?_
        exact xA.iret rfl rfl rfl ⟨by rw [aAs, if_pos hx, hci]; first | (rw [if_neg h17]; done) | (rw [if_pos h17, if_pos h31]; done) | (rw [if_pos h17, if_neg h31]; done), rfl⟩
    · rw [xb_eq0] at h17
      refine xA.bipush (v := (-102)) rfl (by decide) rfl ?_
      exact xA.iret rfl rfl rfl ⟨by rw [aAs, if_pos hx, hci]; first | (rw [if_neg h17]; done) | (rw [if_pos h17, if_pos h31]; done) | (rw [if_pos h17, if_neg h31]; done), rfl⟩
  · skip
    refine xA.aload_n (i := 0) rfl rfl rfl rfl ?_
    refine xA.iload_n (i := 1) rfl rfl rfl rfl ?_
    refine xA.callVr (As := [_]) rfl k9_134 okX9_personAt rfl rfl rfl rfl (Nat.le_of_ble_eq_true rfl) (c_X9_personAtN d _ G (sP s) hpp.1 hpp.2.1 x hx) rfl rfl ?_
    refine xA.astoreN_n (i := 3) (L' := [_, _, _, _]) rfl rfl (Nat.le_of_ble_eq_true rfl) rfl rfl ?_
    refine xA.aloadN_n (i := 3) rfl rfl rfl rfl ?_
    refine xA.ifnonnullN rfl rfl ?_
    refine xA.bipush (v := (-101)) rfl (by decide) rfl ?_
    exact xA.iret rfl rfl rfl ⟨by rw [aAs, if_neg (by first | exact hx | (rintro ⟨q, -⟩; exact hx q))], rfl⟩
set_option maxRecDepth 100000 in
set_option maxHeartbeats 400000 in
theorem c_X9_self (d : Nat) (S : Nat → Nat → Int32) (G : Nat → Nat → Int64) (s : sS) (hc : CS S s) (x q what : Int32) : xR τ (d + 1) mX9_self [.ref 0, .int x, .int q, .int what] S G (some (.int (aSelf s x q what))) S G := by
  obtain ⟨hpg, hho, hpp, htk, hgl, hsd, him, hno⟩ := hc
  refine xC.of okX9_self (Nat.le_of_ble_eq_true rfl) (L := [_, _, _, _, _, _]) rfl ?_
  by_cases hx : rg x (sP s)
  · obtain ⟨i, hi, rfl⟩ := rg_nI hx (by have := hpp.2.1; omega)
    have hi4 : i < 4 := by have := hpp.2.1; omega
    have hci : (nI i).toNatClampNeg = i := nI_clamp (by omega)
    obtain ⟨hkd, hkd5, hl, hg⟩ := hpp.2.2 i hi
    refine xA.aload_n (i := 0) rfl rfl rfl rfl ?_
    refine xA.iload_n (i := 1) rfl rfl rfl rfl ?_
    refine xA.callVr (As := [_]) rfl k9_134 okX9_personAt rfl rfl rfl rfl (Nat.le_of_ble_eq_true rfl) (c_X9_personAt d _ G (sP s) hpp.1 hpp.2.1 i hi) rfl rfl ?_
    refine xA.astore (L' := [_, _, _, _, _, _]) rfl (Nat.le_of_ble_eq_true rfl) rfl rfl ?_
    refine xA.aload rfl rfl rfl ?_
    refine xA.ifnull rfl rfl ?_
    refine xA.iload_n (i := 2) rfl rfl rfl rfl ?_
    refine xA.if_lt (tgt := 28) rfl rfl rfl (fun h13 => ?_) (fun h13 => ?_)
    · refine xA.bipush (v := (-101)) rfl (by decide) rfl ?_
      exact xA.iret rfl rfl rfl ⟨by rw [aSelf, hci, if_neg]; rintro ⟨-, q1, q2⟩; first | (rw [Int32.lt_iff_toInt_lt, Int32.toInt_zero] at h13; omega) | (rw [Int32.lt_iff_toInt_lt, nI_toInt (by have := hg.1; omega)] at h25; omega), rfl⟩
    · refine xA.iload_n (i := 2) rfl rfl rfl rfl ?_
      refine xA.aload rfl rfl rfl ?_
      refine xA.callVr (As := []) rfl k9_152 okX5_lived (isP i hi4).1 rfl rfl rfl (Nat.le_of_ble_eq_true rfl) (c_X5_lived d _ G (42 + 3 * i) (isP i hi4)) rfl rfl ?_
      refine xA.callVi (As := []) rfl k9_160 okX3_selves (isP i hi4).2.1 rfl rfl rfl (Nat.le_of_ble_eq_true rfl) (c_X3_selves d _ G (42 + 3 * i + 1) (isP i hi4).2) rfl rfl ?_
      refine xA.topi hl.1 ?_
      refine xA.icmp_lt (tgt := 31) rfl rfl rfl (fun h25 => ?_) (fun h25 => ?_)
      · have hq : rg q (lN' (sL s i)) := by
          rw [Int32.lt_iff_toInt_lt, nI_toInt (by have := hg.1; omega)] at h25
          rw [Int32.lt_iff_toInt_lt, Int32.toInt_zero] at h13
          exact ⟨by omega, by omega⟩
        obtain ⟨j, hj, rfl⟩ := rg_nI hq (by have := hg.1; omega)
        have hcj : (nI j).toNatClampNeg = j := nI_clamp (by have := hg.1; omega)
        refine xA.aload rfl rfl rfl ?_
        refine xA.callVr (As := []) rfl k9_152 okX5_lived (isP i hi4).1 rfl rfl rfl (Nat.le_of_ble_eq_true rfl) (c_X5_lived d _ G (42 + 3 * i) (isP i hi4)) rfl rfl ?_
        refine xA.iload_n (i := 2) rfl rfl rfl rfl ?_
        refine xA.callVi (As := [_]) rfl k9_178 okX3_spotAt (isP i hi4).2.1 rfl rfl rfl (Nat.le_of_ble_eq_true rfl) (c_X3_spotAt d _ G (42 + 3 * i + 1) (isP i hi4).2 _ j hl.1 hj hg.1) rfl rfl ?_
        refine xA.istore (L' := [_, _, _, _, _, _]) rfl (Nat.le_of_ble_eq_true rfl) rfl rfl ?_
        refine xA.iload_n (i := 3) rfl rfl rfl rfl ?_
        refine xA.if_ne (tgt := 52) rfl rfl rfl (fun h43 => ?_) (fun h43 => ?_)
        · refine xA.iload_n (i := 3) rfl rfl rfl rfl ?_
          refine xA.iconst (v := 1) rfl (by decide) rfl ?_
          refine xA.icmp_ne (tgt := 65) rfl rfl rfl (fun h54 => ?_) (fun h54 => ?_)
          · refine xA.bipush (v := (-102)) rfl (by decide) rfl ?_
            exact xA.iret rfl rfl rfl ⟨by rw [aSelf, hci, if_pos ⟨hx, hq⟩, hcj]; first | (rw [if_pos h43]; done) | (rw [if_neg h43, if_pos h54]; done) | (rw [if_neg h43, if_neg h54]; done), rfl⟩
          · refine xA.iload rfl rfl rfl ?_
            refine xA.callSi (As := [_]) rfl k9_172 okX9_roomOf rfl rfl (Nat.le_of_ble_eq_true rfl) (c_X9_roomOf d _ G _) rfl rfl ?_
            refine xA.topi (lC_xroom hl hg.2.1 hj) ?_
            refine xA.goto (q := 67) rfl rfl ?_
            exact xA.iret rfl rfl rfl ⟨by rw [aSelf, hci, if_pos ⟨hx, hq⟩, hcj]; first | (rw [if_pos h43]; done) | (rw [if_neg h43, if_pos h54]; done) | (rw [if_neg h43, if_neg h54]; done), rfl⟩
        · refine xA.iload rfl rfl rfl ?_
          refine xA.callSi (As := [_]) rfl k9_169 okX9_minuteOf rfl rfl (Nat.le_of_ble_eq_true rfl) (c_X9_minuteOf d _ G _) rfl rfl ?_
          refine xA.topi (lC_xmin hl hg.2.1 hj) ?_
          exact xA.iret rfl rfl rfl ⟨by rw [aSelf, hci, if_pos ⟨hx, hq⟩, hcj]; first | (rw [if_pos h43]; done) | (rw [if_neg h43, if_pos h54]; done) | (rw [if_neg h43, if_neg h54]; done), rfl⟩
      · refine xA.bipush (v := (-101)) rfl (by decide) rfl ?_
        exact xA.iret rfl rfl rfl ⟨by rw [aSelf, hci, if_neg]; rintro ⟨-, q1, q2⟩; first | (rw [Int32.lt_iff_toInt_lt, Int32.toInt_zero] at h13; omega) | (rw [Int32.lt_iff_toInt_lt, nI_toInt (by have := hg.1; omega)] at h25; omega), rfl⟩
  · skip
    refine xA.aload_n (i := 0) rfl rfl rfl rfl ?_
    refine xA.iload_n (i := 1) rfl rfl rfl rfl ?_
    refine xA.callVr (As := [_]) rfl k9_134 okX9_personAt rfl rfl rfl rfl (Nat.le_of_ble_eq_true rfl) (c_X9_personAtN d _ G (sP s) hpp.1 hpp.2.1 x hx) rfl rfl ?_
    refine xA.astoreN (L' := [_, _, _, _, _, _]) rfl (Nat.le_of_ble_eq_true rfl) rfl rfl ?_
    refine xA.aloadN rfl rfl rfl ?_
    refine xA.ifnullN (q := 28) rfl rfl ?_
    refine xA.bipush (v := (-101)) rfl (by decide) rfl ?_
    exact xA.iret rfl rfl rfl ⟨by rw [aSelf, if_neg (by first | exact hx | (rintro ⟨q, -⟩; exact hx q))], rfl⟩
set_option maxRecDepth 100000 in
set_option maxHeartbeats 400000 in
theorem c_X9_there (d : Nat) (S : Nat → Nat → Int32) (G : Nat → Nat → Int64) (s : sS) (hc : CS S s) (x m r : Int32) : xR τ (d + 2) mX9_there [.ref 0, .int x, .int m, .int r] S G (some (.int (aThere s x m r))) S G := by
  obtain ⟨hpg, hho, hpp, htk, hgl, hsd, him, hno⟩ := hc
  refine xC.of okX9_there (Nat.le_of_ble_eq_true rfl) (L := [_, _, _, _, _]) rfl ?_
  by_cases hx : rg x (sP s)
  · obtain ⟨i, hi, rfl⟩ := rg_nI hx (by have := hpp.2.1; omega)
    have hi4 : i < 4 := by have := hpp.2.1; omega
    have hci : (nI i).toNatClampNeg = i := nI_clamp (by omega)
    obtain ⟨hkd, hkd5, hl, hg⟩ := hpp.2.2 i hi
    refine xA.aload_n (i := 0) rfl rfl rfl rfl ?_
    refine xA.iload_n (i := 1) rfl rfl rfl rfl ?_
    refine xA.callVr (As := [_]) rfl k9_134 okX9_personAt rfl rfl rfl rfl (Nat.le_of_ble_eq_true rfl) (c_X9_personAt (d + 1) _ G (sP s) hpp.1 hpp.2.1 i hi) rfl rfl ?_
    refine xA.astore (L' := [_, _, _, _, _]) rfl (Nat.le_of_ble_eq_true rfl) rfl rfl ?_
    refine xA.aload rfl rfl rfl ?_
    refine xA.ifnull rfl rfl ?_
    refine xA.iload_n (i := 3) rfl rfl rfl rfl ?_
    refine xA.callSi (As := [_]) rfl k9_116 okX9_isRoom rfl rfl (Nat.le_of_ble_eq_true rfl) (c_X9_isRoom (d + 1) _ G _) rfl rfl ?_
    refine xA.if_ne (tgt := 22) rfl rfl rfl (fun h16 => ?_) (fun h16 => ?_)
    · rw [xb_ne0] at h16
      refine xA.iload_n (i := 2) rfl rfl rfl rfl ?_
      refine xA.callSi (As := [_]) rfl k9_181 okX9_isMinute rfl rfl (Nat.le_of_ble_eq_true rfl) (c_X9_isMinute (d + 1) _ G _) rfl rfl ?_
      refine xA.if_ne (tgt := 32) rfl rfl rfl (fun h26 => ?_) (fun h26 => ?_)
      · rw [xb_ne0] at h26
        refine xA.aload rfl rfl rfl ?_
        refine xA.callVr (As := []) rfl k9_152 okX5_lived (isP i hi4).1 rfl rfl rfl (Nat.le_of_ble_eq_true rfl) (c_X5_lived (d + 1) _ G (42 + 3 * i) (isP i hi4)) rfl rfl ?_
        refine xA.iload_n (i := 2) rfl rfl rfl rfl ?_
        refine xA.iload_n (i := 3) rfl rfl rfl rfl ?_
        refine xA.callSi (As := [_, _]) rfl k9_184 okX9_spotOf rfl rfl (Nat.le_of_ble_eq_true rfl) (c_X9_spotOf (d + 1) _ G _ _) rfl rfl ?_
        refine xA.callVi (As := [_]) rfl k9_187 okX3_selvesAt (isP i hi4).2.1 rfl rfl rfl (Nat.le_of_ble_eq_true rfl) (c_X3_selvesAt d _ G (42 + 3 * i + 1) (isP i hi4).2 _ hl.1 hg.1 _) rfl rfl ?_
        refine xA.topi (congrArg nI (lC_at hl _)) ?_
        exact xA.iret rfl rfl rfl ⟨by rw [aThere, hci]; first | (rw [if_neg (fun q => h16 q.2)]; done) | (rw [if_pos ⟨hx, h16⟩, if_neg h26]; done) | (rw [if_pos ⟨hx, h16⟩, if_pos h26]; done), rfl⟩
      · rw [xb_eq0] at h26
        refine xA.bipush (v := (-102)) rfl (by decide) rfl ?_
        exact xA.iret rfl rfl rfl ⟨by rw [aThere, hci]; first | (rw [if_neg (fun q => h16 q.2)]; done) | (rw [if_pos ⟨hx, h16⟩, if_neg h26]; done) | (rw [if_pos ⟨hx, h16⟩, if_pos h26]; done), rfl⟩
    · rw [xb_eq0] at h16
      refine xA.bipush (v := (-101)) rfl (by decide) rfl ?_
      exact xA.iret rfl rfl rfl ⟨by rw [aThere, hci]; first | (rw [if_neg (fun q => h16 q.2)]; done) | (rw [if_pos ⟨hx, h16⟩, if_neg h26]; done) | (rw [if_pos ⟨hx, h16⟩, if_pos h26]; done), rfl⟩
  · skip
    refine xA.aload_n (i := 0) rfl rfl rfl rfl ?_
    refine xA.iload_n (i := 1) rfl rfl rfl rfl ?_
    refine xA.callVr (As := [_]) rfl k9_134 okX9_personAt rfl rfl rfl rfl (Nat.le_of_ble_eq_true rfl) (c_X9_personAtN (d + 1) _ G (sP s) hpp.1 hpp.2.1 x hx) rfl rfl ?_
    refine xA.astoreN (L' := [_, _, _, _, _]) rfl (Nat.le_of_ble_eq_true rfl) rfl rfl ?_
    refine xA.aloadN rfl rfl rfl ?_
    refine xA.ifnullN (q := 19) rfl rfl ?_
    refine xA.bipush (v := (-101)) rfl (by decide) rfl ?_
    exact xA.iret rfl rfl rfl ⟨by rw [aThere, if_neg (by first | exact hx | (rintro ⟨q, -⟩; exact hx q))], rfl⟩
set_option maxRecDepth 100000 in
set_option maxHeartbeats 400000 in
theorem c_X9_most (d : Nat) (S : Nat → Nat → Int32) (G : Nat → Nat → Int64) (s : sS) (hc : CS S s) (x what : Int32) : xR τ (d + 3) mX9_most [.ref 0, .int x, .int what] S G (some (.int (aMost s x what))) S G := by
  obtain ⟨hpg, hho, hpp, htk, hgl, hsd, him, hno⟩ := hc
  refine xC.of okX9_most (Nat.le_of_ble_eq_true rfl) (L := [_, _, _, _, _]) rfl ?_
  by_cases hx : rg x (sP s)
  · obtain ⟨i, hi, rfl⟩ := rg_nI hx (by have := hpp.2.1; omega)
    have hi4 : i < 4 := by have := hpp.2.1; omega
    have hci : (nI i).toNatClampNeg = i := nI_clamp (by omega)
    obtain ⟨hkd, hkd5, hl, hg⟩ := hpp.2.2 i hi
    refine xA.aload_n (i := 0) rfl rfl rfl rfl ?_
    refine xA.iload_n (i := 1) rfl rfl rfl rfl ?_
    refine xA.callVr (As := [_]) rfl k9_134 okX9_personAt rfl rfl rfl rfl (Nat.le_of_ble_eq_true rfl) (c_X9_personAt (d + 2) _ G (sP s) hpp.1 hpp.2.1 i hi) rfl rfl ?_
    refine xA.astore_n (i := 3) (L' := [_, _, _, _, _]) rfl rfl (Nat.le_of_ble_eq_true rfl) rfl rfl ?_
    refine xA.aload_n (i := 3) rfl rfl rfl rfl ?_
    refine xA.ifnonnull (q := 13) rfl rfl ?_
    refine xA.iload_n (i := 2) rfl rfl rfl rfl ?_
    refine xA.if_eq (tgt := 25) rfl rfl rfl (fun h14 => ?_) (fun h14 => ?_)
    · refine xA.aload_n (i := 3) rfl rfl rfl rfl ?_
      refine xA.callVr (As := []) rfl k9_152 okX5_lived (isP i hi4).1 rfl rfl rfl (Nat.le_of_ble_eq_true rfl) (c_X5_lived (d + 2) _ G (42 + 3 * i) (isP i hi4)) rfl rfl ?_
      refine xA.callVi (As := []) rfl k9_194 okX3_fullestMinute (isP i hi4).2.1 rfl rfl rfl (Nat.le_of_ble_eq_true rfl) (c_X3_fullestMinute d _ G (42 + 3 * i + 1) (isP i hi4).2 _ hl.1 hg.1) rfl rfl ?_
      refine xA.topi (lC_fm hl hg.2.1) ?_
      refine xA.istore (L' := [_, _, _, _, _]) rfl (Nat.le_of_ble_eq_true rfl) rfl rfl ?_
      refine xA.iload_n (i := 2) rfl rfl rfl rfl ?_
      refine xA.iconst (v := 1) rfl (by decide) rfl ?_
      refine xA.icmp_ne (tgt := 44) rfl rfl rfl (fun h36 => ?_) (fun h36 => ?_)
      · refine xA.aload_n (i := 3) rfl rfl rfl rfl ?_
        refine xA.callVr (As := []) rfl k9_152 okX5_lived (isP i hi4).1 rfl rfl rfl (Nat.le_of_ble_eq_true rfl) (c_X5_lived (d + 2) _ G (42 + 3 * i) (isP i hi4)) rfl rfl ?_
        refine xA.iload rfl rfl rfl ?_
        refine xA.callVi (As := [_]) rfl k9_197 okX3_selvesIn (isP i hi4).2.1 rfl rfl rfl (Nat.le_of_ble_eq_true rfl) (c_X3_selvesIn (d + 1) _ G (42 + 3 * i + 1) (isP i hi4).2 _ hl.1 hg.1 _) rfl rfl ?_
        refine xA.topi (congrArg nI (lC_in hl hg.2.1 _)) ?_
        exact xA.iret rfl rfl rfl ⟨by rw [aMost, if_pos hx, hci]; first | (rw [if_neg (by rintro (q | q); exact h14 q; exact h19 q)]; done) | (rw [if_pos (Or.inl h14), if_neg h36]; done) | (rw [if_pos (Or.inl h14), if_pos h36]; done) | (rw [if_pos (Or.inr h19), if_pos h36]; done) | (rw [if_pos (Or.inr h19), if_neg h36]; done), rfl⟩
      · refine xA.iload rfl rfl rfl ?_
        refine xA.goto (q := 53) rfl rfl ?_
        exact xA.iret rfl rfl rfl ⟨by rw [aMost, if_pos hx, hci]; first | (rw [if_neg (by rintro (q | q); exact h14 q; exact h19 q)]; done) | (rw [if_pos (Or.inl h14), if_neg h36]; done) | (rw [if_pos (Or.inl h14), if_pos h36]; done) | (rw [if_pos (Or.inr h19), if_pos h36]; done) | (rw [if_pos (Or.inr h19), if_neg h36]; done), rfl⟩
    · refine xA.iload_n (i := 2) rfl rfl rfl rfl ?_
      refine xA.iconst (v := 1) rfl (by decide) rfl ?_
      refine xA.icmp_eq (tgt := 25) rfl rfl rfl (fun h19 => ?_) (fun h19 => ?_)
      · refine xA.aload_n (i := 3) rfl rfl rfl rfl ?_
        refine xA.callVr (As := []) rfl k9_152 okX5_lived (isP i hi4).1 rfl rfl rfl (Nat.le_of_ble_eq_true rfl) (c_X5_lived (d + 2) _ G (42 + 3 * i) (isP i hi4)) rfl rfl ?_
        refine xA.callVi (As := []) rfl k9_194 okX3_fullestMinute (isP i hi4).2.1 rfl rfl rfl (Nat.le_of_ble_eq_true rfl) (c_X3_fullestMinute d _ G (42 + 3 * i + 1) (isP i hi4).2 _ hl.1 hg.1) rfl rfl ?_
        refine xA.topi (lC_fm hl hg.2.1) ?_
        refine xA.istore (L' := [_, _, _, _, _]) rfl (Nat.le_of_ble_eq_true rfl) rfl rfl ?_
        refine xA.iload_n (i := 2) rfl rfl rfl rfl ?_
        refine xA.iconst (v := 1) rfl (by decide) rfl ?_
        refine xA.icmp_ne (tgt := 44) rfl rfl rfl (fun h36 => ?_) (fun h36 => ?_)
        · refine xA.aload_n (i := 3) rfl rfl rfl rfl ?_
          refine xA.callVr (As := []) rfl k9_152 okX5_lived (isP i hi4).1 rfl rfl rfl (Nat.le_of_ble_eq_true rfl) (c_X5_lived (d + 2) _ G (42 + 3 * i) (isP i hi4)) rfl rfl ?_
          refine xA.iload rfl rfl rfl ?_
          refine xA.callVi (As := [_]) rfl k9_197 okX3_selvesIn (isP i hi4).2.1 rfl rfl rfl (Nat.le_of_ble_eq_true rfl) (c_X3_selvesIn (d + 1) _ G (42 + 3 * i + 1) (isP i hi4).2 _ hl.1 hg.1 _) rfl rfl ?_
          refine xA.topi (congrArg nI (lC_in hl hg.2.1 _)) ?_
          exact xA.iret rfl rfl rfl ⟨by rw [aMost, if_pos hx, hci]; first | (rw [if_neg (by rintro (q | q); exact h14 q; exact h19 q)]; done) | (rw [if_pos (Or.inl h14), if_neg h36]; done) | (rw [if_pos (Or.inl h14), if_pos h36]; done) | (rw [if_pos (Or.inr h19), if_pos h36]; done) | (rw [if_pos (Or.inr h19), if_neg h36]; done), rfl⟩
        · refine xA.iload rfl rfl rfl ?_
          refine xA.goto (q := 53) rfl rfl ?_
          exact xA.iret rfl rfl rfl ⟨by rw [aMost, if_pos hx, hci]; first | (rw [if_neg (by rintro (q | q); exact h14 q; exact h19 q)]; done) | (rw [if_pos (Or.inl h14), if_neg h36]; done) | (rw [if_pos (Or.inl h14), if_pos h36]; done) | (rw [if_pos (Or.inr h19), if_pos h36]; done) | (rw [if_pos (Or.inr h19), if_neg h36]; done), rfl⟩
      · refine xA.bipush (v := (-102)) rfl (by decide) rfl ?_
        exact xA.iret rfl rfl rfl ⟨by rw [aMost, if_pos hx, hci]; first | (rw [if_neg (by rintro (q | q); exact h14 q; exact h19 q)]; done) | (rw [if_pos (Or.inl h14), if_neg h36]; done) | (rw [if_pos (Or.inl h14), if_pos h36]; done) | (rw [if_pos (Or.inr h19), if_pos h36]; done) | (rw [if_pos (Or.inr h19), if_neg h36]; done), rfl⟩
  · skip
    refine xA.aload_n (i := 0) rfl rfl rfl rfl ?_
    refine xA.iload_n (i := 1) rfl rfl rfl rfl ?_
    refine xA.callVr (As := [_]) rfl k9_134 okX9_personAt rfl rfl rfl rfl (Nat.le_of_ble_eq_true rfl) (c_X9_personAtN (d + 2) _ G (sP s) hpp.1 hpp.2.1 x hx) rfl rfl ?_
    refine xA.astoreN_n (i := 3) (L' := [_, _, _, _, _]) rfl rfl (Nat.le_of_ble_eq_true rfl) rfl rfl ?_
    refine xA.aloadN_n (i := 3) rfl rfl rfl rfl ?_
    refine xA.ifnonnullN rfl rfl ?_
    refine xA.bipush (v := (-101)) rfl (by decide) rfl ?_
    exact xA.iret rfl rfl rfl ⟨by rw [aMost, if_neg (by first | exact hx | (rintro ⟨q, -⟩; exact hx q))], rfl⟩
set_option maxRecDepth 100000 in
set_option maxHeartbeats 400000 in
theorem c_X9_done (d : Nat) (S : Nat → Nat → Int32) (G : Nat → Nat → Int64) (s : sS) (hc : CS S s) (x : Int32) : xR τ (d + 3) mX9_done [.ref 0, .int x] S G (some (.int (aDone s x))) S G := by
  obtain ⟨hpg, hho, hpp, htk, hgl, hsd, him, hno⟩ := hc
  refine xC.of okX9_done (Nat.le_of_ble_eq_true rfl) (L := [_, _, _]) rfl ?_
  by_cases hx : rg x (sP s)
  · obtain ⟨i, hi, rfl⟩ := rg_nI hx (by have := hpp.2.1; omega)
    have hi4 : i < 4 := by have := hpp.2.1; omega
    have hci : (nI i).toNatClampNeg = i := nI_clamp (by omega)
    obtain ⟨hkd, hkd5, hl, hg⟩ := hpp.2.2 i hi
    refine xA.aload_n (i := 0) rfl rfl rfl rfl ?_
    refine xA.iload_n (i := 1) rfl rfl rfl rfl ?_
    refine xA.callVr (As := [_]) rfl k9_134 okX9_personAt rfl rfl rfl rfl (Nat.le_of_ble_eq_true rfl) (c_X9_personAt (d + 2) _ G (sP s) hpp.1 hpp.2.1 i hi) rfl rfl ?_
    refine xA.astore_n (i := 2) (L' := [_, _, _]) rfl rfl (Nat.le_of_ble_eq_true rfl) rfl rfl ?_
    refine xA.aload_n (i := 2) rfl rfl rfl rfl ?_
    refine xA.ifnonnull (q := 15) rfl rfl ?_
    refine xA.aload_n (i := 0) rfl rfl rfl rfl ?_
    refine xA.getR rfl f9_42 rfl rfl rfl rfl ?_
    refine xA.aload_n (i := 2) rfl rfl rfl rfl ?_
    refine xA.callVr (As := []) rfl k9_152 okX5_lived (isP i hi4).1 rfl rfl rfl (Nat.le_of_ble_eq_true rfl) (c_X5_lived (d + 2) _ G (42 + 3 * i) (isP i hi4)) rfl rfl ?_
    refine xA.callVi (As := [_]) rfl k9_211 okX7_doneBy rfl rfl rfl rfl (Nat.le_of_ble_eq_true rfl) (c_X7_doneBy d _ G 12 iT12 _ htk.1 htk.2.1 (42 + 3 * i + 1) (isP i hi4).2 _ hl.1 hg.1) rfl rfl ?_
    refine xA.topi (lC_done htk hl hg.2.1) ?_
    exact xA.iret rfl rfl rfl ⟨by rw [aDone, if_pos hx, hci], rfl⟩
  · skip
    refine xA.aload_n (i := 0) rfl rfl rfl rfl ?_
    refine xA.iload_n (i := 1) rfl rfl rfl rfl ?_
    refine xA.callVr (As := [_]) rfl k9_134 okX9_personAt rfl rfl rfl rfl (Nat.le_of_ble_eq_true rfl) (c_X9_personAtN (d + 2) _ G (sP s) hpp.1 hpp.2.1 x hx) rfl rfl ?_
    refine xA.astoreN_n (i := 2) (L' := [_, _, _]) rfl rfl (Nat.le_of_ble_eq_true rfl) rfl rfl ?_
    refine xA.aloadN_n (i := 2) rfl rfl rfl rfl ?_
    refine xA.ifnonnullN rfl rfl ?_
    refine xA.bipush (v := (-101)) rfl (by decide) rfl ?_
    refine xA.goto (q := 26) rfl rfl ?_
    exact xA.iret rfl rfl rfl ⟨by rw [aDone, if_neg (by first | exact hx | (rintro ⟨q, -⟩; exact hx q))], rfl⟩
set_option maxRecDepth 100000 in
set_option maxHeartbeats 400000 in
theorem c_X9_met (d : Nat) (S : Nat → Nat → Int32) (G : Nat → Nat → Int64) (s : sS) (hc : CS S s) (x : Int32) : xR τ (d + 4) mX9_met [.ref 0, .int x] S G (some (.int (aMet s x))) S G := by
  obtain ⟨hpg, hho, hpp, htk, hgl, hsd, him, hno⟩ := hc
  refine xC.of okX9_met (Nat.le_of_ble_eq_true rfl) (L := [_, _, _]) rfl ?_
  by_cases hx : rg x (sP s)
  · obtain ⟨i, hi, rfl⟩ := rg_nI hx (by have := hpp.2.1; omega)
    have hi4 : i < 4 := by have := hpp.2.1; omega
    have hci : (nI i).toNatClampNeg = i := nI_clamp (by omega)
    obtain ⟨hkd, hkd5, hl, hg⟩ := hpp.2.2 i hi
    refine xA.aload_n (i := 0) rfl rfl rfl rfl ?_
    refine xA.iload_n (i := 1) rfl rfl rfl rfl ?_
    refine xA.callVr (As := [_]) rfl k9_134 okX9_personAt rfl rfl rfl rfl (Nat.le_of_ble_eq_true rfl) (c_X9_personAt (d + 3) _ G (sP s) hpp.1 hpp.2.1 i hi) rfl rfl ?_
    refine xA.astore_n (i := 2) (L' := [_, _, _]) rfl rfl (Nat.le_of_ble_eq_true rfl) rfl rfl ?_
    refine xA.aload_n (i := 2) rfl rfl rfl rfl ?_
    refine xA.ifnonnull (q := 15) rfl rfl ?_
    refine xA.aload_n (i := 2) rfl rfl rfl rfl ?_
    refine xA.aload_n (i := 0) rfl rfl rfl rfl ?_
    refine xA.getR rfl f9_19 rfl rfl rfl rfl ?_
    refine xA.callVi (As := [_]) rfl k9_190 okX5_firstMeeting (isP i hi4).1 rfl rfl rfl (Nat.le_of_ble_eq_true rfl) (c_X5_firstMeeting d _ G (42 + 3 * i) (isP i hi4) iH3 _ hl.1 hg.1 (lC_ok hl hg.2.1)) rfl rfl ?_
    have hhr : 0 < sHr s := by
      rcases Nat.eq_zero_or_pos (sHr s) with z | z
      · have := (hno z).1; omega
      · exact z
    refine xA.topi (lC_met (hho.2.2.2 hhr).1 hkd5 hkd hl hg.2.1) ?_
    exact xA.iret rfl rfl rfl ⟨by rw [aMet, if_pos hx, hci], rfl⟩
  · skip
    refine xA.aload_n (i := 0) rfl rfl rfl rfl ?_
    refine xA.iload_n (i := 1) rfl rfl rfl rfl ?_
    refine xA.callVr (As := [_]) rfl k9_134 okX9_personAt rfl rfl rfl rfl (Nat.le_of_ble_eq_true rfl) (c_X9_personAtN (d + 3) _ G (sP s) hpp.1 hpp.2.1 x hx) rfl rfl ?_
    refine xA.astoreN_n (i := 2) (L' := [_, _, _]) rfl rfl (Nat.le_of_ble_eq_true rfl) rfl rfl ?_
    refine xA.aloadN_n (i := 2) rfl rfl rfl rfl ?_
    refine xA.ifnonnullN rfl rfl ?_
    refine xA.bipush (v := (-101)) rfl (by decide) rfl ?_
    refine xA.goto (q := 23) rfl rfl ?_
    exact xA.iret rfl rfl rfl ⟨by rw [aMet, if_neg (by first | exact hx | (rintro ⟨q, -⟩; exact hx q))], rfl⟩

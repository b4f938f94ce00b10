variable {τ : List xSh}
/-! ===== counting; lives ===== -/
/-- a loop, from behind -/
theorem xloop {P : Nat → Prop} (n : Nat) (hs : ∀ i, i < n → P (i + 1) → P i) (he : P n) : ∀ i, i ≤ n → P i := by
  have key : ∀ t i, i + t = n → P i := by
    intro t
    induction t with
    | zero => intro i hi; rw [Nat.add_zero] at hi; subst hi; exact he
    | succ t ih => intro i hi; exact hs i (by omega) (ih (i + 1) (by omega))
  exact fun i hi => key (n - i) i (by omega)
/-- how many -/
def cn (f : Nat → Bool) : Nat → Nat
  | 0 => 0
  | n + 1 => cn f n + (if f n then 1 else 0)
theorem cn_t {f : Nat → Bool} {i : Nat} (h : f i = true) : nI (cn f i) + 1 = nI (cn f (i + 1)) := by
  rw [nI_1]; simp [cn, h]
theorem cn_f {f : Nat → Bool} {i : Nat} (h : f i = false) : nI (cn f i) + 0 = nI (cn f (i + 1)) := by
  simp [cn, h]
theorem cn_le (f : Nat → Bool) (n : Nat) : cn f n ≤ n := by
  induction n with
  | zero => exact Nat.le_refl 0
  | succ n ih => unfold cn; split <;> omega
theorem cn_congr {f g : Nat → Bool} {n : Nat} (h : ∀ i, i < n → f i = g i) : cn f n = cn g n := by
  induction n with
  | zero => rfl
  | succ n ih => unfold cn; rw [ih (fun i hi => h i (by omega)), h n (by omega)]
theorem cn_pos {f : Nat → Bool} {n : Nat} : 0 < cn f n ↔ ∃ i, i < n ∧ f i = true := by
  induction n with
  | zero => simp [cn]
  | succ n ih =>
    unfold cn
    by_cases hn : f n = true
    · simp only [hn, if_true]
      exact ⟨fun _ => ⟨n, by omega, hn⟩, fun _ => by omega⟩
    · simp only [hn, if_false, Nat.add_zero, Bool.false_eq_true]
      rw [ih]
      exact ⟨fun ⟨i, h1, h2⟩ => ⟨i, by omega, h2⟩, fun ⟨i, h1, h2⟩ => ⟨i, by
        rcases Nat.lt_or_ge i n with h3 | h3
        · exact h3
        · have : i = n := by omega
          subst this; exact absurd h2 hn, h2⟩⟩

set_option maxRecDepth 100000 in
set_option maxHeartbeats 400000 in
theorem c_X3_spotAt (d : Nat) (S : Nat → Nat → Int32) (G : Nat → Nat → Int64) (k : Nat) (hk : isLife τ k) (n i : Nat) (hn : S k 1 = nI n) (hi : i < n) (h17 : n ≤ 17) : xR τ d mX3_spotAt [.ref k, .int (nI i)] S G (some (.int (S (k + 1) i))) S G := by
  refine xC.of okX3_spotAt (Nat.le_of_ble_eq_true rfl) (L := [_, _]) rfl ?_
  refine xA.iload_n (i := 1) rfl rfl rfl rfl ?_
  refine xA.if_lt (tgt := 30) rfl rfl rfl (fun h1 => ?_) (fun h1 => ?_)
  · exact absurd h1 (nI_pos (by omega))
  · refine xA.iload_n (i := 1) rfl rfl rfl rfl ?_
    refine xA.aload_n (i := 0) rfl rfl rfl rfl ?_
    refine xA.getI rfl f3_79 hk.1 rfl rfl ?_
    refine xA.topi (hn) ?_
    refine xA.icmp_ge (tgt := 30) rfl rfl rfl (fun h9 => ?_) (fun h9 => ?_)
    · exact absurd h9 (nI_ge hi (by omega))
    · refine xA.iload_n (i := 1) rfl rfl rfl rfl ?_
      refine xA.aload_n (i := 0) rfl rfl rfl rfl ?_
      refine xA.getR rfl f3_11 hk.1 rfl rfl rfl ?_
      refine xA.alen rfl hk.2 rfl ?_
      refine xA.icmp_ge (tgt := 30) rfl rfl rfl (fun h18 => ?_) (fun h18 => ?_)
      · exact absurd h18 (nI_ge (by omega) (by omega))
      · refine xA.aload_n (i := 0) rfl rfl rfl rfl ?_
        refine xA.getR rfl f3_11 hk.1 rfl rfl rfl ?_
        refine xA.iload_n (i := 1) rfl rfl rfl rfl ?_
        refine xA.iald rfl hk.2 (vp_in_nI (by omega) (by omega)) rfl ?_
        refine xA.topi (congrArg (S (k + 1)) (nI_clamp (by omega))) ?_
        refine xA.goto (q := 31) rfl rfl ?_
        exact xA.iret rfl rfl rfl ⟨rfl, rfl⟩
set_option maxRecDepth 100000 in
set_option maxHeartbeats 400000 in
theorem c_X3_spotAtN (d : Nat) (S : Nat → Nat → Int32) (G : Nat → Nat → Int64) (k : Nat) (hk : isLife τ k) : xR τ d mX3_spotAt [.ref k, .int (-1)] S G (some (.int (-1))) S G := by
  refine xC.of okX3_spotAt (Nat.le_of_ble_eq_true rfl) (L := [_, _]) rfl ?_
  refine xA.iload_n (i := 1) rfl rfl rfl rfl ?_
  refine xA.if_lt (tgt := 30) rfl rfl rfl (fun h1 => ?_) (fun h1 => ?_)
  · refine xA.iconst (v := (-1)) rfl (by decide) rfl ?_
    exact xA.iret rfl rfl rfl ⟨rfl, rfl⟩
  · exact absurd (by decide) h1
set_option maxRecDepth 100000 in
set_option maxHeartbeats 400000 in
theorem c_X3_lastSpot0 (d : Nat) (S : Nat → Nat → Int32) (G : Nat → Nat → Int64) (k : Nat) (hk : isLife τ k) (hn : S k 1 = nI 0) : xR τ (d + 1) mX3_lastSpot [.ref k] S G (some (.int (-1))) S G := by
  refine xC.of okX3_lastSpot (Nat.le_of_ble_eq_true rfl) (L := [_]) rfl ?_
  refine xA.aload_n (i := 0) rfl rfl rfl rfl ?_
  refine xA.aload_n (i := 0) rfl rfl rfl rfl ?_
  refine xA.getI rfl f3_79 hk.1 rfl rfl ?_
  refine xA.topi (hn) ?_
  refine xA.iconst (v := 1) rfl (by decide) rfl ?_
  refine xA.isub rfl rfl ?_
  refine xA.topi ((rfl : nI 0 - 1 = -1)) ?_
  refine xA.callVi (As := [_]) rfl k3_82 okX3_spotAt hk.1 rfl rfl rfl (Nat.le_of_ble_eq_true rfl) (c_X3_spotAtN d S G k hk) rfl rfl ?_
  exact xA.iret rfl rfl rfl ⟨rfl, rfl⟩
set_option maxRecDepth 100000 in
set_option maxHeartbeats 400000 in
theorem c_X3_lastSpot (d : Nat) (S : Nat → Nat → Int32) (G : Nat → Nat → Int64) (k : Nat) (hk : isLife τ k) (n : Nat) (hn : S k 1 = nI (n + 1)) (h17 : n + 1 ≤ 17) : xR τ (d + 1) mX3_lastSpot [.ref k] S G (some (.int (S (k + 1) n))) S G := by
  refine xC.of okX3_lastSpot (Nat.le_of_ble_eq_true rfl) (L := [_]) rfl ?_
  refine xA.aload_n (i := 0) rfl rfl rfl rfl ?_
  refine xA.aload_n (i := 0) rfl rfl rfl rfl ?_
  refine xA.getI rfl f3_79 hk.1 rfl rfl ?_
  refine xA.topi (hn) ?_
  refine xA.iconst (v := 1) rfl (by decide) rfl ?_
  refine xA.isub rfl rfl ?_
  refine xA.topi (nI_pred n) ?_
  refine xA.callVi (As := [_]) rfl k3_82 okX3_spotAt hk.1 rfl rfl rfl (Nat.le_of_ble_eq_true rfl) (c_X3_spotAt d S G k hk (n + 1) n hn (by omega) h17) rfl rfl ?_
  exact xA.iret rfl rfl rfl ⟨rfl, rfl⟩
set_option maxRecDepth 100000 in
set_option maxHeartbeats 400000 in
theorem c_X3_selvesAt (d : Nat) (S : Nat → Nat → Int32) (G : Nat → Nat → Int64) (k : Nat) (hk : isLife τ k) (n : Nat) (hn : S k 1 = nI n) (h17 : n ≤ 17) (x : Int32) : xR τ (d + 1) mX3_selvesAt [.ref k, .int x] S G (some (.int (nI (cn (fun j => decide (S (k + 1) j = x)) n)))) S G := by
  refine xC.of okX3_selvesAt (Nat.le_of_ble_eq_true rfl) (L := [_, _, _, _]) rfl ?_
  have loop : ∀ i, i ≤ n → xA none (d + 1) mX3_selvesAt 0 0 0 0 4 [some (.ref k), some (.int x), some (.int (nI (cn (fun j => decide (S (k + 1) j = x)) i))), some (.int (nI i))] [] ((σF τ), S, G) (fun r' h' => r' = (some (.int (nI (cn (fun j => decide (S (k + 1) j = x)) n)))) ∧ h' = ((σF τ), S, G)) := by
    refine xloop n (fun i hi ih => ?_) ?_
    · skip
      refine xA.iload_n (i := 3) rfl rfl rfl rfl ?_
      refine xA.aload_n (i := 0) rfl rfl rfl rfl ?_
      refine xA.getI rfl f3_79 hk.1 rfl rfl ?_
      refine xA.topi (hn) ?_
      refine xA.icmp_ge (tgt := 35) rfl rfl rfl (fun h9 => ?_) (fun h9 => ?_)
      · exact absurd h9 (nI_ge hi (by omega))
      · refine xA.iload_n (i := 2) rfl rfl rfl rfl ?_
        refine xA.aload_n (i := 0) rfl rfl rfl rfl ?_
        refine xA.iload_n (i := 3) rfl rfl rfl rfl ?_
        refine xA.callVi (As := [_]) rfl k3_82 okX3_spotAt hk.1 rfl rfl rfl (Nat.le_of_ble_eq_true rfl) (c_X3_spotAt d S G k hk n i hn hi h17) rfl rfl ?_
        refine xA.iload_n (i := 1) rfl rfl rfl rfl ?_
        refine xA.icmp_ne (tgt := 26) rfl rfl rfl (fun h19 => ?_) (fun h19 => ?_)
        · refine xA.iconst (v := 0) rfl (by decide) rfl ?_
          refine xA.iadd rfl rfl ?_
          refine xA.topi (show _ = nI (cn (fun j => decide (S (k + 1) j = x)) (i + 1)) from by first | exact cn_t (by simp [h19]) | exact cn_f (by simp [h19])) ?_
          refine xA.istore_n (i := 2) (L' := [_, _, _, _]) rfl rfl (Nat.le_of_ble_eq_true rfl) rfl rfl ?_
          refine xA.iinc (L' := [_, _, _, _]) rfl rfl (nI_1 i) rfl rfl ?_
          refine xA.goto (q := 4) rfl rfl ?_
          exact ih
        · refine xA.iconst (v := 1) rfl (by decide) rfl ?_
          refine xA.goto (q := 27) rfl rfl ?_
          refine xA.iadd rfl rfl ?_
          refine xA.topi (show _ = nI (cn (fun j => decide (S (k + 1) j = x)) (i + 1)) from by first | exact cn_t (by simp [h19]) | exact cn_f (by simp [h19])) ?_
          refine xA.istore_n (i := 2) (L' := [_, _, _, _]) rfl rfl (Nat.le_of_ble_eq_true rfl) rfl rfl ?_
          refine xA.iinc (L' := [_, _, _, _]) rfl rfl (nI_1 i) rfl rfl ?_
          refine xA.goto (q := 4) rfl rfl ?_
          exact ih
    · skip
      refine xA.iload_n (i := 3) rfl rfl rfl rfl ?_
      refine xA.aload_n (i := 0) rfl rfl rfl rfl ?_
      refine xA.getI rfl f3_79 hk.1 rfl rfl ?_
      refine xA.topi (hn) ?_
      refine xA.icmp_ge (tgt := 35) rfl rfl rfl (fun h9 => ?_) (fun h9 => ?_)
      · refine xA.iload_n (i := 2) rfl rfl rfl rfl ?_
        exact xA.iret rfl rfl rfl ⟨rfl, rfl⟩
      · exact absurd (nI_le (Nat.le_refl _) (by omega)) h9
  refine xA.iconst (v := 0) rfl (by decide) rfl ?_
  refine xA.istore_n (i := 2) (L' := [_, _, _, _]) rfl rfl (Nat.le_of_ble_eq_true rfl) rfl rfl ?_
  refine xA.iconst (v := 0) rfl (by decide) rfl ?_
  refine xA.istore_n (i := 3) (L' := [_, _, _, _]) rfl rfl (Nat.le_of_ble_eq_true rfl) rfl rfl ?_
  exact loop 0 (Nat.zero_le _)
set_option maxRecDepth 100000 in
set_option maxHeartbeats 400000 in
theorem c_X3_selvesIn (d : Nat) (S : Nat → Nat → Int32) (G : Nat → Nat → Int64) (k : Nat) (hk : isLife τ k) (n : Nat) (hn : S k 1 = nI n) (h17 : n ≤ 17) (x : Int32) : xR τ (d + 1) mX3_selvesIn [.ref k, .int x] S G (some (.int (nI (cn (fun j => decide (xmin (S (k + 1) j) = x)) n)))) S G := by
  refine xC.of okX3_selvesIn (Nat.le_of_ble_eq_true rfl) (L := [_, _, _, _]) rfl ?_
  have loop : ∀ i, i ≤ n → xA none (d + 1) mX3_selvesIn 0 0 0 0 4 [some (.ref k), some (.int x), some (.int (nI (cn (fun j => decide (xmin (S (k + 1) j) = x)) i))), some (.int (nI i))] [] ((σF τ), S, G) (fun r' h' => r' = (some (.int (nI (cn (fun j => decide (xmin (S (k + 1) j) = x)) n)))) ∧ h' = ((σF τ), S, G)) := by
    refine xloop n (fun i hi ih => ?_) ?_
    · skip
      refine xA.iload_n (i := 3) rfl rfl rfl rfl ?_
      refine xA.aload_n (i := 0) rfl rfl rfl rfl ?_
      refine xA.getI rfl f3_79 hk.1 rfl rfl ?_
      refine xA.topi (hn) ?_
      refine xA.icmp_ge (tgt := 38) rfl rfl rfl (fun h9 => ?_) (fun h9 => ?_)
      · exact absurd h9 (nI_ge hi (by omega))
      · refine xA.iload_n (i := 2) rfl rfl rfl rfl ?_
        refine xA.aload_n (i := 0) rfl rfl rfl rfl ?_
        refine xA.iload_n (i := 3) rfl rfl rfl rfl ?_
        refine xA.callVi (As := [_]) rfl k3_82 okX3_spotAt hk.1 rfl rfl rfl (Nat.le_of_ble_eq_true rfl) (c_X3_spotAt d S G k hk n i hn hi h17) rfl rfl ?_
        refine xA.callSNi (As := [_]) rfl k3_85 okX9_minuteOf rfl rfl (Nat.le_of_ble_eq_true rfl) (c_X9_minuteOf d S G _) rfl rfl ?_
        refine xA.iload_n (i := 1) rfl rfl rfl rfl ?_
        refine xA.icmp_ne (tgt := 29) rfl rfl rfl (fun h22 => ?_) (fun h22 => ?_)
        · refine xA.iconst (v := 0) rfl (by decide) rfl ?_
          refine xA.iadd rfl rfl ?_
          refine xA.topi (show _ = nI (cn (fun j => decide (xmin (S (k + 1) j) = x)) (i + 1)) from by first | exact cn_t (by simp [h22]) | exact cn_f (by simp [h22])) ?_
          refine xA.istore_n (i := 2) (L' := [_, _, _, _]) rfl rfl (Nat.le_of_ble_eq_true rfl) rfl rfl ?_
          refine xA.iinc (L' := [_, _, _, _]) rfl rfl (nI_1 i) rfl rfl ?_
          refine xA.goto (q := 4) rfl rfl ?_
          exact ih
        · refine xA.iconst (v := 1) rfl (by decide) rfl ?_
          refine xA.goto (q := 30) rfl rfl ?_
          refine xA.iadd rfl rfl ?_
          refine xA.topi (show _ = nI (cn (fun j => decide (xmin (S (k + 1) j) = x)) (i + 1)) from by first | exact cn_t (by simp [h22]) | exact cn_f (by simp [h22])) ?_
          refine xA.istore_n (i := 2) (L' := [_, _, _, _]) rfl rfl (Nat.le_of_ble_eq_true rfl) rfl rfl ?_
          refine xA.iinc (L' := [_, _, _, _]) rfl rfl (nI_1 i) rfl rfl ?_
          refine xA.goto (q := 4) rfl rfl ?_
          exact ih
    · skip
      refine xA.iload_n (i := 3) rfl rfl rfl rfl ?_
      refine xA.aload_n (i := 0) rfl rfl rfl rfl ?_
      refine xA.getI rfl f3_79 hk.1 rfl rfl ?_
      refine xA.topi (hn) ?_
      refine xA.icmp_ge (tgt := 38) rfl rfl rfl (fun h9 => ?_) (fun h9 => ?_)
      · refine xA.iload_n (i := 2) rfl rfl rfl rfl ?_
        exact xA.iret rfl rfl rfl ⟨rfl, rfl⟩
      · exact absurd (nI_le (Nat.le_refl _) (by omega)) h9
  refine xA.iconst (v := 0) rfl (by decide) rfl ?_
  refine xA.istore_n (i := 2) (L' := [_, _, _, _]) rfl rfl (Nat.le_of_ble_eq_true rfl) rfl rfl ?_
  refine xA.iconst (v := 0) rfl (by decide) rfl ?_
  refine xA.istore_n (i := 3) (L' := [_, _, _, _]) rfl rfl (Nat.le_of_ble_eq_true rfl) rfl rfl ?_
  exact loop 0 (Nat.zero_le _)
/-- the fullest minute, by its first ones -/
def fmS (mi : Nat → Int32) (c : Int32 → Nat) : Nat → Int32 × Nat
  | 0 => (-1, 0)
  | i + 1 => if (fmS mi c i).2 < c (mi i) ∨ (c (mi i) = (fmS mi c i).2 ∧ mi i < (fmS mi c i).1) then (mi i, c (mi i)) else fmS mi c i
/-- the least of the minutes that are so -/
def fwS (mi : Nat → Int32) (ok : Nat → Bool) : Nat → Int32
  | 0 => -1
  | i + 1 => if (fwS mi ok i = -1 ∨ mi i < fwS mi ok i) ∧ ok i = true then mi i else fwS mi ok i
theorem nI_posi {c : Nat} (h : ¬ nI c ≤ 0) : 0 < c := by
  rcases Nat.eq_zero_or_pos c with z | z
  · subst z; exact absurd (Int32.le_refl 0) h
  · exact z
theorem fmS_le {mi : Nat → Int32} {c : Int32 → Nat} {N : Nat} (h : ∀ x, c x ≤ N) (i : Nat) : (fmS mi c i).2 ≤ N := by
  induction i with
  | zero => exact Nat.zero_le _
  | succ i ih => unfold fmS; split <;> simp [h, ih]

set_option maxRecDepth 100000 in
set_option maxHeartbeats 400000 in
theorem c_X3_fullestMinute (d : Nat) (S : Nat → Nat → Int32) (G : Nat → Nat → Int64) (k : Nat) (hk : isLife τ k) (n : Nat) (hn : S k 1 = nI n) (h17 : n ≤ 17) : xR τ (d + 2) mX3_fullestMinute [.ref k] S G (some (.int (fmS (fun j => xmin (S (k + 1) j)) (fun x => cn (fun j => decide (xmin (S (k + 1) j) = x)) n) n).1)) S G := by
  refine xC.of okX3_fullestMinute (Nat.le_of_ble_eq_true rfl) (L := [_, _, _, _, _, _]) rfl ?_
  have loop : ∀ i, i ≤ n → ∀ x4 x5 : Option Value, xA none (d + 2) mX3_fullestMinute 0 0 0 0 6 [some (.ref k), some (.int (fmS (fun j => xmin (S (k + 1) j)) (fun x => cn (fun j => decide (xmin (S (k + 1) j) = x)) n) i).1), some (.int (nI (fmS (fun j => xmin (S (k + 1) j)) (fun x => cn (fun j => decide (xmin (S (k + 1) j) = x)) n) i).2)), some (.int (nI i)), x4, x5] [] ((σF τ), S, G) (fun r' h' => r' = (some (.int (fmS (fun j => xmin (S (k + 1) j)) (fun x => cn (fun j => decide (xmin (S (k + 1) j) = x)) n) n).1)) ∧ h' = ((σF τ), S, G)) := by
    refine xloop n (fun i hi ih => ?_) ?_
    · skip
      intro x4 x5
      refine xA.iload_n (i := 3) rfl rfl rfl rfl ?_
      refine xA.aload_n (i := 0) rfl rfl rfl rfl ?_
      refine xA.getI rfl f3_79 hk.1 rfl rfl ?_
      refine xA.topi (hn) ?_
      refine xA.icmp_ge (tgt := 62) rfl rfl rfl (fun h11 => ?_) (fun h11 => ?_)
      · exact absurd h11 (nI_ge hi (by omega))
      · refine xA.aload_n (i := 0) rfl rfl rfl rfl ?_
        refine xA.iload_n (i := 3) rfl rfl rfl rfl ?_
        refine xA.callVi (As := [_]) rfl k3_82 okX3_spotAt hk.1 rfl rfl rfl (Nat.le_of_ble_eq_true rfl) (c_X3_spotAt (d + 1) S G k hk n i hn hi h17) rfl rfl ?_
        refine xA.callSNi (As := [_]) rfl k3_85 okX9_minuteOf rfl rfl (Nat.le_of_ble_eq_true rfl) (c_X9_minuteOf (d + 1) S G _) rfl rfl ?_
        refine xA.istore (L' := [_, _, _, _, _, _]) rfl (Nat.le_of_ble_eq_true rfl) rfl rfl ?_
        refine xA.aload_n (i := 0) rfl rfl rfl rfl ?_
        refine xA.iload rfl rfl rfl ?_
        refine xA.callVi (As := [_]) rfl k3_88 okX3_selvesIn hk.1 rfl rfl rfl (Nat.le_of_ble_eq_true rfl) (c_X3_selvesIn d S G k hk n hn h17 _) rfl rfl ?_
        refine xA.istore (L' := [_, _, _, _, _, _]) rfl (Nat.le_of_ble_eq_true rfl) rfl rfl ?_
        refine xA.iload rfl rfl rfl ?_
        refine xA.iload_n (i := 2) rfl rfl rfl rfl ?_
        refine xA.icmp_gt (tgt := 50) rfl rfl rfl (fun h35 => ?_) (fun h35 => ?_)
        · refine xA.iload rfl rfl rfl ?_
          refine xA.istore_n (i := 1) (L' := [_, _, _, _, _, _]) rfl rfl (Nat.le_of_ble_eq_true rfl) rfl rfl ?_
          refine xA.iload rfl rfl rfl ?_
          refine xA.istore_n (i := 2) (L' := [_, _, _, _, _, _]) rfl rfl (Nat.le_of_ble_eq_true rfl) rfl rfl ?_
          have hb1 : (fmS (fun j => xmin (S (k + 1) j)) (fun x => cn (fun j => decide (xmin (S (k + 1) j) = x)) n) i).2 ≤ n := fmS_le (fun x => cn_le _ _) i
          have hb2 := cn_le (fun j => decide (xmin (S (k + 1) j) = xmin (S (k + 1) i))) n
          refine xA.iinc (L' := [_, _, _, _, _, _]) rfl rfl (nI_1 i) rfl rfl ?_
          refine xA.goto (q := 6) rfl rfl ?_
          have ih := ih (some (.int (xmin (S (k + 1) i)))) (some (.int (nI (cn (fun j => decide (xmin (S (k + 1) j) = xmin (S (k + 1) i))) n))))
          simp only [fmS] at ih
          first | (rw [if_pos (by first | (left; exact (nI_ltI (by omega) (by omega)).mp h35) | (right; exact ⟨(nI_eq (by omega) (by omega)).mp h41, Int32.not_le.mp h47⟩))] at ih; exact ih) | (rw [if_neg (by rintro (h | ⟨h, hh⟩) <;> first | exact h35 ((nI_ltI (by omega) (by omega)).mpr h) | exact h41 (by rw [h]) | exact absurd h47 (Int32.not_le.mpr hh))] at ih; exact ih)
        · refine xA.iload rfl rfl rfl ?_
          refine xA.iload_n (i := 2) rfl rfl rfl rfl ?_
          refine xA.icmp_ne (tgt := 56) rfl rfl rfl (fun h41 => ?_) (fun h41 => ?_)
          · have hb1 : (fmS (fun j => xmin (S (k + 1) j)) (fun x => cn (fun j => decide (xmin (S (k + 1) j) = x)) n) i).2 ≤ n := fmS_le (fun x => cn_le _ _) i
            have hb2 := cn_le (fun j => decide (xmin (S (k + 1) j) = xmin (S (k + 1) i))) n
            refine xA.iinc (L' := [_, _, _, _, _, _]) rfl rfl (nI_1 i) rfl rfl ?_
            refine xA.goto (q := 6) rfl rfl ?_
            have ih := ih (some (.int (xmin (S (k + 1) i)))) (some (.int (nI (cn (fun j => decide (xmin (S (k + 1) j) = xmin (S (k + 1) i))) n))))
            simp only [fmS] at ih
            first | (rw [if_pos (by first | (left; exact (nI_ltI (by omega) (by omega)).mp h35) | (right; exact ⟨(nI_eq (by omega) (by omega)).mp h41, Int32.not_le.mp h47⟩))] at ih; exact ih) | (rw [if_neg (by rintro (h | ⟨h, hh⟩) <;> first | exact h35 ((nI_ltI (by omega) (by omega)).mpr h) | exact h41 (by rw [h]) | exact absurd h47 (Int32.not_le.mpr hh))] at ih; exact ih)
          · refine xA.iload rfl rfl rfl ?_
            refine xA.iload_n (i := 1) rfl rfl rfl rfl ?_
            refine xA.icmp_ge (tgt := 56) rfl rfl rfl (fun h47 => ?_) (fun h47 => ?_)
            · have hb1 : (fmS (fun j => xmin (S (k + 1) j)) (fun x => cn (fun j => decide (xmin (S (k + 1) j) = x)) n) i).2 ≤ n := fmS_le (fun x => cn_le _ _) i
              have hb2 := cn_le (fun j => decide (xmin (S (k + 1) j) = xmin (S (k + 1) i))) n
              refine xA.iinc (L' := [_, _, _, _, _, _]) rfl rfl (nI_1 i) rfl rfl ?_
              refine xA.goto (q := 6) rfl rfl ?_
              have ih := ih (some (.int (xmin (S (k + 1) i)))) (some (.int (nI (cn (fun j => decide (xmin (S (k + 1) j) = xmin (S (k + 1) i))) n))))
              simp only [fmS] at ih
              first | (rw [if_pos (by first | (left; exact (nI_ltI (by omega) (by omega)).mp h35) | (right; exact ⟨(nI_eq (by omega) (by omega)).mp h41, Int32.not_le.mp h47⟩))] at ih; exact ih) | (rw [if_neg (by rintro (h | ⟨h, hh⟩) <;> first | exact h35 ((nI_ltI (by omega) (by omega)).mpr h) | exact h41 (by rw [h]) | exact absurd h47 (Int32.not_le.mpr hh))] at ih; exact ih)
            · refine xA.iload rfl rfl rfl ?_
              refine xA.istore_n (i := 1) (L' := [_, _, _, _, _, _]) rfl rfl (Nat.le_of_ble_eq_true rfl) rfl rfl ?_
              refine xA.iload rfl rfl rfl ?_
              refine xA.istore_n (i := 2) (L' := [_, _, _, _, _, _]) rfl rfl (Nat.le_of_ble_eq_true rfl) rfl rfl ?_
              have hb1 : (fmS (fun j => xmin (S (k + 1) j)) (fun x => cn (fun j => decide (xmin (S (k + 1) j) = x)) n) i).2 ≤ n := fmS_le (fun x => cn_le _ _) i
              have hb2 := cn_le (fun j => decide (xmin (S (k + 1) j) = xmin (S (k + 1) i))) n
              refine xA.iinc (L' := [_, _, _, _, _, _]) rfl rfl (nI_1 i) rfl rfl ?_
              refine xA.goto (q := 6) rfl rfl ?_
              have ih := ih (some (.int (xmin (S (k + 1) i)))) (some (.int (nI (cn (fun j => decide (xmin (S (k + 1) j) = xmin (S (k + 1) i))) n))))
              simp only [fmS] at ih
              first | (rw [if_pos (by first | (left; exact (nI_ltI (by omega) (by omega)).mp h35) | (right; exact ⟨(nI_eq (by omega) (by omega)).mp h41, Int32.not_le.mp h47⟩))] at ih; exact ih) | (rw [if_neg (by rintro (h | ⟨h, hh⟩) <;> first | exact h35 ((nI_ltI (by omega) (by omega)).mpr h) | exact h41 (by rw [h]) | exact absurd h47 (Int32.not_le.mpr hh))] at ih; exact ih)
    · skip
      intro x4 x5
      refine xA.iload_n (i := 3) rfl rfl rfl rfl ?_
      refine xA.aload_n (i := 0) rfl rfl rfl rfl ?_
      refine xA.getI rfl f3_79 hk.1 rfl rfl ?_
      refine xA.topi (hn) ?_
      refine xA.icmp_ge (tgt := 62) rfl rfl rfl (fun h11 => ?_) (fun h11 => ?_)
      · refine xA.iload_n (i := 1) rfl rfl rfl rfl ?_
        exact xA.iret rfl rfl rfl ⟨rfl, rfl⟩
      · exact absurd (nI_le (Nat.le_refl _) (by omega)) h11
  refine xA.iconst (v := (-1)) rfl (by decide) rfl ?_
  refine xA.istore_n (i := 1) (L' := [_, _, _, _, _, _]) rfl rfl (Nat.le_of_ble_eq_true rfl) rfl rfl ?_
  refine xA.iconst (v := 0) rfl (by decide) rfl ?_
  refine xA.istore_n (i := 2) (L' := [_, _, _, _, _, _]) rfl rfl (Nat.le_of_ble_eq_true rfl) rfl rfl ?_
  refine xA.iconst (v := 0) rfl (by decide) rfl ?_
  refine xA.istore_n (i := 3) (L' := [_, _, _, _, _, _]) rfl rfl (Nat.le_of_ble_eq_true rfl) rfl rfl ?_
  exact loop 0 (Nat.zero_le _) _ _
set_option maxRecDepth 100000 in
set_option maxHeartbeats 400000 in
theorem c_X3_firstMinuteWith (d : Nat) (S : Nat → Nat → Int32) (G : Nat → Nat → Int64) (k : Nat) (hk : isLife τ k) (n : Nat) (hn : S k 1 = nI n) (h17 : n ≤ 17) (k2 : Nat) (hk2 : isLife τ k2) (n2 : Nat) (hn2 : S k2 1 = nI n2) (h172 : n2 ≤ 17) : xR τ (d + 2) mX3_firstMinuteWith [.ref k, .ref k2] S G (some (.int (fwS (fun j => xmin (S (k + 1) j)) (fun j => decide (0 < cn (fun q => decide (S (k2 + 1) q = S (k + 1) j)) n2)) n))) S G := by
  refine xC.of okX3_firstMinuteWith (Nat.le_of_ble_eq_true rfl) (L := [_, _, _, _, _]) rfl ?_
  have loop : ∀ i, i ≤ n → ∀ x4 : Option Value, xA none (d + 2) mX3_firstMinuteWith 0 0 0 0 4 [some (.ref k), some (.ref k2), some (.int (fwS (fun j => xmin (S (k + 1) j)) (fun j => decide (0 < cn (fun q => decide (S (k2 + 1) q = S (k + 1) j)) n2)) i)), some (.int (nI i)), x4] [] ((σF τ), S, G) (fun r' h' => r' = (some (.int (fwS (fun j => xmin (S (k + 1) j)) (fun j => decide (0 < cn (fun q => decide (S (k2 + 1) q = S (k + 1) j)) n2)) n))) ∧ h' = ((σF τ), S, G)) := by
    refine xloop n (fun i hi ih => ?_) ?_
    · skip
      intro x4
      refine xA.iload_n (i := 3) rfl rfl rfl rfl ?_
      refine xA.aload_n (i := 0) rfl rfl rfl rfl ?_
      refine xA.getI rfl f3_79 hk.1 rfl rfl ?_
      refine xA.topi (hn) ?_
      refine xA.icmp_ge (tgt := 54) rfl rfl rfl (fun h9 => ?_) (fun h9 => ?_)
      · exact absurd h9 (nI_ge hi (by omega))
      · refine xA.aload_n (i := 0) rfl rfl rfl rfl ?_
        refine xA.iload_n (i := 3) rfl rfl rfl rfl ?_
        refine xA.callVi (As := [_]) rfl k3_82 okX3_spotAt hk.1 rfl rfl rfl (Nat.le_of_ble_eq_true rfl) (c_X3_spotAt (d + 1) S G k hk n i hn hi h17) rfl rfl ?_
        refine xA.callSNi (As := [_]) rfl k3_85 okX9_minuteOf rfl rfl (Nat.le_of_ble_eq_true rfl) (c_X9_minuteOf (d + 1) S G _) rfl rfl ?_
        refine xA.istore (L' := [_, _, _, _, _]) rfl (Nat.le_of_ble_eq_true rfl) rfl rfl ?_
        refine xA.iload_n (i := 2) rfl rfl rfl rfl ?_
        refine xA.iconst (v := (-1)) rfl (by decide) rfl ?_
        refine xA.icmp_eq (tgt := 33) rfl rfl rfl (fun h24 => ?_) (fun h24 => ?_)
        · refine xA.aload_n (i := 1) rfl rfl rfl rfl ?_
          refine xA.aload_n (i := 0) rfl rfl rfl rfl ?_
          refine xA.iload_n (i := 3) rfl rfl rfl rfl ?_
          refine xA.callVi (As := [_]) rfl k3_82 okX3_spotAt hk.1 rfl rfl rfl (Nat.le_of_ble_eq_true rfl) (c_X3_spotAt (d + 1) S G k hk n i hn hi h17) rfl rfl ?_
          refine xA.callVi (As := [_]) rfl k3_91 okX3_selvesAt hk2.1 rfl rfl rfl (Nat.le_of_ble_eq_true rfl) (c_X3_selvesAt d S G k2 hk2 n2 hn2 h172 _) rfl rfl ?_
          have hb2 := cn_le (fun q => decide (S (k2 + 1) q = S (k + 1) i)) n2
          refine xA.if_le (tgt := 48) rfl rfl rfl (fun h42 => ?_) (fun h42 => ?_)
          · refine xA.iinc (L' := [_, _, _, _, _]) rfl rfl (nI_1 i) rfl rfl ?_
            refine xA.goto (q := 4) rfl rfl ?_
            have ih := ih (some (.int (xmin (S (k + 1) i))))
            simp only [fwS, decide_eq_true_eq] at ih
            first | (rw [if_pos (by first | exact ⟨Or.inl h24, nI_posi h42⟩ | exact ⟨Or.inr (Int32.not_le.mp h30), nI_posi h42⟩)] at ih; exact ih) | (rw [if_neg (by rintro ⟨h, hh⟩; first | exact absurd h42 (nI_nle hh (by omega)) | (rcases h with h | h; exact h24 h; exact absurd h30 (Int32.not_le.mpr h)))] at ih; exact ih)
          · refine xA.iload rfl rfl rfl ?_
            refine xA.istore_n (i := 2) (L' := [_, _, _, _, _]) rfl rfl (Nat.le_of_ble_eq_true rfl) rfl rfl ?_
            refine xA.iinc (L' := [_, _, _, _, _]) rfl rfl (nI_1 i) rfl rfl ?_
            refine xA.goto (q := 4) rfl rfl ?_
            have ih := ih (some (.int (xmin (S (k + 1) i))))
            simp only [fwS, decide_eq_true_eq] at ih
            first | (rw [if_pos (by first | exact ⟨Or.inl h24, nI_posi h42⟩ | exact ⟨Or.inr (Int32.not_le.mp h30), nI_posi h42⟩)] at ih; exact ih) | (rw [if_neg (by rintro ⟨h, hh⟩; first | exact absurd h42 (nI_nle hh (by omega)) | (rcases h with h | h; exact h24 h; exact absurd h30 (Int32.not_le.mpr h)))] at ih; exact ih)
        · refine xA.iload rfl rfl rfl ?_
          refine xA.iload_n (i := 2) rfl rfl rfl rfl ?_
          refine xA.icmp_ge (tgt := 48) rfl rfl rfl (fun h30 => ?_) (fun h30 => ?_)
          · refine xA.iinc (L' := [_, _, _, _, _]) rfl rfl (nI_1 i) rfl rfl ?_
            refine xA.goto (q := 4) rfl rfl ?_
            have ih := ih (some (.int (xmin (S (k + 1) i))))
            simp only [fwS, decide_eq_true_eq] at ih
            first | (rw [if_pos (by first | exact ⟨Or.inl h24, nI_posi h42⟩ | exact ⟨Or.inr (Int32.not_le.mp h30), nI_posi h42⟩)] at ih; exact ih) | (rw [if_neg (by rintro ⟨h, hh⟩; first | exact absurd h42 (nI_nle hh (by omega)) | (rcases h with h | h; exact h24 h; exact absurd h30 (Int32.not_le.mpr h)))] at ih; exact ih)
          · refine xA.aload_n (i := 1) rfl rfl rfl rfl ?_
            refine xA.aload_n (i := 0) rfl rfl rfl rfl ?_
            refine xA.iload_n (i := 3) rfl rfl rfl rfl ?_
            refine xA.callVi (As := [_]) rfl k3_82 okX3_spotAt hk.1 rfl rfl rfl (Nat.le_of_ble_eq_true rfl) (c_X3_spotAt (d + 1) S G k hk n i hn hi h17) rfl rfl ?_
            refine xA.callVi (As := [_]) rfl k3_91 okX3_selvesAt hk2.1 rfl rfl rfl (Nat.le_of_ble_eq_true rfl) (c_X3_selvesAt d S G k2 hk2 n2 hn2 h172 _) rfl rfl ?_
            have hb2 := cn_le (fun q => decide (S (k2 + 1) q = S (k + 1) i)) n2
            refine xA.if_le (tgt := 48) rfl rfl rfl (fun h42 => ?_) (fun h42 => ?_)
            · refine xA.iinc (L' := [_, _, _, _, _]) rfl rfl (nI_1 i) rfl rfl ?_
              refine xA.goto (q := 4) rfl rfl ?_
              have ih := ih (some (.int (xmin (S (k + 1) i))))
              simp only [fwS, decide_eq_true_eq] at ih
              first | (rw [if_pos (by first | exact ⟨Or.inl h24, nI_posi h42⟩ | exact ⟨Or.inr (Int32.not_le.mp h30), nI_posi h42⟩)] at ih; exact ih) | (rw [if_neg (by rintro ⟨h, hh⟩; first | exact absurd h42 (nI_nle hh (by omega)) | (rcases h with h | h; exact h24 h; exact absurd h30 (Int32.not_le.mpr h)))] at ih; exact ih)
            · refine xA.iload rfl rfl rfl ?_
              refine xA.istore_n (i := 2) (L' := [_, _, _, _, _]) rfl rfl (Nat.le_of_ble_eq_true rfl) rfl rfl ?_
              refine xA.iinc (L' := [_, _, _, _, _]) rfl rfl (nI_1 i) rfl rfl ?_
              refine xA.goto (q := 4) rfl rfl ?_
              have ih := ih (some (.int (xmin (S (k + 1) i))))
              simp only [fwS, decide_eq_true_eq] at ih
              first | (rw [if_pos (by first | exact ⟨Or.inl h24, nI_posi h42⟩ | exact ⟨Or.inr (Int32.not_le.mp h30), nI_posi h42⟩)] at ih; exact ih) | (rw [if_neg (by rintro ⟨h, hh⟩; first | exact absurd h42 (nI_nle hh (by omega)) | (rcases h with h | h; exact h24 h; exact absurd h30 (Int32.not_le.mpr h)))] at ih; exact ih)
    · skip
      intro x4
      refine xA.iload_n (i := 3) rfl rfl rfl rfl ?_
      refine xA.aload_n (i := 0) rfl rfl rfl rfl ?_
      refine xA.getI rfl f3_79 hk.1 rfl rfl ?_
      refine xA.topi (hn) ?_
      refine xA.icmp_ge (tgt := 54) rfl rfl rfl (fun h9 => ?_) (fun h9 => ?_)
      · refine xA.iload_n (i := 2) rfl rfl rfl rfl ?_
        exact xA.iret rfl rfl rfl ⟨rfl, rfl⟩
      · exact absurd (nI_le (Nat.le_refl _) (by omega)) h9
  refine xA.iconst (v := (-1)) rfl (by decide) rfl ?_
  refine xA.istore_n (i := 2) (L' := [_, _, _, _, _]) rfl rfl (Nat.le_of_ble_eq_true rfl) rfl rfl ?_
  refine xA.iconst (v := 0) rfl (by decide) rfl ?_
  refine xA.istore_n (i := 3) (L' := [_, _, _, _, _]) rfl rfl (Nat.le_of_ble_eq_true rfl) rfl rfl ?_
  exact loop 0 (Nat.zero_le _) _
set_option maxRecDepth 100000 in
set_option maxHeartbeats 400000 in
theorem c_X3_add (d : Nat) (S : Nat → Nat → Int32) (G : Nat → Nat → Int64) (k : Nat) (hk : isLife τ k) (n : Nat) (hn : S k 1 = nI n) (h17 : n < 17) (x : Int32) : xR τ d mX3_add [.ref k, .int x] S G none (xu (xu S (k + 1) n x) k 1 (nI (n + 1))) G := by
  refine xC.of okX3_add (Nat.le_of_ble_eq_true rfl) (L := [_, _]) rfl ?_
  refine xA.aload_n (i := 0) rfl rfl rfl rfl ?_
  refine xA.getI rfl f3_79 hk.1 rfl rfl ?_
  refine xA.topi (hn) ?_
  refine xA.if_lt (tgt := 39) rfl rfl rfl (fun h4 => ?_) (fun h4 => ?_)
  · exact absurd h4 (nI_pos (by omega))
  · refine xA.aload_n (i := 0) rfl rfl rfl rfl ?_
    refine xA.getI rfl f3_79 hk.1 rfl rfl ?_
    refine xA.topi (hn) ?_
    refine xA.aload_n (i := 0) rfl rfl rfl rfl ?_
    refine xA.getR rfl f3_11 hk.1 rfl rfl rfl ?_
    refine xA.alen rfl hk.2 rfl ?_
    refine xA.icmp_ge (tgt := 39) rfl rfl rfl (fun h16 => ?_) (fun h16 => ?_)
    · exact absurd h16 (nI_ge h17 (by omega))
    · refine xA.aload_n (i := 0) rfl rfl rfl rfl ?_
      refine xA.getR rfl f3_11 hk.1 rfl rfl rfl ?_
      refine xA.aload_n (i := 0) rfl rfl rfl rfl ?_
      refine xA.getI rfl f3_79 hk.1 rfl rfl ?_
      refine xA.topi (hn) ?_
      refine xA.iload_n (i := 1) rfl rfl rfl rfl ?_
      refine xA.iast rfl hk.2 (vp_in_nI (by omega) (by omega)) rfl ?_
      rw [nI_clamp (by omega)]
      refine xA.aload_n (i := 0) rfl rfl rfl rfl ?_
      refine xA.dup rfl rfl rfl ?_
      refine xA.getI rfl f3_79 hk.1 rfl rfl ?_
      refine xA.topi ((xu_ne1 (by omega)).trans hn) ?_
      refine xA.iconst (v := 1) rfl (by decide) rfl ?_
      refine xA.iadd rfl rfl ?_
      refine xA.topi (nI_1 n) ?_
      refine xA.putI rfl p3_79 hk.1 rfl rfl ?_
      exact xA.vret rfl rfl ⟨rfl, rfl⟩

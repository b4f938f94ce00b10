variable {τ : List xSh}
/-! ===== tasks, glimpses, copies ===== -/
/-- stores behind copies: of a life, tasks, glimpses (k from k2, n places) -/
def lcS (S : Nat → Nat → Int32) (k k2 n : Nat) : Nat → Nat → Int32 := fun j i =>
  if j = k then (if i = 1 then nI n else if i = 2 then 0 else if i = 3 then 0 else S k i)
  else if j = k + 1 then (if i < n then S (k2 + 1) i else S (k + 1) i) else S j i
def lcE (S : Nat → Nat → Int32) (k k2 n : Nat) : Nat → Nat → Int32 := fun j i =>
  if j = k then (if i = 1 then nI n else if i = 2 then S k2 2 else if i = 3 then S k2 3 else S k i)
  else if j = k + 1 then (if i < n then S (k2 + 1) i else S (k + 1) i) else S j i
def tcS (S : Nat → Nat → Int32) (k k2 n : Nat) : Nat → Nat → Int32 := fun j i =>
  if j = k then (if i = 3 then nI n else S k i)
  else if j = k + 1 then (if i < n then S (k2 + 1) i else S (k + 1) i)
  else if j = k + 2 then (if i < n then S (k2 + 2) i else S (k + 2) i)
  else if j = k + 3 then (if i < n then S (k2 + 3) i else S (k + 3) i) else S j i
def gcS (S : Nat → Nat → Int32) (k k2 n : Nat) : Nat → Nat → Int32 := fun j i =>
  if j = k then (if i = 1 then nI n else S k i)
  else if j = k + 1 then (if i < n then S (k2 + 1) i else S (k + 1) i) else S j i
/-- whether a task is done in this minute, this room -/
abbrev tkD (S : Nat → Nat → Int32) (k : Nat) (m r : Int32) (i : Nat) : Prop := S (k + 1) i = r ∧ S (k + 2) i ≤ m ∧ m ≤ S (k + 3) i
def tkB (S : Nat → Nat → Int32) (k : Nat) (x : Int32) (i : Nat) : Int32 := if tkD S k (xmin x) (xroom x) i then 1 <<< (nI i &&& 31) else 0

set_option maxRecDepth 100000 in
set_option maxHeartbeats 400000 in
theorem c_X7_add (d : Nat) (S : Nat → Nat → Int32) (G : Nat → Nat → Int64) (k : Nat) (hk : isTasks τ k) (n : Nat) (hn : S k 3 = nI n) (h5 : n < 5) (x y z : Int32) : xR τ d mX7_add [.ref k, .int x, .int y, .int z] S G (some (.int (nI n))) (xu (xu (xu (xu S (k + 1) n x) (k + 2) n y) (k + 3) n z) k 3 (nI (n + 1))) G := by
  refine xC.of okX7_add (Nat.le_of_ble_eq_true rfl) (L := [_, _, _, _, _]) rfl ?_
  refine xA.aload_n (i := 0) rfl rfl rfl rfl ?_
  refine xA.getI rfl f7_21 hk.1 rfl rfl ?_
  refine xA.topi (hn) ?_
  refine xA.istore (L' := [_, _, _, _, _]) rfl (Nat.le_of_ble_eq_true rfl) rfl rfl ?_
  refine xA.iload rfl rfl rfl ?_
  refine xA.if_lt (tgt := 17) rfl rfl rfl (fun h8 => ?_) (fun h8 => ?_)
  · exact absurd h8 (nI_pos (by omega))
  · refine xA.iload rfl rfl rfl ?_
    refine xA.iconst (v := 5) rfl (by decide) rfl ?_
    refine xA.icmp_lt (tgt := 20) rfl rfl rfl (fun h14 => ?_) (fun h14 => ?_)
    · refine xA.aload_n (i := 0) rfl rfl rfl rfl ?_
      refine xA.getR rfl f7_9 hk.1 rfl rfl rfl ?_
      refine xA.iload rfl rfl rfl ?_
      refine xA.iload_n (i := 1) rfl rfl rfl rfl ?_
      refine xA.iast rfl hk.2.1 (vp_in_nI (by omega) (by omega)) rfl ?_
      rw [nI_clamp (by omega)]
      refine xA.aload_n (i := 0) rfl rfl rfl rfl ?_
      refine xA.getR rfl f7_15 hk.1 rfl rfl rfl ?_
      refine xA.iload rfl rfl rfl ?_
      refine xA.iload_n (i := 2) rfl rfl rfl rfl ?_
      refine xA.iast rfl hk.2.2.1 (vp_in_nI (by omega) (by omega)) rfl ?_
      rw [nI_clamp (by omega)]
      refine xA.aload_n (i := 0) rfl rfl rfl rfl ?_
      refine xA.getR rfl f7_18 hk.1 rfl rfl rfl ?_
      refine xA.iload rfl rfl rfl ?_
      refine xA.iload_n (i := 3) rfl rfl rfl rfl ?_
      refine xA.iast rfl hk.2.2.2 (vp_in_nI (by omega) (by omega)) rfl ?_
      rw [nI_clamp (by omega)]
      refine xA.aload_n (i := 0) rfl rfl rfl rfl ?_
      refine xA.dup rfl rfl rfl ?_
      refine xA.getI rfl f7_21 hk.1 rfl rfl ?_
      refine xA.topi ((by simp [xu]; exact hn : _ = nI n)) ?_
      refine xA.iconst (v := 1) rfl (by decide) rfl ?_
      refine xA.iadd rfl rfl ?_
      refine xA.topi (nI_1 n) ?_
      refine xA.putI rfl p7_21 hk.1 rfl rfl ?_
      refine xA.iload rfl rfl rfl ?_
      exact xA.iret rfl rfl rfl ⟨rfl, rfl⟩
    · exact absurd (nI_lt h5 (by omega)) h14
set_option maxRecDepth 100000 in
set_option maxHeartbeats 400000 in
theorem c_X7_addF (d : Nat) (S : Nat → Nat → Int32) (G : Nat → Nat → Int64) (k : Nat) (hk : isTasks τ k) (hn : S k 3 = nI 5) (x y z : Int32) : xR τ d mX7_add [.ref k, .int x, .int y, .int z] S G (some (.int (-104))) S G := by
  refine xC.of okX7_add (Nat.le_of_ble_eq_true rfl) (L := [_, _, _, _, _]) rfl ?_
  refine xA.aload_n (i := 0) rfl rfl rfl rfl ?_
  refine xA.getI rfl f7_21 hk.1 rfl rfl ?_
  refine xA.topi (hn) ?_
  refine xA.istore (L' := [_, _, _, _, _]) rfl (Nat.le_of_ble_eq_true rfl) rfl rfl ?_
  refine xA.iload rfl rfl rfl ?_
  refine xA.if_lt (tgt := 17) rfl rfl rfl (fun h8 => ?_) (fun h8 => ?_)
  · exact absurd h8 (by decide)
  · refine xA.iload rfl rfl rfl ?_
    refine xA.iconst (v := 5) rfl (by decide) rfl ?_
    refine xA.icmp_lt (tgt := 20) rfl rfl rfl (fun h14 => ?_) (fun h14 => ?_)
    · exact absurd h14 (by decide)
    · refine xA.bipush (v := (-104)) rfl (by decide) rfl ?_
      exact xA.iret rfl rfl rfl ⟨rfl, rfl⟩
set_option maxRecDepth 100000 in
set_option maxHeartbeats 400000 in
theorem c_X0_add (d : Nat) (S : Nat → Nat → Int32) (G : Nat → Nat → Int64) (k : Nat) (hk : isGlim τ k) (n : Nat) (hn : S k 1 = nI n) (h8 : n < 8) (x : Int32) : xR τ d mX0_add [.ref k, .int x] S G (some (.int (nI (n + 1)))) (xu (xu S (k + 1) n x) k 1 (nI (n + 1))) G := by
  refine xC.of okX0_add (Nat.le_of_ble_eq_true rfl) (L := [_, _]) rfl ?_
  refine xA.aload_n (i := 0) rfl rfl rfl rfl ?_
  refine xA.getI rfl f0_15 hk.1 rfl rfl ?_
  refine xA.topi (hn) ?_
  refine xA.if_lt (tgt := 19) rfl rfl rfl (fun h4 => ?_) (fun h4 => ?_)
  · exact absurd h4 (nI_pos (by omega))
  · refine xA.aload_n (i := 0) rfl rfl rfl rfl ?_
    refine xA.getI rfl f0_15 hk.1 rfl rfl ?_
    refine xA.topi (hn) ?_
    refine xA.aload_n (i := 0) rfl rfl rfl rfl ?_
    refine xA.getR rfl f0_9 hk.1 rfl rfl rfl ?_
    refine xA.alen rfl hk.2 rfl ?_
    refine xA.icmp_lt (tgt := 22) rfl rfl rfl (fun h16 => ?_) (fun h16 => ?_)
    · refine xA.aload_n (i := 0) rfl rfl rfl rfl ?_
      refine xA.getR rfl f0_9 hk.1 rfl rfl rfl ?_
      refine xA.aload_n (i := 0) rfl rfl rfl rfl ?_
      refine xA.getI rfl f0_15 hk.1 rfl rfl ?_
      refine xA.topi (hn) ?_
      refine xA.iload_n (i := 1) rfl rfl rfl rfl ?_
      refine xA.iast rfl hk.2 (vp_in_nI (by omega) (by omega)) rfl ?_
      rw [nI_clamp (by omega)]
      refine xA.aload_n (i := 0) rfl rfl rfl rfl ?_
      refine xA.dup rfl rfl rfl ?_
      refine xA.getI rfl f0_15 hk.1 rfl rfl ?_
      refine xA.topi ((xu_ne1 (by omega)).trans hn) ?_
      refine xA.iconst (v := 1) rfl (by decide) rfl ?_
      refine xA.iadd rfl rfl ?_
      refine xA.topi (nI_1 n) ?_
      refine xA.putI rfl p0_15 hk.1 rfl rfl ?_
      refine xA.aload_n (i := 0) rfl rfl rfl rfl ?_
      refine xA.getI rfl f0_15 hk.1 rfl rfl ?_
      refine xA.topi (xu_same) ?_
      exact xA.iret rfl rfl rfl ⟨rfl, rfl⟩
    · exact absurd (nI_lt h8 (by omega)) h16
set_option maxRecDepth 100000 in
set_option maxHeartbeats 400000 in
theorem c_X0_addF (d : Nat) (S : Nat → Nat → Int32) (G : Nat → Nat → Int64) (k : Nat) (hk : isGlim τ k) (hn : S k 1 = nI 8) (x : Int32) : xR τ d mX0_add [.ref k, .int x] S G (some (.int (-104))) S G := by
  refine xC.of okX0_add (Nat.le_of_ble_eq_true rfl) (L := [_, _]) rfl ?_
  refine xA.aload_n (i := 0) rfl rfl rfl rfl ?_
  refine xA.getI rfl f0_15 hk.1 rfl rfl ?_
  refine xA.topi (hn) ?_
  refine xA.if_lt (tgt := 19) rfl rfl rfl (fun h4 => ?_) (fun h4 => ?_)
  · exact absurd h4 (by decide)
  · refine xA.aload_n (i := 0) rfl rfl rfl rfl ?_
    refine xA.getI rfl f0_15 hk.1 rfl rfl ?_
    refine xA.topi (hn) ?_
    refine xA.aload_n (i := 0) rfl rfl rfl rfl ?_
    refine xA.getR rfl f0_9 hk.1 rfl rfl rfl ?_
    refine xA.alen rfl hk.2 rfl ?_
    refine xA.icmp_lt (tgt := 22) rfl rfl rfl (fun h16 => ?_) (fun h16 => ?_)
    · exact absurd h16 (by decide)
    · refine xA.bipush (v := (-104)) rfl (by decide) rfl ?_
      exact xA.iret rfl rfl rfl ⟨rfl, rfl⟩
set_option maxRecDepth 100000 in
set_option maxHeartbeats 400000 in
theorem c_X3_copyFrom (d : Nat) (S : Nat → Nat → Int32) (G : Nat → Nat → Int64) (k : Nat) (hk : isLife τ k) (k2 : Nat) (hk2 : isLife τ k2) (hx : k + 2 ≤ k2 ∨ k2 + 2 ≤ k) (n : Nat) (hn : S k2 1 = nI n) (h17 : n ≤ 17) : xR τ (d + 1) mX3_copyFrom [.ref k, .ref k2] S G none (lcE S k k2 n) G := by
  refine xC.of okX3_copyFrom (Nat.le_of_ble_eq_true rfl) (L := [_, _, _]) rfl ?_
  have loop : ∀ i, i ≤ n → xA none (d + 1) mX3_copyFrom 0 0 0 0 6 [some (.ref k), some (.ref k2), some (.int (nI i))] [] ((σF τ), (lcS S k k2 i), G) (fun r' h' => r' = none ∧ h' = ((σF τ), (lcE S k k2 n), G)) := by
    refine xloop n (fun i hi ih => ?_) ?_
    · skip
      refine xA.iload_n (i := 2) rfl rfl rfl rfl ?_
      refine xA.aload_n (i := 1) rfl rfl rfl rfl ?_
      refine xA.getI rfl f3_79 hk2.1 rfl rfl ?_
      refine xA.topi ((by simp only [lcS]; rw [if_neg (by omega), if_neg (by omega)]; exact hn : _ = nI n)) ?_
      refine xA.icmp_ge (tgt := 29) rfl rfl rfl (fun h11 => ?_) (fun h11 => ?_)
      · exact absurd h11 (nI_ge hi (by omega))
      · refine xA.aload_n (i := 0) rfl rfl rfl rfl ?_
        refine xA.aload_n (i := 1) rfl rfl rfl rfl ?_
        refine xA.iload_n (i := 2) rfl rfl rfl rfl ?_
        refine xA.callVi (As := [_]) rfl k3_82 okX3_spotAt hk2.1 rfl rfl rfl (Nat.le_of_ble_eq_true rfl) (c_X3_spotAt d (lcS S k k2 i) G k2 hk2 n i (by simp only [lcS]; rw [if_neg (by omega), if_neg (by omega)]; exact hn) hi h17) rfl rfl ?_
        refine xA.topi (show _ = S (k2 + 1) i from by simp only [lcS]; rw [if_neg (by omega), if_neg (by omega)]) ?_
        refine xA.callVv (As := [_]) rfl k3_50 okX3_add hk.1 rfl rfl rfl (Nat.le_of_ble_eq_true rfl) (c_X3_add d (lcS S k k2 i) G k hk i (by simp [lcS]) (by omega) (S (k2 + 1) i)) rfl rfl ?_
        refine xA.store (S' := lcS S k k2 (i + 1)) (by funext j i; simp only [lcS, xu]; repeat (first | split | (exfalso; omega) | omega | rfl | simp_all)) ?_
        refine xA.iinc (L' := [_, _, _]) rfl rfl (nI_1 i) rfl rfl ?_
        refine xA.goto (q := 6) rfl rfl ?_
        exact ih
    · skip
      refine xA.iload_n (i := 2) rfl rfl rfl rfl ?_
      refine xA.aload_n (i := 1) rfl rfl rfl rfl ?_
      refine xA.getI rfl f3_79 hk2.1 rfl rfl ?_
      refine xA.topi ((by simp only [lcS]; rw [if_neg (by omega), if_neg (by omega)]; exact hn : _ = nI n)) ?_
      refine xA.icmp_ge (tgt := 29) rfl rfl rfl (fun h11 => ?_) (fun h11 => ?_)
      · refine xA.aload_n (i := 0) rfl rfl rfl rfl ?_
        refine xA.aload_n (i := 1) rfl rfl rfl rfl ?_
        refine xA.getI rfl f3_66 hk2.1 rfl rfl ?_
        refine xA.topi ((show _ = S k2 2 from by simp only [lcS]; rw [if_neg (by omega), if_neg (by omega)])) ?_
        refine xA.putI rfl p3_66 hk.1 rfl rfl ?_
        refine xA.aload_n (i := 0) rfl rfl rfl rfl ?_
        refine xA.aload_n (i := 1) rfl rfl rfl rfl ?_
        refine xA.getI rfl f3_70 hk2.1 rfl rfl ?_
        refine xA.topi ((show _ = S k2 3 from by simp only [lcS, xu]; rw [if_neg (by omega), if_neg (by omega), if_neg (by omega)])) ?_
        refine xA.putI rfl p3_70 hk.1 rfl rfl ?_
        refine xA.store (S' := lcE S k k2 n) (by funext j i; simp only [lcS, lcE, xu]; repeat (first | split | (exfalso; omega) | omega | rfl | simp_all)) ?_
        exact xA.vret rfl rfl ⟨rfl, rfl⟩
      · exact absurd (nI_le (Nat.le_refl _) (by omega)) h11
  refine xA.aload_n (i := 0) rfl rfl rfl rfl ?_
  refine xA.callVv (As := []) rfl k3_39 okX3_clear hk.1 rfl rfl rfl (Nat.le_of_ble_eq_true rfl) (c_X3_clear d _ G k hk) rfl rfl ?_
  refine xA.store (S' := lcS S k k2 0) (by funext j i; simp only [lcS, xu]; repeat (first | split | (exfalso; omega) | omega | rfl | simp_all)) ?_
  refine xA.iconst (v := 0) rfl (by decide) rfl ?_
  refine xA.istore_n (i := 2) (L' := [_, _, _]) rfl rfl (Nat.le_of_ble_eq_true rfl) rfl rfl ?_
  exact loop 0 (Nat.zero_le _)
set_option maxRecDepth 100000 in
set_option maxHeartbeats 400000 in
theorem c_X7_doneAt (d : Nat) (S : Nat → Nat → Int32) (G : Nat → Nat → Int64) (k : Nat) (hk : isTasks τ k) (n : Nat) (hn : S k 3 = nI n) (h5 : n ≤ 5) (x : Int32) : xR τ (d + 1) mX7_doneAt [.ref k, .int x] S G (some (.int (orI (tkB S k x) n))) S G := by
  refine xC.of okX7_doneAt (Nat.le_of_ble_eq_true rfl) (L := [_, _, _, _, _, _]) rfl ?_
  have loop : ∀ i, i ≤ n → xA none (d + 1) mX7_doneAt 0 0 0 0 16 [some (.ref k), some (.int x), some (.int (xmin x)), some (.int (xroom x)), some (.int (orI (tkB S k x) i)), some (.int (nI i))] [] ((σF τ), S, G) (fun r' h' => r' = (some (.int (orI (tkB S k x) n))) ∧ h' = ((σF τ), S, G)) := by
    refine xloop n (fun i hi ih => ?_) ?_
    · skip
      refine xA.iload rfl rfl rfl ?_
      refine xA.aload_n (i := 0) rfl rfl rfl rfl ?_
      refine xA.getI rfl f7_21 hk.1 rfl rfl ?_
      refine xA.topi (hn) ?_
      refine xA.icmp_ge (tgt := 79) rfl rfl rfl (fun h22 => ?_) (fun h22 => ?_)
      · exact absurd h22 (nI_ge hi (by omega))
      · refine xA.iload rfl rfl rfl ?_
        refine xA.iconst (v := 5) rfl (by decide) rfl ?_
        refine xA.icmp_ge (tgt := 79) rfl rfl rfl (fun h28 => ?_) (fun h28 => ?_)
        · exact absurd h28 (nI_ge (b := 5) (by omega) (by omega))
        · refine xA.aload_n (i := 0) rfl rfl rfl rfl ?_
          refine xA.getR rfl f7_9 hk.1 rfl rfl rfl ?_
          refine xA.iload rfl rfl rfl ?_
          refine xA.iald rfl hk.2.1 (vp_in_nI (by omega) (by omega)) rfl ?_
          refine xA.topi (congrArg (S (k + 1)) (nI_clamp (by omega))) ?_
          refine xA.iload_n (i := 3) rfl rfl rfl rfl ?_
          refine xA.icmp_ne (tgt := 73) rfl rfl rfl (fun h39 => ?_) (fun h39 => ?_)
          · refine xA.iinc (L' := [_, _, _, _, _, _]) rfl rfl (nI_1 i) rfl rfl ?_
            refine xA.goto (q := 16) rfl rfl ?_
            simp only [orI] at ih
            first | (rw [tkB, if_neg (by rintro ⟨a1, a2, a3⟩; first | exact h39 a1 | exact absurd h50 (Int32.not_lt.mpr a2) | exact absurd h61 (Int32.not_lt.mpr a3)), Int32.or_zero] at ih; exact ih) | (rw [tkB, if_pos ⟨h39, Int32.not_lt.mp h50, Int32.not_lt.mp h61⟩] at ih; exact ih)
          · refine xA.aload_n (i := 0) rfl rfl rfl rfl ?_
            refine xA.getR rfl f7_15 hk.1 rfl rfl rfl ?_
            refine xA.iload rfl rfl rfl ?_
            refine xA.iald rfl hk.2.2.1 (vp_in_nI (by omega) (by omega)) rfl ?_
            refine xA.topi (congrArg (S (k + 2)) (nI_clamp (by omega))) ?_
            refine xA.iload_n (i := 2) rfl rfl rfl rfl ?_
            refine xA.icmp_gt (tgt := 73) rfl rfl rfl (fun h50 => ?_) (fun h50 => ?_)
            · refine xA.iinc (L' := [_, _, _, _, _, _]) rfl rfl (nI_1 i) rfl rfl ?_
              refine xA.goto (q := 16) rfl rfl ?_
              simp only [orI] at ih
              first | (rw [tkB, if_neg (by rintro ⟨a1, a2, a3⟩; first | exact h39 a1 | exact absurd h50 (Int32.not_lt.mpr a2) | exact absurd h61 (Int32.not_lt.mpr a3)), Int32.or_zero] at ih; exact ih) | (rw [tkB, if_pos ⟨h39, Int32.not_lt.mp h50, Int32.not_lt.mp h61⟩] at ih; exact ih)
            · refine xA.iload_n (i := 2) rfl rfl rfl rfl ?_
              refine xA.aload_n (i := 0) rfl rfl rfl rfl ?_
              refine xA.getR rfl f7_18 hk.1 rfl rfl rfl ?_
              refine xA.iload rfl rfl rfl ?_
              refine xA.iald rfl hk.2.2.2 (vp_in_nI (by omega) (by omega)) rfl ?_
              refine xA.topi (congrArg (S (k + 3)) (nI_clamp (by omega))) ?_
              refine xA.icmp_gt (tgt := 73) rfl rfl rfl (fun h61 => ?_) (fun h61 => ?_)
              · refine xA.iinc (L' := [_, _, _, _, _, _]) rfl rfl (nI_1 i) rfl rfl ?_
                refine xA.goto (q := 16) rfl rfl ?_
                simp only [orI] at ih
                first | (rw [tkB, if_neg (by rintro ⟨a1, a2, a3⟩; first | exact h39 a1 | exact absurd h50 (Int32.not_lt.mpr a2) | exact absurd h61 (Int32.not_lt.mpr a3)), Int32.or_zero] at ih; exact ih) | (rw [tkB, if_pos ⟨h39, Int32.not_lt.mp h50, Int32.not_lt.mp h61⟩] at ih; exact ih)
              · refine xA.iload rfl rfl rfl ?_
                refine xA.iconst (v := 1) rfl (by decide) rfl ?_
                refine xA.iload rfl rfl rfl ?_
                refine xA.ishl rfl rfl ?_
                refine xA.ior rfl rfl ?_
                refine xA.istore (L' := [_, _, _, _, _, _]) rfl (Nat.le_of_ble_eq_true rfl) rfl rfl ?_
                refine xA.iinc (L' := [_, _, _, _, _, _]) rfl rfl (nI_1 i) rfl rfl ?_
                refine xA.goto (q := 16) rfl rfl ?_
                simp only [orI] at ih
                first | (rw [tkB, if_neg (by rintro ⟨a1, a2, a3⟩; first | exact h39 a1 | exact absurd h50 (Int32.not_lt.mpr a2) | exact absurd h61 (Int32.not_lt.mpr a3)), Int32.or_zero] at ih; exact ih) | (rw [tkB, if_pos ⟨h39, Int32.not_lt.mp h50, Int32.not_lt.mp h61⟩] at ih; exact ih)
    · skip
      refine xA.iload rfl rfl rfl ?_
      refine xA.aload_n (i := 0) rfl rfl rfl rfl ?_
      refine xA.getI rfl f7_21 hk.1 rfl rfl ?_
      refine xA.topi (hn) ?_
      refine xA.icmp_ge (tgt := 79) rfl rfl rfl (fun h22 => ?_) (fun h22 => ?_)
      · refine xA.iload rfl rfl rfl ?_
        exact xA.iret rfl rfl rfl ⟨rfl, rfl⟩
      · exact absurd (nI_le (Nat.le_refl _) (by omega)) h22
  refine xA.iload_n (i := 1) rfl rfl rfl rfl ?_
  refine xA.callSNi (As := [_]) rfl k7_32 okX9_minuteOf rfl rfl (Nat.le_of_ble_eq_true rfl) (c_X9_minuteOf d S G _) rfl rfl ?_
  refine xA.istore_n (i := 2) (L' := [_, _, _, _, _, _]) rfl rfl (Nat.le_of_ble_eq_true rfl) rfl rfl ?_
  refine xA.iload_n (i := 1) rfl rfl rfl rfl ?_
  refine xA.callSNi (As := [_]) rfl k7_36 okX9_roomOf rfl rfl (Nat.le_of_ble_eq_true rfl) (c_X9_roomOf d S G _) rfl rfl ?_
  refine xA.istore_n (i := 3) (L' := [_, _, _, _, _, _]) rfl rfl (Nat.le_of_ble_eq_true rfl) rfl rfl ?_
  refine xA.iconst (v := 0) rfl (by decide) rfl ?_
  refine xA.istore (L' := [_, _, _, _, _, _]) rfl (Nat.le_of_ble_eq_true rfl) rfl rfl ?_
  refine xA.iconst (v := 0) rfl (by decide) rfl ?_
  refine xA.istore (L' := [_, _, _, _, _, _]) rfl (Nat.le_of_ble_eq_true rfl) rfl rfl ?_
  exact loop 0 (Nat.zero_le _)
set_option maxRecDepth 100000 in
set_option maxHeartbeats 400000 in
theorem c_X7_doneBy (d : Nat) (S : Nat → Nat → Int32) (G : Nat → Nat → Int64) (k : Nat) (hk : isTasks τ k) (nt : Nat) (hnt : S k 3 = nI nt) (h5 : nt ≤ 5) (l : Nat) (hl : isLife τ l) (n : Nat) (hn : S l 1 = nI n) (h17 : n ≤ 17) : xR τ (d + 2) mX7_doneBy [.ref k, .ref l] S G (some (.int (orI (fun j => orI (tkB S k (S (l + 1) j)) nt) n))) S G := by
  refine xC.of okX7_doneBy (Nat.le_of_ble_eq_true rfl) (L := [_, _, _, _]) rfl ?_
  have loop : ∀ i, i ≤ n → xA none (d + 2) mX7_doneBy 0 0 0 0 4 [some (.ref k), some (.ref l), some (.int (orI (fun j => orI (tkB S k (S (l + 1) j)) nt) i)), some (.int (nI i))] [] ((σF τ), S, G) (fun r' h' => r' = (some (.int (orI (fun j => orI (tkB S k (S (l + 1) j)) nt) n))) ∧ h' = ((σF τ), S, G)) := by
    refine xloop n (fun i hi ih => ?_) ?_
    · skip
      refine xA.iload_n (i := 3) rfl rfl rfl rfl ?_
      refine xA.aload_n (i := 1) rfl rfl rfl rfl ?_
      refine xA.callVi (As := []) rfl k7_39 okX3_selves hl.1 rfl rfl rfl (Nat.le_of_ble_eq_true rfl) (c_X3_selves (d + 1) S G l hl) rfl rfl ?_
      refine xA.topi hn ?_
      refine xA.icmp_ge (tgt := 30) rfl rfl rfl (fun h9 => ?_) (fun h9 => ?_)
      · exact absurd h9 (nI_ge hi (by omega))
      · refine xA.iload_n (i := 2) rfl rfl rfl rfl ?_
        refine xA.aload_n (i := 0) rfl rfl rfl rfl ?_
        refine xA.aload_n (i := 1) rfl rfl rfl rfl ?_
        refine xA.iload_n (i := 3) rfl rfl rfl rfl ?_
        refine xA.callVi (As := [_]) rfl k7_45 okX3_spotAt hl.1 rfl rfl rfl (Nat.le_of_ble_eq_true rfl) (c_X3_spotAt (d + 1) S G l hl n i hn hi h17) rfl rfl ?_
        refine xA.callVi (As := [_]) rfl k7_48 okX7_doneAt hk.1 rfl rfl rfl (Nat.le_of_ble_eq_true rfl) (c_X7_doneAt d S G k hk nt hnt h5 _) rfl rfl ?_
        refine xA.ior rfl rfl ?_
        refine xA.istore_n (i := 2) (L' := [_, _, _, _]) rfl rfl (Nat.le_of_ble_eq_true rfl) rfl rfl ?_
        refine xA.iinc (L' := [_, _, _, _]) rfl rfl (nI_1 i) rfl rfl ?_
        refine xA.goto (q := 4) rfl rfl ?_
        exact ih
    · skip
      refine xA.iload_n (i := 3) rfl rfl rfl rfl ?_
      refine xA.aload_n (i := 1) rfl rfl rfl rfl ?_
      refine xA.callVi (As := []) rfl k7_39 okX3_selves hl.1 rfl rfl rfl (Nat.le_of_ble_eq_true rfl) (c_X3_selves (d + 1) S G l hl) rfl rfl ?_
      refine xA.topi hn ?_
      refine xA.icmp_ge (tgt := 30) rfl rfl rfl (fun h9 => ?_) (fun h9 => ?_)
      · refine xA.iload_n (i := 2) rfl rfl rfl rfl ?_
        exact xA.iret rfl rfl rfl ⟨rfl, rfl⟩
      · exact absurd (nI_le (Nat.le_refl _) (by omega)) h9
  refine xA.iconst (v := 0) rfl (by decide) rfl ?_
  refine xA.istore_n (i := 2) (L' := [_, _, _, _]) rfl rfl (Nat.le_of_ble_eq_true rfl) rfl rfl ?_
  refine xA.iconst (v := 0) rfl (by decide) rfl ?_
  refine xA.istore_n (i := 3) (L' := [_, _, _, _]) rfl rfl (Nat.le_of_ble_eq_true rfl) rfl rfl ?_
  exact loop 0 (Nat.zero_le _)
theorem cn0_f {f : Nat → Bool} {i : Nat} (h : cn f i = 0) (hf : f i = false) : cn f (i + 1) = 0 := by simp [cn, h, hf]
theorem cn_ne0 {f : Nat → Bool} {i n : Nat} (hi : i < n) (hf : f i = true) : ¬ cn f n = 0 := by
  have := cn_pos.mpr ⟨i, hi, hf⟩
  omega
/-- how many selves of a life are at a spot -/
def cnS (S : Nat → Nat → Int32) (l n : Nat) (x : Int32) : Nat := cn (fun j => decide (S (l + 1) j = x)) n
theorem cnS_le (S : Nat → Nat → Int32) (l n : Nat) (x : Int32) : cnS S l n x ≤ n := cn_le _ _

set_option maxRecDepth 100000 in
set_option maxHeartbeats 400000 in
theorem c_X0_areAllOf (d : Nat) (S : Nat → Nat → Int32) (G : Nat → Nat → Int64) (k : Nat) (hk : isGlim τ k) (g : Nat) (hg : S k 1 = nI g) (h8 : g ≤ 8) (l : Nat) (hl : isLife τ l) (n : Nat) (hn : S l 1 = nI n) (h17 : n ≤ 17) : xR τ (d + 2) mX0_areAllOf [.ref k, .ref l] S G (some (.int (xb (cn (fun q => decide (cnS S l n (S (k + 1) q) = 0)) g = 0)))) S G := by
  refine xC.of okX0_areAllOf (Nat.le_of_ble_eq_true rfl) (L := [_, _, _]) rfl ?_
  have loop : ∀ i, i ≤ g → cn (fun q => decide (cnS S l n (S (k + 1) q) = 0)) i = 0 → xA none (d + 2) mX0_areAllOf 0 0 0 0 2 [some (.ref k), some (.ref l), some (.int (nI i))] [] ((σF τ), S, G) (fun r' h' => r' = (some (.int (xb (cn (fun q => decide (cnS S l n (S (k + 1) q) = 0)) g = 0)))) ∧ h' = ((σF τ), S, G)) := by
    refine xloop g (fun i hi ih => ?_) ?_
    · skip
      intro hc
      refine xA.iload_n (i := 2) rfl rfl rfl rfl ?_
      refine xA.aload_n (i := 0) rfl rfl rfl rfl ?_
      refine xA.getI rfl f0_15 hk.1 rfl rfl ?_
      refine xA.topi (hg) ?_
      refine xA.icmp_ge (tgt := 40) rfl rfl rfl (fun h7 => ?_) (fun h7 => ?_)
      · exact absurd h7 (nI_ge hi (by omega))
      · refine xA.iload_n (i := 2) rfl rfl rfl rfl ?_
        refine xA.aload_n (i := 0) rfl rfl rfl rfl ?_
        refine xA.getR rfl f0_9 hk.1 rfl rfl rfl ?_
        refine xA.alen rfl hk.2 rfl ?_
        refine xA.icmp_ge (tgt := 40) rfl rfl rfl (fun h16 => ?_) (fun h16 => ?_)
        · exact absurd h16 (nI_ge (b := 8) (by omega) (by omega))
        · refine xA.aload_n (i := 1) rfl rfl rfl rfl ?_
          refine xA.aload_n (i := 0) rfl rfl rfl rfl ?_
          refine xA.getR rfl f0_9 hk.1 rfl rfl rfl ?_
          refine xA.iload_n (i := 2) rfl rfl rfl rfl ?_
          refine xA.iald rfl hk.2 (vp_in_nI (by omega) (by omega)) rfl ?_
          refine xA.topi (congrArg (S (k + 1)) (nI_clamp (by omega))) ?_
          refine xA.callVi (As := [_]) rfl k0_26 okX3_selvesAt hl.1 rfl rfl rfl (Nat.le_of_ble_eq_true rfl) (c_X3_selvesAt d S G l hl n hn h17 _) rfl rfl ?_
          have hb := cnS_le S l n (S (k + 1) i)
          change xA none _ _ _ _ _ _ _ _ [.int (nI (cnS S l n (S (k + 1) i)))] _ _
          refine xA.if_ne (tgt := 34) rfl rfl rfl (fun h29 => ?_) (fun h29 => ?_)
          · refine xA.iinc (L' := [_, _, _]) rfl rfl (nI_1 i) rfl rfl ?_
            refine xA.goto (q := 2) rfl rfl ?_
            have hf : (fun q => decide (cnS S l n (S (k + 1) q) = 0)) i = false := by
              have : ¬ cnS S l n (S (k + 1) i) = 0 := fun z => h29 (by rw [z]; rfl)
              simpa using this
            exact ih (cn0_f hc hf)
          · refine xA.iconst (v := 0) rfl (by decide) rfl ?_
            have hf : (fun q => decide (cnS S l n (S (k + 1) q) = 0)) i = true := by
              have := (nI_eq (b := 0) (by omega) (by omega)).mp h29
              simpa using this
            exact xA.iret rfl rfl rfl ⟨by rw [xb_f (cn_ne0 hi hf)], rfl⟩
    · skip
      intro hc
      refine xA.iload_n (i := 2) rfl rfl rfl rfl ?_
      refine xA.aload_n (i := 0) rfl rfl rfl rfl ?_
      refine xA.getI rfl f0_15 hk.1 rfl rfl ?_
      refine xA.topi (hg) ?_
      refine xA.icmp_ge (tgt := 40) rfl rfl rfl (fun h7 => ?_) (fun h7 => ?_)
      · refine xA.iconst (v := 1) rfl (by decide) rfl ?_
        exact xA.iret rfl rfl rfl ⟨by rw [xb_t (by omega)], rfl⟩
      · exact absurd (nI_le (Nat.le_refl _) (by omega)) h7
  refine xA.iconst (v := 0) rfl (by decide) rfl ?_
  refine xA.istore_n (i := 2) (L' := [_, _, _]) rfl rfl (Nat.le_of_ble_eq_true rfl) rfl rfl ?_
  exact loop 0 (Nat.zero_le _) rfl
set_option maxRecDepth 100000 in
set_option maxHeartbeats 400000 in
theorem c_X0_waysBetween (d : Nat) (S : Nat → Nat → Int32) (G : Nat → Nat → Int64) (k : Nat) (hk : isGlim τ k) (g : Nat) (hg : S k 1 = nI g) (h8 : g ≤ 8) (l : Nat) (hl : isLife τ l) (n : Nat) (hn : S l 1 = nI n) (h17 : n ≤ 17) (v : Nat) (hv : isLife τ v) (n2 : Nat) (hn2 : S v 1 = nI n2) (h172 : n2 ≤ 17) : xR τ (d + 2) mX0_waysBetween [.ref k, .ref l, .ref v] S G (some (.int (prI (fun q => (if 0 < cnS S l n (S (k + 1) q) then (1 : Int32) else 0) + (if 0 < cnS S v n2 (S (k + 1) q) then 1 else 0)) g))) S G := by
  refine xC.of okX0_waysBetween (Nat.le_of_ble_eq_true rfl) (L := [_, _, _, _, _, _]) rfl ?_
  have loop : ∀ i, i ≤ g → ∀ x5 : Option Value, xA none (d + 2) mX0_waysBetween 0 0 0 0 5 [some (.ref k), some (.ref l), some (.ref v), some (.int (prI (fun q => (if 0 < cnS S l n (S (k + 1) q) then (1 : Int32) else 0) + (if 0 < cnS S v n2 (S (k + 1) q) then 1 else 0)) i)), some (.int (nI i)), x5] [] ((σF τ), S, G) (fun r' h' => r' = (some (.int (prI (fun q => (if 0 < cnS S l n (S (k + 1) q) then (1 : Int32) else 0) + (if 0 < cnS S v n2 (S (k + 1) q) then 1 else 0)) g))) ∧ h' = ((σF τ), S, G)) := by
    refine xloop g (fun i hi ih => ?_) ?_
    · skip
      intro x5
      refine xA.iload rfl rfl rfl ?_
      refine xA.aload_n (i := 0) rfl rfl rfl rfl ?_
      refine xA.getI rfl f0_15 hk.1 rfl rfl ?_
      refine xA.topi (hg) ?_
      refine xA.icmp_ge (tgt := 80) rfl rfl rfl (fun h11 => ?_) (fun h11 => ?_)
      · exact absurd h11 (nI_ge hi (by omega))
      · refine xA.iload rfl rfl rfl ?_
        refine xA.aload_n (i := 0) rfl rfl rfl rfl ?_
        refine xA.getR rfl f0_9 hk.1 rfl rfl rfl ?_
        refine xA.alen rfl hk.2 rfl ?_
        refine xA.icmp_ge (tgt := 80) rfl rfl rfl (fun h21 => ?_) (fun h21 => ?_)
        · exact absurd h21 (nI_ge (b := 8) (by omega) (by omega))
        · refine xA.aload_n (i := 1) rfl rfl rfl rfl ?_
          refine xA.aload_n (i := 0) rfl rfl rfl rfl ?_
          refine xA.getR rfl f0_9 hk.1 rfl rfl rfl ?_
          refine xA.iload rfl rfl rfl ?_
          refine xA.iald rfl hk.2 (vp_in_nI (by omega) (by omega)) rfl ?_
          refine xA.topi (congrArg (S (k + 1)) (nI_clamp (by omega))) ?_
          refine xA.callVi (As := [_]) rfl k0_26 okX3_selvesAt hl.1 rfl rfl rfl (Nat.le_of_ble_eq_true rfl) (c_X3_selvesAt d S G l hl n hn h17 _) rfl rfl ?_
          have hb35 := cnS_le S l n (S (k + 1) i)
          change xA none _ _ _ _ _ _ _ _ (.int (nI (cnS S l n (S (k + 1) i))) :: _) _ _
          refine xA.if_le (tgt := 42) rfl rfl rfl (fun h35 => ?_) (fun h35 => ?_)
          · have e35 : ¬ 0 < cnS S l n (S (k + 1) i) := fun z => absurd h35 (nI_nle z (by omega))
            refine xA.iconst (v := 0) rfl (by decide) rfl ?_
            refine xA.istore (L' := [_, _, _, _, _, _]) rfl (Nat.le_of_ble_eq_true rfl) rfl rfl ?_
            refine xA.iload rfl rfl rfl ?_
            refine xA.aload_n (i := 2) rfl rfl rfl rfl ?_
            refine xA.aload_n (i := 0) rfl rfl rfl rfl ?_
            refine xA.getR rfl f0_9 hk.1 rfl rfl rfl ?_
            refine xA.iload rfl rfl rfl ?_
            refine xA.iald rfl hk.2 (vp_in_nI (by omega) (by omega)) rfl ?_
            refine xA.topi (congrArg (S (k + 1)) (nI_clamp (by omega))) ?_
            refine xA.callVi (As := [_]) rfl k0_26 okX3_selvesAt hv.1 rfl rfl rfl (Nat.le_of_ble_eq_true rfl) (c_X3_selvesAt d S G v hv n2 hn2 h172 _) rfl rfl ?_
            have hb58 := cnS_le S v n2 (S (k + 1) i)
            change xA none _ _ _ _ _ _ _ _ (.int (nI (cnS S v n2 (S (k + 1) i))) :: _) _ _
            refine xA.if_le (tgt := 65) rfl rfl rfl (fun h58 => ?_) (fun h58 => ?_)
            · have e58 : ¬ 0 < cnS S v n2 (S (k + 1) i) := fun z => absurd h58 (nI_nle z (by omega))
              refine xA.iconst (v := 0) rfl (by decide) rfl ?_
              refine xA.iadd rfl rfl ?_
              refine xA.istore (L' := [_, _, _, _, _, _]) rfl (Nat.le_of_ble_eq_true rfl) rfl rfl ?_
              refine xA.iload_n (i := 3) rfl rfl rfl rfl ?_
              refine xA.iload rfl rfl rfl ?_
              refine xA.imul rfl rfl ?_
              refine xA.istore_n (i := 3) (L' := [_, _, _, _, _, _]) rfl rfl (Nat.le_of_ble_eq_true rfl) rfl rfl ?_
              refine xA.iinc (L' := [_, _, _, _, _, _]) rfl rfl (nI_1 i) rfl rfl ?_
              refine xA.goto (q := 5) rfl rfl ?_
              have ih := ih (some (.int ((if 0 < cnS S l n (S (k + 1) i) then (1 : Int32) else 0) + (if 0 < cnS S v n2 (S (k + 1) i) then 1 else 0))))
              simp only [prI, e35, e58, if_true, if_false] at ih
              exact ih
            · have e58 : 0 < cnS S v n2 (S (k + 1) i) := nI_posi h58
              refine xA.iconst (v := 1) rfl (by decide) rfl ?_
              refine xA.goto (q := 66) rfl rfl ?_
              refine xA.iadd rfl rfl ?_
              refine xA.istore (L' := [_, _, _, _, _, _]) rfl (Nat.le_of_ble_eq_true rfl) rfl rfl ?_
              refine xA.iload_n (i := 3) rfl rfl rfl rfl ?_
              refine xA.iload rfl rfl rfl ?_
              refine xA.imul rfl rfl ?_
              refine xA.istore_n (i := 3) (L' := [_, _, _, _, _, _]) rfl rfl (Nat.le_of_ble_eq_true rfl) rfl rfl ?_
              refine xA.iinc (L' := [_, _, _, _, _, _]) rfl rfl (nI_1 i) rfl rfl ?_
              refine xA.goto (q := 5) rfl rfl ?_
              have ih := ih (some (.int ((if 0 < cnS S l n (S (k + 1) i) then (1 : Int32) else 0) + (if 0 < cnS S v n2 (S (k + 1) i) then 1 else 0))))
              simp only [prI, e35, e58, if_true, if_false] at ih
              exact ih
          · have e35 : 0 < cnS S l n (S (k + 1) i) := nI_posi h35
            refine xA.iconst (v := 1) rfl (by decide) rfl ?_
            refine xA.goto (q := 43) rfl rfl ?_
            refine xA.istore (L' := [_, _, _, _, _, _]) rfl (Nat.le_of_ble_eq_true rfl) rfl rfl ?_
            refine xA.iload rfl rfl rfl ?_
            refine xA.aload_n (i := 2) rfl rfl rfl rfl ?_
            refine xA.aload_n (i := 0) rfl rfl rfl rfl ?_
            refine xA.getR rfl f0_9 hk.1 rfl rfl rfl ?_
            refine xA.iload rfl rfl rfl ?_
            refine xA.iald rfl hk.2 (vp_in_nI (by omega) (by omega)) rfl ?_
            refine xA.topi (congrArg (S (k + 1)) (nI_clamp (by omega))) ?_
            refine xA.callVi (As := [_]) rfl k0_26 okX3_selvesAt hv.1 rfl rfl rfl (Nat.le_of_ble_eq_true rfl) (c_X3_selvesAt d S G v hv n2 hn2 h172 _) rfl rfl ?_
            have hb58 := cnS_le S v n2 (S (k + 1) i)
            change xA none _ _ _ _ _ _ _ _ (.int (nI (cnS S v n2 (S (k + 1) i))) :: _) _ _
            refine xA.if_le (tgt := 65) rfl rfl rfl (fun h58 => ?_) (fun h58 => ?_)
            · have e58 : ¬ 0 < cnS S v n2 (S (k + 1) i) := fun z => absurd h58 (nI_nle z (by omega))
              refine xA.iconst (v := 0) rfl (by decide) rfl ?_
              refine xA.iadd rfl rfl ?_
              refine xA.istore (L' := [_, _, _, _, _, _]) rfl (Nat.le_of_ble_eq_true rfl) rfl rfl ?_
              refine xA.iload_n (i := 3) rfl rfl rfl rfl ?_
              refine xA.iload rfl rfl rfl ?_
              refine xA.imul rfl rfl ?_
              refine xA.istore_n (i := 3) (L' := [_, _, _, _, _, _]) rfl rfl (Nat.le_of_ble_eq_true rfl) rfl rfl ?_
              refine xA.iinc (L' := [_, _, _, _, _, _]) rfl rfl (nI_1 i) rfl rfl ?_
              refine xA.goto (q := 5) rfl rfl ?_
              have ih := ih (some (.int ((if 0 < cnS S l n (S (k + 1) i) then (1 : Int32) else 0) + (if 0 < cnS S v n2 (S (k + 1) i) then 1 else 0))))
              simp only [prI, e35, e58, if_true, if_false] at ih
              exact ih
            · have e58 : 0 < cnS S v n2 (S (k + 1) i) := nI_posi h58
              refine xA.iconst (v := 1) rfl (by decide) rfl ?_
              refine xA.goto (q := 66) rfl rfl ?_
              refine xA.iadd rfl rfl ?_
              refine xA.istore (L' := [_, _, _, _, _, _]) rfl (Nat.le_of_ble_eq_true rfl) rfl rfl ?_
              refine xA.iload_n (i := 3) rfl rfl rfl rfl ?_
              refine xA.iload rfl rfl rfl ?_
              refine xA.imul rfl rfl ?_
              refine xA.istore_n (i := 3) (L' := [_, _, _, _, _, _]) rfl rfl (Nat.le_of_ble_eq_true rfl) rfl rfl ?_
              refine xA.iinc (L' := [_, _, _, _, _, _]) rfl rfl (nI_1 i) rfl rfl ?_
              refine xA.goto (q := 5) rfl rfl ?_
              have ih := ih (some (.int ((if 0 < cnS S l n (S (k + 1) i) then (1 : Int32) else 0) + (if 0 < cnS S v n2 (S (k + 1) i) then 1 else 0))))
              simp only [prI, e35, e58, if_true, if_false] at ih
              exact ih
    · skip
      intro x5
      refine xA.iload rfl rfl rfl ?_
      refine xA.aload_n (i := 0) rfl rfl rfl rfl ?_
      refine xA.getI rfl f0_15 hk.1 rfl rfl ?_
      refine xA.topi (hg) ?_
      refine xA.icmp_ge (tgt := 80) rfl rfl rfl (fun h11 => ?_) (fun h11 => ?_)
      · refine xA.iload_n (i := 3) rfl rfl rfl rfl ?_
        exact xA.iret rfl rfl rfl ⟨rfl, rfl⟩
      · exact absurd (nI_le (Nat.le_refl _) (by omega)) h11
  refine xA.iconst (v := 1) rfl (by decide) rfl ?_
  refine xA.istore_n (i := 3) (L' := [_, _, _, _, _, _]) rfl rfl (Nat.le_of_ble_eq_true rfl) rfl rfl ?_
  refine xA.iconst (v := 0) rfl (by decide) rfl ?_
  refine xA.istore (L' := [_, _, _, _, _, _]) rfl (Nat.le_of_ble_eq_true rfl) rfl rfl ?_
  exact loop 0 (Nat.zero_le _) _

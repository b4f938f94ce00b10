variable {τ : List xSh}
/-! ===== the texts read: the house, a life by its letters; the page ===== -/
/-- the page holds these letters -/
def pgC (S : Nat → Nat → Int32) (pg : Nat → Nat) (n : Nat) : Prop := S 1 1 = nI n ∧ n ≤ 45 ∧ (∀ i, i < n → S 2 i = nI (pg i)) ∧ ∀ i, i < n → pg i ≤ 126
theorem pgC.to {S S' : Nat → Nat → Int32} {pg : Nat → Nat} {n : Nat} (h : pgC S pg n) (h1 : S' 1 = S 1) (h2 : S' 2 = S 2) : pgC S' pg n := ⟨by rw [h1]; exact h.1, h.2.1, fun i hi => by rw [h2]; exact h.2.2.1 i hi, h.2.2.2⟩
/-- so many of the first ones are so, all behind them -/
def pre (f : Nat → Bool) : Nat → Bool
  | 0 => true
  | i + 1 => pre f i && f i
def fpl (f : Nat → Bool) (n : Nat) : Nat := cn (fun i => pre f (i + 1)) n
theorem fpl_all {f : Nat → Bool} {n : Nat} (h : pre f n = true) : fpl f n = n := by
  have key : ∀ m, pre f m = true → cn (fun i => pre f (i + 1)) m = m := by
    intro m
    induction m with
    | zero => intro _; rfl
    | succ m ih =>
      intro hm
      have h1 : pre f m = true := by simp only [pre, Bool.and_eq_true] at hm; exact hm.1
      rw [cn, ih h1, hm]; rfl
  exact key n h
theorem pre_dead {f : Nat → Bool} {i : Nat} (h : pre f i = false) : ∀ t, pre f (i + t) = false := by
  intro t
  induction t with
  | zero => exact h
  | succ t ih => show (pre f (i + t) && f (i + t)) = false; rw [ih]; rfl
theorem fpl_at {f : Nat → Bool} {i n : Nat} (hi : i < n) (h : pre f i = true) (hf : f i = false) : fpl f n = i := by
  have hd : pre f (i + 1) = false := by simp [pre, hf]
  have key : ∀ t, cn (fun i => pre f (i + 1)) (i + t) = i := by
    intro t
    induction t with
    | zero => exact fpl_all h
    | succ t ih =>
      show cn (fun i => pre f (i + 1)) (i + t) + (if pre f (i + t + 1) = true then 1 else 0) = i
      have h1 : pre f (i + t + 1) = false := by
        have := pre_dead hd t
        rwa [show i + 1 + t = i + t + 1 by omega] at this
      rw [ih, h1]; rfl
  have e : n = i + (n - i) := by omega
  rw [e]; exact key (n - i)
theorem fpl_le (f : Nat → Bool) (n : Nat) : fpl f n ≤ n := cn_le _ _
theorem fpl_lt {f : Nat → Bool} {n : Nat} : fpl f n < n ↔ pre f n = false := by
  constructor
  · intro h
    cases hp : pre f n with
    | false => rfl
    | true => rw [fpl_all hp] at h; omega
  · intro h
    have key : ∀ m, pre f m = false → fpl f m < m := by
      intro m
      induction m with
      | zero => intro h; cases h
      | succ m ih =>
        intro hm
        have h1 := cn_le (fun i => pre f (i + 1)) m
        show cn (fun i => pre f (i + 1)) m + (if pre f (m + 1) = true then 1 else 0) < m + 1
        rw [hm]; simp only [Bool.false_eq_true, if_false]; omega
    exact key n h
theorem pre_succ {f : Nat → Bool} {i : Nat} (h : pre f i = true) (hf : f i = true) : pre f (i + 1) = true := by simp [pre, h, hf]
/-- the house behind so many letters -/
def hrun (pg : Nat → Nat) : Nat → Option hS
  | 0 => some h0
  | i + 1 => (hrun pg i).bind (fun h => hstep h (pg i))
def hgo (pg : Nat → Nat) (i : Nat) : Bool := (hrun pg (i + 1)).isSome
theorem hgo_t {pg : Nat → Nat} {i : Nat} {h h2 : hS} (h1 : hrun pg i = some h) (hs : hstep h (pg i) = some h2) : hgo pg i = true ∧ hrun pg (i + 1) = some h2 := by
  have e : hrun pg (i + 1) = some h2 := by rw [hrun, h1]; exact hs
  exact ⟨by rw [hgo, e]; rfl, e⟩
theorem hgo_f {pg : Nat → Nat} {i : Nat} {h : hS} (h1 : hrun pg i = some h) (hs : hstep h (pg i) = none) : hgo pg i = false := by
  rw [hgo, hrun, h1]; simp [hs]
theorem hok0 : hOk h0 := by
  refine ⟨Nat.zero_le _, Nat.zero_le _, fun _ => by decide, Nat.zero_le _, fun _ => by decide, fun z => ?_, fun z => ?_, fun z => ?_, fun a => ?_, fun a b _ _ => (by show (0 : Nat).testBit b = (0 : Nat).testBit a; simp), fun a b _ _ => ⟨rfl, Nat.zero_le _⟩, fun a _ => rfl, fun j hj => ?_, fun a b j _ _ hj => ?_, fun z => ?_⟩
  · have : 4 ≤ 0 := z; omega
  · have : 5 ≤ 0 := z; omega
  · have : (0 : Nat) = 1 ∨ (0 : Nat) = 7 := z; omega
  · show 0 < 64; omega
  · have : j < 0 := hj; omega
  · have : 0 = j + 1 := hj; omega
  · have : 2 ≤ 0 := z; omega
theorem hC0 {S : Nat → Nat → Int32} {k : Nat} : hC (hcE S k) k h0 := by
  have k1 : ¬ k = k + 1 := by omega
  have k2 : ¬ k = k + 2 := by omega
  have k3 : ¬ k + 1 = k := by omega
  have k4 : ¬ k + 2 = k := by omega
  refine ⟨by show _ = nI 0; simp [hcE, xu]; rfl, by show _ = nI 0; simp [hcE, xu]; rfl, by show _ = nI 0; simp [hcE, xu]; rfl, fun z => ?_, fun z => ?_, fun z => ?_, fun a ha => ?_, fun a ha => ?_⟩
  · have : 4 ≤ 0 := z; omega
  · have : 5 ≤ 0 := z; omega
  · have : (0 : Nat) = 1 ∨ (0 : Nat) = 7 := z; omega
  · simp only [hcE, xu, hcS, k3, if_false, if_true, ha]; rfl
  · simp only [hcE, xu, hcS, k4, if_false, if_true, ha]
    rw [if_neg (by omega)]; rfl
theorem hcE_fr {S : Nat → Nat → Int32} {k : Nat} : frW k 3 S (hcE S k) := fun j hj => by
  funext i
  simp only [hcE, xu, hcS]
  rw [if_neg (by omega), if_neg (by omega), if_neg (by omega), if_neg (by omega), if_neg (by omega), if_neg (by omega), if_neg (by omega)]
theorem frW.trans {k w : Nat} {S S1 S2 : Nat → Nat → Int32} (h : frW k w S S1) (h2 : frW k w S1 S2) : frW k w S S2 := fun j hj => (h2 j hj).trans (h j hj)

set_option maxRecDepth 100000 in
set_option maxHeartbeats 400000 in
theorem c_X4_at (d : Nat) (S : Nat → Nat → Int32) (G : Nat → Nat → Int64) (pg : Nat → Nat) (n : Nat) (hp : pgC S pg n) (i : Nat) (hi : i < n) : xR τ d mX4_at [.ref 1, .int (nI i)] S G (some (.int (nI (pg i)))) S G := by
  refine xC.of okX4_at (Nat.le_of_ble_eq_true rfl) (L := [_, _]) rfl ?_
  refine xA.iload_n (i := 1) rfl rfl rfl rfl ?_
  refine xA.if_lt (tgt := 30) rfl rfl rfl (fun h1 => ?_) (fun h1 => ?_)
  · exact absurd h1 (nI_pos (by have := hp.2.1; omega))
  · refine xA.iload_n (i := 1) rfl rfl rfl rfl ?_
    refine xA.aload_n (i := 0) rfl rfl rfl rfl ?_
    refine xA.getI rfl f4_21 rfl rfl rfl ?_
    refine xA.topi (hp.1) ?_
    refine xA.icmp_ge (tgt := 30) rfl rfl rfl (fun h9 => ?_) (fun h9 => ?_)
    · exact absurd h9 (nI_ge hi (by have := hp.2.1; omega))
    · refine xA.iload_n (i := 1) rfl rfl rfl rfl ?_
      refine xA.aload_n (i := 0) rfl rfl rfl rfl ?_
      refine xA.getR rfl f4_9 rfl rfl rfl rfl ?_
      refine xA.alen rfl rfl rfl ?_
      refine xA.icmp_ge (tgt := 30) rfl rfl rfl (fun h18 => ?_) (fun h18 => ?_)
      · exact absurd h18 (nI_ge (b := 45) (by have := hp.2.1; omega) (by omega))
      · refine xA.aload_n (i := 0) rfl rfl rfl rfl ?_
        refine xA.getR rfl f4_9 rfl rfl rfl rfl ?_
        refine xA.iload_n (i := 1) rfl rfl rfl rfl ?_
        refine xA.iald rfl rfl (vp_in_nI (by have := hp.2.1; omega) (by omega)) rfl ?_
        refine xA.topi (((congrArg (S 2) (nI_clamp (by have := hp.2.1; omega))).trans (hp.2.2.1 i hi) : _ = nI (pg i))) ?_
        refine xA.goto (q := 31) rfl rfl ?_
        exact xA.iret rfl rfl rfl ⟨rfl, rfl⟩
theorem nu_same {f : Nat → Nat} {k v : Nat} : nu f k v k = v := by simp [nu]
theorem nu_ne {f : Nat → Nat} {k v j : Nat} (h : j ≠ k) : nu f k v j = f j := by simp [nu, h]
theorem six {a b c e : Nat} (hb : b < 6) (he : e < 6) : a * 6 + b = c * 6 + e ↔ a = c ∧ b = e := by omega
theorem hok_step {h h2 : hS} {c : Nat} (ho : hOk h) (hs : hstep h c = some h2) : hOk h2 := by
  obtain ⟨o1, o2, o3, o4, o5, o6, o7, o8, o9, o10, o11, o12, o13, o14, o15⟩ := ho
  unfold hstep at hs
  split at hs
  · rename_i e
    obtain ⟨v, hv, rfl⟩ := Option.map_eq_some_iff.mp hs
    have hv := hdg_some hv
    refine ⟨?_, o2, ?_, o4, ?_, ?_, ?_, ?_, o9, o10, o11, o12, o13, o14, ?_⟩ <;> simp only [hSt, hNd, hNs, hLo, hBa, hFi] at * <;> omega
  · rename_i e0
    split at hs
    · rename_i e
      obtain ⟨v, hv, hs⟩ := Option.bind_eq_some_iff.mp hs
      split at hs
      · rename_i hcd
        cases hs
        have hv := hdg_some hv
        have hfi := o8 (Or.inl e)
        have hnd := o3 (by omega)
        obtain ⟨hne, hz⟩ := hcd
        have d1 : ∀ a b, a < 6 → b < 6 → nu (nu (hD h) (hFi h * 6 + v) (hNd h + 1)) (v * 6 + hFi h) (hNd h + 1) (a * 6 + b) = if (a = v ∧ b = hFi h) ∨ (a = hFi h ∧ b = v) then hNd h + 1 else hD h (a * 6 + b) := by
          intro a b ha hb
          simp only [nu, six hb hfi, six hb (show v < 6 by omega)]
          by_cases c1 : a = v ∧ b = hFi h
          · rw [if_pos c1, if_pos (Or.inl c1)]
          · rw [if_neg c1]
            by_cases c2 : a = hFi h ∧ b = v
            · rw [if_pos c2, if_pos (Or.inr c2)]
            · rw [if_neg c2, if_neg (by omega)]
        refine ⟨by show 2 ≤ 8; omega, by show hNd h + 1 ≤ 10; omega, fun z => absurd z (by show ¬ 2 ≤ 1; omega), o4, fun _ => o5 (by omega), fun z => absurd z (by show ¬ 4 ≤ 2; omega), fun z => absurd z (by show ¬ 5 ≤ 2; omega), fun z => absurd z (by show ¬ (2 = 1 ∨ 2 = 7); omega), o9, o10, fun a b ha hb => ?_, fun a ha => ?_, fun j hj => ?_, fun a b j ha hb hj => ?_, fun _ => by show 1 ≤ hNd h + 1; omega⟩
        · have q := o11 a b ha hb
          show nu (nu (hD h) (hFi h * 6 + v) (hNd h + 1)) (v * 6 + hFi h) (hNd h + 1) (a * 6 + b) = nu (nu (hD h) (hFi h * 6 + v) (hNd h + 1)) (v * 6 + hFi h) (hNd h + 1) (b * 6 + a) ∧ nu (nu (hD h) (hFi h * 6 + v) (hNd h + 1)) (v * 6 + hFi h) (hNd h + 1) (a * 6 + b) ≤ hNd h + 1
          rw [d1 a b ha hb, d1 b a hb ha]
          by_cases c1 : (a = v ∧ b = hFi h) ∨ (a = hFi h ∧ b = v)
          · rw [if_pos c1, if_pos (by omega)]; exact ⟨rfl, Nat.le_refl _⟩
          · rw [if_neg c1, if_neg (by omega)]; exact ⟨q.1, by omega⟩
        · show nu (nu (hD h) (hFi h * 6 + v) (hNd h + 1)) (v * 6 + hFi h) (hNd h + 1) (a * 6 + a) = 0
          rw [d1 a a ha ha, if_neg (by rintro (⟨z1, z2⟩ | ⟨z1, z2⟩) <;> exact hne (by omega))]
          exact o12 a ha
        · show nu (hOn h) (hNd h) (hFi h) j < 6 ∧ nu (hTw h) (hNd h) v j < 6 ∧ nu (nu (hD h) (hFi h * 6 + v) (hNd h + 1)) (v * 6 + hFi h) (hNd h + 1) (nu (hOn h) (hNd h) (hFi h) j * 6 + nu (hTw h) (hNd h) v j) = j + 1
          by_cases hjn : j = hNd h
          · subst hjn
            rw [nu_same, nu_same, d1 _ _ hfi (by omega), if_pos (Or.inr ⟨rfl, rfl⟩)]
            exact ⟨hfi, by omega, rfl⟩
          · rw [nu_ne hjn, nu_ne hjn]
            have hj2 : j < hNd h + 1 := hj
            obtain ⟨q1, q2, q3⟩ := o13 j (by omega)
            refine ⟨q1, q2, ?_⟩
            rw [d1 _ _ q1 q2, if_neg, q3]
            rintro (⟨z1, z2⟩ | ⟨z1, z2⟩)
            · rw [z1, z2, (o11 v (hFi h) (by omega) hfi).1, hz] at q3; omega
            · rw [z1, z2, hz] at q3; omega
        · have hj2 : nu (nu (hD h) (hFi h * 6 + v) (hNd h + 1)) (v * 6 + hFi h) (hNd h + 1) (a * 6 + b) = j + 1 := hj
          rw [d1 a b ha hb] at hj2
          show (a = nu (hOn h) (hNd h) (hFi h) j ∧ b = nu (hTw h) (hNd h) v j) ∨ (a = nu (hTw h) (hNd h) v j ∧ b = nu (hOn h) (hNd h) (hFi h) j)
          by_cases c1 : (a = v ∧ b = hFi h) ∨ (a = hFi h ∧ b = v)
          · rw [if_pos c1] at hj2
            have : j = hNd h := by omega
            subst this
            rw [nu_same, nu_same]
            omega
          · rw [if_neg c1] at hj2
            have q := (o11 a b ha hb).2
            have hjn : j ≠ hNd h := by omega
            rw [nu_ne hjn, nu_ne hjn]
            exact o14 a b j ha hb hj2
      · cases hs
    · split at hs
      · rename_i e
        split at hs
        · cases hs
          refine ⟨?_, o2, ?_, o4, ?_, ?_, ?_, ?_, o9, o10, o11, o12, o13, o14, ?_⟩ <;> simp only [hSt, hNd, hNs, hLo, hBa, hFi] at * <;> omega
        · split at hs
          · cases hs
            refine ⟨?_, o2, ?_, o4, ?_, ?_, ?_, ?_, o9, o10, o11, o12, o13, o14, ?_⟩ <;> simp only [hSt, hNd, hNs, hLo, hBa, hFi] at * <;> omega
          · cases hs
      · split at hs
        · rename_i e
          obtain ⟨v, hv, rfl⟩ := Option.map_eq_some_iff.mp hs
          have hv := hdg_some hv
          refine ⟨?_, o2, ?_, o4, ?_, ?_, ?_, ?_, o9, o10, o11, o12, o13, o14, ?_⟩ <;> simp only [hSt, hNd, hNs, hLo, hBa, hFi] at * <;> omega
        · split at hs
          · rename_i e
            obtain ⟨v, hv, rfl⟩ := Option.map_eq_some_iff.mp hs
            have hv := hdg_some hv
            refine ⟨?_, o2, ?_, o4, ?_, ?_, ?_, ?_, o9, o10, o11, o12, o13, o14, ?_⟩ <;> simp only [hSt, hNd, hNs, hLo, hBa, hFi] at * <;> omega
          · split at hs
            · rename_i e
              split at hs
              · cases hs
                refine ⟨?_, o2, ?_, o4, ?_, ?_, ?_, ?_, o9, o10, o11, o12, o13, o14, ?_⟩ <;> simp only [hSt, hNd, hNs, hLo, hBa, hFi] at * <;> omega
              · cases hs
            · split at hs
              · rename_i e
                obtain ⟨v, hv, hs⟩ := Option.bind_eq_some_iff.mp hs
                split at hs
                · rename_i hcd
                  cases hs
                  have hv := hdg_some hv
                  have hfi := o8 (Or.inr e)
                  have hns := o5 (by omega)
                  refine ⟨by show 8 ≤ 8; omega, o2, fun z => absurd z (by show ¬ 8 ≤ 1; omega), by show hNs h + 1 ≤ 4; omega, fun z => absurd z (by show ¬ 8 ≤ 7; omega), fun _ => o6 (by omega), fun _ => o7 (by omega), fun z => absurd z (by show ¬ (8 = 1 ∨ 8 = 7); omega), fun a => ?_, fun a b ha hb => ?_, o11, o12, o13, o14, fun _ => o15 (by omega)⟩
                  · show nu (nu (hSr h) (hFi h) (hSr h (hFi h) ||| 2 ^ v)) v (hSr h v ||| 2 ^ hFi h) a < 64
                    simp only [nu]
                    split
                    · exact or_lt64 (o9 _) hfi
                    · split
                      · exact or_lt64 (o9 _) (by omega)
                      · exact o9 a
                  · show (nu (nu (hSr h) (hFi h) (hSr h (hFi h) ||| 2 ^ v)) v (hSr h v ||| 2 ^ hFi h) a).testBit b = (nu (nu (hSr h) (hFi h) (hSr h (hFi h) ||| 2 ^ v)) v (hSr h v ||| 2 ^ hFi h) b).testBit a
                    have q := o10 a b ha hb
                    have key : ∀ x y, x < 6 → y < 6 → (nu (nu (hSr h) (hFi h) (hSr h (hFi h) ||| 2 ^ v)) v (hSr h v ||| 2 ^ hFi h) x).testBit y = ((hSr h x).testBit y || (decide (x = v) && decide (hFi h = y)) || (decide (x = hFi h) && decide (v = y))) := by
                      intro x y hx hy
                      have hne := hcd.1
                      simp only [nu]
                      by_cases c1 : x = v
                      · subst c1
                        simp [Nat.testBit_or, Nat.testBit_two_pow, hne]
                      · rw [if_neg c1]
                        by_cases c2 : x = hFi h
                        · subst c2
                          simp [Nat.testBit_or, Nat.testBit_two_pow, c1]
                        · rw [if_neg c2]
                          simp [c1, c2]
                    rw [key a b ha hb, key b a hb ha, q]
                    rw [show decide (hFi h = b) = decide (b = hFi h) from decide_eq_decide.mpr eq_comm, show decide (v = b) = decide (b = v) from decide_eq_decide.mpr eq_comm, show decide (hFi h = a) = decide (a = hFi h) from decide_eq_decide.mpr eq_comm, show decide (v = a) = decide (a = v) from decide_eq_decide.mpr eq_comm]
                    generalize (hSr h b).testBit a = z0
                    generalize decide (a = v) = z1
                    generalize decide (b = v) = z2
                    generalize decide (a = hFi h) = z3
                    generalize decide (b = hFi h) = z4
                    cases z0 <;> cases z1 <;> cases z2 <;> cases z3 <;> cases z4 <;> rfl
                · cases hs
              · split at hs
                · rename_i e
                  cases hs
                  refine ⟨?_, o2, ?_, o4, ?_, ?_, ?_, ?_, o9, o10, o11, o12, o13, o14, ?_⟩ <;> simp only [hSt, hNd, hNs, hLo, hBa, hFi] at * <;> omega
                · cases hs

theorem hrok (pg : Nat → Nat) : ∀ i h, hrun pg i = some h → hOk h := by
  intro i
  induction i with
  | zero => intro h hh; cases hh; exact hok0
  | succ i ih =>
    intro h hh
    obtain ⟨h1, e1, e2⟩ := Option.bind_eq_some_iff.mp hh
    exact hok_step (ih h1 e1) e2
theorem hrun_dead {pg : Nat → Nat} {i n : Nat} (h : hgo pg i = false) (hi : i < n) : hrun pg n = none := by
  have h1 : hrun pg (i + 1) = none := by
    unfold hgo at h
    cases e : hrun pg (i + 1) with
    | none => rfl
    | some z => rw [e] at h; cases h
  have key : ∀ t, hrun pg (i + 1 + t) = none := by
    intro t
    induction t with
    | zero => exact h1
    | succ t ih => show (hrun pg (i + 1 + t)).bind _ = none; rw [ih]; rfl
  have e : n = i + 1 + (n - (i + 1)) := by omega
  rw [e]; exact key _
set_option maxRecDepth 100000 in
set_option maxHeartbeats 1000000 in
theorem c_X1_read (d : Nat) (S : Nat → Nat → Int32) (G : Nat → Nat → Int64) (k : Nat) (hk : isHouse τ k) (h3 : 3 ≤ k) (pg : Nat → Nat) (n : Nat) (hp : pgC S pg n) : xC (d + 4) mX1_read [.ref k, .ref 1] ((σF τ), S, G) 0 0 (fun r h' => ∃ S', h' = ((σF τ), S', G) ∧ frW k 3 S S' ∧ r = some (.int (nI (fpl (hgo pg) n))) ∧ ∀ h, hrun pg n = some h → hC S' k h) := by
  have hn45 := hp.2.1
  refine xC.of okX1_read (Nat.le_of_ble_eq_true rfl) (L := [_, _, _]) rfl ?_
  have loop : ∀ i, i ≤ n → ∀ (S1 : Nat → Nat → Int32) (h : hS), frW k 3 S S1 → hrun pg i = some h → hC S1 k h → pre (hgo pg) i = true → xA none (d + 4) mX1_read 0 0 0 0 6 [some (.ref k), some (.ref 1), some (.int (nI i))] [] ((σF τ), S1, G) (fun r h' => ∃ S', h' = ((σF τ), S', G) ∧ frW k 3 S S' ∧ r = some (.int (nI (fpl (hgo pg) n))) ∧ ∀ h, hrun pg n = some h → hC S' k h) := by
    refine xloop n (fun i hi ih => ?_) ?_
    · intro S1 h hf hr hc hpr
      have hp2 : pgC S1 pg n := hp.to (hf 1 (by omega)) (hf 2 (by omega))
      refine xA.iload_n (i := 2) rfl rfl rfl rfl ?_
      refine xA.aload_n (i := 1) rfl rfl rfl rfl ?_
      refine xA.callVi (As := []) rfl k1_25 okX4_length rfl rfl rfl rfl (Nat.le_of_ble_eq_true rfl) (c_X4_length (d + 3) _ G) rfl rfl ?_
      refine xA.topi hp2.1 ?_
      refine xA.icmp_ge (tgt := 34) rfl rfl rfl (fun h11 => ?_) (fun h11 => ?_)
      · exact absurd h11 (nI_ge hi (by omega))
      · refine xA.aload_n (i := 0) rfl rfl rfl rfl ?_
        refine xA.aload_n (i := 1) rfl rfl rfl rfl ?_
        refine xA.iload_n (i := 2) rfl rfl rfl rfl ?_
        refine xA.callVi (As := [_]) rfl k1_31 okX4_at rfl rfl rfl rfl (Nat.le_of_ble_eq_true rfl) (c_X4_at (d + 3) _ G pg n hp2 i hi) rfl rfl ?_
        refine xA.callV (As := [_]) (h := ((σF τ), _, _)) rfl k1_35 okX1_takes hk.1 rfl rfl rfl (Nat.le_of_ble_eq_true rfl) (c_X1_takes d _ G k hk h (hrok pg i h hr) hc (pg i) (hp2.2.2.2 i hi)) (Nat.le_refl _) (Nat.le_refl _) rfl rfl ?_
        rintro r9 h9 ⟨S2, rfl, hf2, ⟨hno, rfl⟩ | ⟨h2, hsm, rfl, hc2⟩⟩
        · skip
          refine xA.if_ne (tgt := 28) rfl rfl rfl (fun h23 => ?_) (fun h23 => ?_)
          · exact absurd rfl h23
          · refine xA.iload_n (i := 2) rfl rfl rfl rfl ?_
            have e := fpl_at hi hpr (hgo_f hr hno)
            exact xA.iret rfl rfl rfl ⟨S2, rfl, hf.trans hf2, by rw [e], fun z hz => absurd (hrun_dead (hgo_f hr hno) hi) (by rw [hz]; simp)⟩
        · skip
          refine xA.if_ne (tgt := 28) rfl rfl rfl (fun h23 => ?_) (fun h23 => ?_)
          · refine xA.iinc (L' := [_, _, _]) rfl rfl (nI_1 i) rfl rfl ?_
            refine xA.goto (q := 6) rfl rfl ?_
            exact ih S2 h2 (hf.trans hf2) (hgo_t hr hsm).2 hc2 (pre_succ hpr (hgo_t hr hsm).1)
          · exact absurd h23 (by decide)
    · intro S1 h hf hr hc hpr
      have hp2 : pgC S1 pg n := hp.to (hf 1 (by omega)) (hf 2 (by omega))
      refine xA.iload_n (i := 2) rfl rfl rfl rfl ?_
      refine xA.aload_n (i := 1) rfl rfl rfl rfl ?_
      refine xA.callVi (As := []) rfl k1_25 okX4_length rfl rfl rfl rfl (Nat.le_of_ble_eq_true rfl) (c_X4_length (d + 3) _ G) rfl rfl ?_
      refine xA.topi hp2.1 ?_
      refine xA.icmp_ge (tgt := 34) rfl rfl rfl (fun h11 => ?_) (fun h11 => ?_)
      · refine xA.aload_n (i := 1) rfl rfl rfl rfl ?_
        refine xA.callVi (As := []) rfl k1_25 okX4_length rfl rfl rfl rfl (Nat.le_of_ble_eq_true rfl) (c_X4_length (d + 3) _ G) rfl rfl ?_
        refine xA.topi hp2.1 ?_
        exact xA.iret rfl rfl rfl ⟨S1, rfl, hf, by rw [fpl_all hpr], fun z hz => by rw [hr] at hz; cases hz; exact hc⟩
      · exact absurd (nI_le (Nat.le_refl _) (by omega)) h11
  refine xA.aload_n (i := 0) rfl rfl rfl rfl ?_
  refine xA.callVv (As := []) rfl k1_22 okX1_clear hk.1 rfl rfl rfl (Nat.le_of_ble_eq_true rfl) (c_X1_clear (d + 3) _ G k hk) rfl rfl ?_
  refine xA.iconst (v := 0) rfl (by decide) rfl ?_
  refine xA.istore_n (i := 2) (L' := [_, _, _]) rfl rfl (Nat.le_of_ble_eq_true rfl) rfl rfl ?_
  exact loop 0 (Nat.zero_le _) _ h0 hcE_fr rfl hC0 rfl

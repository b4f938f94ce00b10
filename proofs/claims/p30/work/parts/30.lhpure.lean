/-! ===== the house that the law writes, pure ===== -/
theorem hrun_congr {pg pg' : Nat → Nat} : ∀ n, (∀ i, i < n → pg i = pg' i) → hrun pg n = hrun pg' n
  | 0, _ => rfl
  | n + 1, h => by
    show (hrun pg n).bind _ = (hrun pg' n).bind _
    rw [hrun_congr n (fun i hi => h i (by omega)), h n (by omega)]
/-- the row of letters holds n of them, and they are read as the house h so far -/
def HX (T : Nat → Int32) (n : Nat) (h : hS) : Prop := ∃ pg, TX T pg n ∧ hrun pg n = some h
theorem HX.zero {T : Nat → Int32} : HX T 0 h0 := ⟨fun _ => 0, fun i hi => absurd hi (Nat.not_lt_zero _), rfl⟩
theorem TX.add {T : Nat → Int32} {pg : Nat → Nat} {n c : Nat} (ht : TX T pg n) (h1 : 1 ≤ c) (h2 : c ≤ 126) : TX (iu T n (nI c)) (nu pg n c) (n + 1) := by
  intro i hi
  by_cases e : i = n
  · subst e
    rw [iu_at, nu_same]
    exact ⟨rfl, h1, h2⟩
  · rw [iu_off e, nu_ne e]
    exact ht i (by omega)
theorem HX.add {T : Nat → Int32} {n c : Nat} {h h2 : hS} (hx : HX T n h) (hs : hstep h c = some h2) (h1 : 1 ≤ c) (h3 : c ≤ 126) : HX (iu T n (nI c)) (n + 1) h2 := by
  obtain ⟨pg, ht, hr⟩ := hx
  refine ⟨nu pg n c, ht.add h1 h3, ?_⟩
  show (hrun (nu pg n c) n).bind _ = _
  rw [hrun_congr (pg' := pg) n (fun i hi => nu_ne (by omega)), hr, Option.bind_some, nu_same, hs]
theorem HX.ok {T : Nat → Int32} {n : Nat} {h : hS} (hx : HX T n h) : hOk h := by
  obtain ⟨pg, -, hr⟩ := hx
  exact hrok pg n h hr
theorem hdg6 {v : Nat} (hv : v < 6) : hdg (48 + v) 0 5 = some v := by
  unfold hdg; rw [if_pos (by omega), Nat.add_sub_cancel_left]
theorem hs_first {h : hS} {v : Nat} (hs : hSt h = 0 ∨ hSt h = 6) (hv : v < 6) : hstep h (48 + v) = some (hSt h + 1, hNd h, hNs h, hLo h, hBa h, v, hD h, hSr h, hOn h, hTw h) := by
  unfold hstep
  rw [if_pos hs, hdg6 hv]; rfl
def hdoor (h : hS) (a b : Nat) : hS := (2, hNd h + 1, hNs h, hLo h, hBa h, a, nu (nu (hD h) (a * 6 + b) (hNd h + 1)) (b * 6 + a) (hNd h + 1), hSr h, nu (hOn h) (hNd h) a, nu (hTw h) (hNd h) b)
def hsight (h : hS) (a b : Nat) : hS := (8, hNd h, hNs h + 1, hLo h, hBa h, a, hD h, nu (nu (hSr h) a (hSr h a ||| 2 ^ b)) b (hSr h b ||| 2 ^ a), hOn h, hTw h)
theorem HX.door {T : Nat → Int32} {n a b : Nat} {h : hS} (hx : HX T n h) (hs : hSt h = 0) (ha : a < 6) (hb : b < 6) (hab : ¬ b = a) (hd : hD h (a * 6 + b) = 0) : HX (iu (iu T n (nI (48 + a))) (n + 1) (nI (48 + b))) (n + 1 + 1) (hdoor h a b) := by
  have h1 := hx.add (hs_first (Or.inl hs) ha) (by omega) (by omega)
  refine h1.add ?_ (by omega) (by omega)
  rw [hs]
  unfold hstep
  rw [if_neg (fun q => q.elim (Nat.ne_of_beq_eq_false rfl) (Nat.ne_of_beq_eq_false rfl)), if_pos rfl, hdg6 hb, Option.bind_some]
  exact if_pos ⟨hab, hd⟩
theorem HX.sight {T : Nat → Int32} {n a b : Nat} {h : hS} (hx : HX T n h) (hs : hSt h = 6) (ha : a < 6) (hb : b < 6) (hab : ¬ b = a) (hd : (hSr h a).testBit b = false) : HX (iu (iu T n (nI (48 + a))) (n + 1) (nI (48 + b))) (n + 1 + 1) (hsight h a b) := by
  have h1 := hx.add (hs_first (Or.inr hs) ha) (by omega) (by omega)
  refine h1.add ?_ (by omega) (by omega)
  rw [hs]
  unfold hstep
  rw [if_neg (fun q => q.elim (Nat.ne_of_beq_eq_false rfl) (Nat.ne_of_beq_eq_false rfl)), if_neg (Nat.ne_of_beq_eq_false rfl), if_neg (Nat.ne_of_beq_eq_false rfl), if_neg (Nat.ne_of_beq_eq_false rfl), if_neg (Nat.ne_of_beq_eq_false rfl), if_neg (Nat.ne_of_beq_eq_false rfl), if_pos rfl, hdg6 hb, Option.bind_some]
  exact if_pos ⟨hab, hd⟩
theorem HX.comma {T : Nat → Int32} {n : Nat} {h : hS} (hx : HX T n h) (hs : hSt h = 2) (hd : hNd h < 10) : HX (iu T n (nI 44)) (n + 1) (0, h.2) := by
  refine hx.add ?_ (by omega) (by omega)
  unfold hstep
  rw [if_neg (by omega), if_neg (by omega), if_pos hs, if_neg (by decide), if_pos ⟨rfl, hd⟩]
theorem HX.commaS {T : Nat → Int32} {n : Nat} {h : hS} (hx : HX T n h) (hs : hSt h = 8) (hd : hNs h < 4) : HX (iu T n (nI 44)) (n + 1) (6, h.2) := by
  refine hx.add ?_ (by omega) (by omega)
  unfold hstep
  rw [if_neg (by omega), if_neg (by omega), if_neg (by omega), if_neg (by omega), if_neg (by omega), if_neg (by omega), if_neg (by omega), if_pos ⟨rfl, hd⟩]
theorem HX.semiS {T : Nat → Int32} {n : Nat} {h : hS} (hx : HX T n h) (hs : hSt h = 5) : HX (iu T n (nI 59)) (n + 1) (6, h.2) := by
  refine hx.add ?_ (by omega) (by omega)
  unfold hstep
  rw [if_neg (by omega), if_neg (by omega), if_neg (by omega), if_neg (by omega), if_neg (by omega), if_pos hs, if_pos rfl]
def hlow (h : hS) (lo bk : Nat) : hS := (5, hNd h, hNs h, lo, bk, hFi h, hD h, hSr h, hOn h, hTw h)
theorem HX.low {T : Nat → Int32} {n lo bk : Nat} {h : hS} (hx : HX T n h) (hs : hSt h = 2) (hlo : lo < 6) (h1 : 1 ≤ bk) (h9 : bk ≤ 9) : HX (iu (iu (iu T n (nI 59)) (n + 1) (nI (48 + lo))) (n + 1 + 1) (nI (48 + bk))) (n + 1 + 1 + 1) (hlow h lo bk) := by
  have e1 : HX (iu T n (nI 59)) (n + 1) (3, h.2) := by
    refine hx.add ?_ (by omega) (by omega)
    unfold hstep
    rw [if_neg (by omega), if_neg (by omega), if_pos hs, if_pos rfl]
  have e2 : HX (iu (iu T n (nI 59)) (n + 1) (nI (48 + lo))) (n + 1 + 1) (4, hNd h, hNs h, lo, hBa h, hFi h, hD h, hSr h, hOn h, hTw h) := by
    refine e1.add ?_ (by omega) (by omega)
    unfold hstep
    rw [if_neg (fun q => q.elim (Nat.ne_of_beq_eq_false rfl) (Nat.ne_of_beq_eq_false rfl)), if_neg (Nat.ne_of_beq_eq_false rfl), if_neg (Nat.ne_of_beq_eq_false rfl), if_pos rfl, hdg6 hlo]; rfl
  refine e2.add ?_ (by omega) (by omega)
  unfold hstep
  rw [if_neg (fun q => q.elim (Nat.ne_of_beq_eq_false rfl) (Nat.ne_of_beq_eq_false rfl)), if_neg (Nat.ne_of_beq_eq_false rfl), if_neg (Nat.ne_of_beq_eq_false rfl), if_neg (Nat.ne_of_beq_eq_false rfl), if_pos rfl]
  unfold hdg
  rw [if_pos (by omega), Nat.add_sub_cancel_left]; rfl
/-- RH without the low door -/
def RHp (A : Nat → Int32) (h : hS) : Prop := A 14 = nI (hNd h) ∧ A 15 = nI (hNs h) ∧ (∀ a, a < 6 → ∃ x, x < 64 ∧ A a = nI x ∧ ∀ b, b < 6 → x.testBit b = decide (¬ hD h (a * 6 + b) = 0)) ∧ (∀ a, a < 6 → A (6 + a) = nI (hSr h a)) ∧ ∀ j, j < hNd h → A (16 + j) = nI (hOn h j) ∧ A (26 + j) = nI (hTw h j)
theorem RHp_0 {A : Nat → Int32} (h : ∀ i, i < 36 → A i = 0) : RHp A h0 :=
  ⟨h 14 (by decide), h 15 (by decide), fun a ha => ⟨0, by omega, h a (by omega), fun b _ => by show (0 : Nat).testBit b = decide (¬ (0 : Nat) = 0); simp⟩, fun a ha => h (6 + a) (by omega), fun j hj => absurd hj (Nat.not_lt_zero _)⟩
theorem RHp_door {A : Nat → Int32} {h : hS} {a b x y : Nat} (hp : RHp A h) (ha : a < 6) (hb : b < 6) (hab : ¬ b = a) (hx : x < 64) (hxt : ∀ c, c < 6 → x.testBit c = decide (¬ hD h (a * 6 + c) = 0)) (hy : y < 64) (hyt : ∀ c, c < 6 → y.testBit c = decide (¬ hD h (b * 6 + c) = 0)) (hnd : hNd h < 10) :
    RHp (iu (iu (iu (iu (iu A a (nI (x ||| 2 ^ b))) b (nI (y ||| 2 ^ a))) (16 + hNd h) (nI a)) (26 + hNd h) (nI b)) 14 (nI (hNd h + 1))) (hdoor h a b) := by
  obtain ⟨p1, p2, p3, p4, p5⟩ := hp
  refine ⟨iu_at, ?_, ?_, ?_, ?_⟩
  · rw [iu_off (by omega), iu_off (by omega), iu_off (by omega), iu_off (by omega), iu_off (by omega)]; exact p2
  · intro c hc
    rw [iu_off (by omega), iu_off (by omega), iu_off (by omega)]
    by_cases hcb : c = b
    · subst hcb
      rw [iu_at]
      refine ⟨y ||| 2 ^ a, or_lt64 hy ha, rfl, fun e he => ?_⟩
      rw [Nat.testBit_or, Nat.testBit_two_pow, hyt e he]
      show _ = decide (¬ nu (nu (hD h) (a * 6 + c) (hNd h + 1)) (c * 6 + a) (hNd h + 1) (c * 6 + e) = 0)
      by_cases hea : e = a
      · subst hea
        rw [nu_same]; simp
      · rw [nu_ne (fun q => hea ((six he ha).mp q).2), nu_ne (fun q => hab ((six he hb).mp q).1)]
        have : ¬ a = e := fun q => hea q.symm
        simp [this]
    · rw [iu_off hcb]
      by_cases hca : c = a
      · subst hca
        rw [iu_at]
        refine ⟨x ||| 2 ^ b, or_lt64 hx hb, rfl, fun e he => ?_⟩
        rw [Nat.testBit_or, Nat.testBit_two_pow, hxt e he]
        show _ = decide (¬ nu (nu (hD h) (c * 6 + b) (hNd h + 1)) (b * 6 + c) (hNd h + 1) (c * 6 + e) = 0)
        rw [nu_ne (fun q => hcb ((six he hc).mp q).1)]
        by_cases heb : e = b
        · subst heb
          rw [nu_same]; simp
        · rw [nu_ne (fun q => heb ((six he hb).mp q).2)]
          have : ¬ b = e := fun q => heb q.symm
          simp [this]
      · rw [iu_off hca]
        obtain ⟨z, z1, z2, z3⟩ := p3 c hc
        refine ⟨z, z1, z2, fun e he => ?_⟩
        rw [z3 e he]
        show _ = decide (¬ nu (nu (hD h) (a * 6 + b) (hNd h + 1)) (b * 6 + a) (hNd h + 1) (c * 6 + e) = 0)
        rw [nu_ne (fun q => hcb ((six he ha).mp q).1), nu_ne (fun q => hca ((six he hb).mp q).1)]
  · intro c hc
    rw [iu_off (by omega), iu_off (by omega), iu_off (by omega), iu_off (by omega), iu_off (by omega)]
    exact p4 c hc
  · intro j hj
    have hj2 : j < hNd h + 1 := hj
    show _ = nI (nu (hOn h) (hNd h) a j) ∧ _ = nI (nu (hTw h) (hNd h) b j)
    by_cases e : j = hNd h
    · subst e
      rw [nu_same, nu_same, iu_off (by omega), iu_off (by omega), iu_at, iu_off (by omega), iu_at]
      exact ⟨rfl, rfl⟩
    · rw [nu_ne e, nu_ne e, iu_off (by omega), iu_off (by omega), iu_off (by omega), iu_off (by omega), iu_off (by omega), iu_off (by omega), iu_off (by omega), iu_off (by omega), iu_off (by omega), iu_off (by omega)]
      exact p5 j (by omega)
theorem RHp_sight {A : Nat → Int32} {h : hS} {a b : Nat} (hp : RHp A h) (ha : a < 6) (hb : b < 6) (hab : ¬ b = a) :
    RHp (iu (iu (iu A (6 + a) (nI (hSr h a ||| 2 ^ b))) (6 + b) (nI (hSr h b ||| 2 ^ a))) 15 (nI (hNs h + 1))) (hsight h a b) := by
  obtain ⟨p1, p2, p3, p4, p5⟩ := hp
  refine ⟨?_, iu_at, ?_, ?_, ?_⟩
  · rw [iu_off (by omega), iu_off (by omega), iu_off (by omega)]; exact p1
  · intro c hc
    rw [iu_off (by omega), iu_off (by omega), iu_off (by omega)]
    exact p3 c hc
  · intro c hc
    show _ = nI (nu (nu (hSr h) a (hSr h a ||| 2 ^ b)) b (hSr h b ||| 2 ^ a) c)
    rw [iu_off (by omega)]
    by_cases hcb : c = b
    · subst hcb
      rw [iu_at, nu_same]
    · rw [iu_off (by omega), nu_ne hcb]
      by_cases hca : c = a
      · subst hca
        rw [iu_at, nu_same]
      · rw [iu_off (by omega), nu_ne hca]
        exact p4 c hc
  · intro j hj
    rw [iu_off (by omega), iu_off (by omega), iu_off (by omega), iu_off (by omega), iu_off (by omega), iu_off (by omega)]
    exact p5 j hj
/-- the rows h and t alone changed -/
def fr2 (S S1 : Nat → Nat → Int32) : Prop := ∀ j, j ≠ 54 → j ≠ 57 → S1 j = S j
theorem fr2.x54 {S S1 : Nat → Nat → Int32} (h : fr2 S S1) (k : Nat) (v : Int32) : fr2 S (xu S1 54 k v) := fun j h1 h2 => by rw [xu_off h1]; exact h j h1 h2
theorem fr2.x57 {S S1 : Nat → Nat → Int32} (h : fr2 S S1) (k : Nat) (v : Int32) : fr2 S (xu S1 57 k v) := fun j h1 h2 => by rw [xu_off h2]; exact h j h1 h2
theorem x54_54 {S : Nat → Nat → Int32} {k : Nat} {v : Int32} : xu S 54 k v 54 = iu (S 54) k v := xu_at
theorem x57_57 {S : Nat → Nat → Int32} {k : Nat} {v : Int32} : xu S 57 k v 57 = iu (S 57) k v := xu_at
theorem x54_57 {S : Nat → Nat → Int32} {k : Nat} {v : Int32} : xu S 54 k v 57 = S 57 := xu_off (by decide)
theorem x57_54 {S : Nat → Nat → Int32} {k : Nat} {v : Int32} : xu S 57 k v 54 = S 54 := xu_off (by decide)
/-- the loop of the doors, of the sights -/
def inD (k n : Nat) (h : hS) : Prop := hNs h = 0 ∧ (∀ a, hSr h a = 0) ∧ ((k = 0 ∧ n = 0 ∧ h = h0) ∨ (1 ≤ hNd h ∧ hNd h ≤ k ∧ hSt h = 2 ∧ n + 1 = 3 * hNd h))
def inS (k n : Nat) (h : hS) : Prop := 1 ≤ hNd h ∧ n = 3 * hNd h + 2 + 3 * hNs h ∧ ((k = 0 ∧ hNs h = 0 ∧ hSt h = 5 ∧ ∀ a, hSr h a = 0) ∨ (1 ≤ hNs h ∧ hNs h ≤ k ∧ hSt h = 8))
section LAT
variable {τ : List xSh} {X : Option (Nat × (Nat → Int32))} {d : Nat} {M : xM} {c n mc ms pc q idx : Nat} {L : List (Option Value)} {st : List Value} {S : Nat → Nat → Int32} {G : Nat → Nat → Int64} {Q : Option Value → xH → Prop}
theorem xA.at {x v : Int32} {N : Nat} (hd : xfetch M pc = some (.invokestatic idx, 3)) (hk : xcS M.1.cls idx mL_at) (hLn : L.length = M.2.2.1) (hst : (st.map Value.category).sum ≤ 8) (hc1 : c ≤ mc) (hc2 : n ≤ ms) (hv : v = nI N) (hN : N < 2 ^ 31) (h0 : 0 < N) (hq : pc + 3 = q) (kk : ∀ j, j < N → xA X (d + 1) M c n mc ms q L (.int (nI j) :: st) (σF τ, S, G) Q) : xA X (d + 1) M c n mc ms pc L (.int v :: .int x :: st) (σF τ, S, G) Q := by
  subst hv
  exact xA.gS (As := [.int x, .int (nI N)]) hd hk okL_at rfl hLn hst hc1 hc2 (c_L_at d S G x N hN h0) hq rfl (kk _ (atv_lt h0))
theorem xA.cell {N : Nat} {xs : Nat → Int32} {v : Int32} {k : Nat} (hN : N ≤ 260) (hd : xfetch M pc = some (.invokestatic idx, 3)) (hk : xcS M.1.cls idx mL_cell) (hLn : L.length = M.2.2.1) (hst : (st.map Value.category).sum ≤ 8) (hc1 : c ≤ mc) (hc2 : n ≤ ms) (hv : v = nI k) (hk100 : k < 100) (hq : pc + 3 = q) (kk : ∀ w : Int32, xA (some (N, xs)) (d + 1) M c n mc ms q L (.int w :: st) (σF τ, S, G) Q) : xA (some (N, xs)) (d + 1) M c n mc ms pc L (.int v :: .retAddr 0 :: st) (σF τ, S, G) Q := by
  subst hv
  exact xA.gX (As := [.retAddr 0, .int (nI k)]) hd hk okL_cell rfl hLn hst hc1 hc2 (c_L_cell d S G N xs hN k hk100) hq rfl (kk _)
end LAT

variable {τ : List xSh}
/-! ===== an operation of the class; letters ===== -/
/-- an operation of the class: what it answers, the state behind it; the reference's cells stay -/
def opC (τ : List xSh) (d : Nat) (M : xM) (args : List Value) (s : sS) (v : Value) (s' : sS) : Prop := ∀ S G, CS S s → xC d M args ((σF τ), S, G) 0 0 (fun r h' => ∃ S', h' = ((σF τ), S', G) ∧ r = some v ∧ CS S' s' ∧ ∀ j, 54 ≤ j → S' j = S j)
theorem opC.pure {d : Nat} {M : xM} {args : List Value} {s : sS} {v : Value} (h : ∀ S G, CS S s → xR τ d M args S G (some v) S G) : opC τ d M args s v s := fun S G hc => (h S G hc).mono (fun r h' q => ⟨S, q.2, q.1, hc, fun _ _ => rfl⟩)
theorem opC.upd {d : Nat} {M : xM} {args : List Value} {s s' : sS} {v : Value} (h : ∀ S G, CS S s → ∃ S', xR τ d M args S G (some v) S' G ∧ CS S' s' ∧ ∀ j, 54 ≤ j → S' j = S j) : opC τ d M args s v s' := fun S G hc => by
  obtain ⟨S', h1, h2, h3⟩ := h S G hc
  exact h1.mono (fun r h' q => ⟨S', q.2, q.1, h2, h3⟩)
theorem hsC.to {S S' : Nat → Nat → Int32} {hr : Nat} {h : hS} (hh : hsC S hr h) (h0 : S' 0 11 = S 0 11) (h3 : S' 3 = S 3) (h4 : S' 4 = S 4) (h5 : S' 5 = S 5) : hsC S' hr h :=
  ⟨h0.trans hh.1, hh.2.1, fun z => by rw [h3]; exact hh.2.2.1 z, fun z => ⟨(hh.2.2.2 z).1.to h3 h4 h5, (hh.2.2.2 z).2⟩⟩
theorem lC.to {S S' : Nat → Nat → Int32} {k : Nat} {l : lS} (hl : lC S k l) (h1 : S' k = S k) (h2 : S' (k + 1) = S (k + 1)) : lC S' k l := ⟨by rw [h1]; exact hl.1, by rw [h1]; exact hl.2.1, by rw [h1]; exact hl.2.2.1, fun i hi => by rw [h2]; exact hl.2.2.2 i hi⟩
theorem ppC.to {S S' : Nat → Nat → Int32} {h : hS} {P : Nat} {kd : Nat → Nat} {L : Nat → lS} (hp : ppC S h P kd L) (h0 : S' 0 10 = S 0 10) (h1 : ∀ j, 42 ≤ j → j < 54 → S' j = S j) : ppC S' h P kd L :=
  ⟨h0.trans hp.1, hp.2.1, fun p hpp => by
    have h4 := hp.2.1
    obtain ⟨a1, a2, a3, a4⟩ := hp.2.2 p hpp
    exact ⟨by rw [h1 _ (by omega) (by omega)]; exact a1, a2, a3.to (h1 _ (by omega) (by omega)) (h1 _ (by omega) (by omega)), a4⟩⟩
theorem tkC.to {S S' : Nat → Nat → Int32} {k : Nat} {t : tS} (ht : tkC S k t) (h0 : S' k = S k) (h1 : S' (k + 1) = S (k + 1)) (h2 : S' (k + 2) = S (k + 2)) (h3 : S' (k + 3) = S (k + 3)) : tkC S' k t := ⟨by rw [h0]; exact ht.1, ht.2.1, fun i hi => by rw [h1, h2, h3]; exact ht.2.2 i hi⟩
theorem glC.to {S S' : Nat → Nat → Int32} {k : Nat} {g : gS} (ht : glC S k g) (h0 : S' k = S k) (h1 : S' (k + 1) = S (k + 1)) : glC S' k g := ⟨by rw [h0]; exact ht.1, ht.2.1, fun i hi => by rw [h1]; exact ht.2.2 i hi⟩
theorem imC.to {S S' : Nat → Nat → Int32} {h : hS} {im : iS} (hi : imC S h im) (h1 : ∀ j, 18 ≤ j → j < 38 → S' j = S j) : imC S' h im :=
  ⟨by rw [h1 18 (by omega) (by omega)]; exact hi.1, hi.2.1, fun z => by
    obtain ⟨a1, a2, a3, a4, a5⟩ := hi.2.2 z
    exact ⟨by rw [h1 18 (by omega) (by omega)]; exact a1, a2, fun p hp => ⟨(a3 p hp).1.to (h1 _ (by omega) (by omega)) (h1 _ (by omega) (by omega)), (a3 p hp).2⟩, a4.to (h1 _ (by omega) (by omega)) (h1 _ (by omega) (by omega)) (h1 _ (by omega) (by omega)) (h1 _ (by omega) (by omega)), a5.to (h1 _ (by omega) (by omega)) (h1 _ (by omega) (by omega))⟩⟩
/-- the drafts, the search, the walk are nobody's -/
theorem CS.scr {S S' : Nat → Nat → Int32} {s : sS} (hc : CS S s) (h : ∀ j, ¬ (6 ≤ j ∧ j < 11) → ¬ (38 ≤ j ∧ j < 42) → S' j = S j) : CS S' s := by
  obtain ⟨hpg, hho, hpp, htk, hgl, hsd, him, hno⟩ := hc
  exact ⟨hpg.to (h 1 (by omega) (by omega)) (h 2 (by omega) (by omega)), hho.to (by rw [h 0 (by omega) (by omega)]) (h 3 (by omega) (by omega)) (h 4 (by omega) (by omega)) (h 5 (by omega) (by omega)), hpp.to (by rw [h 0 (by omega) (by omega)]) (fun j h1 h2 => h j (by omega) (by omega)), htk.to (h _ (by omega) (by omega)) (h _ (by omega) (by omega)) (h _ (by omega) (by omega)) (h _ (by omega) (by omega)), hgl.to (h _ (by omega) (by omega)) (h _ (by omega) (by omega)), ⟨by rw [h 0 (by omega) (by omega)]; exact hsd.1, hsd.2⟩, him.to (fun j h1 h2 => h j (by omega) (by omega)), hno⟩
/-- the page alone changes -/
theorem CS.page {S S' : Nat → Nat → Int32} {s : sS} (hc : CS S s) (pg : Nat → Nat) (n : Nat) (hp : pgC S' pg n) (h : ∀ j, ¬ (1 ≤ j ∧ j < 3) → S' j = S j) : CS S' (pg, n, s.2.2) := by
  obtain ⟨hpg, hho, hpp, htk, hgl, hsd, him, hno⟩ := hc
  exact ⟨hp, hho.to (by rw [h 0 (by omega)]) (h 3 (by omega)) (h 4 (by omega)) (h 5 (by omega)), hpp.to (by rw [h 0 (by omega)]) (fun j h1 h2 => h j (by omega)), htk.to (h _ (by omega)) (h _ (by omega)) (h _ (by omega)) (h _ (by omega)), hgl.to (h _ (by omega)) (h _ (by omega)), ⟨by rw [h 0 (by omega)]; exact hsd.1, hsd.2⟩, him.to (fun j h1 h2 => h j (by omega)), hno⟩
/-! bytes -/
def byN (w : Int64) (i : Nat) : Nat := (w.toUInt64.toNat >>> (8 * i)) % 256
theorem byN_lt (w : Int64) (i : Nat) : byN w i < 256 := Nat.mod_lt _ (by decide)
theorem by_and (u : UInt64) : (u.toInt64 &&& 255).toInt32 = nI (u.toNat % 256) := by
  have e : u.toInt64 &&& 255 = lN (u.toNat % 256) := by
    apply Int64.toBitVec_inj.mp
    apply BitVec.eq_of_toNat_eq
    rw [Int64.toBitVec_and, BitVec.toNat_and]
    have h1 : (u.toInt64).toBitVec.toNat = u.toNat := rfl
    have h2 : ((255 : Int64)).toBitVec.toNat = 2 ^ 8 - 1 := by decide
    rw [h1, h2, Nat.and_two_pow_sub_one_eq_mod]
    have h3 : u.toNat % 2 ^ 8 < 256 := Nat.mod_lt _ (by decide)
    show _ = (BitVec.ofNat 64 (u.toNat % 256)).toNat
    rw [BitVec.toNat_ofNat]
    omega
  rw [e]
  have h2 : u.toNat % 256 < 256 := Nat.mod_lt _ (by decide)
  rw [i32_ext, Int64.toInt_toInt32, lN_toInt (by omega), nI_toInt (by omega), Int.bmod_def]
  split <;> omega
theorem by_shift (w : Int64) : ∀ i, i < 8 → ((w.toUInt64 >>> ((8 * nI i).toInt64.toUInt64 &&& Int64.toUInt64 63)).toInt64 &&& 255).toInt32 = nI (byN w i) := by
  intro i hi
  rw [by_and, byN, UInt64.toNat_shiftRight]
  have e : ∀ i, i < 8 → ((8 * nI i).toInt64.toUInt64 &&& Int64.toUInt64 63).toNat % 64 = 8 * i := by decide +kernel
  rw [e i hi]

set_option maxRecDepth 100000 in
set_option maxHeartbeats 400000 in
theorem c_X4_byteOf (d : Nat) (S : Nat → Nat → Int32) (G : Nat → Nat → Int64) (w : Int64) (i : Nat) (hi : i < 8) : xR τ d mX4_byteOf [.long w, .int (nI i)] S G (some (.int (nI (byN w i)))) S G := by
  refine xC.of okX4_byteOf (Nat.le_of_ble_eq_true rfl) (L := [_, _, _]) rfl ?_
  refine xA.lload_n (i := 0) rfl rfl rfl rfl ?_
  refine xA.bipush (v := 8) rfl (by decide) rfl ?_
  refine xA.iload_n (i := 2) rfl rfl rfl rfl ?_
  refine xA.imul rfl rfl ?_
  refine xA.lushr rfl rfl ?_
  refine xA.ldc2 (v := 255) rfl w624 rfl ?_
  refine xA.land rfl rfl ?_
  refine xA.l2i rfl rfl ?_
  refine xA.topi (by_shift w i hi) ?_
  exact xA.iret rfl rfl rfl ⟨rfl, rfl⟩
/-- letters told: how many, whether a 0 came; none: they are none -/
def ltS (b : Nat → Nat) : Nat → Option (Nat × Bool)
  | 0 => some (0, false)
  | i + 1 => (ltS b i).bind (fun q => if 126 < b i ∨ (q.2 = true ∧ ¬ b i = 0) then none else some (q.1 + (if b i = 0 then 0 else 1), decide (b i = 0)))
theorem ltS_dead {b : Nat → Nat} {i n : Nat} (h : ltS b i = none) (hi : i ≤ n) : ltS b n = none := by
  have key : ∀ t, ltS b (i + t) = none := by
    intro t
    induction t with
    | zero => exact h
    | succ t ih => show (ltS b (i + t)).bind _ = none; rw [ih]; rfl
  have e : n = i + (n - i) := by omega
  rw [e]; exact key _
/-- so many letters, then none -/
theorem ltS_spec {b : Nat → Nat} : ∀ i q, ltS b i = some q → q.1 ≤ i ∧ (∀ j, j < q.1 → ¬ b j = 0 ∧ b j ≤ 126) ∧ (∀ j, q.1 ≤ j → j < i → b j = 0) ∧ (q.2 = true ↔ q.1 < i) := by
  intro i
  induction i with
  | zero => intro q h; cases h; exact ⟨Nat.le_refl 0, fun j hj => absurd hj (Nat.not_lt_zero _), fun j _ hj => absurd hj (Nat.not_lt_zero _), by simp⟩
  | succ i ih =>
    intro q h
    obtain ⟨p, hp, h2⟩ := Option.bind_eq_some_iff.mp h
    obtain ⟨a1, a2, a3, a4⟩ := ih p hp
    split at h2
    · cases h2
    · rename_i hb
      cases h2
      by_cases hz : b i = 0
      · simp only [hz, if_true, Nat.add_zero, decide_true, true_iff]
        refine ⟨by omega, a2, fun j h1 h2 => ?_, by omega⟩
        by_cases e : j = i
        · subst e; exact hz
        · exact a3 j h1 (by omega)
      · have hpf : ¬ p.2 = true := fun z => hb (Or.inr ⟨z, hz⟩)
        have hpi : p.1 = i := by
          have := mt a4.mpr hpf
          omega
        simp only [hz, if_false, decide_false, Bool.false_eq_true, false_iff]
        refine ⟨by omega, fun j hj => ?_, fun j h1 h2 => by omega, by omega⟩
        by_cases e : j = i
        · subst e; exact ⟨hz, by omega⟩
        · exact a2 j (by omega)
def wN (w : Int64) : Option Nat := (ltS (byN w) 8).map (fun q => q.1)

set_option maxRecDepth 100000 in
set_option maxHeartbeats 400000 in
theorem c_X4_lettersIn (d : Nat) (S : Nat → Nat → Int32) (G : Nat → Nat → Int64) (w : Int64) : xR τ (d + 1) mX4_lettersIn [.long w] S G (some (.int (oI (wN w)))) S G := by
  refine xC.of okX4_lettersIn (Nat.le_of_ble_eq_true rfl) (L := [_, _, _, _, _, _]) rfl ?_
  have loop : ∀ i, i ≤ 8 → ∀ q, ltS (byN w) i = some q → ∀ x5 : Option Value, xA none (d + 1) mX4_lettersIn 0 0 0 0 7 [some (.long w), none, some (.int (nI q.1)), some (.int (xb (q.2 = true))), some (.int (nI i)), x5] [] ((σF τ), S, G) (fun r' h' => r' = (some (.int (oI (wN w)))) ∧ h' = ((σF τ), S, G)) := by
    refine xloop 8 (fun i hi ih => ?_) ?_
    · intro q hq x5
      refine xA.iload rfl rfl rfl ?_
      refine xA.bipush (v := 8) rfl (by decide) rfl ?_
      refine xA.icmp_ge (tgt := 69) rfl rfl rfl (fun h11 => ?_) (fun h11 => ?_)
      · exact absurd h11 (nI_ge (b := 8) hi (by omega))
      · refine xA.lload_n (i := 0) rfl rfl rfl rfl ?_
        refine xA.iload rfl rfl rfl ?_
        refine xA.callSi (As := [_, _]) rfl k4_15 okX4_byteOf rfl rfl (Nat.le_of_ble_eq_true rfl) (c_X4_byteOf d _ G w i hi) rfl rfl ?_
        refine xA.istore (L' := [_, _, _, _, _, _]) rfl (Nat.le_of_ble_eq_true rfl) rfl rfl ?_
        refine xA.iload rfl rfl rfl ?_
        refine xA.bipush (v := 126) rfl (by decide) rfl ?_
        have hb := byN_lt w i
        refine xA.icmp_gt (tgt := 38) rfl rfl rfl (fun h26 => ?_) (fun h26 => ?_)
        · have e26 : 126 < byN w i := (nI_ltI (a := 126) (by omega) (by omega)).mp h26
          refine xA.iconst (v := (-1)) rfl (by decide) rfl ?_
          exact xA.iret rfl rfl rfl ⟨by rw [wN, ltS_dead (i := i + 1) (by rw [ltS, hq]; show (if 126 < byN w i ∨ (q.2 = true ∧ ¬ byN w i = 0) then _ else _) = none; rw [if_pos (by first | exact Or.inl e26 | exact Or.inr ⟨h30, e35⟩)]) (by omega)]; rfl, rfl⟩
        · have e26 : ¬ 126 < byN w i := mt (nI_ltI (a := 126) (by omega) (by omega)).mpr h26
          refine xA.iload_n (i := 3) rfl rfl rfl rfl ?_
          refine xA.if_eq (tgt := 40) rfl rfl rfl (fun h30 => ?_) (fun h30 => ?_)
          · rw [xb_eq0] at h30
            refine xA.iload rfl rfl rfl ?_
            refine xA.if_ne (tgt := 49) rfl rfl rfl (fun h42 => ?_) (fun h42 => ?_)
            · have e42 : ¬ byN w i = 0 := fun z => h42 (by rw [z]; rfl)
              refine xA.iconst (v := 0) rfl (by decide) rfl ?_
              refine xA.istore_n (i := 3) (L' := [_, _, _, _, _, _]) rfl rfl (Nat.le_of_ble_eq_true rfl) rfl rfl ?_
              refine xA.iload_n (i := 2) rfl rfl rfl rfl ?_
              refine xA.iload_n (i := 3) rfl rfl rfl rfl ?_
              refine xA.if_eq (tgt := 60) rfl rfl rfl (fun h53 => ?_) (fun h53 => ?_)
              · have e53 : ¬ byN w i = 0 := by first | exact e42 | exact absurd h53 (by decide)
                refine xA.iconst (v := 1) rfl (by decide) rfl ?_
                refine xA.iadd rfl rfl ?_
                refine xA.topi ((show _ = nI (q.1 + (if byN w i = 0 then 0 else 1)) from by first | (rw [if_pos e53]; exact nI_add _ 0) | (rw [if_neg e53]; exact nI_1 _))) ?_
                refine xA.istore_n (i := 2) (L' := [_, _, _, _, _, _]) rfl rfl (Nat.le_of_ble_eq_true rfl) rfl rfl ?_
                refine xA.iinc (L' := [_, _, _, _, _, _]) rfl rfl (nI_1 i) rfl rfl ?_
                refine xA.goto (q := 7) rfl rfl ?_
                have hn : ltS (byN w) (i + 1) = some (q.1 + (if byN w i = 0 then 0 else 1), decide (byN w i = 0)) := by
                  rw [ltS, hq]
                  show (if 126 < byN w i ∨ (q.2 = true ∧ ¬ byN w i = 0) then _ else _) = _
                  rw [if_neg (by rintro (z | ⟨z1, z2⟩); exact e26 z; first | exact h30 z1 | exact z2 e35)]
                have ih := ih _ hn (some (.int (nI (byN w i))))
                dsimp only at ih
                first
                | exact absurd e42 e53
                | exact absurd e53 e42
                | (rw [xb_t (decide_eq_true e53)] at ih; exact ih)
                | (rw [xb_f (by simpa using e53)] at ih; exact ih)
              · have e53 : byN w i = 0 := by first | exact e42 | exact absurd rfl h53
                refine xA.iconst (v := 0) rfl (by decide) rfl ?_
                refine xA.goto (q := 61) rfl rfl ?_
                refine xA.iadd rfl rfl ?_
                refine xA.topi ((show _ = nI (q.1 + (if byN w i = 0 then 0 else 1)) from by first | (rw [if_pos e53]; exact nI_add _ 0) | (rw [if_neg e53]; exact nI_1 _))) ?_
                refine xA.istore_n (i := 2) (L' := [_, _, _, _, _, _]) rfl rfl (Nat.le_of_ble_eq_true rfl) rfl rfl ?_
                refine xA.iinc (L' := [_, _, _, _, _, _]) rfl rfl (nI_1 i) rfl rfl ?_
                refine xA.goto (q := 7) rfl rfl ?_
                have hn : ltS (byN w) (i + 1) = some (q.1 + (if byN w i = 0 then 0 else 1), decide (byN w i = 0)) := by
                  rw [ltS, hq]
                  show (if 126 < byN w i ∨ (q.2 = true ∧ ¬ byN w i = 0) then _ else _) = _
                  rw [if_neg (by rintro (z | ⟨z1, z2⟩); exact e26 z; first | exact h30 z1 | exact z2 e35)]
                have ih := ih _ hn (some (.int (nI (byN w i))))
                dsimp only at ih
                first
                | exact absurd e42 e53
                | exact absurd e53 e42
                | (rw [xb_t (decide_eq_true e53)] at ih; exact ih)
                | (rw [xb_f (by simpa using e53)] at ih; exact ih)
            · have e42 : byN w i = 0 := (nI_eq (b := 0) (by omega) (by omega)).mp h42
              refine xA.iconst (v := 1) rfl (by decide) rfl ?_
              refine xA.goto (q := 50) rfl rfl ?_
              refine xA.istore_n (i := 3) (L' := [_, _, _, _, _, _]) rfl rfl (Nat.le_of_ble_eq_true rfl) rfl rfl ?_
              refine xA.iload_n (i := 2) rfl rfl rfl rfl ?_
              refine xA.iload_n (i := 3) rfl rfl rfl rfl ?_
              refine xA.if_eq (tgt := 60) rfl rfl rfl (fun h53 => ?_) (fun h53 => ?_)
              · have e53 : ¬ byN w i = 0 := by first | exact e42 | exact absurd h53 (by decide)
                refine xA.iconst (v := 1) rfl (by decide) rfl ?_
                refine xA.iadd rfl rfl ?_
                refine xA.topi ((show _ = nI (q.1 + (if byN w i = 0 then 0 else 1)) from by first | (rw [if_pos e53]; exact nI_add _ 0) | (rw [if_neg e53]; exact nI_1 _))) ?_
                refine xA.istore_n (i := 2) (L' := [_, _, _, _, _, _]) rfl rfl (Nat.le_of_ble_eq_true rfl) rfl rfl ?_
                refine xA.iinc (L' := [_, _, _, _, _, _]) rfl rfl (nI_1 i) rfl rfl ?_
                refine xA.goto (q := 7) rfl rfl ?_
                have hn : ltS (byN w) (i + 1) = some (q.1 + (if byN w i = 0 then 0 else 1), decide (byN w i = 0)) := by
                  rw [ltS, hq]
                  show (if 126 < byN w i ∨ (q.2 = true ∧ ¬ byN w i = 0) then _ else _) = _
                  rw [if_neg (by rintro (z | ⟨z1, z2⟩); exact e26 z; first | exact h30 z1 | exact z2 e35)]
                have ih := ih _ hn (some (.int (nI (byN w i))))
                dsimp only at ih
                first
                | exact absurd e42 e53
                | exact absurd e53 e42
                | (rw [xb_t (decide_eq_true e53)] at ih; exact ih)
                | (rw [xb_f (by simpa using e53)] at ih; exact ih)
              · have e53 : byN w i = 0 := by first | exact e42 | exact absurd rfl h53
                refine xA.iconst (v := 0) rfl (by decide) rfl ?_
                refine xA.goto (q := 61) rfl rfl ?_
                refine xA.iadd rfl rfl ?_
                refine xA.topi ((show _ = nI (q.1 + (if byN w i = 0 then 0 else 1)) from by first | (rw [if_pos e53]; exact nI_add _ 0) | (rw [if_neg e53]; exact nI_1 _))) ?_
                refine xA.istore_n (i := 2) (L' := [_, _, _, _, _, _]) rfl rfl (Nat.le_of_ble_eq_true rfl) rfl rfl ?_
                refine xA.iinc (L' := [_, _, _, _, _, _]) rfl rfl (nI_1 i) rfl rfl ?_
                refine xA.goto (q := 7) rfl rfl ?_
                have hn : ltS (byN w) (i + 1) = some (q.1 + (if byN w i = 0 then 0 else 1), decide (byN w i = 0)) := by
                  rw [ltS, hq]
                  show (if 126 < byN w i ∨ (q.2 = true ∧ ¬ byN w i = 0) then _ else _) = _
                  rw [if_neg (by rintro (z | ⟨z1, z2⟩); exact e26 z; first | exact h30 z1 | exact z2 e35)]
                have ih := ih _ hn (some (.int (nI (byN w i))))
                dsimp only at ih
                first
                | exact absurd e42 e53
                | exact absurd e53 e42
                | (rw [xb_t (decide_eq_true e53)] at ih; exact ih)
                | (rw [xb_f (by simpa using e53)] at ih; exact ih)
          · rw [xb_ne0] at h30
            refine xA.iload rfl rfl rfl ?_
            refine xA.if_eq (tgt := 40) rfl rfl rfl (fun h35 => ?_) (fun h35 => ?_)
            · have e35 : byN w i = 0 := (nI_eq (b := 0) (by omega) (by omega)).mp h35
              refine xA.iload rfl rfl rfl ?_
              refine xA.if_ne (tgt := 49) rfl rfl rfl (fun h42 => ?_) (fun h42 => ?_)
              · have e42 : ¬ byN w i = 0 := fun z => h42 (by rw [z]; rfl)
                refine xA.iconst (v := 0) rfl (by decide) rfl ?_
                refine xA.istore_n (i := 3) (L' := [_, _, _, _, _, _]) rfl rfl (Nat.le_of_ble_eq_true rfl) rfl rfl ?_
                refine xA.iload_n (i := 2) rfl rfl rfl rfl ?_
                refine xA.iload_n (i := 3) rfl rfl rfl rfl ?_
                refine xA.if_eq (tgt := 60) rfl rfl rfl (fun h53 => ?_) (fun h53 => ?_)
                · have e53 : ¬ byN w i = 0 := by first | exact e42 | exact absurd h53 (by decide)
                  refine xA.iconst (v := 1) rfl (by decide) rfl ?_
                  refine xA.iadd rfl rfl ?_
                  refine xA.topi ((show _ = nI (q.1 + (if byN w i = 0 then 0 else 1)) from by first | (rw [if_pos e53]; exact nI_add _ 0) | (rw [if_neg e53]; exact nI_1 _))) ?_
                  refine xA.istore_n (i := 2) (L' := [_, _, _, _, _, _]) rfl rfl (Nat.le_of_ble_eq_true rfl) rfl rfl ?_
                  refine xA.iinc (L' := [_, _, _, _, _, _]) rfl rfl (nI_1 i) rfl rfl ?_
                  refine xA.goto (q := 7) rfl rfl ?_
                  have hn : ltS (byN w) (i + 1) = some (q.1 + (if byN w i = 0 then 0 else 1), decide (byN w i = 0)) := by
                    rw [ltS, hq]
                    show (if 126 < byN w i ∨ (q.2 = true ∧ ¬ byN w i = 0) then _ else _) = _
                    rw [if_neg (by rintro (z | ⟨z1, z2⟩); exact e26 z; first | exact h30 z1 | exact z2 e35)]
                  have ih := ih _ hn (some (.int (nI (byN w i))))
                  dsimp only at ih
                  first
                  | exact absurd e42 e53
                  | exact absurd e53 e42
                  | (rw [xb_t (decide_eq_true e53)] at ih; exact ih)
                  | (rw [xb_f (by simpa using e53)] at ih; exact ih)
                · have e53 : byN w i = 0 := by first | exact e42 | exact absurd rfl h53
                  refine xA.iconst (v := 0) rfl (by decide) rfl ?_
                  refine xA.goto (q := 61) rfl rfl ?_
                  refine xA.iadd rfl rfl ?_
                  refine xA.topi ((show _ = nI (q.1 + (if byN w i = 0 then 0 else 1)) from by first | (rw [if_pos e53]; exact nI_add _ 0) | (rw [if_neg e53]; exact nI_1 _))) ?_
                  refine xA.istore_n (i := 2) (L' := [_, _, _, _, _, _]) rfl rfl (Nat.le_of_ble_eq_true rfl) rfl rfl ?_
                  refine xA.iinc (L' := [_, _, _, _, _, _]) rfl rfl (nI_1 i) rfl rfl ?_
                  refine xA.goto (q := 7) rfl rfl ?_
                  have hn : ltS (byN w) (i + 1) = some (q.1 + (if byN w i = 0 then 0 else 1), decide (byN w i = 0)) := by
                    rw [ltS, hq]
                    show (if 126 < byN w i ∨ (q.2 = true ∧ ¬ byN w i = 0) then _ else _) = _
                    rw [if_neg (by rintro (z | ⟨z1, z2⟩); exact e26 z; first | exact h30 z1 | exact z2 e35)]
                  have ih := ih _ hn (some (.int (nI (byN w i))))
                  dsimp only at ih
                  first
                  | exact absurd e42 e53
                  | exact absurd e53 e42
                  | (rw [xb_t (decide_eq_true e53)] at ih; exact ih)
                  | (rw [xb_f (by simpa using e53)] at ih; exact ih)
              · have e42 : byN w i = 0 := (nI_eq (b := 0) (by omega) (by omega)).mp h42
                refine xA.iconst (v := 1) rfl (by decide) rfl ?_
                refine xA.goto (q := 50) rfl rfl ?_
                refine xA.istore_n (i := 3) (L' := [_, _, _, _, _, _]) rfl rfl (Nat.le_of_ble_eq_true rfl) rfl rfl ?_
                refine xA.iload_n (i := 2) rfl rfl rfl rfl ?_
                refine xA.iload_n (i := 3) rfl rfl rfl rfl ?_
                refine xA.if_eq (tgt := 60) rfl rfl rfl (fun h53 => ?_) (fun h53 => ?_)
                · have e53 : ¬ byN w i = 0 := by first | exact e42 | exact absurd h53 (by decide)
                  refine xA.iconst (v := 1) rfl (by decide) rfl ?_
                  refine xA.iadd rfl rfl ?_
                  refine xA.topi ((show _ = nI (q.1 + (if byN w i = 0 then 0 else 1)) from by first | (rw [if_pos e53]; exact nI_add _ 0) | (rw [if_neg e53]; exact nI_1 _))) ?_
                  refine xA.istore_n (i := 2) (L' := [_, _, _, _, _, _]) rfl rfl (Nat.le_of_ble_eq_true rfl) rfl rfl ?_
                  refine xA.iinc (L' := [_, _, _, _, _, _]) rfl rfl (nI_1 i) rfl rfl ?_
                  refine xA.goto (q := 7) rfl rfl ?_
                  have hn : ltS (byN w) (i + 1) = some (q.1 + (if byN w i = 0 then 0 else 1), decide (byN w i = 0)) := by
                    rw [ltS, hq]
                    show (if 126 < byN w i ∨ (q.2 = true ∧ ¬ byN w i = 0) then _ else _) = _
                    rw [if_neg (by rintro (z | ⟨z1, z2⟩); exact e26 z; first | exact h30 z1 | exact z2 e35)]
                  have ih := ih _ hn (some (.int (nI (byN w i))))
                  dsimp only at ih
                  first
                  | exact absurd e42 e53
                  | exact absurd e53 e42
                  | (rw [xb_t (decide_eq_true e53)] at ih; exact ih)
                  | (rw [xb_f (by simpa using e53)] at ih; exact ih)
                · have e53 : byN w i = 0 := by first | exact e42 | exact absurd rfl h53
                  refine xA.iconst (v := 0) rfl (by decide) rfl ?_
                  refine xA.goto (q := 61) rfl rfl ?_
                  refine xA.iadd rfl rfl ?_
                  refine xA.topi ((show _ = nI (q.1 + (if byN w i = 0 then 0 else 1)) from by first | (rw [if_pos e53]; exact nI_add _ 0) | (rw [if_neg e53]; exact nI_1 _))) ?_
                  refine xA.istore_n (i := 2) (L' := [_, _, _, _, _, _]) rfl rfl (Nat.le_of_ble_eq_true rfl) rfl rfl ?_
                  refine xA.iinc (L' := [_, _, _, _, _, _]) rfl rfl (nI_1 i) rfl rfl ?_
                  refine xA.goto (q := 7) rfl rfl ?_
                  have hn : ltS (byN w) (i + 1) = some (q.1 + (if byN w i = 0 then 0 else 1), decide (byN w i = 0)) := by
                    rw [ltS, hq]
                    show (if 126 < byN w i ∨ (q.2 = true ∧ ¬ byN w i = 0) then _ else _) = _
                    rw [if_neg (by rintro (z | ⟨z1, z2⟩); exact e26 z; first | exact h30 z1 | exact z2 e35)]
                  have ih := ih _ hn (some (.int (nI (byN w i))))
                  dsimp only at ih
                  first
                  | exact absurd e42 e53
                  | exact absurd e53 e42
                  | (rw [xb_t (decide_eq_true e53)] at ih; exact ih)
                  | (rw [xb_f (by simpa using e53)] at ih; exact ih)
            · have e35 : ¬ byN w i = 0 := fun z => h35 (by rw [z]; rfl)
              refine xA.iconst (v := (-1)) rfl (by decide) rfl ?_
              exact xA.iret rfl rfl rfl ⟨by rw [wN, ltS_dead (i := i + 1) (by rw [ltS, hq]; show (if 126 < byN w i ∨ (q.2 = true ∧ ¬ byN w i = 0) then _ else _) = none; rw [if_pos (by first | exact Or.inl e26 | exact Or.inr ⟨h30, e35⟩)]) (by omega)]; rfl, rfl⟩
    · intro q hq x5
      refine xA.iload rfl rfl rfl ?_
      refine xA.bipush (v := 8) rfl (by decide) rfl ?_
      refine xA.icmp_ge (tgt := 69) rfl rfl rfl (fun h11 => ?_) (fun h11 => ?_)
      · refine xA.iload_n (i := 2) rfl rfl rfl rfl ?_
        exact xA.iret rfl rfl rfl ⟨by rw [wN, hq]; rfl, rfl⟩
      · exact absurd (nI_le (a := 8) (b := 8) (Nat.le_refl _) (by omega)) h11
  refine xA.iconst (v := 0) rfl (by decide) rfl ?_
  refine xA.istore_n (i := 2) (L' := [_, _, _, _, _, _]) rfl rfl (Nat.le_of_ble_eq_true rfl) rfl rfl ?_
  refine xA.iconst (v := 0) rfl (by decide) rfl ?_
  refine xA.istore_n (i := 3) (L' := [_, _, _, _, _, _]) rfl rfl (Nat.le_of_ble_eq_true rfl) rfl rfl ?_
  refine xA.iconst (v := 0) rfl (by decide) rfl ?_
  refine xA.istore (L' := [_, _, _, _, _, _]) rfl (Nat.le_of_ble_eq_true rfl) rfl rfl ?_
  exact loop 0 (Nat.zero_le _) (0, false) rfl _
/-- the page behind c letters more -/
def pgA (pg : Nat → Nat) (n : Nat) (b : Nat → Nat) : Nat → Nat := fun i => if i < n then pg i else b (i - n)
def paS (S : Nat → Nat → Int32) (n c : Nat) (b : Nat → Nat) : Nat → Nat → Int32 := fun j i => if j = 1 then (if i = 1 then nI (n + c) else S j i) else if j = 2 then (if n ≤ i ∧ i < n + c then nI (b (i - n)) else S j i) else S j i
theorem paS_0 {S : Nat → Nat → Int32} {n : Nat} {b : Nat → Nat} (hn : S 1 1 = nI n) : S = paS S n 0 b := by
  funext j q
  simp only [paS]
  by_cases j1 : j = 1
  · subst j1
    by_cases q1 : q = 1
    · subst q1; simp [hn]
    · simp [q1]
  · rw [if_neg j1, if_neg (by omega : ¬ (n ≤ q ∧ q < n + 0))]
    simp
theorem paS_step {S : Nat → Nat → Int32} {n i : Nat} {b : Nat → Nat} : xu (xu (paS S n i b) 2 (n + i) (nI (b i))) 1 1 (nI (n + i + 1)) = paS S n (i + 1) b := by
  funext j q
  simp only [paS, xu]
  by_cases j1 : j = 1
  · subst j1
    by_cases q1 : q = 1
    · simp [q1, Nat.add_assoc]
    · simp [q1]
  · rw [if_neg j1, if_neg j1, if_neg j1]
    by_cases j2 : j = 2
    · subst j2
      simp only [if_true]
      by_cases q1 : q = n + i
      · subst q1
        rw [if_pos rfl, if_pos (by omega), Nat.add_sub_cancel_left]
      · rw [if_neg q1]
        by_cases q2 : n ≤ q ∧ q < n + i
        · rw [if_pos q2, if_pos (by omega)]
        · rw [if_neg q2, if_neg (by omega)]
    · rw [if_neg j2, if_neg j2, if_neg j2]

set_option maxRecDepth 100000 in
set_option maxHeartbeats 1000000 in
theorem c_X4_addAll (d : Nat) (S : Nat → Nat → Int32) (G : Nat → Nat → Int64) (w : Int64) (n c : Nat) (hn : S 1 1 = nI n) (hc8 : c ≤ 8) (hnc : n + c ≤ 45) (hnz : ∀ j, j < c → ¬ byN w j = 0 ∧ byN w j ≤ 126) (hz : ∀ j, c ≤ j → j < 8 → byN w j = 0) : xR τ (d + 1) mX4_addAll [.ref 1, .long w] S G none (paS S n c (byN w)) G := by
  refine xC.of okX4_addAll (Nat.le_of_ble_eq_true rfl) (L := [_, _, _, _, _]) rfl ?_
  have loop : ∀ i, i ≤ 8 → ∀ x4 : Option Value, xA none (d + 1) mX4_addAll 0 0 0 0 2 [some (.ref 1), some (.long w), none, some (.int (nI i)), x4] [] ((σF τ), paS S n (if i < c then i else c) (byN w), G) (fun r' h' => r' = none ∧ h' = ((σF τ), (paS S n c (byN w)), G)) := by
    refine xloop 8 (fun i hi ih => ?_) ?_
    · intro x4
      refine xA.iload_n (i := 3) rfl rfl rfl rfl ?_
      refine xA.bipush (v := 8) rfl (by decide) rfl ?_
      refine xA.icmp_ge (tgt := 66) rfl rfl rfl (fun h5 => ?_) (fun h5 => ?_)
      · exact absurd h5 (nI_ge (b := 8) hi (by omega))
      · refine xA.lload_n (i := 1) rfl rfl rfl rfl ?_
        refine xA.iload_n (i := 3) rfl rfl rfl rfl ?_
        refine xA.callSi (As := [_, _]) rfl k4_15 okX4_byteOf rfl rfl (Nat.le_of_ble_eq_true rfl) (c_X4_byteOf d _ G w i hi) rfl rfl ?_
        refine xA.istore (L' := [_, _, _, _, _]) rfl (Nat.le_of_ble_eq_true rfl) rfl rfl ?_
        refine xA.iload rfl rfl rfl ?_
        have hb := byN_lt w i
        have hcn : (if i < c then i else c) ≤ c := by split <;> omega
        refine xA.if_eq (tgt := 60) rfl rfl rfl (fun h17 => ?_) (fun h17 => ?_)
        · have e17 : byN w i = 0 := (nI_eq (b := 0) (by omega) (by omega)).mp h17
          have hic : ¬ i < c := fun z => (hnz i z).1 e17
          refine xA.iinc (L' := [_, _, _, _, _]) rfl rfl (nI_1 i) rfl rfl ?_
          refine xA.goto (q := 2) rfl rfl ?_
          have ih := ih (some (.int (nI (byN w i))))
          first
          | (rw [if_neg hic]; rw [if_neg (by omega)] at ih; exact ih)
          | (refine xA.store (S' := paS S n (i + 1) (byN w)) (by rw [if_pos hic, nI_clamp (by omega)]; exact paS_step) ?_; rw [show (if i + 1 < c then i + 1 else c) = i + 1 from by split <;> omega] at ih; exact ih)
        · 
          refine xA.aload_n (i := 0) rfl rfl rfl rfl ?_
          have e17 : ¬ byN w i = 0 := fun z => h17 (by rw [z]; rfl)
          have hic : i < c := by
            rcases Nat.lt_or_ge i c with z | z
            · exact z
            · exact absurd (hz i z hi) e17
          have hX : (if i < c then i else c) = i := if_pos hic
          refine xA.getI rfl f4_21 rfl rfl rfl ?_
          refine xA.topi ((show _ = nI (n + (if i < c then i else c)) from by simp [paS])) ?_
          refine xA.if_lt (tgt := 60) rfl rfl rfl (fun h24 => ?_) (fun h24 => ?_)
          · exact absurd h24 (nI_pos (by omega))
          · refine xA.aload_n (i := 0) rfl rfl rfl rfl ?_
            refine xA.getI rfl f4_21 rfl rfl rfl ?_
            refine xA.topi ((show _ = nI (n + (if i < c then i else c)) from by simp [paS])) ?_
            refine xA.aload_n (i := 0) rfl rfl rfl rfl ?_
            refine xA.getR rfl f4_9 rfl rfl rfl rfl ?_
            refine xA.alen rfl rfl rfl ?_
            refine xA.icmp_ge (tgt := 60) rfl rfl rfl (fun h36 => ?_) (fun h36 => ?_)
            · exact absurd h36 (nI_ge (b := 45) (by omega) (by omega))
            · refine xA.aload_n (i := 0) rfl rfl rfl rfl ?_
              refine xA.getR rfl f4_9 rfl rfl rfl rfl ?_
              refine xA.aload_n (i := 0) rfl rfl rfl rfl ?_
              refine xA.getI rfl f4_21 rfl rfl rfl ?_
              refine xA.topi ((show _ = nI (n + (if i < c then i else c)) from by simp [paS])) ?_
              refine xA.iload rfl rfl rfl ?_
              refine xA.iast rfl rfl (vp_in_nI (by omega) (by omega)) rfl ?_
              refine xA.aload_n (i := 0) rfl rfl rfl rfl ?_
              refine xA.dup rfl rfl rfl ?_
              refine xA.getI rfl f4_21 rfl rfl rfl ?_
              refine xA.topi ((show _ = nI (n + (if i < c then i else c)) from by simp [paS, xu])) ?_
              refine xA.iconst (v := 1) rfl (by decide) rfl ?_
              refine xA.iadd rfl rfl ?_
              refine xA.topi (nI_1 _) ?_
              refine xA.putI rfl p4_21 rfl rfl rfl ?_
              refine xA.iinc (L' := [_, _, _, _, _]) rfl rfl (nI_1 i) rfl rfl ?_
              refine xA.goto (q := 2) rfl rfl ?_
              have ih := ih (some (.int (nI (byN w i))))
              first
              | (rw [if_neg hic]; rw [if_neg (by omega)] at ih; exact ih)
              | (refine xA.store (S' := paS S n (i + 1) (byN w)) (by rw [if_pos hic, nI_clamp (by omega)]; exact paS_step) ?_; rw [show (if i + 1 < c then i + 1 else c) = i + 1 from by split <;> omega] at ih; exact ih)
    · intro x4
      refine xA.iload_n (i := 3) rfl rfl rfl rfl ?_
      refine xA.bipush (v := 8) rfl (by decide) rfl ?_
      refine xA.icmp_ge (tgt := 66) rfl rfl rfl (fun h5 => ?_) (fun h5 => ?_)
      · have e9 : (if 8 < c then 8 else c) = c := if_neg (by omega)
        rw [e9]
        exact xA.vret rfl rfl ⟨rfl, rfl⟩
      · exact absurd (nI_le (a := 8) (b := 8) (Nat.le_refl _) (by omega)) h5
  refine xA.iconst (v := 0) rfl (by decide) rfl ?_
  refine xA.istore_n (i := 3) (L' := [_, _, _, _, _]) rfl rfl (Nat.le_of_ble_eq_true rfl) rfl rfl ?_
  refine xA.store (S' := paS S n (if 0 < c then 0 else c) (byN w)) (by rw [show (if 0 < c then 0 else c) = 0 from by split <;> omega]; exact paS_0 hn) ?_
  exact loop 0 (Nat.zero_le _) _
theorem pgA_ok {S : Nat → Nat → Int32} {pg b : Nat → Nat} {n c : Nat} (hp : pgC S pg n) (h45 : n + c ≤ 45) (hb : ∀ j, j < c → b j ≤ 126) : pgC (paS S n c b) (pgA pg n b) (n + c) := by
  refine ⟨by simp [paS], h45, fun i hi => ?_, fun i hi => ?_⟩
  · show paS S n c b 2 i = nI (pgA pg n b i)
    simp only [paS, pgA]
    by_cases q : i < n
    · rw [if_neg (by omega), if_pos trivial, if_neg (by omega), if_pos q]
      exact hp.2.2.1 i q
    · rw [if_neg (by omega), if_pos trivial, if_pos (by omega), if_neg q]
  · show pgA pg n b i ≤ 126
    simp only [pgA]
    by_cases q : i < n
    · rw [if_pos q]; exact hp.2.2.2 i q
    · rw [if_neg q]; exact hb _ (by omega)
def aLetters (s : sS) (w : Int64) : Int32 := match wN w with
  | none => -102
  | some c => if 45 < sN s + c then -104 else nI (sN s + c)
def tLetters (s : sS) (w : Int64) : sS := match wN w with
  | none => s
  | some c => if 45 < sN s + c then s else (pgA (sPg s) (sN s) (byN w), sN s + c, s.2.2)

set_option maxRecDepth 100000 in
set_option maxHeartbeats 1000000 in
theorem o_letters (d : Nat) (s : sS) (w : Int64) : opC τ (d + 2) mX9_letters [.ref 0, .long w] s (.int (aLetters s w)) (tLetters s w) := by
  intro S G hc
  have hpg := hc.1
  have hn45 := hpg.2.1
  refine xC.of okX9_letters (Nat.le_of_ble_eq_true rfl) (L := [_, _, _, _]) rfl ?_
  refine xA.lload_n (i := 1) rfl rfl rfl rfl ?_
  refine xA.callSi (As := [_]) rfl k9_75 okX4_lettersIn rfl rfl (Nat.le_of_ble_eq_true rfl) (c_X4_lettersIn d _ G w) rfl rfl ?_
  refine xA.istore_n (i := 3) (L' := [_, _, _, _]) rfl rfl (Nat.le_of_ble_eq_true rfl) rfl rfl ?_
  rcases hw : wN w with _ | c
  · skip
    refine xA.iload_n (i := 3) rfl rfl rfl rfl ?_
    refine xA.iconst (v := (-1)) rfl (by decide) rfl ?_
    refine xA.icmp_ne (tgt := 13) rfl rfl rfl (fun h7 => ?_) (fun h7 => ?_)
    · exact absurd rfl h7
    · refine xA.bipush (v := (-102)) rfl (by decide) rfl ?_
      exact xA.iret rfl rfl rfl ⟨S, rfl, by simp only [aLetters, hw], by simp only [tLetters, hw]; exact hc, fun _ _ => rfl⟩
  · obtain ⟨q, hq, hqc⟩ := Option.map_eq_some_iff.mp (show Option.map (fun q => q.1) (ltS (byN w) 8) = some c from hw)
    have hqc : q.1 = c := hqc
    obtain ⟨a1, a2, a3, a4⟩ := ltS_spec 8 q hq
    rw [hqc] at a1 a2 a3
    refine xA.iload_n (i := 3) rfl rfl rfl rfl ?_
    refine xA.iconst (v := (-1)) rfl (by decide) rfl ?_
    refine xA.icmp_ne (tgt := 13) rfl rfl rfl (fun h7 => ?_) (fun h7 => ?_)
    · refine xA.aload_n (i := 0) rfl rfl rfl rfl ?_
      refine xA.getR rfl f9_12 rfl rfl rfl rfl ?_
      refine xA.callVi (As := []) rfl k9_79 okX4_length rfl rfl rfl rfl (Nat.le_of_ble_eq_true rfl) (c_X4_length (d + 1) _ G) rfl rfl ?_
      refine xA.topi hpg.1 ?_
      refine xA.iload_n (i := 3) rfl rfl rfl rfl ?_
      refine xA.iadd rfl rfl ?_
      refine xA.topi (nI_add _ _) ?_
      refine xA.bipush (v := 45) rfl (by decide) rfl ?_
      refine xA.icmp_le (tgt := 30) rfl rfl rfl (fun h24 => ?_) (fun h24 => ?_)
      · have e24 : ¬ 45 < sN s + c := by
          have := (nI_leI (a := sN s + c) (b := 45) (by omega) (by omega)).mp h24; omega
        refine xA.aload_n (i := 0) rfl rfl rfl rfl ?_
        refine xA.getR rfl f9_12 rfl rfl rfl rfl ?_
        refine xA.lload_n (i := 1) rfl rfl rfl rfl ?_
        refine xA.callVv (As := [_]) rfl k9_83 okX4_addAll rfl rfl rfl rfl (Nat.le_of_ble_eq_true rfl) (c_X4_addAll d _ G w (sN s) c hpg.1 a1 (by omega) a2 a3) rfl rfl ?_
        refine xA.aload_n (i := 0) rfl rfl rfl rfl ?_
        refine xA.getR rfl f9_12 rfl rfl rfl rfl ?_
        refine xA.callVi (As := []) rfl k9_79 okX4_length rfl rfl rfl rfl (Nat.le_of_ble_eq_true rfl) (c_X4_length (d + 1) _ G) rfl rfl ?_
        refine xA.topi (show _ = nI (sN s + c) from by simp [paS]) ?_
        exact xA.iret rfl rfl rfl ⟨_, rfl, by simp only [aLetters, hw, e24, if_false], by simp only [tLetters, hw, e24, if_false]; exact hc.page _ _ (pgA_ok hpg (by omega) (fun j hj => (a2 j hj).2)) (fun j hj => by funext q; simp only [paS]; rw [if_neg (by omega), if_neg (by omega)]), fun j hj => by funext q; simp only [paS]; rw [if_neg (by omega), if_neg (by omega)]⟩
      · refine xA.bipush (v := (-104)) rfl (by decide) rfl ?_
        have e24 : 45 < sN s + c := by
          have := mt (nI_leI (a := sN s + c) (b := 45) (by omega) (by omega)).mpr h24; omega
        exact xA.iret rfl rfl rfl ⟨S, rfl, by simp only [aLetters, hw, e24, if_true], by simp only [tLetters, hw, e24, if_true]; exact hc, fun _ _ => rfl⟩
    · exact absurd h7 (nI_m1 (by omega))

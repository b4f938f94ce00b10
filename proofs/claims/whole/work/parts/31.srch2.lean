/-! ===== the search's walk ===== -/
theorem xu_c {S : Nat → Nat → Int32} {a k j : Nat} {v : Int32} (h : ¬ j = a) : xu S a k v j = S j := by funext q; simp [xu, h]
def NX (h : hS) (lp sp s : Nat) : Option Nat := nxH (hD h) (hLo h) (sp / 6) (sp % 6) s lp
def dIt (tk : tS) (sp : Nat) : Int32 := orI (tkN tk sp) tk.1
theorem dIt_n (tk : tS) (h5 : tk.1 ≤ 5) (sp : Nat) : ∃ x, x < 32 ∧ dIt tk sp = nI x := by
  have key : ∀ n, n ≤ 5 → ∃ x, x < 2 ^ n ∧ orI (tkN tk sp) n = nI x := by
    intro n
    induction n with
    | zero => intro _; exact ⟨0, by decide, rfl⟩
    | succ n ih =>
      intro hn
      obtain ⟨x, hx, e⟩ := ih (by omega)
      rw [orI, e, tkN]
      have h2 : (2 : Nat) ^ (n + 1) = 2 ^ n * 2 := Nat.pow_succ ..
      split
      · rw [nI_shl n (by omega), nI_or]
        exact ⟨_, Nat.or_lt_two_pow (by omega) (Nat.pow_lt_pow_right (by decide) (by omega)), rfl⟩
      · exact ⟨x, by omega, by rw [Int32.or_zero]⟩
  obtain ⟨x, hx, e⟩ := key tk.1 h5
  exact ⟨x, Nat.lt_of_lt_of_le hx (Nat.pow_le_pow_right (by decide) h5), e⟩
theorem NX_lt {h : hS} {lp sp s q : Nat} (hq : NX h lp sp s = some q) (h3 : sp < 360) (hs : s < 8) : q < 360 := nxH_lt hq (by omega) (Nat.mod_lt _ (by decide)) hs
/-- the search knows the house, whom it is for, and what was reached -/
def SI (S : Nat → Nat → Int32) (h : hS) (kd lp : Nat) (tk : tS) (set : Int32) : Prop := hSd S h ∧ S 38 2 = nI kd ∧ S 38 3 = nI lp ∧ S 38 4 = set ∧ ∀ l sp, l ≤ 6 → sp < 360 → S 39 (l * 360 + sp) = rS (NX h lp) (dIt tk) l sp ∨ (S 39 (l * 360 + sp) = -1 ∧ 0 < l)
theorem SI.to {S S' : Nat → Nat → Int32} {h : hS} {kd lp : Nat} {tk : tS} {set : Int32} (hs : SI S h kd lp tk set) (h3 : S' 3 = S 3) (h4 : S' 4 = S 4) (h5 : S' 5 = S 5) (a2 : S' 38 2 = S 38 2) (a3 : S' 38 3 = S 38 3) (a4 : S' 38 4 = S 38 4) (a9 : S' 39 = S 39) : SI S' h kd lp tk set :=
  ⟨hs.1.to h3 h4 h5, a2.trans hs.2.1, a3.trans hs.2.2.1, a4.trans hs.2.2.2.1, by rw [a9]; exact hs.2.2.2.2⟩
theorem SI.put {S : Nat → Nat → Int32} {h : hS} {kd lp : Nat} {tk : tS} {set : Int32} (hs : SI S h kd lp tk set) {l sp : Nat} (hsp : sp < 360) : SI (xu S 39 (l * 360 + sp) (rS (NX h lp) (dIt tk) l sp)) h kd lp tk set := by
  refine ⟨hs.1.to (by funext q; simp [xu]) (by funext q; simp [xu]) (by funext q; simp [xu]), by simp only [xu]; exact hs.2.1, by simp only [xu]; exact hs.2.2.1, by simp only [xu]; exact hs.2.2.2.1, fun l2 sp2 hl2 hsp2 => ?_⟩
  simp only [xu, if_true]
  by_cases e : l2 * 360 + sp2 = l * 360 + sp
  · have e1 : l2 = l := by omega
    have e2 : sp2 = sp := by omega
    subst e1 e2
    rw [if_pos rfl]; exact Or.inl rfl
  · rw [if_neg e]; exact hs.2.2.2.2 l2 sp2 hl2 hsp2
/-- the marks -/
def MK (S : Nat → Nat → Int32) (kd : Nat) (p : List Nat) : Prop := kd = 3 ∨ kd = 4 ∨ ∀ m, m < 60 → S 40 m = nI (mkN p m)
theorem spx (sp : Nat) : nI sp = nI (sp / 6 * 6 + sp % 6) := by rw [show sp / 6 * 6 + sp % 6 = sp by omega]
theorem met_iff {S : Nat → Nat → Int32} {h : hS} {kd lp : Nat} {tk : tS} {set : Int32} (hs : SI S h kd lp tk set) (hk : kd < 5) {p : List Nat} (hm : MK S kd p) {sp : Nat} (h3 : sp < 360) : (S 40 (sp / 6) &&& mrm (S 38 2) (sp % 6) (S 5 (sp % 6)) = 0) ↔ okP (mtB h kd) p sp = true := by
  have hr : sp % 6 < 6 := Nat.mod_lt _ (by decide)
  rw [hs.2.1, show S 5 (sp % 6) = nI (hSr h (sp % 6)) from hs.1.1.2.2.2.2.2.2.2 _ hr]
  obtain ⟨y, hy, e, hb⟩ := mrm_n hs.1.2.1 hk hr
  rw [e, okP, List.all_eq_true]
  by_cases h34 : kd = 3 ∨ kd = 4
  · have hz : ∀ b, b < 6 → y.testBit b = false := fun b hb6 => by
      rcases Bool.eq_false_or_eq_true (y.testBit b) with z | z
      · have := (hb b hb6).mp z
        unfold seeB at this
        rw [if_pos h34] at this; cases this
      · exact z
    have hy0 : y = 0 := by
      have : ∀ y, y < 64 → (∀ b, b < 6 → y.testBit b = false) → y = 0 := by decide +kernel
      exact this y hy hz
    rw [hy0, show nI 0 = 0 from rfl, Int32.and_zero]
    refine ⟨fun _ q _ => ?_, fun _ => rfl⟩
    unfold mtB seeB
    rw [if_pos h34, Bool.and_false]; rfl
  · rw [hm.resolve_left (fun z => h34 (Or.inl z)) |>.resolve_left (fun z => h34 (Or.inr z)) _ (by omega), and_0 _ (mkN_lt _ _) _ hy]
    constructor
    · intro hx q hq
      rcases Bool.eq_false_or_eq_true (mtB h kd sp q) with z | z
      · exfalso
        unfold mtB at z
        rw [Bool.and_eq_true, decide_eq_true_eq] at z
        exact hx (q % 6) (Nat.mod_lt _ (by decide)) ⟨(mkN_bit _ _ _ (Nat.mod_lt _ (by decide))).mpr ⟨q, hq, z.1, rfl⟩, (hb _ (Nat.mod_lt _ (by decide))).mpr z.2⟩
      · rw [z]; rfl
    · rintro hx b hb6 ⟨z1, z2⟩
      obtain ⟨q, hq, e1, e2⟩ := (mkN_bit _ _ _ hb6).mp z1
      have h5 := hx q hq
      unfold mtB at h5
      rw [e1, e2, (hb b hb6).mp z2] at h5
      simp at h5
theorem MK.enter {S : Nat → Nat → Int32} {kd : Nat} {p : List Nat} (hm : MK S kd p) {sp : Nat} (h3 : sp < 360) : MK (xu S 40 (sp / 6) (S 40 (sp / 6) ||| 1 <<< (nI (sp % 6) &&& 31))) kd (sp :: p) := by
  refine hm.imp id (fun z => z.imp id (fun z m hm6 => ?_))
  simp only [xu, if_true, mkN]
  by_cases e : m = sp / 6
  · subst e; rw [if_pos rfl, if_pos rfl, z _ (by omega), nI_shlx _ (Nat.mod_lt _ (by decide)), nI_or]
  · rw [if_neg e, if_neg (fun q => e q.symm), z m hm6]
theorem MK.leave {S : Nat → Nat → Int32} {h : hS} {kd : Nat} {p : List Nat} {sp : Nat} (hm : MK S kd (sp :: p)) (h3 : sp < 360) (hok : okP (mtB h kd) p sp = true) : MK (xu S 40 (sp / 6) (S 40 (sp / 6) &&& ((1 <<< (nI (sp % 6) &&& 31)) ^^^ -1))) kd p := by
  by_cases h34 : kd = 3 ∨ kd = 4
  · exact h34.elim Or.inl (fun z => Or.inr (Or.inl z))
  · refine Or.inr (Or.inr fun m hm6 => ?_)
    have z := (hm.resolve_left (fun z => h34 (Or.inl z))).resolve_left (fun z => h34 (Or.inr z))
    simp only [xu, if_true]
    by_cases e : m = sp / 6
    · subst e
      rw [if_pos rfl, z _ (by omega), mkN, if_pos rfl]
      refine nI_clr _ (mkN_lt _ _) _ (Nat.mod_lt _ (by decide)) ?_
      rcases Bool.eq_false_or_eq_true ((mkN p (sp / 6)).testBit (sp % 6)) with w | w
      · exfalso
        obtain ⟨q, hq, e1, e2⟩ := (mkN_bit _ _ _ (Nat.mod_lt _ (by decide))).mp w
        have h5 := List.all_eq_true.mp hok q hq
        unfold mtB seeB at h5
        rw [if_neg h34, e1, e2] at h5
        simp at h5
      · exact w
    · rw [if_neg e, z m hm6, mkN, if_neg (fun q => e q.symm)]
theorem MK.to {S S' : Nat → Nat → Int32} {kd : Nat} {p : List Nat} (hm : MK S kd p) (h : S' 40 = S 40) : MK S' kd p := hm.imp id (fun z => z.imp id (fun z m h6 => by rw [h]; exact z m h6))

set_option maxRecDepth 100000 in
theorem c_reachN (d : Nat) (S : Nat → Nat → Int32) (G : Nat → Nat → Int64) (x : Int32) : xR d mX6_reachFrom [.ref 38, .ref 3, .int (-1), .int x] S G (some (.int 0)) S G := by
  refine xC.of okX6_reachFrom (Nat.le_of_ble_eq_true rfl) (L := [_, _, _, _, _, _, _]) rfl ?_
  refine xA.iload_n (i := 2) rfl rfl rfl rfl ?_
  refine xA.if_lt (tgt := 21) rfl rfl rfl (fun h1 => ?_) (fun h1 => ?_)
  · refine xA.iconst (v := 0) rfl (by decide) rfl ?_
    exact xA.iret rfl rfl rfl ⟨rfl, rfl⟩
  · exact absurd (by decide) h1
set_option maxRecDepth 100000 in
set_option maxHeartbeats 1000000 in
theorem c_reach (G : Nat → Nat → Int64) (h : hS) (kd lp : Nat) (tk : tS) (set : Int32) (hlp : lp ≤ 10) (htk5 : tk.1 ≤ 5) : ∀ l, l ≤ 6 → ∀ D S sp, l + 4 ≤ D → sp < 360 → SI S h kd lp tk set → xC D mX6_reachFrom [.ref 38, .ref 3, .int (nI sp), .int (nI l)] (σF, S, G) 0 0 (fun r h' => ∃ S', h' = (σF, S', G) ∧ r = some (.int (rS (NX h lp) (dIt tk) l sp)) ∧ SI S' h kd lp tk set ∧ ∀ j, ¬ j = 39 → S' j = S j) := by
  intro l
  induction l with
  | zero =>
    intro hl D S sp hDp hsp hs
    have h0 := (hs.2.2.2.2 0 sp (by omega) hsp).resolve_right (fun q => absurd q.2 (Nat.lt_irrefl _))
    have hne : ¬ S 39 (0 * 360 + sp) = -1 := by
      rw [h0]
      obtain ⟨x, hx, e⟩ := dIt_n tk htk5 sp
      rw [rS, e]; exact nI_m1 (by omega)
    refine xC.of okX6_reachFrom (Nat.le_of_ble_eq_true rfl) (L := [_, _, _, _, _, _, _]) rfl ?_
    refine xA.iload_n (i := 2) rfl rfl rfl rfl ?_
    refine xA.if_lt (tgt := 21) rfl rfl rfl (fun h1 => ?_) (fun h1 => ?_)
    · exact absurd h1 (nI_pos (by omega))
    · refine xA.iload_n (i := 2) rfl rfl rfl rfl ?_
      refine xA.sipush (v := 360) rfl (by decide) rfl ?_
      refine xA.icmp_ge (tgt := 21) rfl rfl rfl (fun h8 => ?_) (fun h8 => ?_)
      · exact absurd h8 (nI_ge (b := 360) hsp (by omega))
      · refine xA.iload_n (i := 3) rfl rfl rfl rfl ?_
        refine xA.if_lt (tgt := 21) rfl rfl rfl (fun h12 => ?_) (fun h12 => ?_)
        · exact absurd h12 (nI_pos (by omega))
        · refine xA.iload_n (i := 3) rfl rfl rfl rfl ?_
          refine xA.bipush (v := 6) rfl (by decide) rfl ?_
          refine xA.icmp_le (tgt := 23) rfl rfl rfl (fun h18 => ?_) (fun h18 => ?_)
          · refine xA.iload_n (i := 3) rfl rfl rfl rfl ?_
            refine xA.sipush (v := 360) rfl (by decide) rfl ?_
            refine xA.imul rfl rfl ?_
            refine xA.topi ((show nI (0) * 360 = nI ((0) * 360) from nI_mul (0) 360)) ?_
            refine xA.iload_n (i := 2) rfl rfl rfl rfl ?_
            refine xA.iadd rfl rfl ?_
            refine xA.topi (nI_add ((0) * 360) sp) ?_
            refine xA.istore (L' := [_, _, _, _, _, _, _]) rfl (Nat.le_of_ble_eq_true rfl) rfl rfl ?_
            refine xA.aload_n (i := 0) rfl rfl rfl rfl ?_
            refine xA.getR rfl f6_11 rfl rfl rfl rfl ?_
            refine xA.iload rfl rfl rfl ?_
            refine xA.iald rfl rfl (vp_in_nI (by omega) (by omega)) rfl ?_
            refine xA.topi (congrArg (S 39) (nI_clamp (by omega))) ?_
            refine xA.iconst (v := (-1)) rfl (by decide) rfl ?_
            refine xA.icmp_eq (tgt := 51) rfl rfl rfl (fun h40 => ?_) (fun h40 => ?_)
            · exact absurd h40 hne
            · refine xA.aload_n (i := 0) rfl rfl rfl rfl ?_
              refine xA.getR rfl f6_11 rfl rfl rfl rfl ?_
              refine xA.iload rfl rfl rfl ?_
              refine xA.iald rfl rfl (vp_in_nI (by omega) (by omega)) rfl ?_
              refine xA.topi (congrArg (S 39) (nI_clamp (by omega))) ?_
              exact xA.iret rfl rfl rfl ⟨S, rfl, by rw [h0], hs, fun _ _ => rfl⟩
          · exact absurd (nI_le (b := 6) (by omega) (by omega)) h18
  | succ l ih =>
    intro hl D S sp hDp hsp hs
    obtain ⟨d, rfl⟩ : ∃ d, D = d + (l + 1) + 4 := ⟨D - (l + 1) - 4, by omega⟩
    refine xC.of okX6_reachFrom (Nat.le_of_ble_eq_true rfl) (L := [_, _, _, _, _, _, _]) rfl ?_
    refine xA.iload_n (i := 2) rfl rfl rfl rfl ?_
    refine xA.if_lt (tgt := 21) rfl rfl rfl (fun h1 => ?_) (fun h1 => ?_)
    · exact absurd h1 (nI_pos (by omega))
    · refine xA.iload_n (i := 2) rfl rfl rfl rfl ?_
      refine xA.sipush (v := 360) rfl (by decide) rfl ?_
      refine xA.icmp_ge (tgt := 21) rfl rfl rfl (fun h8 => ?_) (fun h8 => ?_)
      · exact absurd h8 (nI_ge (b := 360) hsp (by omega))
      · refine xA.iload_n (i := 3) rfl rfl rfl rfl ?_
        refine xA.if_lt (tgt := 21) rfl rfl rfl (fun h12 => ?_) (fun h12 => ?_)
        · exact absurd h12 (nI_pos (by omega))
        · refine xA.iload_n (i := 3) rfl rfl rfl rfl ?_
          refine xA.bipush (v := 6) rfl (by decide) rfl ?_
          refine xA.icmp_le (tgt := 23) rfl rfl rfl (fun h18 => ?_) (fun h18 => ?_)
          · refine xA.iload_n (i := 3) rfl rfl rfl rfl ?_
            refine xA.sipush (v := 360) rfl (by decide) rfl ?_
            refine xA.imul rfl rfl ?_
            refine xA.topi ((show nI (l + 1) * 360 = nI ((l + 1) * 360) from nI_mul (l + 1) 360)) ?_
            refine xA.iload_n (i := 2) rfl rfl rfl rfl ?_
            refine xA.iadd rfl rfl ?_
            refine xA.topi (nI_add ((l + 1) * 360) sp) ?_
            refine xA.istore (L' := [_, _, _, _, _, _, _]) rfl (Nat.le_of_ble_eq_true rfl) rfl rfl ?_
            refine xA.aload_n (i := 0) rfl rfl rfl rfl ?_
            refine xA.getR rfl f6_11 rfl rfl rfl rfl ?_
            refine xA.iload rfl rfl rfl ?_
            refine xA.iald rfl rfl (vp_in_nI (by omega) (by omega)) rfl ?_
            refine xA.topi (congrArg (S 39) (nI_clamp (by omega))) ?_
            refine xA.iconst (v := (-1)) rfl (by decide) rfl ?_
            refine xA.icmp_eq (tgt := 51) rfl rfl rfl (fun h40 => ?_) (fun h40 => ?_)
            · refine xA.aload_n (i := 0) rfl rfl rfl rfl ?_
              refine xA.aload_n (i := 1) rfl rfl rfl rfl ?_
              refine xA.iload_n (i := 2) rfl rfl rfl rfl ?_
              refine xA.iload_n (i := 3) rfl rfl rfl rfl ?_
              refine xA.iconst (v := 1) rfl (by decide) rfl ?_
              refine xA.isub rfl rfl ?_
              refine xA.topi ((show nI (l + 1) - 1 = nI l from nI_sub (a := l + 1) (b := 1) (by omega))) ?_
              refine xA.callS (As := [_, _, _, _]) (h := (σF, _, _)) rfl k6_40 okX6_reachFrom rfl rfl (Nat.le_of_ble_eq_true rfl) (ih (by omega) _ _ sp (by omega) hsp hs) (Nat.le_refl _) (Nat.le_refl _) rfl rfl ?_
              rintro r9 h9 ⟨S2, rfl, rfl, hs2, hf2⟩
              refine xA.istore (L' := [_, _, _, _, _, _, _]) rfl (Nat.le_of_ble_eq_true rfl) rfl rfl ?_
              refine xA.iconst (v := 0) rfl (by decide) rfl ?_
              refine xA.istore (L' := [_, _, _, _, _, _, _]) rfl (Nat.le_of_ble_eq_true rfl) rfl rfl ?_
              have loop : ∀ i, i ≤ 8 → ∀ S1, SI S1 h kd lp tk set → (∀ j, ¬ j = 39 → S1 j = S j) → xA none (d + (l + 1) + 4) mX6_reachFrom 0 0 0 0 65 [some (.ref 38), some (.ref 3), some (.int (nI sp)), some (.int (nI (l + 1))), some (.int (nI ((l + 1) * 360 + sp))), some (.int (rF (NX h lp) (rS (NX h lp) (dIt tk) l) sp i)), some (.int (nI i))] [] (σF, S1, G) (fun r h' => ∃ S', h' = (σF, S', G) ∧ r = some (.int (rS (NX h lp) (dIt tk) (l + 1) sp)) ∧ SI S' h kd lp tk set ∧ ∀ j, ¬ j = 39 → S' j = S j) := by
                refine xloop 8 (fun i hi ih2 => ?_) ?_
                · intro S1 hs1 hf1
                  refine xA.iload rfl rfl rfl ?_
                  refine xA.bipush (v := 8) rfl (by decide) rfl ?_
                  refine xA.icmp_ge (tgt := 102) rfl rfl rfl (fun h69 => ?_) (fun h69 => ?_)
                  · exact absurd h69 (nI_ge (b := 8) hi (by omega))
                  · refine xA.iload rfl rfl rfl ?_
                    refine xA.aload_n (i := 0) rfl rfl rfl rfl ?_
                    refine xA.aload_n (i := 1) rfl rfl rfl rfl ?_
                    refine xA.aload_n (i := 1) rfl rfl rfl rfl ?_
                    refine xA.iload_n (i := 2) rfl rfl rfl rfl ?_
                    refine xA.topi (spx sp) ?_
                    refine xA.iload rfl rfl rfl ?_
                    refine xA.aload_n (i := 0) rfl rfl rfl rfl ?_
                    refine xA.getI rfl f6_22 rfl rfl rfl ?_
                    refine xA.topi (hs1.2.2.1) ?_
                    refine xA.callVi (As := [_, _, _]) rfl k6_52 okX1_spotAfter rfl rfl rfl rfl (Nat.le_of_ble_eq_true rfl) (c_X1_spotAfter _ _ G 3 iH3 (sp / 6) (sp % 6) i lp (by omega) (Nat.mod_lt _ (by decide)) hi hlp) rfl rfl ?_
                    refine xA.topi (congrArg oI (hs1.1.nx _ _ _ _ (Nat.mod_lt _ (by decide)) hi)) ?_
                    refine xA.topi (show oI (nxH (hD h) (hLo h) (sp / 6) (sp % 6) i lp) = oI (NX h lp sp i) from rfl) ?_
                    rcases hq : NX h lp sp i with _ | q
                    · skip
                      refine xA.iload_n (i := 3) rfl rfl rfl rfl ?_
                      refine xA.iconst (v := 1) rfl (by decide) rfl ?_
                      refine xA.isub rfl rfl ?_
                      refine xA.topi ((show nI (l + 1) - 1 = nI l from nI_sub (a := l + 1) (b := 1) (by omega))) ?_
                      refine xA.callSi (As := [_, _, _, _]) rfl k6_40 okX6_reachFrom rfl rfl (Nat.le_of_ble_eq_true rfl) (c_reachN _ _ G _) rfl rfl ?_
                      refine xA.ior rfl rfl ?_
                      refine xA.topi ((show _ = rF (NX h lp) (rS (NX h lp) (dIt tk) l) sp (i + 1) from by rw [rF, hq]; rfl)) ?_
                      refine xA.istore (L' := [_, _, _, _, _, _, _]) rfl (Nat.le_of_ble_eq_true rfl) rfl rfl ?_
                      refine xA.iinc (L' := [_, _, _, _, _, _, _]) rfl rfl (nI_1 i) rfl rfl ?_
                      refine xA.goto (q := 65) rfl rfl ?_
                      first | exact ih2 _ hs2 (fun j hj => (hf2 j hj).trans (hf1 j hj)) | exact ih2 _ hs1 hf1
                    · skip
                      refine xA.iload_n (i := 3) rfl rfl rfl rfl ?_
                      refine xA.iconst (v := 1) rfl (by decide) rfl ?_
                      refine xA.isub rfl rfl ?_
                      refine xA.topi ((show nI (l + 1) - 1 = nI l from nI_sub (a := l + 1) (b := 1) (by omega))) ?_
                      refine xA.callS (As := [_, _, _, _]) (h := (σF, _, _)) rfl k6_40 okX6_reachFrom rfl rfl (Nat.le_of_ble_eq_true rfl) (ih (by omega) _ _ q (by omega) (NX_lt hq hsp hi) hs1) (Nat.le_refl _) (Nat.le_refl _) rfl rfl ?_
                      rintro r9 h9 ⟨S2, rfl, rfl, hs2, hf2⟩
                      refine xA.ior rfl rfl ?_
                      refine xA.topi ((show _ = rF (NX h lp) (rS (NX h lp) (dIt tk) l) sp (i + 1) from by rw [rF, hq]; rfl)) ?_
                      refine xA.istore (L' := [_, _, _, _, _, _, _]) rfl (Nat.le_of_ble_eq_true rfl) rfl rfl ?_
                      refine xA.iinc (L' := [_, _, _, _, _, _, _]) rfl rfl (nI_1 i) rfl rfl ?_
                      refine xA.goto (q := 65) rfl rfl ?_
                      first | exact ih2 _ hs2 (fun j hj => (hf2 j hj).trans (hf1 j hj)) | exact ih2 _ hs1 hf1
                · intro S1 hs1 hf1
                  refine xA.iload rfl rfl rfl ?_
                  refine xA.bipush (v := 8) rfl (by decide) rfl ?_
                  refine xA.icmp_ge (tgt := 102) rfl rfl rfl (fun h69 => ?_) (fun h69 => ?_)
                  · refine xA.aload_n (i := 0) rfl rfl rfl rfl ?_
                    refine xA.getR rfl f6_11 rfl rfl rfl rfl ?_
                    refine xA.iload rfl rfl rfl ?_
                    refine xA.iload rfl rfl rfl ?_
                    refine xA.iast rfl rfl (vp_in_nI (by omega) (by omega)) rfl ?_
                    rw [nI_clamp (by omega)]
                    refine xA.iload rfl rfl rfl ?_
                    exact xA.iret rfl rfl rfl ⟨_, rfl, rfl, hs1.put (l := l + 1) hsp, fun j hj => (xu_c hj).trans (hf1 j hj)⟩
                  · exact absurd (nI_le (a := 8) (b := 8) (Nat.le_refl _) (by omega)) h69
              exact loop 0 (Nat.zero_le _) _ hs2 hf2
            · refine xA.aload_n (i := 0) rfl rfl rfl rfl ?_
              refine xA.getR rfl f6_11 rfl rfl rfl rfl ?_
              refine xA.iload rfl rfl rfl ?_
              refine xA.iald rfl rfl (vp_in_nI (by omega) (by omega)) rfl ?_
              refine xA.topi (congrArg (S 39) (nI_clamp (by omega))) ?_
              have h0 := (hs.2.2.2.2 (l + 1) sp (by omega) hsp).resolve_right (fun q => h40 q.1)
              exact xA.iret rfl rfl rfl ⟨S, rfl, by rw [h0], hs, fun _ _ => rfl⟩
          · exact absurd (nI_le (b := 6) (by omega) (by omega)) h18

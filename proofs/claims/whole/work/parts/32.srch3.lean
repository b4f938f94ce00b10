/-! ===== the search finds ===== -/
def frS (S S' : Nat → Nat → Int32) : Prop := (∀ j, ¬ j = 38 → ¬ j = 39 → ¬ j = 40 → S' j = S j) ∧ ∀ f, ¬ f = 6 → S' 38 f = S 38 f
theorem frS.refl (S : Nat → Nat → Int32) : frS S S := ⟨fun _ _ _ _ => rfl, fun _ _ => rfl⟩
theorem frS.trans {S S1 S2 : Nat → Nat → Int32} (h1 : frS S S1) (h2 : frS S1 S2) : frS S S2 := ⟨fun j a b c => (h2.1 j a b c).trans (h1.1 j a b c), fun f hf => (h2.2 f hf).trans (h1.2 f hf)⟩
theorem frS.of39 {S S1 : Nat → Nat → Int32} (h : ∀ j, ¬ j = 39 → S1 j = S j) : frS S S1 := ⟨fun j _ b _ => h j b, fun f _ => by rw [h 38 (by decide)]⟩
theorem frS.of40 {S : Nat → Nat → Int32} {k : Nat} {v : Int32} : frS S (xu S 40 k v) := ⟨fun j _ _ c => xu_c c, fun f _ => by rw [xu_c (by decide)]⟩
theorem frS.of6 {S : Nat → Nat → Int32} {v : Int32} : frS S (xu S 38 6 v) := ⟨fun j a _ _ => xu_c a, fun f hf => xu_ne2 hf⟩
/-- the next ones that can -/
def gS8 (h : hS) (kd lp : Nat) (tk : tS) (set : Int32) (t : Nat) (p : List Nat) (sp : Nat) (b : Int32) (s : Nat) : Bool := (NX h lp sp s).any (fun q => eS (NX h lp) (dIt tk) (mtB h kd) set t (sp :: p) q b)
/-- what the first step will be -/
def fsV (h : hS) (kd lp : Nat) (tk : tS) (set : Int32) (t : Nat) (p : List Nat) (sp : Nat) (b : Int32) (old : Int32) : Int32 := if eS (NX h lp) (dIt tk) (mtB h kd) set t p sp b = true ∧ cvB set (b ||| dIt tk sp) = false then oI (ff (gS8 h kd lp tk set (t - 1) p sp (b ||| dIt tk sp)) 8) else old
theorem SI.mv {S S' : Nat → Nat → Int32} {h : hS} {kd lp : Nat} {tk : tS} {set : Int32} (hs : SI S h kd lp tk set) (hf : frS S S') (a9 : S' 39 = S 39) : SI S' h kd lp tk set :=
  hs.to (hf.1 3 (by decide) (by decide) (by decide)) (hf.1 4 (by decide) (by decide) (by decide)) (hf.1 5 (by decide) (by decide) (by decide)) (hf.2 2 (by decide)) (hf.2 3 (by decide)) (hf.2 4 (by decide)) a9

set_option maxRecDepth 100000 in
set_option maxHeartbeats 1000000 in
theorem c_fin (G : Nat → Nat → Int64) (h : hS) (kd lp : Nat) (tk : tS) (set : Int32) (hk : kd < 5) (hlp : lp ≤ 10) (htk5 : tk.1 ≤ 5) : ∀ t, t ≤ 7 → ∀ D S (p : List Nat) sp b, t + 11 ≤ D → sp < 360 → SI S h kd lp tk set → MK S kd p → xC D mX6_finishes [.ref 38, .ref 3, .int (nI sp), .int b, .int (nI t - 1)] (σF, S, G) 0 0 (fun r h' => ∃ S', h' = (σF, S', G) ∧ r = some (.int (xb (eS (NX h lp) (dIt tk) (mtB h kd) set (t) p sp b = true))) ∧ SI S' h kd lp tk set ∧ MK S' kd p ∧ frS S S' ∧ S' 38 6 = fsV h kd lp tk set (t) p sp b (S 38 6)) := by
  intro t
  induction t with
  | zero =>
    intro ht D S p sp b hDp hsp hs hm
    refine xC.of okX6_finishes (Nat.le_of_ble_eq_true rfl) (L := [_, _, _, _, _, _, _, _, _]) rfl ?_
    refine xA.iload rfl rfl rfl ?_
    refine xA.if_lt (tgt := 31) rfl rfl rfl (fun h2 => ?_) (fun h2 => ?_)
    · refine xA.iconst (v := 0) rfl (by decide) rfl ?_
      exact xA.iret rfl rfl rfl ⟨S, rfl, rfl, hs, hm, frS.refl S, rfl⟩
    · exact absurd (by decide) h2
  | succ t ih =>
    intro ht D S p sp b hDp hsp hs hm
    obtain ⟨d, rfl⟩ : ∃ d, D = d + (t + 1) + 11 := ⟨D - (t + 1) - 11, by omega⟩
    rw [show nI (t + 1) - 1 = nI t from nI_sub (a := t + 1) (b := 1) (by omega)]
    refine xC.of okX6_finishes (Nat.le_of_ble_eq_true rfl) (L := [_, _, _, _, _, _, _, _, _]) rfl ?_
    refine xA.iload rfl rfl rfl ?_
    refine xA.if_lt (tgt := 31) rfl rfl rfl (fun h2 => ?_) (fun h2 => ?_)
    · exact absurd h2 (nI_pos (by omega))
    · refine xA.aload_n (i := 0) rfl rfl rfl rfl ?_
      refine xA.iload_n (i := 3) rfl rfl rfl rfl ?_
      refine xA.aload_n (i := 0) rfl rfl rfl rfl ?_
      refine xA.aload_n (i := 1) rfl rfl rfl rfl ?_
      refine xA.iload_n (i := 2) rfl rfl rfl rfl ?_
      refine xA.iload rfl rfl rfl ?_
      refine xA.callS (As := [_, _, _, _]) (h := (σF, _, _)) rfl k6_40 okX6_reachFrom rfl rfl (Nat.le_of_ble_eq_true rfl) (c_reach G h kd lp tk set hlp htk5 t (by omega) _ S sp (by omega) hsp hs) (Nat.le_refl _) (Nat.le_refl _) rfl rfl ?_
      rintro r9 h9 ⟨S2, rfl, rfl, hs2, hf2⟩
      refine xA.ior rfl rfl ?_
      refine xA.callVi (As := [_]) rfl k6_44 okX6_covers rfl rfl rfl rfl (Nat.le_of_ble_eq_true rfl) (c_X6_covers _ _ G _) rfl rfl ?_
      refine xA.if_eq (tgt := 31) rfl rfl rfl (fun h19 => ?_) (fun h19 => ?_)
      · rw [xb_eq0, hs2.2.2.2.1] at h19
        have hE : eS (NX h lp) (dIt tk) (mtB h kd) set (t + 1) p sp b = false := Bool.eq_false_iff.mpr (fun z => h19 (of_decide_eq_true (eS_prune t p sp b z)))
        refine xA.iconst (v := 0) rfl (by decide) rfl ?_
        exact xA.iret rfl rfl rfl ⟨S2, rfl, by rw [hE, xb_f (by decide)], hs2, hm.to (hf2 40 (by decide)), frS.of39 hf2, by rw [fsV, if_neg (fun z => by rw [hE] at z; exact absurd z.1 (by decide)), hf2 38 (by decide)]⟩
      · skip
        refine xA.aload_n (i := 0) rfl rfl rfl rfl ?_
        refine xA.aload_n (i := 1) rfl rfl rfl rfl ?_
        refine xA.iload_n (i := 2) rfl rfl rfl rfl ?_
        refine xA.topi (spx sp) ?_
        refine xA.callVi (As := [_, _]) rfl k6_58 okX6_isMetAt rfl rfl rfl rfl (Nat.le_of_ble_eq_true rfl) (c_X6_isMetAt _ _ G (sp / 6) (sp % 6) (by omega) (Nat.mod_lt _ (by decide))) rfl rfl ?_
        refine xA.if_eq (tgt := 33) rfl rfl rfl (fun h28 => ?_) (fun h28 => ?_)
        · rw [xb_eq0] at h28
          have hok := (met_iff hs2 hk (hm.to (hf2 40 (by decide))) hsp).mp (Decidable.not_not.mp h28)
          refine xA.iload_n (i := 3) rfl rfl rfl rfl ?_
          refine xA.aload_n (i := 0) rfl rfl rfl rfl ?_
          refine xA.aload_n (i := 1) rfl rfl rfl rfl ?_
          refine xA.iload_n (i := 2) rfl rfl rfl rfl ?_
          refine xA.iconst (v := 0) rfl (by decide) rfl ?_
          refine xA.callS (As := [_, _, _, _]) (h := (σF, _, _)) rfl k6_40 okX6_reachFrom rfl rfl (Nat.le_of_ble_eq_true rfl) (c_reach G h kd lp tk set hlp htk5 0 (by omega) _ S2 sp (by omega) hsp hs2) (Nat.le_refl _) (Nat.le_refl _) rfl rfl ?_
          rintro r9 h9 ⟨S3, rfl, rfl, hs3, hf3⟩
          refine xA.ior rfl rfl ?_
          refine xA.istore (L' := [_, _, _, _, _, _, _, _, _]) rfl (Nat.le_of_ble_eq_true rfl) rfl rfl ?_
          refine xA.aload_n (i := 0) rfl rfl rfl rfl ?_
          refine xA.iload rfl rfl rfl ?_
          refine xA.callVi (As := [_]) rfl k6_44 okX6_covers rfl rfl rfl rfl (Nat.le_of_ble_eq_true rfl) (c_X6_covers _ _ G _) rfl rfl ?_
          refine xA.if_eq (tgt := 55) rfl rfl rfl (fun h50 => ?_) (fun h50 => ?_)
          · rw [xb_eq0] at h50
            refine xA.iconst (v := 0) rfl (by decide) rfl ?_
            refine xA.istore (L' := [_, _, _, _, _, _, _, _, _]) rfl (Nat.le_of_ble_eq_true rfl) rfl rfl ?_
            refine xA.aload_n (i := 0) rfl rfl rfl rfl ?_
            refine xA.iload_n (i := 2) rfl rfl rfl rfl ?_
            refine xA.topi (spx sp) ?_
            refine xA.callVv (As := [_]) rfl k6_62 okX6_enter rfl rfl rfl rfl (Nat.le_of_ble_eq_true rfl) (c_X6_enter _ _ G (sp / 6) (sp % 6) (by omega) (Nat.mod_lt _ (by decide))) rfl rfl ?_
            refine xA.iconst (v := 0) rfl (by decide) rfl ?_
            refine xA.istore (L' := [_, _, _, _, _, _, _, _, _]) rfl (Nat.le_of_ble_eq_true rfl) rfl rfl ?_
            have hnc : cvB set (b ||| dIt tk sp) = false := Bool.eq_false_iff.mpr (fun z => h50 (by rw [hs3.2.2.2.1]; exact of_decide_eq_true z))
            have ex1 : ∀ (i : Nat) (x8 : Option Value) (S1 : Nat → Nat → Int32), eS (NX h lp) (dIt tk) (mtB h kd) set (t + 1) p sp b = true → SI S1 h kd lp tk set → MK S1 kd (sp :: p) → frS S S1 → S1 38 6 = fsV h kd lp tk set (t + 1) p sp b (S 38 6) → xA none (d + (t + 1) + 11) mX6_finishes 0 0 0 0 137 [some (.ref 38), some (.ref 3), some (.int (nI sp)), some (.int b), some (.int (nI t)), some (.int (b ||| dIt tk sp)), some (.int 1), some (.int (nI i)), x8] [] (σF, S1, G) (fun r h' => ∃ S', h' = (σF, S', G) ∧ r = some (.int (xb (eS (NX h lp) (dIt tk) (mtB h kd) set (t + 1) p sp b = true))) ∧ SI S' h kd lp tk set ∧ MK S' kd p ∧ frS S S' ∧ S' 38 6 = fsV h kd lp tk set (t + 1) p sp b (S 38 6)) := by
              intro i x8 S1 hE hs1 hm1 hf1 hv
              refine xA.aload_n (i := 0) rfl rfl rfl rfl ?_
              refine xA.iload_n (i := 2) rfl rfl rfl rfl ?_
              refine xA.topi (spx sp) ?_
              refine xA.callVv (As := [_]) rfl k6_66 okX6_leave rfl rfl rfl rfl (Nat.le_of_ble_eq_true rfl) (c_X6_leave _ _ G (sp / 6) (sp % 6) (by omega) (Nat.mod_lt _ (by decide))) rfl rfl ?_
              refine xA.iload rfl rfl rfl ?_
              exact xA.iret rfl rfl rfl ⟨_, rfl, by rw [hE, xb_t rfl], hs1.mv frS.of40 (xu_c (by decide)), hm1.leave hsp hok, hf1.trans frS.of40, by rw [xu_c (by decide)]; exact hv⟩
            have ex0 : ∀ (i : Nat) (x8 : Option Value) (S1 : Nat → Nat → Int32), eS (NX h lp) (dIt tk) (mtB h kd) set (t + 1) p sp b = false → SI S1 h kd lp tk set → MK S1 kd (sp :: p) → frS S S1 → S1 38 6 = fsV h kd lp tk set (t + 1) p sp b (S 38 6) → xA none (d + (t + 1) + 11) mX6_finishes 0 0 0 0 137 [some (.ref 38), some (.ref 3), some (.int (nI sp)), some (.int b), some (.int (nI t)), some (.int (b ||| dIt tk sp)), some (.int 0), some (.int (nI i)), x8] [] (σF, S1, G) (fun r h' => ∃ S', h' = (σF, S', G) ∧ r = some (.int (xb (eS (NX h lp) (dIt tk) (mtB h kd) set (t + 1) p sp b = true))) ∧ SI S' h kd lp tk set ∧ MK S' kd p ∧ frS S S' ∧ S' 38 6 = fsV h kd lp tk set (t + 1) p sp b (S 38 6)) := by
              intro i x8 S1 hE hs1 hm1 hf1 hv
              refine xA.aload_n (i := 0) rfl rfl rfl rfl ?_
              refine xA.iload_n (i := 2) rfl rfl rfl rfl ?_
              refine xA.topi (spx sp) ?_
              refine xA.callVv (As := [_]) rfl k6_66 okX6_leave rfl rfl rfl rfl (Nat.le_of_ble_eq_true rfl) (c_X6_leave _ _ G (sp / 6) (sp % 6) (by omega) (Nat.mod_lt _ (by decide))) rfl rfl ?_
              refine xA.iload rfl rfl rfl ?_
              exact xA.iret rfl rfl rfl ⟨_, rfl, by rw [hE, xb_f (by decide)], hs1.mv frS.of40 (xu_c (by decide)), hm1.leave hsp hok, hf1.trans frS.of40, by rw [xu_c (by decide)]; exact hv⟩
            have at66 : ∀ (i : Nat) (x8 : Option Value) (S1 : Nat → Nat → Int32), eS (NX h lp) (dIt tk) (mtB h kd) set (t + 1) p sp b = true → SI S1 h kd lp tk set → MK S1 kd (sp :: p) → frS S S1 → S1 38 6 = fsV h kd lp tk set (t + 1) p sp b (S 38 6) → xA none (d + (t + 1) + 11) mX6_finishes 0 0 0 0 66 [some (.ref 38), some (.ref 3), some (.int (nI sp)), some (.int b), some (.int (nI t)), some (.int (b ||| dIt tk sp)), some (.int 1), some (.int (nI i)), x8] [] (σF, S1, G) (fun r h' => ∃ S', h' = (σF, S', G) ∧ r = some (.int (xb (eS (NX h lp) (dIt tk) (mtB h kd) set (t + 1) p sp b = true))) ∧ SI S' h kd lp tk set ∧ MK S' kd p ∧ frS S S' ∧ S' 38 6 = fsV h kd lp tk set (t + 1) p sp b (S 38 6)) := by
              intro i x8 S1 hE hs1 hm1 hf1 hv
              refine xA.iload rfl rfl rfl ?_
              refine xA.bipush (v := 8) rfl (by decide) rfl ?_
              refine xA.icmp_ge (tgt := 137) rfl rfl rfl (fun h70 => ?_) (fun h70 => ?_)
              · exact ex1 i x8 S1 hE hs1 hm1 hf1 hv
              · refine xA.iload rfl rfl rfl ?_
                refine xA.if_ne (tgt := 137) rfl rfl rfl (fun h75 => ?_) (fun h75 => ?_)
                · exact ex1 i x8 S1 hE hs1 hm1 hf1 hv
                · exact absurd h75 (by decide)
            have loop : ∀ i, i ≤ 8 → ∀ (x8 : Option Value) (S1 : Nat → Nat → Int32), SI S1 h kd lp tk set → MK S1 kd (sp :: p) → frS S S1 → S1 38 6 = S 38 6 → (∀ j, j < i → (gS8 h kd lp tk set t p sp (b ||| dIt tk sp)) j = false) → xA none (d + (t + 1) + 11) mX6_finishes 0 0 0 0 66 [some (.ref 38), some (.ref 3), some (.int (nI sp)), some (.int b), some (.int (nI t)), some (.int (b ||| dIt tk sp)), some (.int 0), some (.int (nI i)), x8] [] (σF, S1, G) (fun r h' => ∃ S', h' = (σF, S', G) ∧ r = some (.int (xb (eS (NX h lp) (dIt tk) (mtB h kd) set (t + 1) p sp b = true))) ∧ SI S' h kd lp tk set ∧ MK S' kd p ∧ frS S S' ∧ S' 38 6 = fsV h kd lp tk set (t + 1) p sp b (S 38 6)) := by
              refine xloop 8 (fun i hi ih2 => ?_) ?_
              · intro x8 S1 hs1 hm1 hf1 hv1 hg0
                refine xA.iload rfl rfl rfl ?_
                refine xA.bipush (v := 8) rfl (by decide) rfl ?_
                refine xA.icmp_ge (tgt := 137) rfl rfl rfl (fun h70 => ?_) (fun h70 => ?_)
                · exact absurd h70 (nI_ge (b := 8) hi (by omega))
                · refine xA.iload rfl rfl rfl ?_
                  refine xA.if_ne (tgt := 137) rfl rfl rfl (fun h75 => ?_) (fun h75 => ?_)
                  · exact absurd rfl h75
                  · refine xA.aload_n (i := 1) rfl rfl rfl rfl ?_
                    refine xA.iload_n (i := 2) rfl rfl rfl rfl ?_
                    refine xA.topi (spx sp) ?_
                    refine xA.iload rfl rfl rfl ?_
                    refine xA.aload_n (i := 0) rfl rfl rfl rfl ?_
                    refine xA.getI rfl f6_22 rfl rfl rfl ?_
                    refine xA.topi (hs1.2.2.1) ?_
                    refine xA.callVi (As := [_, _, _]) rfl k6_52 okX1_spotAfter rfl rfl rfl rfl (Nat.le_of_ble_eq_true rfl) (c_X1_spotAfter _ _ G 3 iH3 (sp / 6) (sp % 6) i lp (by omega) (Nat.mod_lt _ (by decide)) hi hlp) rfl rfl ?_
                    refine xA.topi (congrArg oI (hs1.1.nx _ _ _ _ (Nat.mod_lt _ (by decide)) hi)) ?_
                    refine xA.topi (show oI (nxH (hD h) (hLo h) (sp / 6) (sp % 6) i lp) = oI (NX h lp sp i) from rfl) ?_
                    rcases hq : NX h lp sp i with _ | q
                    · have hg : (gS8 h kd lp tk set t p sp (b ||| dIt tk sp)) i = false := by rw [gS8, hq]; rfl
                      refine xA.istore (L' := [_, _, _, _, _, _, _, _, _]) rfl (Nat.le_of_ble_eq_true rfl) rfl rfl ?_
                      refine xA.iload rfl rfl rfl ?_
                      refine xA.iconst (v := (-1)) rfl (by decide) rfl ?_
                      refine xA.icmp_eq (tgt := 117) rfl rfl rfl (fun h94 => ?_) (fun h94 => ?_)
                      · refine xA.iconst (v := 0) rfl (by decide) rfl ?_
                        refine xA.istore (L' := [_, _, _, _, _, _, _, _, _]) rfl (Nat.le_of_ble_eq_true rfl) rfl rfl ?_
                        refine xA.iload rfl rfl rfl ?_
                        refine xA.if_eq (tgt := 131) rfl rfl rfl (fun h122 => ?_) (fun h122 => ?_)
                        · refine xA.iinc (L' := [_, _, _, _, _, _, _, _, _]) rfl rfl (nI_1 i) rfl rfl ?_
                          refine xA.goto (q := 66) rfl rfl ?_
                          exact ih2 _ _ hs1 hm1 hf1 hv1 (fun j hj => (Nat.lt_succ_iff_lt_or_eq.mp hj).elim (hg0 j) (fun z => z ▸ hg))
                        · exact absurd rfl h122
                      · exact absurd rfl h94
                    · have hq3 := NX_lt hq hsp hi
                      refine xA.istore (L' := [_, _, _, _, _, _, _, _, _]) rfl (Nat.le_of_ble_eq_true rfl) rfl rfl ?_
                      refine xA.iload rfl rfl rfl ?_
                      refine xA.iconst (v := (-1)) rfl (by decide) rfl ?_
                      refine xA.icmp_eq (tgt := 117) rfl rfl rfl (fun h94 => ?_) (fun h94 => ?_)
                      · exact absurd h94 (nI_m1 (by omega))
                      · refine xA.aload_n (i := 0) rfl rfl rfl rfl ?_
                        refine xA.aload_n (i := 1) rfl rfl rfl rfl ?_
                        refine xA.iload rfl rfl rfl ?_
                        refine xA.iload rfl rfl rfl ?_
                        refine xA.iload rfl rfl rfl ?_
                        refine xA.iconst (v := 1) rfl (by decide) rfl ?_
                        refine xA.isub rfl rfl ?_
                        refine xA.callS (As := [_, _, _, _, _]) (h := (σF, _, _)) rfl k6_48 okX6_finishes rfl rfl (Nat.le_of_ble_eq_true rfl) (ih (by omega) _ S1 (sp :: p) q (b ||| dIt tk sp) (by omega) hq3 hs1 hm1) (Nat.le_refl _) (Nat.le_refl _) rfl rfl ?_
                        rintro r9 h9 ⟨S2, rfl, rfl, hs2, hm2, hf2, hv2⟩
                        refine xA.if_eq (tgt := 117) rfl rfl rfl (fun h110 => ?_) (fun h110 => ?_)
                        · rw [xb_eq0] at h110
                          have hg : (gS8 h kd lp tk set t p sp (b ||| dIt tk sp)) i = false := by rw [gS8, hq]; exact Bool.eq_false_iff.mpr h110
                          have hv3 : S2 38 6 = S 38 6 := by rw [hv2, fsV, if_neg (fun z => h110 z.1)]; exact hv1
                          refine xA.iconst (v := 0) rfl (by decide) rfl ?_
                          refine xA.istore (L' := [_, _, _, _, _, _, _, _, _]) rfl (Nat.le_of_ble_eq_true rfl) rfl rfl ?_
                          refine xA.iload rfl rfl rfl ?_
                          refine xA.if_eq (tgt := 131) rfl rfl rfl (fun h122 => ?_) (fun h122 => ?_)
                          · refine xA.iinc (L' := [_, _, _, _, _, _, _, _, _]) rfl rfl (nI_1 i) rfl rfl ?_
                            refine xA.goto (q := 66) rfl rfl ?_
                            exact ih2 _ _ hs2 hm2 (hf1.trans hf2) hv3 (fun j hj => (Nat.lt_succ_iff_lt_or_eq.mp hj).elim (hg0 j) (fun z => z ▸ hg))
                          · exact absurd rfl h122
                        · rw [xb_ne0] at h110
                          have hg : (gS8 h kd lp tk set t p sp (b ||| dIt tk sp)) i = true := by rw [gS8, hq]; exact h110
                          have hE : eS (NX h lp) (dIt tk) (mtB h kd) set (t + 1) p sp b = true := by rw [eS, hok, Bool.true_and, Bool.or_eq_true]; exact Or.inr (ff_is.mpr ⟨i, hi, hg⟩)
                          refine xA.iconst (v := 1) rfl (by decide) rfl ?_
                          refine xA.goto (q := 118) rfl rfl ?_
                          refine xA.istore (L' := [_, _, _, _, _, _, _, _, _]) rfl (Nat.le_of_ble_eq_true rfl) rfl rfl ?_
                          refine xA.iload rfl rfl rfl ?_
                          refine xA.if_eq (tgt := 131) rfl rfl rfl (fun h122 => ?_) (fun h122 => ?_)
                          · exact absurd h122 (by decide)
                          · refine xA.aload_n (i := 0) rfl rfl rfl rfl ?_
                            refine xA.iload rfl rfl rfl ?_
                            refine xA.putI rfl p6_31 rfl rfl rfl ?_
                            refine xA.iinc (L' := [_, _, _, _, _, _, _, _, _]) rfl rfl (nI_1 i) rfl rfl ?_
                            refine xA.goto (q := 66) rfl rfl ?_
                            exact at66 (i + 1) _ _ hE (hs2.mv frS.of6 (xu_c (by decide))) (hm2.to (xu_c (by decide))) ((hf1.trans hf2).trans frS.of6) (by rw [fsV, if_pos ⟨hE, hnc⟩, xu_same, show t + 1 - 1 = t from rfl, ff_eq hi hg hg0]; rfl)
              · intro x8 S1 hs1 hm1 hf1 hv1 hg0
                refine xA.iload rfl rfl rfl ?_
                refine xA.bipush (v := 8) rfl (by decide) rfl ?_
                refine xA.icmp_ge (tgt := 137) rfl rfl rfl (fun h70 => ?_) (fun h70 => ?_)
                · have hE : eS (NX h lp) (dIt tk) (mtB h kd) set (t + 1) p sp b = false := by
                    rw [eS, hok, Bool.true_and, hnc, Bool.false_or]
                    exact Bool.eq_false_iff.mpr (fun z => by obtain ⟨j, hj, h9⟩ := ff_is.mp z; have h8 := hg0 j hj; rw [gS8] at h8; rw [h8] at h9; cases h9)
                  exact ex0 8 x8 S1 hE hs1 hm1 hf1 (by rw [fsV, if_neg (fun z => by rw [hE] at z; exact absurd z.1 (by decide))]; exact hv1)
                · exact absurd (nI_le (a := 8) (b := 8) (Nat.le_refl _) (by omega)) h70
            exact loop 0 (Nat.zero_le _) _ _ (hs3.mv frS.of40 (xu_c (by decide))) ((hm.to ((hf3 40 (by decide)).trans (hf2 40 (by decide)))).enter hsp) (((frS.of39 hf2).trans (frS.of39 hf3)).trans frS.of40) (by rw [xu_c (by decide), hf3 38 (by decide), hf2 38 (by decide)]) (fun j hj => absurd hj (Nat.not_lt_zero _))
          · rw [xb_ne0, hs3.2.2.2.1] at h50
            refine xA.iconst (v := 1) rfl (by decide) rfl ?_
            have hcv : cvB set (b ||| dIt tk sp) = true := decide_eq_true h50
            have hE : eS (NX h lp) (dIt tk) (mtB h kd) set (t + 1) p sp b = true := by rw [eS, hok, hcv]; rfl
            exact xA.iret rfl rfl rfl ⟨S3, rfl, by rw [hE, xb_t rfl], hs3, hm.to ((hf3 40 (by decide)).trans (hf2 40 (by decide))), (frS.of39 hf2).trans (frS.of39 hf3), by rw [fsV, if_neg (fun z => by rw [hcv] at z; exact absurd z.2 (by decide)), hf3 38 (by decide), hf2 38 (by decide)]⟩
        · rw [xb_ne0] at h28
          have hE : eS (NX h lp) (dIt tk) (mtB h kd) set (t + 1) p sp b = false := by
            rw [eS, Bool.eq_false_iff.mpr (fun z => h28 ((met_iff hs2 hk (hm.to (hf2 40 (by decide))) hsp).mpr z)), Bool.false_and]
          refine xA.iconst (v := 0) rfl (by decide) rfl ?_
          exact xA.iret rfl rfl rfl ⟨S2, rfl, by rw [hE, xb_f (by decide)], hs2, hm.to (hf2 40 (by decide)), frS.of39 hf2, by rw [fsV, if_neg (fun z => by rw [hE] at z; exact absurd z.1 (by decide)), hf2 38 (by decide)]⟩

/-! ===== the system made ===== -/
/-- from number n on nothing is written *yet* -/
def zb (S : Nat → Nat → Int32) (G : Nat → Nat → Int64) (n : Nat) : Prop := ∀ j, n ≤ j → S j = (fun _ => 0) ∧ G j = fun _ => 0
theorem zb.le {S : Nat → Nat → Int32} {G : Nat → Nat → Int64} {n m : Nat} (h : zb S G n) (hm : n ≤ m) : zb S G m := fun j hj => h j (Nat.le_trans hm hj)
theorem xz_id {α : Type} {z : α} {S : Nat → Nat → α} {k : Nat} (h : S k = fun _ => z) : xz z S k = S := by
  funext j
  unfold xz
  split
  · rename_i e; rw [e, h]
  · rfl
theorem xA.zz {X : Option (Nat × (Nat → Int32))} {d : Nat} {M : xM} {c n mc ms pc k m : Nat} {L : List (Option Value)} {st : List Value} {σ : List xSh} {S : Nat → Nat → Int32} {G : Nat → Nat → Int64} {Q : Option Value → xH → Prop} (hz : zb S G m) (hm : m ≤ k) (kk : xA X d M c n mc ms pc L st (σ, S, G) Q) : xA X d M c n mc ms pc L st (σ, xz 0 S k, xz 0 G k) Q := by
  rw [xz_id (hz k hm).1, xz_id (hz k hm).2]; exact kk
theorem ns_get {σ l : List xSh} {a : Nat} {o : xSh} (h : a < σ.length) : (σ.set a o ++ l)[a]? = some o := by
  rw [List.getElem?_append_left (by rw [List.length_set]; exact h), List.getElem?_set_self h]
theorem ns_set {σ l : List xSh} {a : Nat} {o o' : xSh} (h : a < σ.length) : (σ.set a o ++ l).set a o' = σ.set a o' ++ l := by
  rw [List.set_append_left _ _ (by rw [List.length_set]; exact h), List.set_set]
theorem ns_0 {σ : List xSh} {a : Nat} {o : xSh} (h : σ[a]? = some o) : σ = σ.set a o ++ [] := by rw [List.append_nil]; exact x_setSelf h
theorem ns_len {σ l : List xSh} {a : Nat} {o : xSh} : (σ.set a o ++ l).length = σ.length + l.length := by rw [List.length_append, List.length_set]
theorem ns_lt {σ : List xSh} {a : Nat} {o : xSh} (h : σ[a]? = some o) : a < σ.length := (List.getElem?_eq_some_iff.mp h).1

set_option maxRecDepth 100000 in
theorem c_X0_init (d : Nat) (σ : List xSh) (S : Nat → Nat → Int32) (G : Nat → Nat → Int64) (a : Nat) (ha : σ[a]? = some (.inl (0, [none, none]))) (hz : zb S G σ.length) : xC (d + 1) mX0_init [.ref a] (σ, S, G) 1 8 (fun r h' => r = none ∧ h' = (σ.set a (.inl (0, [some (σ.length + 0), none])) ++ [.inr (.inl 8)], S, G)) := by
  have hla := ns_lt ha
  refine xC.of okX0_init (Nat.le_of_ble_eq_true rfl) (L := [_]) rfl ?_
  refine xA.shp (ns_0 ha) ?_
  refine xA.aload_n (i := 0) rfl rfl rfl rfl ?_
  refine xA.objInit rfl w123 w31 w32 rfl (Nat.le_of_ble_eq_true rfl) rfl ?_
  refine xA.aload_n (i := 0) rfl rfl rfl rfl ?_
  refine xA.bipush (v := (8)) rfl (by decide) rfl ?_
  refine xA.newa (N := 8) rfl w46 (by decide) (by decide) (Nat.le_of_ble_eq_true rfl) (Nat.le_of_ble_eq_true rfl) (Nat.le_of_ble_eq_true rfl) rfl ?_
  refine xA.zz hz (by rw [ns_len]; omega) ?_
  refine xA.top (show _ = σ.length + 0 by rw [ns_len]; rfl) ?_
  refine xA.shp (σ' := σ.set a (.inl (0, [none, none])) ++ [.inr (.inl 8)]) (by rw [List.append_assoc]; rfl) ?_
  refine xA.putR rfl q0_9 rfl (ns_get hla) rfl (Nat.le_of_ble_eq_true rfl) rfl ?_
  refine xA.shp (σ' := σ.set a (.inl (0, [some (σ.length + 0), none])) ++ [.inr (.inl 8)]) (ns_set hla) ?_
  exact xA.vret rfl rfl ⟨rfl, rfl⟩
set_option maxRecDepth 100000 in
theorem c_X1_init (d : Nat) (σ : List xSh) (S : Nat → Nat → Int32) (G : Nat → Nat → Int64) (a : Nat) (ha : σ[a]? = some (.inl (1, [none, none, none, none, none, none, none, none]))) (hz : zb S G σ.length) : xC (d + 1) mX1_init [.ref a] (σ, S, G) 2 42 (fun r h' => r = none ∧ h' = (σ.set a (.inl (1, [some (σ.length + 0), some (σ.length + 1), none, none, none, none, none, none])) ++ [.inr (.inl 36), .inr (.inl 6)], (xu S a 4 (-1)), G)) := by
  have hla := ns_lt ha
  refine xC.of okX1_init (Nat.le_of_ble_eq_true rfl) (L := [_]) rfl ?_
  refine xA.shp (ns_0 ha) ?_
  refine xA.aload_n (i := 0) rfl rfl rfl rfl ?_
  refine xA.objInit rfl w52 w31 w32 rfl (Nat.le_of_ble_eq_true rfl) rfl ?_
  refine xA.aload_n (i := 0) rfl rfl rfl rfl ?_
  refine xA.bipush (v := (36)) rfl (by decide) rfl ?_
  refine xA.newa (N := 36) rfl w46 (by decide) (by decide) (Nat.le_of_ble_eq_true rfl) (Nat.le_of_ble_eq_true rfl) (Nat.le_of_ble_eq_true rfl) rfl ?_
  refine xA.zz hz (by rw [ns_len]; omega) ?_
  refine xA.top (show _ = σ.length + 0 by rw [ns_len]; rfl) ?_
  refine xA.shp (σ' := σ.set a (.inl (1, [none, none, none, none, none, none, none, none])) ++ [.inr (.inl 36)]) (by rw [List.append_assoc]; rfl) ?_
  refine xA.putR rfl q1_9 rfl (ns_get hla) rfl (Nat.le_of_ble_eq_true rfl) rfl ?_
  refine xA.shp (σ' := σ.set a (.inl (1, [some (σ.length + 0), none, none, none, none, none, none, none])) ++ [.inr (.inl 36)]) (ns_set hla) ?_
  refine xA.aload_n (i := 0) rfl rfl rfl rfl ?_
  refine xA.bipush (v := (6)) rfl (by decide) rfl ?_
  refine xA.newa (N := 6) rfl w46 (by decide) (by decide) (Nat.le_of_ble_eq_true rfl) (Nat.le_of_ble_eq_true rfl) (Nat.le_of_ble_eq_true rfl) rfl ?_
  refine xA.zz hz (by rw [ns_len]; omega) ?_
  refine xA.top (show _ = σ.length + 1 by rw [ns_len]; rfl) ?_
  refine xA.shp (σ' := σ.set a (.inl (1, [some (σ.length + 0), none, none, none, none, none, none, none])) ++ [.inr (.inl 36), .inr (.inl 6)]) (by rw [List.append_assoc]; rfl) ?_
  refine xA.putR rfl q1_15 rfl (ns_get hla) rfl (Nat.le_of_ble_eq_true rfl) rfl ?_
  refine xA.shp (σ' := σ.set a (.inl (1, [some (σ.length + 0), some (σ.length + 1), none, none, none, none, none, none])) ++ [.inr (.inl 36), .inr (.inl 6)]) (ns_set hla) ?_
  refine xA.aload_n (i := 0) rfl rfl rfl rfl ?_
  refine xA.iconst (v := (-1)) rfl (by decide) rfl ?_
  refine xA.putI rfl p1_18 (ns_get hla) rfl rfl ?_
  exact xA.vret rfl rfl ⟨rfl, rfl⟩
set_option maxRecDepth 100000 in
theorem c_X3_init (d : Nat) (σ : List xSh) (S : Nat → Nat → Int32) (G : Nat → Nat → Int64) (a : Nat) (ha : σ[a]? = some (.inl (3, [none, none, none, none]))) (hz : zb S G σ.length) : xC (d + 1) mX3_init [.ref a] (σ, S, G) 1 17 (fun r h' => r = none ∧ h' = (σ.set a (.inl (3, [some (σ.length + 0), none, none, none])) ++ [.inr (.inl 17)], S, G)) := by
  have hla := ns_lt ha
  refine xC.of okX3_init (Nat.le_of_ble_eq_true rfl) (L := [_]) rfl ?_
  refine xA.shp (ns_0 ha) ?_
  refine xA.aload_n (i := 0) rfl rfl rfl rfl ?_
  refine xA.objInit rfl w83 w31 w32 rfl (Nat.le_of_ble_eq_true rfl) rfl ?_
  refine xA.aload_n (i := 0) rfl rfl rfl rfl ?_
  refine xA.bipush (v := (17)) rfl (by decide) rfl ?_
  refine xA.newa (N := 17) rfl w46 (by decide) (by decide) (Nat.le_of_ble_eq_true rfl) (Nat.le_of_ble_eq_true rfl) (Nat.le_of_ble_eq_true rfl) rfl ?_
  refine xA.zz hz (by rw [ns_len]; omega) ?_
  refine xA.top (show _ = σ.length + 0 by rw [ns_len]; rfl) ?_
  refine xA.shp (σ' := σ.set a (.inl (3, [none, none, none, none])) ++ [.inr (.inl 17)]) (by rw [List.append_assoc]; rfl) ?_
  refine xA.putR rfl q3_11 rfl (ns_get hla) rfl (Nat.le_of_ble_eq_true rfl) rfl ?_
  refine xA.shp (σ' := σ.set a (.inl (3, [some (σ.length + 0), none, none, none])) ++ [.inr (.inl 17)]) (ns_set hla) ?_
  exact xA.vret rfl rfl ⟨rfl, rfl⟩
set_option maxRecDepth 100000 in
theorem c_X4_init (d : Nat) (σ : List xSh) (S : Nat → Nat → Int32) (G : Nat → Nat → Int64) (a : Nat) (ha : σ[a]? = some (.inl (4, [none, none]))) (hz : zb S G σ.length) : xC (d + 1) mX4_init [.ref a] (σ, S, G) 1 45 (fun r h' => r = none ∧ h' = (σ.set a (.inl (4, [some (σ.length + 0), none])) ++ [.inr (.inl 45)], S, G)) := by
  have hla := ns_lt ha
  refine xC.of okX4_init (Nat.le_of_ble_eq_true rfl) (L := [_]) rfl ?_
  refine xA.shp (ns_0 ha) ?_
  refine xA.aload_n (i := 0) rfl rfl rfl rfl ?_
  refine xA.objInit rfl w38 w31 w32 rfl (Nat.le_of_ble_eq_true rfl) rfl ?_
  refine xA.aload_n (i := 0) rfl rfl rfl rfl ?_
  refine xA.bipush (v := (45)) rfl (by decide) rfl ?_
  refine xA.newa (N := 45) rfl w46 (by decide) (by decide) (Nat.le_of_ble_eq_true rfl) (Nat.le_of_ble_eq_true rfl) (Nat.le_of_ble_eq_true rfl) rfl ?_
  refine xA.zz hz (by rw [ns_len]; omega) ?_
  refine xA.top (show _ = σ.length + 0 by rw [ns_len]; rfl) ?_
  refine xA.shp (σ' := σ.set a (.inl (4, [none, none])) ++ [.inr (.inl 45)]) (by rw [List.append_assoc]; rfl) ?_
  refine xA.putR rfl q4_9 rfl (ns_get hla) rfl (Nat.le_of_ble_eq_true rfl) rfl ?_
  refine xA.shp (σ' := σ.set a (.inl (4, [some (σ.length + 0), none])) ++ [.inr (.inl 45)]) (ns_set hla) ?_
  exact xA.vret rfl rfl ⟨rfl, rfl⟩
set_option maxRecDepth 100000 in
theorem c_X6_init (d : Nat) (σ : List xSh) (S : Nat → Nat → Int32) (G : Nat → Nat → Int64) (a : Nat) (ha : σ[a]? = some (.inl (6, [none, none, none, none, none, none, none]))) (hz : zb S G σ.length) : xC (d + 1) mX6_init [.ref a] (σ, S, G) 2 2580 (fun r h' => r = none ∧ h' = (σ.set a (.inl (6, [some (σ.length + 0), some (σ.length + 1), none, none, none, none, none])) ++ [.inr (.inl 2520), .inr (.inl 60)], S, G)) := by
  have hla := ns_lt ha
  refine xC.of okX6_init (Nat.le_of_ble_eq_true rfl) (L := [_]) rfl ?_
  refine xA.shp (ns_0 ha) ?_
  refine xA.aload_n (i := 0) rfl rfl rfl rfl ?_
  refine xA.objInit rfl w176 w31 w32 rfl (Nat.le_of_ble_eq_true rfl) rfl ?_
  refine xA.aload_n (i := 0) rfl rfl rfl rfl ?_
  refine xA.sipush (v := (2520)) rfl (by decide) rfl ?_
  refine xA.newa (N := 2520) rfl w46 (by decide) (by decide) (Nat.le_of_ble_eq_true rfl) (Nat.le_of_ble_eq_true rfl) (Nat.le_of_ble_eq_true rfl) rfl ?_
  refine xA.zz hz (by rw [ns_len]; omega) ?_
  refine xA.top (show _ = σ.length + 0 by rw [ns_len]; rfl) ?_
  refine xA.shp (σ' := σ.set a (.inl (6, [none, none, none, none, none, none, none])) ++ [.inr (.inl 2520)]) (by rw [List.append_assoc]; rfl) ?_
  refine xA.putR rfl q6_11 rfl (ns_get hla) rfl (Nat.le_of_ble_eq_true rfl) rfl ?_
  refine xA.shp (σ' := σ.set a (.inl (6, [some (σ.length + 0), none, none, none, none, none, none])) ++ [.inr (.inl 2520)]) (ns_set hla) ?_
  refine xA.aload_n (i := 0) rfl rfl rfl rfl ?_
  refine xA.bipush (v := (60)) rfl (by decide) rfl ?_
  refine xA.newa (N := 60) rfl w46 (by decide) (by decide) (Nat.le_of_ble_eq_true rfl) (Nat.le_of_ble_eq_true rfl) (Nat.le_of_ble_eq_true rfl) rfl ?_
  refine xA.zz hz (by rw [ns_len]; omega) ?_
  refine xA.top (show _ = σ.length + 1 by rw [ns_len]; rfl) ?_
  refine xA.shp (σ' := σ.set a (.inl (6, [some (σ.length + 0), none, none, none, none, none, none])) ++ [.inr (.inl 2520), .inr (.inl 60)]) (by rw [List.append_assoc]; rfl) ?_
  refine xA.putR rfl q6_15 rfl (ns_get hla) rfl (Nat.le_of_ble_eq_true rfl) rfl ?_
  refine xA.shp (σ' := σ.set a (.inl (6, [some (σ.length + 0), some (σ.length + 1), none, none, none, none, none])) ++ [.inr (.inl 2520), .inr (.inl 60)]) (ns_set hla) ?_
  exact xA.vret rfl rfl ⟨rfl, rfl⟩
set_option maxRecDepth 100000 in
theorem c_X7_init (d : Nat) (σ : List xSh) (S : Nat → Nat → Int32) (G : Nat → Nat → Int64) (a : Nat) (ha : σ[a]? = some (.inl (7, [none, none, none, none]))) (hz : zb S G σ.length) : xC (d + 1) mX7_init [.ref a] (σ, S, G) 3 15 (fun r h' => r = none ∧ h' = (σ.set a (.inl (7, [some (σ.length + 0), some (σ.length + 1), some (σ.length + 2), none])) ++ [.inr (.inl 5), .inr (.inl 5), .inr (.inl 5)], S, G)) := by
  have hla := ns_lt ha
  refine xC.of okX7_init (Nat.le_of_ble_eq_true rfl) (L := [_]) rfl ?_
  refine xA.shp (ns_0 ha) ?_
  refine xA.aload_n (i := 0) rfl rfl rfl rfl ?_
  refine xA.objInit rfl w104 w31 w32 rfl (Nat.le_of_ble_eq_true rfl) rfl ?_
  refine xA.aload_n (i := 0) rfl rfl rfl rfl ?_
  refine xA.iconst (v := (5)) rfl (by decide) rfl ?_
  refine xA.newa (N := 5) rfl w46 (by decide) (by decide) (Nat.le_of_ble_eq_true rfl) (Nat.le_of_ble_eq_true rfl) (Nat.le_of_ble_eq_true rfl) rfl ?_
  refine xA.zz hz (by rw [ns_len]; omega) ?_
  refine xA.top (show _ = σ.length + 0 by rw [ns_len]; rfl) ?_
  refine xA.shp (σ' := σ.set a (.inl (7, [none, none, none, none])) ++ [.inr (.inl 5)]) (by rw [List.append_assoc]; rfl) ?_
  refine xA.putR rfl q7_9 rfl (ns_get hla) rfl (Nat.le_of_ble_eq_true rfl) rfl ?_
  refine xA.shp (σ' := σ.set a (.inl (7, [some (σ.length + 0), none, none, none])) ++ [.inr (.inl 5)]) (ns_set hla) ?_
  refine xA.aload_n (i := 0) rfl rfl rfl rfl ?_
  refine xA.iconst (v := (5)) rfl (by decide) rfl ?_
  refine xA.newa (N := 5) rfl w46 (by decide) (by decide) (Nat.le_of_ble_eq_true rfl) (Nat.le_of_ble_eq_true rfl) (Nat.le_of_ble_eq_true rfl) rfl ?_
  refine xA.zz hz (by rw [ns_len]; omega) ?_
  refine xA.top (show _ = σ.length + 1 by rw [ns_len]; rfl) ?_
  refine xA.shp (σ' := σ.set a (.inl (7, [some (σ.length + 0), none, none, none])) ++ [.inr (.inl 5), .inr (.inl 5)]) (by rw [List.append_assoc]; rfl) ?_
  refine xA.putR rfl q7_15 rfl (ns_get hla) rfl (Nat.le_of_ble_eq_true rfl) rfl ?_
  refine xA.shp (σ' := σ.set a (.inl (7, [some (σ.length + 0), some (σ.length + 1), none, none])) ++ [.inr (.inl 5), .inr (.inl 5)]) (ns_set hla) ?_
  refine xA.aload_n (i := 0) rfl rfl rfl rfl ?_
  refine xA.iconst (v := (5)) rfl (by decide) rfl ?_
  refine xA.newa (N := 5) rfl w46 (by decide) (by decide) (Nat.le_of_ble_eq_true rfl) (Nat.le_of_ble_eq_true rfl) (Nat.le_of_ble_eq_true rfl) rfl ?_
  refine xA.zz hz (by rw [ns_len]; omega) ?_
  refine xA.top (show _ = σ.length + 2 by rw [ns_len]; rfl) ?_
  refine xA.shp (σ' := σ.set a (.inl (7, [some (σ.length + 0), some (σ.length + 1), none, none])) ++ [.inr (.inl 5), .inr (.inl 5), .inr (.inl 5)]) (by rw [List.append_assoc]; rfl) ?_
  refine xA.putR rfl q7_18 rfl (ns_get hla) rfl (Nat.le_of_ble_eq_true rfl) rfl ?_
  refine xA.shp (σ' := σ.set a (.inl (7, [some (σ.length + 0), some (σ.length + 1), some (σ.length + 2), none])) ++ [.inr (.inl 5), .inr (.inl 5), .inr (.inl 5)]) (ns_set hla) ?_
  exact xA.vret rfl rfl ⟨rfl, rfl⟩
set_option maxRecDepth 100000 in
theorem c_X8_init (d : Nat) (σ : List xSh) (S : Nat → Nat → Int32) (G : Nat → Nat → Int64) (a : Nat) (ha : σ[a]? = some (.inl (8, [none, none, none]))) (hz : zb S G σ.length) : xC (d + 1) mX8_init [.ref a] (σ, S, G) 0 0 (fun r h' => r = none ∧ h' = (σ.set a (.inl (8, [none, none, none])) ++ [], S, G)) := by
  have hla := ns_lt ha
  refine xC.of okX8_init (Nat.le_of_ble_eq_true rfl) (L := [_]) rfl ?_
  refine xA.shp (ns_0 ha) ?_
  refine xA.aload_n (i := 0) rfl rfl rfl rfl ?_
  refine xA.objInit rfl w199 w31 w32 rfl (Nat.le_of_ble_eq_true rfl) rfl ?_
  exact xA.vret rfl rfl ⟨rfl, rfl⟩
set_option maxRecDepth 100000 in
theorem c_X5_init (d : Nat) (σ : List xSh) (S : Nat → Nat → Int32) (G : Nat → Nat → Int64) (a : Nat) (ha : σ[a]? = some (.inl (5, [none, none]))) (hz : zb S G σ.length) : xC (d + 2) mX5_init [.ref a] (σ, S, G) 2 21 (fun r h' => r = none ∧ h' = (σ.set a (.inl (5, [some σ.length, none])) ++ [.inl (3, [some (σ.length + 1), none, none, none]), .inr (.inl 17)], S, G)) := by
  have hla := ns_lt ha
  refine xC.of okX5_init (Nat.le_of_ble_eq_true rfl) (L := [_]) rfl ?_
  refine xA.shp (ns_0 ha) ?_
  refine xA.aload_n (i := 0) rfl rfl rfl rfl ?_
  refine xA.objInit rfl w146 w31 w32 rfl (Nat.le_of_ble_eq_true rfl) rfl ?_
  refine xA.aload_n (i := 0) rfl rfl rfl rfl ?_
  refine xA.new rfl n5_9 rfl (Nat.le_of_ble_eq_true rfl) (Nat.le_of_ble_eq_true rfl) rfl ?_
  refine xA.zz hz (by rw [ns_len]; omega) ?_
  refine xA.top (show _ = σ.length by rw [ns_len]; rfl) ?_
  refine xA.shp (σ' := σ.set a (.inl (5, [none, none])) ++ [.inl (3, [none, none, none, none])]) (by rw [List.append_assoc]; rfl) ?_
  refine xA.dup rfl rfl rfl ?_
  refine xA.callIN (As := []) rfl k5_11 okX3_init rfl rfl (Nat.le_of_ble_eq_true rfl) (c_X3_init d _ S G σ.length (by rw [List.getElem?_append_right (by rw [List.length_set]; omega), List.length_set, Nat.sub_self]; rfl) (hz.le (by rw [ns_len]; omega))) (Nat.le_of_ble_eq_true rfl) (Nat.le_of_ble_eq_true rfl) rfl rfl ?_
  rintro r9 h9 ⟨rfl, rfl⟩
  refine xA.shp (σ' := σ.set a (.inl (5, [none, none])) ++ [.inl (3, [some (σ.length + 1), none, none, none]), .inr (.inl 17)]) ?_ ?_
  · rw [ns_len, List.set_append_right _ _ (by rw [List.length_set]; omega), List.length_set, Nat.sub_self, List.append_assoc]; rfl
  refine xA.putR rfl q5_12 rfl (ns_get hla) rfl (Nat.le_of_ble_eq_true rfl) rfl ?_
  refine xA.shp (ns_set hla) ?_
  exact xA.vret rfl rfl ⟨rfl, rfl⟩
set_option maxRecDepth 100000 in
set_option maxHeartbeats 4000000 in
theorem c_X2_init (d : Nat) (S : Nat → Nat → Int32) (G : Nat → Nat → Int64) (hz : zb S G 19) : xC (d + 3) mX2_init [.ref 18] ([.inl (9, [some 1, some 3, some 6, some 9, some 11, some 12, some 16, none, none, none, none, none, none]), .inl (4, [some 2, none]), .inr (.inl 45), .inl (1, [some 4, some 5, none, none, none, none, none, none]), .inr (.inl 36), .inr (.inl 6), .inl (1, [some 7, some 8, none, none, none, none, none, none]), .inr (.inl 36), .inr (.inl 6), .inl (3, [some 10, none, none, none]), .inr (.inl 17), .inr (.inr [none, none, none, none]), .inl (7, [some 13, some 14, some 15, none]), .inr (.inl 5), .inr (.inl 5), .inr (.inl 5), .inl (0, [some 17, none]), .inr (.inl 8), .inl (2, [none, none, none, none, none])], S, G) 19 125 (fun r h' => r = none ∧ h' = ([.inl (9, [some 1, some 3, some 6, some 9, some 11, some 12, some 16, none, none, none, none, none, none]), .inl (4, [some 2, none]), .inr (.inl 45), .inl (1, [some 4, some 5, none, none, none, none, none, none]), .inr (.inl 36), .inr (.inl 6), .inl (1, [some 7, some 8, none, none, none, none, none, none]), .inr (.inl 36), .inr (.inl 6), .inl (3, [some 10, none, none, none]), .inr (.inl 17), .inr (.inr [none, none, none, none]), .inl (7, [some 13, some 14, some 15, none]), .inr (.inl 5), .inr (.inl 5), .inr (.inl 5), .inl (0, [some 17, none]), .inr (.inl 8), .inl (2, [some 19, some 20, some 24, none, none]), .inr (.inr [some 26, some 29, some 32, some 35]), .inl (7, [some 21, some 22, some 23, none]), .inr (.inl 5), .inr (.inl 5), .inr (.inl 5), .inl (0, [some 25, none]), .inr (.inl 8), .inl (5, [some 27, none]), .inl (3, [some 28, none, none, none]), .inr (.inl 17), .inl (5, [some 30, none]), .inl (3, [some 31, none, none, none]), .inr (.inl 17), .inl (5, [some 33, none]), .inl (3, [some 34, none, none, none]), .inr (.inl 17), .inl (5, [some 36, none]), .inl (3, [some 37, none, none, none]), .inr (.inl 17)], S, G)) := by
  refine xC.of okX2_init (Nat.le_of_ble_eq_true rfl) (L := [_, _]) rfl ?_
  refine xA.aload_n (i := 0) rfl rfl rfl rfl ?_
  refine xA.objInit rfl w136 w31 w32 rfl (Nat.le_of_ble_eq_true rfl) rfl ?_
  refine xA.aload_n (i := 0) rfl rfl rfl rfl ?_
  refine xA.iconst (v := (4)) rfl (by decide) rfl ?_
  refine xA.newq (N := 4) rfl w137 (by decide) (by decide) (Nat.le_of_ble_eq_true rfl) (Nat.le_of_ble_eq_true rfl) (Nat.le_of_ble_eq_true rfl) rfl ?_
  refine xA.zz (m := 19) (hz.le (m := 19) (Nat.le_of_ble_eq_true rfl)) (Nat.le_of_ble_eq_true rfl) ?_
  refine xA.top (k' := 19) rfl ?_
  refine xA.shp (σ' := [.inl (9, [some 1, some 3, some 6, some 9, some 11, some 12, some 16, none, none, none, none, none, none]), .inl (4, [some 2, none]), .inr (.inl 45), .inl (1, [some 4, some 5, none, none, none, none, none, none]), .inr (.inl 36), .inr (.inl 6), .inl (1, [some 7, some 8, none, none, none, none, none, none]), .inr (.inl 36), .inr (.inl 6), .inl (3, [some 10, none, none, none]), .inr (.inl 17), .inr (.inr [none, none, none, none]), .inl (7, [some 13, some 14, some 15, none]), .inr (.inl 5), .inr (.inl 5), .inr (.inl 5), .inl (0, [some 17, none]), .inr (.inl 8), .inl (2, [none, none, none, none, none]), .inr (.inr [none, none, none, none])]) rfl ?_
  refine xA.putR rfl q2_11 rfl rfl rfl (by decide) rfl ?_
  refine xA.shp (σ' := [.inl (9, [some 1, some 3, some 6, some 9, some 11, some 12, some 16, none, none, none, none, none, none]), .inl (4, [some 2, none]), .inr (.inl 45), .inl (1, [some 4, some 5, none, none, none, none, none, none]), .inr (.inl 36), .inr (.inl 6), .inl (1, [some 7, some 8, none, none, none, none, none, none]), .inr (.inl 36), .inr (.inl 6), .inl (3, [some 10, none, none, none]), .inr (.inl 17), .inr (.inr [none, none, none, none]), .inl (7, [some 13, some 14, some 15, none]), .inr (.inl 5), .inr (.inl 5), .inr (.inl 5), .inl (0, [some 17, none]), .inr (.inl 8), .inl (2, [some 19, none, none, none, none]), .inr (.inr [none, none, none, none])]) rfl ?_
  refine xA.aload_n (i := 0) rfl rfl rfl rfl ?_
  refine xA.new rfl n2_17 rfl (Nat.le_of_ble_eq_true rfl) (Nat.le_of_ble_eq_true rfl) rfl ?_
  refine xA.zz (m := 20) (hz.le (m := 20) (Nat.le_of_ble_eq_true rfl)) (Nat.le_of_ble_eq_true rfl) ?_
  refine xA.top (k' := 20) rfl ?_
  refine xA.shp (σ' := [.inl (9, [some 1, some 3, some 6, some 9, some 11, some 12, some 16, none, none, none, none, none, none]), .inl (4, [some 2, none]), .inr (.inl 45), .inl (1, [some 4, some 5, none, none, none, none, none, none]), .inr (.inl 36), .inr (.inl 6), .inl (1, [some 7, some 8, none, none, none, none, none, none]), .inr (.inl 36), .inr (.inl 6), .inl (3, [some 10, none, none, none]), .inr (.inl 17), .inr (.inr [none, none, none, none]), .inl (7, [some 13, some 14, some 15, none]), .inr (.inl 5), .inr (.inl 5), .inr (.inl 5), .inl (0, [some 17, none]), .inr (.inl 8), .inl (2, [some 19, none, none, none, none]), .inr (.inr [none, none, none, none]), .inl (7, [none, none, none, none])]) rfl ?_
  refine xA.dup rfl rfl rfl ?_
  refine xA.callIN (As := []) rfl k2_19 okX7_init rfl rfl (Nat.le_of_ble_eq_true rfl) (c_X7_init (d + 1) _ _ _ 20 rfl (hz.le (m := 21) (Nat.le_of_ble_eq_true rfl))) (Nat.le_of_ble_eq_true rfl) (Nat.le_of_ble_eq_true rfl) rfl rfl ?_
  rintro r9 h9 ⟨rfl, rfl⟩
  refine xA.shp (σ' := [.inl (9, [some 1, some 3, some 6, some 9, some 11, some 12, some 16, none, none, none, none, none, none]), .inl (4, [some 2, none]), .inr (.inl 45), .inl (1, [some 4, some 5, none, none, none, none, none, none]), .inr (.inl 36), .inr (.inl 6), .inl (1, [some 7, some 8, none, none, none, none, none, none]), .inr (.inl 36), .inr (.inl 6), .inl (3, [some 10, none, none, none]), .inr (.inl 17), .inr (.inr [none, none, none, none]), .inl (7, [some 13, some 14, some 15, none]), .inr (.inl 5), .inr (.inl 5), .inr (.inl 5), .inl (0, [some 17, none]), .inr (.inl 8), .inl (2, [some 19, none, none, none, none]), .inr (.inr [none, none, none, none]), .inl (7, [some 21, some 22, some 23, none]), .inr (.inl 5), .inr (.inl 5), .inr (.inl 5)]) rfl ?_
  refine xA.putR rfl q2_20 rfl rfl rfl (by decide) rfl ?_
  refine xA.shp (σ' := [.inl (9, [some 1, some 3, some 6, some 9, some 11, some 12, some 16, none, none, none, none, none, none]), .inl (4, [some 2, none]), .inr (.inl 45), .inl (1, [some 4, some 5, none, none, none, none, none, none]), .inr (.inl 36), .inr (.inl 6), .inl (1, [some 7, some 8, none, none, none, none, none, none]), .inr (.inl 36), .inr (.inl 6), .inl (3, [some 10, none, none, none]), .inr (.inl 17), .inr (.inr [none, none, none, none]), .inl (7, [some 13, some 14, some 15, none]), .inr (.inl 5), .inr (.inl 5), .inr (.inl 5), .inl (0, [some 17, none]), .inr (.inl 8), .inl (2, [some 19, some 20, none, none, none]), .inr (.inr [none, none, none, none]), .inl (7, [some 21, some 22, some 23, none]), .inr (.inl 5), .inr (.inl 5), .inr (.inl 5)]) rfl ?_
  refine xA.aload_n (i := 0) rfl rfl rfl rfl ?_
  refine xA.new rfl n2_24 rfl (Nat.le_of_ble_eq_true rfl) (Nat.le_of_ble_eq_true rfl) rfl ?_
  refine xA.zz (m := 24) (hz.le (m := 24) (Nat.le_of_ble_eq_true rfl)) (Nat.le_of_ble_eq_true rfl) ?_
  refine xA.top (k' := 24) rfl ?_
  refine xA.shp (σ' := [.inl (9, [some 1, some 3, some 6, some 9, some 11, some 12, some 16, none, none, none, none, none, none]), .inl (4, [some 2, none]), .inr (.inl 45), .inl (1, [some 4, some 5, none, none, none, none, none, none]), .inr (.inl 36), .inr (.inl 6), .inl (1, [some 7, some 8, none, none, none, none, none, none]), .inr (.inl 36), .inr (.inl 6), .inl (3, [some 10, none, none, none]), .inr (.inl 17), .inr (.inr [none, none, none, none]), .inl (7, [some 13, some 14, some 15, none]), .inr (.inl 5), .inr (.inl 5), .inr (.inl 5), .inl (0, [some 17, none]), .inr (.inl 8), .inl (2, [some 19, some 20, none, none, none]), .inr (.inr [none, none, none, none]), .inl (7, [some 21, some 22, some 23, none]), .inr (.inl 5), .inr (.inl 5), .inr (.inl 5), .inl (0, [none, none])]) rfl ?_
  refine xA.dup rfl rfl rfl ?_
  refine xA.callIN (As := []) rfl k2_26 okX0_init rfl rfl (Nat.le_of_ble_eq_true rfl) (c_X0_init (d + 1) _ _ _ 24 rfl (hz.le (m := 25) (Nat.le_of_ble_eq_true rfl))) (Nat.le_of_ble_eq_true rfl) (Nat.le_of_ble_eq_true rfl) rfl rfl ?_
  rintro r9 h9 ⟨rfl, rfl⟩
  refine xA.shp (σ' := [.inl (9, [some 1, some 3, some 6, some 9, some 11, some 12, some 16, none, none, none, none, none, none]), .inl (4, [some 2, none]), .inr (.inl 45), .inl (1, [some 4, some 5, none, none, none, none, none, none]), .inr (.inl 36), .inr (.inl 6), .inl (1, [some 7, some 8, none, none, none, none, none, none]), .inr (.inl 36), .inr (.inl 6), .inl (3, [some 10, none, none, none]), .inr (.inl 17), .inr (.inr [none, none, none, none]), .inl (7, [some 13, some 14, some 15, none]), .inr (.inl 5), .inr (.inl 5), .inr (.inl 5), .inl (0, [some 17, none]), .inr (.inl 8), .inl (2, [some 19, some 20, none, none, none]), .inr (.inr [none, none, none, none]), .inl (7, [some 21, some 22, some 23, none]), .inr (.inl 5), .inr (.inl 5), .inr (.inl 5), .inl (0, [some 25, none]), .inr (.inl 8)]) rfl ?_
  refine xA.putR rfl q2_27 rfl rfl rfl (by decide) rfl ?_
  refine xA.shp (σ' := [.inl (9, [some 1, some 3, some 6, some 9, some 11, some 12, some 16, none, none, none, none, none, none]), .inl (4, [some 2, none]), .inr (.inl 45), .inl (1, [some 4, some 5, none, none, none, none, none, none]), .inr (.inl 36), .inr (.inl 6), .inl (1, [some 7, some 8, none, none, none, none, none, none]), .inr (.inl 36), .inr (.inl 6), .inl (3, [some 10, none, none, none]), .inr (.inl 17), .inr (.inr [none, none, none, none]), .inl (7, [some 13, some 14, some 15, none]), .inr (.inl 5), .inr (.inl 5), .inr (.inl 5), .inl (0, [some 17, none]), .inr (.inl 8), .inl (2, [some 19, some 20, some 24, none, none]), .inr (.inr [none, none, none, none]), .inl (7, [some 21, some 22, some 23, none]), .inr (.inl 5), .inr (.inl 5), .inr (.inl 5), .inl (0, [some 25, none]), .inr (.inl 8)]) rfl ?_
  refine xA.iconst (v := (0)) rfl (by decide) rfl ?_
  refine xA.istore_n (i := 1) (L' := [_, _]) rfl rfl (Nat.le_of_ble_eq_true rfl) rfl rfl ?_
  refine xA.iload_n (i := 1) rfl rfl rfl rfl ?_
  refine xA.aload_n (i := 0) rfl rfl rfl rfl ?_
  refine xA.getR rfl f2_11 rfl rfl rfl rfl ?_
  refine xA.alenR rfl rfl rfl ?_
  refine xA.icmp_ge (tgt := 64) rfl rfl rfl (fun h42 => ?_) (fun h42 => ?_)
  · exact absurd h42 (by decide)
  refine xA.aload_n (i := 0) rfl rfl rfl rfl ?_
  refine xA.getR rfl f2_11 rfl rfl rfl rfl ?_
  refine xA.iload_n (i := 1) rfl rfl rfl rfl ?_
  refine xA.new rfl n2_9 rfl (Nat.le_of_ble_eq_true rfl) (Nat.le_of_ble_eq_true rfl) rfl ?_
  refine xA.zz (m := 26) (hz.le (m := 26) (Nat.le_of_ble_eq_true rfl)) (Nat.le_of_ble_eq_true rfl) ?_
  refine xA.top (k' := 26) rfl ?_
  refine xA.shp (σ' := [.inl (9, [some 1, some 3, some 6, some 9, some 11, some 12, some 16, none, none, none, none, none, none]), .inl (4, [some 2, none]), .inr (.inl 45), .inl (1, [some 4, some 5, none, none, none, none, none, none]), .inr (.inl 36), .inr (.inl 6), .inl (1, [some 7, some 8, none, none, none, none, none, none]), .inr (.inl 36), .inr (.inl 6), .inl (3, [some 10, none, none, none]), .inr (.inl 17), .inr (.inr [none, none, none, none]), .inl (7, [some 13, some 14, some 15, none]), .inr (.inl 5), .inr (.inl 5), .inr (.inl 5), .inl (0, [some 17, none]), .inr (.inl 8), .inl (2, [some 19, some 20, some 24, none, none]), .inr (.inr [none, none, none, none]), .inl (7, [some 21, some 22, some 23, none]), .inr (.inl 5), .inr (.inl 5), .inr (.inl 5), .inl (0, [some 25, none]), .inr (.inl 8), .inl (5, [none, none])]) rfl ?_
  refine xA.dup rfl rfl rfl ?_
  refine xA.callIN (As := []) rfl k2_31 okX5_init rfl rfl (Nat.le_of_ble_eq_true rfl) (c_X5_init d _ _ _ 26 rfl (hz.le (m := 27) (Nat.le_of_ble_eq_true rfl))) (Nat.le_of_ble_eq_true rfl) (Nat.le_of_ble_eq_true rfl) rfl rfl ?_
  rintro r9 h9 ⟨rfl, rfl⟩
  refine xA.shp (σ' := [.inl (9, [some 1, some 3, some 6, some 9, some 11, some 12, some 16, none, none, none, none, none, none]), .inl (4, [some 2, none]), .inr (.inl 45), .inl (1, [some 4, some 5, none, none, none, none, none, none]), .inr (.inl 36), .inr (.inl 6), .inl (1, [some 7, some 8, none, none, none, none, none, none]), .inr (.inl 36), .inr (.inl 6), .inl (3, [some 10, none, none, none]), .inr (.inl 17), .inr (.inr [none, none, none, none]), .inl (7, [some 13, some 14, some 15, none]), .inr (.inl 5), .inr (.inl 5), .inr (.inl 5), .inl (0, [some 17, none]), .inr (.inl 8), .inl (2, [some 19, some 20, some 24, none, none]), .inr (.inr [none, none, none, none]), .inl (7, [some 21, some 22, some 23, none]), .inr (.inl 5), .inr (.inl 5), .inr (.inl 5), .inl (0, [some 25, none]), .inr (.inl 8), .inl (5, [some 27, none]), .inl (3, [some 28, none, none, none]), .inr (.inl 17)]) rfl ?_
  refine xA.aast (ci := 5) rfl rfl rfl (vp_in_nI (n := 0) (by decide) (by decide)) rfl ?_
  refine xA.shp (σ' := [.inl (9, [some 1, some 3, some 6, some 9, some 11, some 12, some 16, none, none, none, none, none, none]), .inl (4, [some 2, none]), .inr (.inl 45), .inl (1, [some 4, some 5, none, none, none, none, none, none]), .inr (.inl 36), .inr (.inl 6), .inl (1, [some 7, some 8, none, none, none, none, none, none]), .inr (.inl 36), .inr (.inl 6), .inl (3, [some 10, none, none, none]), .inr (.inl 17), .inr (.inr [none, none, none, none]), .inl (7, [some 13, some 14, some 15, none]), .inr (.inl 5), .inr (.inl 5), .inr (.inl 5), .inl (0, [some 17, none]), .inr (.inl 8), .inl (2, [some 19, some 20, some 24, none, none]), .inr (.inr [some 26, none, none, none]), .inl (7, [some 21, some 22, some 23, none]), .inr (.inl 5), .inr (.inl 5), .inr (.inl 5), .inl (0, [some 25, none]), .inr (.inl 8), .inl (5, [some 27, none]), .inl (3, [some 28, none, none, none]), .inr (.inl 17)]) rfl ?_
  refine xA.iinc (L' := [_, _]) rfl rfl (nI_1 0) rfl rfl ?_
  refine xA.goto (q := 36) rfl rfl ?_
  refine xA.iload_n (i := 1) rfl rfl rfl rfl ?_
  refine xA.aload_n (i := 0) rfl rfl rfl rfl ?_
  refine xA.getR rfl f2_11 rfl rfl rfl rfl ?_
  refine xA.alenR rfl rfl rfl ?_
  refine xA.icmp_ge (tgt := 64) rfl rfl rfl (fun h42 => ?_) (fun h42 => ?_)
  · exact absurd h42 (by decide)
  refine xA.aload_n (i := 0) rfl rfl rfl rfl ?_
  refine xA.getR rfl f2_11 rfl rfl rfl rfl ?_
  refine xA.iload_n (i := 1) rfl rfl rfl rfl ?_
  refine xA.new rfl n2_9 rfl (Nat.le_of_ble_eq_true rfl) (Nat.le_of_ble_eq_true rfl) rfl ?_
  refine xA.zz (m := 29) (hz.le (m := 29) (Nat.le_of_ble_eq_true rfl)) (Nat.le_of_ble_eq_true rfl) ?_
  refine xA.top (k' := 29) rfl ?_
  refine xA.shp (σ' := [.inl (9, [some 1, some 3, some 6, some 9, some 11, some 12, some 16, none, none, none, none, none, none]), .inl (4, [some 2, none]), .inr (.inl 45), .inl (1, [some 4, some 5, none, none, none, none, none, none]), .inr (.inl 36), .inr (.inl 6), .inl (1, [some 7, some 8, none, none, none, none, none, none]), .inr (.inl 36), .inr (.inl 6), .inl (3, [some 10, none, none, none]), .inr (.inl 17), .inr (.inr [none, none, none, none]), .inl (7, [some 13, some 14, some 15, none]), .inr (.inl 5), .inr (.inl 5), .inr (.inl 5), .inl (0, [some 17, none]), .inr (.inl 8), .inl (2, [some 19, some 20, some 24, none, none]), .inr (.inr [some 26, none, none, none]), .inl (7, [some 21, some 22, some 23, none]), .inr (.inl 5), .inr (.inl 5), .inr (.inl 5), .inl (0, [some 25, none]), .inr (.inl 8), .inl (5, [some 27, none]), .inl (3, [some 28, none, none, none]), .inr (.inl 17), .inl (5, [none, none])]) rfl ?_
  refine xA.dup rfl rfl rfl ?_
  refine xA.callIN (As := []) rfl k2_31 okX5_init rfl rfl (Nat.le_of_ble_eq_true rfl) (c_X5_init d _ _ _ 29 rfl (hz.le (m := 30) (Nat.le_of_ble_eq_true rfl))) (Nat.le_of_ble_eq_true rfl) (Nat.le_of_ble_eq_true rfl) rfl rfl ?_
  rintro r9 h9 ⟨rfl, rfl⟩
  refine xA.shp (σ' := [.inl (9, [some 1, some 3, some 6, some 9, some 11, some 12, some 16, none, none, none, none, none, none]), .inl (4, [some 2, none]), .inr (.inl 45), .inl (1, [some 4, some 5, none, none, none, none, none, none]), .inr (.inl 36), .inr (.inl 6), .inl (1, [some 7, some 8, none, none, none, none, none, none]), .inr (.inl 36), .inr (.inl 6), .inl (3, [some 10, none, none, none]), .inr (.inl 17), .inr (.inr [none, none, none, none]), .inl (7, [some 13, some 14, some 15, none]), .inr (.inl 5), .inr (.inl 5), .inr (.inl 5), .inl (0, [some 17, none]), .inr (.inl 8), .inl (2, [some 19, some 20, some 24, none, none]), .inr (.inr [some 26, none, none, none]), .inl (7, [some 21, some 22, some 23, none]), .inr (.inl 5), .inr (.inl 5), .inr (.inl 5), .inl (0, [some 25, none]), .inr (.inl 8), .inl (5, [some 27, none]), .inl (3, [some 28, none, none, none]), .inr (.inl 17), .inl (5, [some 30, none]), .inl (3, [some 31, none, none, none]), .inr (.inl 17)]) rfl ?_
  refine xA.aast (ci := 5) rfl rfl rfl (vp_in_nI (n := 1) (by decide) (by decide)) rfl ?_
  refine xA.shp (σ' := [.inl (9, [some 1, some 3, some 6, some 9, some 11, some 12, some 16, none, none, none, none, none, none]), .inl (4, [some 2, none]), .inr (.inl 45), .inl (1, [some 4, some 5, none, none, none, none, none, none]), .inr (.inl 36), .inr (.inl 6), .inl (1, [some 7, some 8, none, none, none, none, none, none]), .inr (.inl 36), .inr (.inl 6), .inl (3, [some 10, none, none, none]), .inr (.inl 17), .inr (.inr [none, none, none, none]), .inl (7, [some 13, some 14, some 15, none]), .inr (.inl 5), .inr (.inl 5), .inr (.inl 5), .inl (0, [some 17, none]), .inr (.inl 8), .inl (2, [some 19, some 20, some 24, none, none]), .inr (.inr [some 26, some 29, none, none]), .inl (7, [some 21, some 22, some 23, none]), .inr (.inl 5), .inr (.inl 5), .inr (.inl 5), .inl (0, [some 25, none]), .inr (.inl 8), .inl (5, [some 27, none]), .inl (3, [some 28, none, none, none]), .inr (.inl 17), .inl (5, [some 30, none]), .inl (3, [some 31, none, none, none]), .inr (.inl 17)]) rfl ?_
  refine xA.iinc (L' := [_, _]) rfl rfl (nI_1 1) rfl rfl ?_
  refine xA.goto (q := 36) rfl rfl ?_
  refine xA.iload_n (i := 1) rfl rfl rfl rfl ?_
  refine xA.aload_n (i := 0) rfl rfl rfl rfl ?_
  refine xA.getR rfl f2_11 rfl rfl rfl rfl ?_
  refine xA.alenR rfl rfl rfl ?_
  refine xA.icmp_ge (tgt := 64) rfl rfl rfl (fun h42 => ?_) (fun h42 => ?_)
  · exact absurd h42 (by decide)
  refine xA.aload_n (i := 0) rfl rfl rfl rfl ?_
  refine xA.getR rfl f2_11 rfl rfl rfl rfl ?_
  refine xA.iload_n (i := 1) rfl rfl rfl rfl ?_
  refine xA.new rfl n2_9 rfl (Nat.le_of_ble_eq_true rfl) (Nat.le_of_ble_eq_true rfl) rfl ?_
  refine xA.zz (m := 32) (hz.le (m := 32) (Nat.le_of_ble_eq_true rfl)) (Nat.le_of_ble_eq_true rfl) ?_
  refine xA.top (k' := 32) rfl ?_
  refine xA.shp (σ' := [.inl (9, [some 1, some 3, some 6, some 9, some 11, some 12, some 16, none, none, none, none, none, none]), .inl (4, [some 2, none]), .inr (.inl 45), .inl (1, [some 4, some 5, none, none, none, none, none, none]), .inr (.inl 36), .inr (.inl 6), .inl (1, [some 7, some 8, none, none, none, none, none, none]), .inr (.inl 36), .inr (.inl 6), .inl (3, [some 10, none, none, none]), .inr (.inl 17), .inr (.inr [none, none, none, none]), .inl (7, [some 13, some 14, some 15, none]), .inr (.inl 5), .inr (.inl 5), .inr (.inl 5), .inl (0, [some 17, none]), .inr (.inl 8), .inl (2, [some 19, some 20, some 24, none, none]), .inr (.inr [some 26, some 29, none, none]), .inl (7, [some 21, some 22, some 23, none]), .inr (.inl 5), .inr (.inl 5), .inr (.inl 5), .inl (0, [some 25, none]), .inr (.inl 8), .inl (5, [some 27, none]), .inl (3, [some 28, none, none, none]), .inr (.inl 17), .inl (5, [some 30, none]), .inl (3, [some 31, none, none, none]), .inr (.inl 17), .inl (5, [none, none])]) rfl ?_
  refine xA.dup rfl rfl rfl ?_
  refine xA.callIN (As := []) rfl k2_31 okX5_init rfl rfl (Nat.le_of_ble_eq_true rfl) (c_X5_init d _ _ _ 32 rfl (hz.le (m := 33) (Nat.le_of_ble_eq_true rfl))) (Nat.le_of_ble_eq_true rfl) (Nat.le_of_ble_eq_true rfl) rfl rfl ?_
  rintro r9 h9 ⟨rfl, rfl⟩
  refine xA.shp (σ' := [.inl (9, [some 1, some 3, some 6, some 9, some 11, some 12, some 16, none, none, none, none, none, none]), .inl (4, [some 2, none]), .inr (.inl 45), .inl (1, [some 4, some 5, none, none, none, none, none, none]), .inr (.inl 36), .inr (.inl 6), .inl (1, [some 7, some 8, none, none, none, none, none, none]), .inr (.inl 36), .inr (.inl 6), .inl (3, [some 10, none, none, none]), .inr (.inl 17), .inr (.inr [none, none, none, none]), .inl (7, [some 13, some 14, some 15, none]), .inr (.inl 5), .inr (.inl 5), .inr (.inl 5), .inl (0, [some 17, none]), .inr (.inl 8), .inl (2, [some 19, some 20, some 24, none, none]), .inr (.inr [some 26, some 29, none, none]), .inl (7, [some 21, some 22, some 23, none]), .inr (.inl 5), .inr (.inl 5), .inr (.inl 5), .inl (0, [some 25, none]), .inr (.inl 8), .inl (5, [some 27, none]), .inl (3, [some 28, none, none, none]), .inr (.inl 17), .inl (5, [some 30, none]), .inl (3, [some 31, none, none, none]), .inr (.inl 17), .inl (5, [some 33, none]), .inl (3, [some 34, none, none, none]), .inr (.inl 17)]) rfl ?_
  refine xA.aast (ci := 5) rfl rfl rfl (vp_in_nI (n := 2) (by decide) (by decide)) rfl ?_
  refine xA.shp (σ' := [.inl (9, [some 1, some 3, some 6, some 9, some 11, some 12, some 16, none, none, none, none, none, none]), .inl (4, [some 2, none]), .inr (.inl 45), .inl (1, [some 4, some 5, none, none, none, none, none, none]), .inr (.inl 36), .inr (.inl 6), .inl (1, [some 7, some 8, none, none, none, none, none, none]), .inr (.inl 36), .inr (.inl 6), .inl (3, [some 10, none, none, none]), .inr (.inl 17), .inr (.inr [none, none, none, none]), .inl (7, [some 13, some 14, some 15, none]), .inr (.inl 5), .inr (.inl 5), .inr (.inl 5), .inl (0, [some 17, none]), .inr (.inl 8), .inl (2, [some 19, some 20, some 24, none, none]), .inr (.inr [some 26, some 29, some 32, none]), .inl (7, [some 21, some 22, some 23, none]), .inr (.inl 5), .inr (.inl 5), .inr (.inl 5), .inl (0, [some 25, none]), .inr (.inl 8), .inl (5, [some 27, none]), .inl (3, [some 28, none, none, none]), .inr (.inl 17), .inl (5, [some 30, none]), .inl (3, [some 31, none, none, none]), .inr (.inl 17), .inl (5, [some 33, none]), .inl (3, [some 34, none, none, none]), .inr (.inl 17)]) rfl ?_
  refine xA.iinc (L' := [_, _]) rfl rfl (nI_1 2) rfl rfl ?_
  refine xA.goto (q := 36) rfl rfl ?_
  refine xA.iload_n (i := 1) rfl rfl rfl rfl ?_
  refine xA.aload_n (i := 0) rfl rfl rfl rfl ?_
  refine xA.getR rfl f2_11 rfl rfl rfl rfl ?_
  refine xA.alenR rfl rfl rfl ?_
  refine xA.icmp_ge (tgt := 64) rfl rfl rfl (fun h42 => ?_) (fun h42 => ?_)
  · exact absurd h42 (by decide)
  refine xA.aload_n (i := 0) rfl rfl rfl rfl ?_
  refine xA.getR rfl f2_11 rfl rfl rfl rfl ?_
  refine xA.iload_n (i := 1) rfl rfl rfl rfl ?_
  refine xA.new rfl n2_9 rfl (Nat.le_of_ble_eq_true rfl) (Nat.le_of_ble_eq_true rfl) rfl ?_
  refine xA.zz (m := 35) (hz.le (m := 35) (Nat.le_of_ble_eq_true rfl)) (Nat.le_of_ble_eq_true rfl) ?_
  refine xA.top (k' := 35) rfl ?_
  refine xA.shp (σ' := [.inl (9, [some 1, some 3, some 6, some 9, some 11, some 12, some 16, none, none, none, none, none, none]), .inl (4, [some 2, none]), .inr (.inl 45), .inl (1, [some 4, some 5, none, none, none, none, none, none]), .inr (.inl 36), .inr (.inl 6), .inl (1, [some 7, some 8, none, none, none, none, none, none]), .inr (.inl 36), .inr (.inl 6), .inl (3, [some 10, none, none, none]), .inr (.inl 17), .inr (.inr [none, none, none, none]), .inl (7, [some 13, some 14, some 15, none]), .inr (.inl 5), .inr (.inl 5), .inr (.inl 5), .inl (0, [some 17, none]), .inr (.inl 8), .inl (2, [some 19, some 20, some 24, none, none]), .inr (.inr [some 26, some 29, some 32, none]), .inl (7, [some 21, some 22, some 23, none]), .inr (.inl 5), .inr (.inl 5), .inr (.inl 5), .inl (0, [some 25, none]), .inr (.inl 8), .inl (5, [some 27, none]), .inl (3, [some 28, none, none, none]), .inr (.inl 17), .inl (5, [some 30, none]), .inl (3, [some 31, none, none, none]), .inr (.inl 17), .inl (5, [some 33, none]), .inl (3, [some 34, none, none, none]), .inr (.inl 17), .inl (5, [none, none])]) rfl ?_
  refine xA.dup rfl rfl rfl ?_
  refine xA.callIN (As := []) rfl k2_31 okX5_init rfl rfl (Nat.le_of_ble_eq_true rfl) (c_X5_init d _ _ _ 35 rfl (hz.le (m := 36) (Nat.le_of_ble_eq_true rfl))) (Nat.le_of_ble_eq_true rfl) (Nat.le_of_ble_eq_true rfl) rfl rfl ?_
  rintro r9 h9 ⟨rfl, rfl⟩
  refine xA.shp (σ' := [.inl (9, [some 1, some 3, some 6, some 9, some 11, some 12, some 16, none, none, none, none, none, none]), .inl (4, [some 2, none]), .inr (.inl 45), .inl (1, [some 4, some 5, none, none, none, none, none, none]), .inr (.inl 36), .inr (.inl 6), .inl (1, [some 7, some 8, none, none, none, none, none, none]), .inr (.inl 36), .inr (.inl 6), .inl (3, [some 10, none, none, none]), .inr (.inl 17), .inr (.inr [none, none, none, none]), .inl (7, [some 13, some 14, some 15, none]), .inr (.inl 5), .inr (.inl 5), .inr (.inl 5), .inl (0, [some 17, none]), .inr (.inl 8), .inl (2, [some 19, some 20, some 24, none, none]), .inr (.inr [some 26, some 29, some 32, none]), .inl (7, [some 21, some 22, some 23, none]), .inr (.inl 5), .inr (.inl 5), .inr (.inl 5), .inl (0, [some 25, none]), .inr (.inl 8), .inl (5, [some 27, none]), .inl (3, [some 28, none, none, none]), .inr (.inl 17), .inl (5, [some 30, none]), .inl (3, [some 31, none, none, none]), .inr (.inl 17), .inl (5, [some 33, none]), .inl (3, [some 34, none, none, none]), .inr (.inl 17), .inl (5, [some 36, none]), .inl (3, [some 37, none, none, none]), .inr (.inl 17)]) rfl ?_
  refine xA.aast (ci := 5) rfl rfl rfl (vp_in_nI (n := 3) (by decide) (by decide)) rfl ?_
  refine xA.shp (σ' := [.inl (9, [some 1, some 3, some 6, some 9, some 11, some 12, some 16, none, none, none, none, none, none]), .inl (4, [some 2, none]), .inr (.inl 45), .inl (1, [some 4, some 5, none, none, none, none, none, none]), .inr (.inl 36), .inr (.inl 6), .inl (1, [some 7, some 8, none, none, none, none, none, none]), .inr (.inl 36), .inr (.inl 6), .inl (3, [some 10, none, none, none]), .inr (.inl 17), .inr (.inr [none, none, none, none]), .inl (7, [some 13, some 14, some 15, none]), .inr (.inl 5), .inr (.inl 5), .inr (.inl 5), .inl (0, [some 17, none]), .inr (.inl 8), .inl (2, [some 19, some 20, some 24, none, none]), .inr (.inr [some 26, some 29, some 32, some 35]), .inl (7, [some 21, some 22, some 23, none]), .inr (.inl 5), .inr (.inl 5), .inr (.inl 5), .inl (0, [some 25, none]), .inr (.inl 8), .inl (5, [some 27, none]), .inl (3, [some 28, none, none, none]), .inr (.inl 17), .inl (5, [some 30, none]), .inl (3, [some 31, none, none, none]), .inr (.inl 17), .inl (5, [some 33, none]), .inl (3, [some 34, none, none, none]), .inr (.inl 17), .inl (5, [some 36, none]), .inl (3, [some 37, none, none, none]), .inr (.inl 17)]) rfl ?_
  refine xA.iinc (L' := [_, _]) rfl rfl (nI_1 3) rfl rfl ?_
  refine xA.goto (q := 36) rfl rfl ?_
  refine xA.iload_n (i := 1) rfl rfl rfl rfl ?_
  refine xA.aload_n (i := 0) rfl rfl rfl rfl ?_
  refine xA.getR rfl f2_11 rfl rfl rfl rfl ?_
  refine xA.alenR rfl rfl rfl ?_
  refine xA.icmp_ge (tgt := 64) rfl rfl rfl (fun h42 => ?_) (fun h42 => ?_)
  rotate_left
  · exact absurd (by decide) h42
  exact xA.vret rfl rfl ⟨rfl, rfl⟩
def Z32 : Nat → Nat → Int32 := fun _ _ => 0
def Z64 : Nat → Nat → Int64 := fun _ _ => 0
/-- the ints of the class when it is made -/
def Z9 : Nat → Nat → Int32 := xu (xu Z32 3 4 (-1)) 6 4 (-1)
theorem zb0 {n : Nat} (h : 1 ≤ n) : zb Z32 Z64 n := fun j _ => ⟨rfl, rfl⟩
theorem zb6 {n : Nat} (h : 4 ≤ n) : zb (xu Z32 3 4 (-1)) Z64 n := fun j hj => ⟨by rw [xu_off (by omega)]; rfl, rfl⟩
theorem zb9 {n : Nat} (h : 7 ≤ n) : zb Z9 Z64 n := fun j hj => ⟨by unfold Z9; rw [xu_off (by omega), xu_off (by omega)]; rfl, rfl⟩
set_option maxRecDepth 100000 in
set_option maxHeartbeats 8000000 in
theorem c_X9_init (d : Nat) : xC (d + 4) mX9_init [.ref 0] ([.inl (9, [none, none, none, none, none, none, none, none, none, none, none, none, none])], Z32, Z64) 53 3013 (fun r h' => r = none ∧ h' = ([.inl (9, [some 1, some 3, some 6, some 9, some 11, some 12, some 16, some 18, some 38, some 41, none, none, none]), .inl (4, [some 2, none]), .inr (.inl 45), .inl (1, [some 4, some 5, none, none, none, none, none, none]), .inr (.inl 36), .inr (.inl 6), .inl (1, [some 7, some 8, none, none, none, none, none, none]), .inr (.inl 36), .inr (.inl 6), .inl (3, [some 10, none, none, none]), .inr (.inl 17), .inr (.inr [some 42, some 45, some 48, some 51]), .inl (7, [some 13, some 14, some 15, none]), .inr (.inl 5), .inr (.inl 5), .inr (.inl 5), .inl (0, [some 17, none]), .inr (.inl 8), .inl (2, [some 19, some 20, some 24, none, none]), .inr (.inr [some 26, some 29, some 32, some 35]), .inl (7, [some 21, some 22, some 23, none]), .inr (.inl 5), .inr (.inl 5), .inr (.inl 5), .inl (0, [some 25, none]), .inr (.inl 8), .inl (5, [some 27, none]), .inl (3, [some 28, none, none, none]), .inr (.inl 17), .inl (5, [some 30, none]), .inl (3, [some 31, none, none, none]), .inr (.inl 17), .inl (5, [some 33, none]), .inl (3, [some 34, none, none, none]), .inr (.inl 17), .inl (5, [some 36, none]), .inl (3, [some 37, none, none, none]), .inr (.inl 17), .inl (6, [some 39, some 40, none, none, none, none, none]), .inr (.inl 2520), .inr (.inl 60), .inl (8, [none, none, none]), .inl (5, [some 43, none]), .inl (3, [some 44, none, none, none]), .inr (.inl 17), .inl (5, [some 46, none]), .inl (3, [some 47, none, none, none]), .inr (.inl 17), .inl (5, [some 49, none]), .inl (3, [some 50, none, none, none]), .inr (.inl 17), .inl (5, [some 52, none]), .inl (3, [some 53, none, none, none]), .inr (.inl 17)], Z9, Z64)) := by
  refine xC.of okX9_init (Nat.le_of_ble_eq_true rfl) (L := [_, _]) rfl ?_
  refine xA.aload_n (i := 0) rfl rfl rfl rfl ?_
  refine xA.objInit rfl w30 w31 w32 rfl (Nat.le_of_ble_eq_true rfl) rfl ?_
  refine xA.aload_n (i := 0) rfl rfl rfl rfl ?_
  refine xA.new rfl n9_9 rfl (Nat.le_of_ble_eq_true rfl) (Nat.le_of_ble_eq_true rfl) rfl ?_
  refine xA.zz (m := 1) (zb0 (n := 1) (Nat.le_of_ble_eq_true rfl)) (Nat.le_of_ble_eq_true rfl) ?_
  refine xA.top (k' := 1) rfl ?_
  refine xA.shp (σ' := [.inl (9, [none, none, none, none, none, none, none, none, none, none, none, none, none]), .inl (4, [none, none])]) rfl ?_
  refine xA.dup rfl rfl rfl ?_
  refine xA.callIN (As := []) rfl k9_11 okX4_init rfl rfl (Nat.le_of_ble_eq_true rfl) (c_X4_init (d + 2) _ _ _ 1 rfl (zb0 (n := 2) (Nat.le_of_ble_eq_true rfl))) (Nat.le_of_ble_eq_true rfl) (Nat.le_of_ble_eq_true rfl) rfl rfl ?_
  rintro r9 h9 ⟨rfl, rfl⟩
  refine xA.shp (σ' := [.inl (9, [none, none, none, none, none, none, none, none, none, none, none, none, none]), .inl (4, [some 2, none]), .inr (.inl 45)]) rfl ?_
  refine xA.putR rfl q9_12 rfl rfl rfl (by decide) rfl ?_
  refine xA.shp (σ' := [.inl (9, [some 1, none, none, none, none, none, none, none, none, none, none, none, none]), .inl (4, [some 2, none]), .inr (.inl 45)]) rfl ?_
  refine xA.aload_n (i := 0) rfl rfl rfl rfl ?_
  refine xA.new rfl n9_16 rfl (Nat.le_of_ble_eq_true rfl) (Nat.le_of_ble_eq_true rfl) rfl ?_
  refine xA.zz (m := 3) (zb0 (n := 3) (Nat.le_of_ble_eq_true rfl)) (Nat.le_of_ble_eq_true rfl) ?_
  refine xA.top (k' := 3) rfl ?_
  refine xA.shp (σ' := [.inl (9, [some 1, none, none, none, none, none, none, none, none, none, none, none, none]), .inl (4, [some 2, none]), .inr (.inl 45), .inl (1, [none, none, none, none, none, none, none, none])]) rfl ?_
  refine xA.dup rfl rfl rfl ?_
  refine xA.callIN (As := []) rfl k9_18 okX1_init rfl rfl (Nat.le_of_ble_eq_true rfl) (c_X1_init (d + 2) _ _ _ 3 rfl (zb0 (n := 4) (Nat.le_of_ble_eq_true rfl))) (Nat.le_of_ble_eq_true rfl) (Nat.le_of_ble_eq_true rfl) rfl rfl ?_
  rintro r9 h9 ⟨rfl, rfl⟩
  refine xA.shp (σ' := [.inl (9, [some 1, none, none, none, none, none, none, none, none, none, none, none, none]), .inl (4, [some 2, none]), .inr (.inl 45), .inl (1, [some 4, some 5, none, none, none, none, none, none]), .inr (.inl 36), .inr (.inl 6)]) rfl ?_
  refine xA.putR rfl q9_19 rfl rfl rfl (by decide) rfl ?_
  refine xA.shp (σ' := [.inl (9, [some 1, some 3, none, none, none, none, none, none, none, none, none, none, none]), .inl (4, [some 2, none]), .inr (.inl 45), .inl (1, [some 4, some 5, none, none, none, none, none, none]), .inr (.inl 36), .inr (.inl 6)]) rfl ?_
  refine xA.aload_n (i := 0) rfl rfl rfl rfl ?_
  refine xA.new rfl n9_16 rfl (Nat.le_of_ble_eq_true rfl) (Nat.le_of_ble_eq_true rfl) rfl ?_
  refine xA.zz (m := 6) (zb6 (n := 6) (Nat.le_of_ble_eq_true rfl)) (Nat.le_of_ble_eq_true rfl) ?_
  refine xA.top (k' := 6) rfl ?_
  refine xA.shp (σ' := [.inl (9, [some 1, some 3, none, none, none, none, none, none, none, none, none, none, none]), .inl (4, [some 2, none]), .inr (.inl 45), .inl (1, [some 4, some 5, none, none, none, none, none, none]), .inr (.inl 36), .inr (.inl 6), .inl (1, [none, none, none, none, none, none, none, none])]) rfl ?_
  refine xA.dup rfl rfl rfl ?_
  refine xA.callIN (As := []) rfl k9_18 okX1_init rfl rfl (Nat.le_of_ble_eq_true rfl) (c_X1_init (d + 2) _ _ _ 6 rfl (zb6 (n := 7) (Nat.le_of_ble_eq_true rfl))) (Nat.le_of_ble_eq_true rfl) (Nat.le_of_ble_eq_true rfl) rfl rfl ?_
  rintro r9 h9 ⟨rfl, rfl⟩
  refine xA.shp (σ' := [.inl (9, [some 1, some 3, none, none, none, none, none, none, none, none, none, none, none]), .inl (4, [some 2, none]), .inr (.inl 45), .inl (1, [some 4, some 5, none, none, none, none, none, none]), .inr (.inl 36), .inr (.inl 6), .inl (1, [some 7, some 8, none, none, none, none, none, none]), .inr (.inl 36), .inr (.inl 6)]) rfl ?_
  refine xA.putR rfl q9_23 rfl rfl rfl (by decide) rfl ?_
  refine xA.shp (σ' := [.inl (9, [some 1, some 3, some 6, none, none, none, none, none, none, none, none, none, none]), .inl (4, [some 2, none]), .inr (.inl 45), .inl (1, [some 4, some 5, none, none, none, none, none, none]), .inr (.inl 36), .inr (.inl 6), .inl (1, [some 7, some 8, none, none, none, none, none, none]), .inr (.inl 36), .inr (.inl 6)]) rfl ?_
  refine xA.aload_n (i := 0) rfl rfl rfl rfl ?_
  refine xA.new rfl n9_26 rfl (Nat.le_of_ble_eq_true rfl) (Nat.le_of_ble_eq_true rfl) rfl ?_
  refine xA.zz (m := 9) (zb9 (n := 9) (Nat.le_of_ble_eq_true rfl)) (Nat.le_of_ble_eq_true rfl) ?_
  refine xA.top (k' := 9) rfl ?_
  refine xA.shp (σ' := [.inl (9, [some 1, some 3, some 6, none, none, none, none, none, none, none, none, none, none]), .inl (4, [some 2, none]), .inr (.inl 45), .inl (1, [some 4, some 5, none, none, none, none, none, none]), .inr (.inl 36), .inr (.inl 6), .inl (1, [some 7, some 8, none, none, none, none, none, none]), .inr (.inl 36), .inr (.inl 6), .inl (3, [none, none, none, none])]) rfl ?_
  refine xA.dup rfl rfl rfl ?_
  refine xA.callIN (As := []) rfl k9_28 okX3_init rfl rfl (Nat.le_of_ble_eq_true rfl) (c_X3_init (d + 2) _ _ _ 9 rfl (zb9 (n := 10) (Nat.le_of_ble_eq_true rfl))) (Nat.le_of_ble_eq_true rfl) (Nat.le_of_ble_eq_true rfl) rfl rfl ?_
  rintro r9 h9 ⟨rfl, rfl⟩
  refine xA.shp (σ' := [.inl (9, [some 1, some 3, some 6, none, none, none, none, none, none, none, none, none, none]), .inl (4, [some 2, none]), .inr (.inl 45), .inl (1, [some 4, some 5, none, none, none, none, none, none]), .inr (.inl 36), .inr (.inl 6), .inl (1, [some 7, some 8, none, none, none, none, none, none]), .inr (.inl 36), .inr (.inl 6), .inl (3, [some 10, none, none, none]), .inr (.inl 17)]) rfl ?_
  refine xA.putR rfl q9_29 rfl rfl rfl (by decide) rfl ?_
  refine xA.shp (σ' := [.inl (9, [some 1, some 3, some 6, some 9, none, none, none, none, none, none, none, none, none]), .inl (4, [some 2, none]), .inr (.inl 45), .inl (1, [some 4, some 5, none, none, none, none, none, none]), .inr (.inl 36), .inr (.inl 6), .inl (1, [some 7, some 8, none, none, none, none, none, none]), .inr (.inl 36), .inr (.inl 6), .inl (3, [some 10, none, none, none]), .inr (.inl 17)]) rfl ?_
  refine xA.aload_n (i := 0) rfl rfl rfl rfl ?_
  refine xA.iconst (v := (4)) rfl (by decide) rfl ?_
  refine xA.newq (N := 4) rfl w97 (by decide) (by decide) (Nat.le_of_ble_eq_true rfl) (Nat.le_of_ble_eq_true rfl) (Nat.le_of_ble_eq_true rfl) rfl ?_
  refine xA.zz (m := 11) (zb9 (n := 11) (Nat.le_of_ble_eq_true rfl)) (Nat.le_of_ble_eq_true rfl) ?_
  refine xA.top (k' := 11) rfl ?_
  refine xA.shp (σ' := [.inl (9, [some 1, some 3, some 6, some 9, none, none, none, none, none, none, none, none, none]), .inl (4, [some 2, none]), .inr (.inl 45), .inl (1, [some 4, some 5, none, none, none, none, none, none]), .inr (.inl 36), .inr (.inl 6), .inl (1, [some 7, some 8, none, none, none, none, none, none]), .inr (.inl 36), .inr (.inl 6), .inl (3, [some 10, none, none, none]), .inr (.inl 17), .inr (.inr [none, none, none, none])]) rfl ?_
  refine xA.putR rfl q9_35 rfl rfl rfl (by decide) rfl ?_
  refine xA.shp (σ' := [.inl (9, [some 1, some 3, some 6, some 9, some 11, none, none, none, none, none, none, none, none]), .inl (4, [some 2, none]), .inr (.inl 45), .inl (1, [some 4, some 5, none, none, none, none, none, none]), .inr (.inl 36), .inr (.inl 6), .inl (1, [some 7, some 8, none, none, none, none, none, none]), .inr (.inl 36), .inr (.inl 6), .inl (3, [some 10, none, none, none]), .inr (.inl 17), .inr (.inr [none, none, none, none])]) rfl ?_
  refine xA.aload_n (i := 0) rfl rfl rfl rfl ?_
  refine xA.new rfl n9_39 rfl (Nat.le_of_ble_eq_true rfl) (Nat.le_of_ble_eq_true rfl) rfl ?_
  refine xA.zz (m := 12) (zb9 (n := 12) (Nat.le_of_ble_eq_true rfl)) (Nat.le_of_ble_eq_true rfl) ?_
  refine xA.top (k' := 12) rfl ?_
  refine xA.shp (σ' := [.inl (9, [some 1, some 3, some 6, some 9, some 11, none, none, none, none, none, none, none, none]), .inl (4, [some 2, none]), .inr (.inl 45), .inl (1, [some 4, some 5, none, none, none, none, none, none]), .inr (.inl 36), .inr (.inl 6), .inl (1, [some 7, some 8, none, none, none, none, none, none]), .inr (.inl 36), .inr (.inl 6), .inl (3, [some 10, none, none, none]), .inr (.inl 17), .inr (.inr [none, none, none, none]), .inl (7, [none, none, none, none])]) rfl ?_
  refine xA.dup rfl rfl rfl ?_
  refine xA.callIN (As := []) rfl k9_41 okX7_init rfl rfl (Nat.le_of_ble_eq_true rfl) (c_X7_init (d + 2) _ _ _ 12 rfl (zb9 (n := 13) (Nat.le_of_ble_eq_true rfl))) (Nat.le_of_ble_eq_true rfl) (Nat.le_of_ble_eq_true rfl) rfl rfl ?_
  rintro r9 h9 ⟨rfl, rfl⟩
  refine xA.shp (σ' := [.inl (9, [some 1, some 3, some 6, some 9, some 11, none, none, none, none, none, none, none, none]), .inl (4, [some 2, none]), .inr (.inl 45), .inl (1, [some 4, some 5, none, none, none, none, none, none]), .inr (.inl 36), .inr (.inl 6), .inl (1, [some 7, some 8, none, none, none, none, none, none]), .inr (.inl 36), .inr (.inl 6), .inl (3, [some 10, none, none, none]), .inr (.inl 17), .inr (.inr [none, none, none, none]), .inl (7, [some 13, some 14, some 15, none]), .inr (.inl 5), .inr (.inl 5), .inr (.inl 5)]) rfl ?_
  refine xA.putR rfl q9_42 rfl rfl rfl (by decide) rfl ?_
  refine xA.shp (σ' := [.inl (9, [some 1, some 3, some 6, some 9, some 11, some 12, none, none, none, none, none, none, none]), .inl (4, [some 2, none]), .inr (.inl 45), .inl (1, [some 4, some 5, none, none, none, none, none, none]), .inr (.inl 36), .inr (.inl 6), .inl (1, [some 7, some 8, none, none, none, none, none, none]), .inr (.inl 36), .inr (.inl 6), .inl (3, [some 10, none, none, none]), .inr (.inl 17), .inr (.inr [none, none, none, none]), .inl (7, [some 13, some 14, some 15, none]), .inr (.inl 5), .inr (.inl 5), .inr (.inl 5)]) rfl ?_
  refine xA.aload_n (i := 0) rfl rfl rfl rfl ?_
  refine xA.new rfl n9_46 rfl (Nat.le_of_ble_eq_true rfl) (Nat.le_of_ble_eq_true rfl) rfl ?_
  refine xA.zz (m := 16) (zb9 (n := 16) (Nat.le_of_ble_eq_true rfl)) (Nat.le_of_ble_eq_true rfl) ?_
  refine xA.top (k' := 16) rfl ?_
  refine xA.shp (σ' := [.inl (9, [some 1, some 3, some 6, some 9, some 11, some 12, none, none, none, none, none, none, none]), .inl (4, [some 2, none]), .inr (.inl 45), .inl (1, [some 4, some 5, none, none, none, none, none, none]), .inr (.inl 36), .inr (.inl 6), .inl (1, [some 7, some 8, none, none, none, none, none, none]), .inr (.inl 36), .inr (.inl 6), .inl (3, [some 10, none, none, none]), .inr (.inl 17), .inr (.inr [none, none, none, none]), .inl (7, [some 13, some 14, some 15, none]), .inr (.inl 5), .inr (.inl 5), .inr (.inl 5), .inl (0, [none, none])]) rfl ?_
  refine xA.dup rfl rfl rfl ?_
  refine xA.callIN (As := []) rfl k9_48 okX0_init rfl rfl (Nat.le_of_ble_eq_true rfl) (c_X0_init (d + 2) _ _ _ 16 rfl (zb9 (n := 17) (Nat.le_of_ble_eq_true rfl))) (Nat.le_of_ble_eq_true rfl) (Nat.le_of_ble_eq_true rfl) rfl rfl ?_
  rintro r9 h9 ⟨rfl, rfl⟩
  refine xA.shp (σ' := [.inl (9, [some 1, some 3, some 6, some 9, some 11, some 12, none, none, none, none, none, none, none]), .inl (4, [some 2, none]), .inr (.inl 45), .inl (1, [some 4, some 5, none, none, none, none, none, none]), .inr (.inl 36), .inr (.inl 6), .inl (1, [some 7, some 8, none, none, none, none, none, none]), .inr (.inl 36), .inr (.inl 6), .inl (3, [some 10, none, none, none]), .inr (.inl 17), .inr (.inr [none, none, none, none]), .inl (7, [some 13, some 14, some 15, none]), .inr (.inl 5), .inr (.inl 5), .inr (.inl 5), .inl (0, [some 17, none]), .inr (.inl 8)]) rfl ?_
  refine xA.putR rfl q9_49 rfl rfl rfl (by decide) rfl ?_
  refine xA.shp (σ' := [.inl (9, [some 1, some 3, some 6, some 9, some 11, some 12, some 16, none, none, none, none, none, none]), .inl (4, [some 2, none]), .inr (.inl 45), .inl (1, [some 4, some 5, none, none, none, none, none, none]), .inr (.inl 36), .inr (.inl 6), .inl (1, [some 7, some 8, none, none, none, none, none, none]), .inr (.inl 36), .inr (.inl 6), .inl (3, [some 10, none, none, none]), .inr (.inl 17), .inr (.inr [none, none, none, none]), .inl (7, [some 13, some 14, some 15, none]), .inr (.inl 5), .inr (.inl 5), .inr (.inl 5), .inl (0, [some 17, none]), .inr (.inl 8)]) rfl ?_
  refine xA.aload_n (i := 0) rfl rfl rfl rfl ?_
  refine xA.new rfl n9_53 rfl (Nat.le_of_ble_eq_true rfl) (Nat.le_of_ble_eq_true rfl) rfl ?_
  refine xA.zz (m := 18) (zb9 (n := 18) (Nat.le_of_ble_eq_true rfl)) (Nat.le_of_ble_eq_true rfl) ?_
  refine xA.top (k' := 18) rfl ?_
  refine xA.shp (σ' := [.inl (9, [some 1, some 3, some 6, some 9, some 11, some 12, some 16, none, none, none, none, none, none]), .inl (4, [some 2, none]), .inr (.inl 45), .inl (1, [some 4, some 5, none, none, none, none, none, none]), .inr (.inl 36), .inr (.inl 6), .inl (1, [some 7, some 8, none, none, none, none, none, none]), .inr (.inl 36), .inr (.inl 6), .inl (3, [some 10, none, none, none]), .inr (.inl 17), .inr (.inr [none, none, none, none]), .inl (7, [some 13, some 14, some 15, none]), .inr (.inl 5), .inr (.inl 5), .inr (.inl 5), .inl (0, [some 17, none]), .inr (.inl 8), .inl (2, [none, none, none, none, none])]) rfl ?_
  refine xA.dup rfl rfl rfl ?_
  refine xA.callI (As := []) rfl k9_55 okX2_init rfl rfl (Nat.le_of_ble_eq_true rfl) (c_X2_init d _ _ (zb9 (n := 19) (Nat.le_of_ble_eq_true rfl))) (Nat.le_of_ble_eq_true rfl) (Nat.le_of_ble_eq_true rfl) rfl rfl ?_
  rintro r9 h9 ⟨rfl, rfl⟩
  refine xA.shp (σ' := [.inl (9, [some 1, some 3, some 6, some 9, some 11, some 12, some 16, none, none, none, none, none, none]), .inl (4, [some 2, none]), .inr (.inl 45), .inl (1, [some 4, some 5, none, none, none, none, none, none]), .inr (.inl 36), .inr (.inl 6), .inl (1, [some 7, some 8, none, none, none, none, none, none]), .inr (.inl 36), .inr (.inl 6), .inl (3, [some 10, none, none, none]), .inr (.inl 17), .inr (.inr [none, none, none, none]), .inl (7, [some 13, some 14, some 15, none]), .inr (.inl 5), .inr (.inl 5), .inr (.inl 5), .inl (0, [some 17, none]), .inr (.inl 8), .inl (2, [some 19, some 20, some 24, none, none]), .inr (.inr [some 26, some 29, some 32, some 35]), .inl (7, [some 21, some 22, some 23, none]), .inr (.inl 5), .inr (.inl 5), .inr (.inl 5), .inl (0, [some 25, none]), .inr (.inl 8), .inl (5, [some 27, none]), .inl (3, [some 28, none, none, none]), .inr (.inl 17), .inl (5, [some 30, none]), .inl (3, [some 31, none, none, none]), .inr (.inl 17), .inl (5, [some 33, none]), .inl (3, [some 34, none, none, none]), .inr (.inl 17), .inl (5, [some 36, none]), .inl (3, [some 37, none, none, none]), .inr (.inl 17)]) rfl ?_
  refine xA.putR rfl q9_56 rfl rfl rfl (by decide) rfl ?_
  refine xA.shp (σ' := [.inl (9, [some 1, some 3, some 6, some 9, some 11, some 12, some 16, some 18, none, none, none, none, none]), .inl (4, [some 2, none]), .inr (.inl 45), .inl (1, [some 4, some 5, none, none, none, none, none, none]), .inr (.inl 36), .inr (.inl 6), .inl (1, [some 7, some 8, none, none, none, none, none, none]), .inr (.inl 36), .inr (.inl 6), .inl (3, [some 10, none, none, none]), .inr (.inl 17), .inr (.inr [none, none, none, none]), .inl (7, [some 13, some 14, some 15, none]), .inr (.inl 5), .inr (.inl 5), .inr (.inl 5), .inl (0, [some 17, none]), .inr (.inl 8), .inl (2, [some 19, some 20, some 24, none, none]), .inr (.inr [some 26, some 29, some 32, some 35]), .inl (7, [some 21, some 22, some 23, none]), .inr (.inl 5), .inr (.inl 5), .inr (.inl 5), .inl (0, [some 25, none]), .inr (.inl 8), .inl (5, [some 27, none]), .inl (3, [some 28, none, none, none]), .inr (.inl 17), .inl (5, [some 30, none]), .inl (3, [some 31, none, none, none]), .inr (.inl 17), .inl (5, [some 33, none]), .inl (3, [some 34, none, none, none]), .inr (.inl 17), .inl (5, [some 36, none]), .inl (3, [some 37, none, none, none]), .inr (.inl 17)]) rfl ?_
  refine xA.aload_n (i := 0) rfl rfl rfl rfl ?_
  refine xA.new rfl n9_60 rfl (Nat.le_of_ble_eq_true rfl) (Nat.le_of_ble_eq_true rfl) rfl ?_
  refine xA.zz (m := 38) (zb9 (n := 38) (Nat.le_of_ble_eq_true rfl)) (Nat.le_of_ble_eq_true rfl) ?_
  refine xA.top (k' := 38) rfl ?_
  refine xA.shp (σ' := [.inl (9, [some 1, some 3, some 6, some 9, some 11, some 12, some 16, some 18, none, none, none, none, none]), .inl (4, [some 2, none]), .inr (.inl 45), .inl (1, [some 4, some 5, none, none, none, none, none, none]), .inr (.inl 36), .inr (.inl 6), .inl (1, [some 7, some 8, none, none, none, none, none, none]), .inr (.inl 36), .inr (.inl 6), .inl (3, [some 10, none, none, none]), .inr (.inl 17), .inr (.inr [none, none, none, none]), .inl (7, [some 13, some 14, some 15, none]), .inr (.inl 5), .inr (.inl 5), .inr (.inl 5), .inl (0, [some 17, none]), .inr (.inl 8), .inl (2, [some 19, some 20, some 24, none, none]), .inr (.inr [some 26, some 29, some 32, some 35]), .inl (7, [some 21, some 22, some 23, none]), .inr (.inl 5), .inr (.inl 5), .inr (.inl 5), .inl (0, [some 25, none]), .inr (.inl 8), .inl (5, [some 27, none]), .inl (3, [some 28, none, none, none]), .inr (.inl 17), .inl (5, [some 30, none]), .inl (3, [some 31, none, none, none]), .inr (.inl 17), .inl (5, [some 33, none]), .inl (3, [some 34, none, none, none]), .inr (.inl 17), .inl (5, [some 36, none]), .inl (3, [some 37, none, none, none]), .inr (.inl 17), .inl (6, [none, none, none, none, none, none, none])]) rfl ?_
  refine xA.dup rfl rfl rfl ?_
  refine xA.callIN (As := []) rfl k9_62 okX6_init rfl rfl (Nat.le_of_ble_eq_true rfl) (c_X6_init (d + 2) _ _ _ 38 rfl (zb9 (n := 39) (Nat.le_of_ble_eq_true rfl))) (Nat.le_of_ble_eq_true rfl) (Nat.le_of_ble_eq_true rfl) rfl rfl ?_
  rintro r9 h9 ⟨rfl, rfl⟩
  refine xA.shp (σ' := [.inl (9, [some 1, some 3, some 6, some 9, some 11, some 12, some 16, some 18, none, none, none, none, none]), .inl (4, [some 2, none]), .inr (.inl 45), .inl (1, [some 4, some 5, none, none, none, none, none, none]), .inr (.inl 36), .inr (.inl 6), .inl (1, [some 7, some 8, none, none, none, none, none, none]), .inr (.inl 36), .inr (.inl 6), .inl (3, [some 10, none, none, none]), .inr (.inl 17), .inr (.inr [none, none, none, none]), .inl (7, [some 13, some 14, some 15, none]), .inr (.inl 5), .inr (.inl 5), .inr (.inl 5), .inl (0, [some 17, none]), .inr (.inl 8), .inl (2, [some 19, some 20, some 24, none, none]), .inr (.inr [some 26, some 29, some 32, some 35]), .inl (7, [some 21, some 22, some 23, none]), .inr (.inl 5), .inr (.inl 5), .inr (.inl 5), .inl (0, [some 25, none]), .inr (.inl 8), .inl (5, [some 27, none]), .inl (3, [some 28, none, none, none]), .inr (.inl 17), .inl (5, [some 30, none]), .inl (3, [some 31, none, none, none]), .inr (.inl 17), .inl (5, [some 33, none]), .inl (3, [some 34, none, none, none]), .inr (.inl 17), .inl (5, [some 36, none]), .inl (3, [some 37, none, none, none]), .inr (.inl 17), .inl (6, [some 39, some 40, none, none, none, none, none]), .inr (.inl 2520), .inr (.inl 60)]) rfl ?_
  refine xA.putR rfl q9_63 rfl rfl rfl (by decide) rfl ?_
  refine xA.shp (σ' := [.inl (9, [some 1, some 3, some 6, some 9, some 11, some 12, some 16, some 18, some 38, none, none, none, none]), .inl (4, [some 2, none]), .inr (.inl 45), .inl (1, [some 4, some 5, none, none, none, none, none, none]), .inr (.inl 36), .inr (.inl 6), .inl (1, [some 7, some 8, none, none, none, none, none, none]), .inr (.inl 36), .inr (.inl 6), .inl (3, [some 10, none, none, none]), .inr (.inl 17), .inr (.inr [none, none, none, none]), .inl (7, [some 13, some 14, some 15, none]), .inr (.inl 5), .inr (.inl 5), .inr (.inl 5), .inl (0, [some 17, none]), .inr (.inl 8), .inl (2, [some 19, some 20, some 24, none, none]), .inr (.inr [some 26, some 29, some 32, some 35]), .inl (7, [some 21, some 22, some 23, none]), .inr (.inl 5), .inr (.inl 5), .inr (.inl 5), .inl (0, [some 25, none]), .inr (.inl 8), .inl (5, [some 27, none]), .inl (3, [some 28, none, none, none]), .inr (.inl 17), .inl (5, [some 30, none]), .inl (3, [some 31, none, none, none]), .inr (.inl 17), .inl (5, [some 33, none]), .inl (3, [some 34, none, none, none]), .inr (.inl 17), .inl (5, [some 36, none]), .inl (3, [some 37, none, none, none]), .inr (.inl 17), .inl (6, [some 39, some 40, none, none, none, none, none]), .inr (.inl 2520), .inr (.inl 60)]) rfl ?_
  refine xA.aload_n (i := 0) rfl rfl rfl rfl ?_
  refine xA.new rfl n9_67 rfl (Nat.le_of_ble_eq_true rfl) (Nat.le_of_ble_eq_true rfl) rfl ?_
  refine xA.zz (m := 41) (zb9 (n := 41) (Nat.le_of_ble_eq_true rfl)) (Nat.le_of_ble_eq_true rfl) ?_
  refine xA.top (k' := 41) rfl ?_
  refine xA.shp (σ' := [.inl (9, [some 1, some 3, some 6, some 9, some 11, some 12, some 16, some 18, some 38, none, none, none, none]), .inl (4, [some 2, none]), .inr (.inl 45), .inl (1, [some 4, some 5, none, none, none, none, none, none]), .inr (.inl 36), .inr (.inl 6), .inl (1, [some 7, some 8, none, none, none, none, none, none]), .inr (.inl 36), .inr (.inl 6), .inl (3, [some 10, none, none, none]), .inr (.inl 17), .inr (.inr [none, none, none, none]), .inl (7, [some 13, some 14, some 15, none]), .inr (.inl 5), .inr (.inl 5), .inr (.inl 5), .inl (0, [some 17, none]), .inr (.inl 8), .inl (2, [some 19, some 20, some 24, none, none]), .inr (.inr [some 26, some 29, some 32, some 35]), .inl (7, [some 21, some 22, some 23, none]), .inr (.inl 5), .inr (.inl 5), .inr (.inl 5), .inl (0, [some 25, none]), .inr (.inl 8), .inl (5, [some 27, none]), .inl (3, [some 28, none, none, none]), .inr (.inl 17), .inl (5, [some 30, none]), .inl (3, [some 31, none, none, none]), .inr (.inl 17), .inl (5, [some 33, none]), .inl (3, [some 34, none, none, none]), .inr (.inl 17), .inl (5, [some 36, none]), .inl (3, [some 37, none, none, none]), .inr (.inl 17), .inl (6, [some 39, some 40, none, none, none, none, none]), .inr (.inl 2520), .inr (.inl 60), .inl (8, [none, none, none])]) rfl ?_
  refine xA.dup rfl rfl rfl ?_
  refine xA.callIN (As := []) rfl k9_69 okX8_init rfl rfl (Nat.le_of_ble_eq_true rfl) (c_X8_init (d + 2) _ _ _ 41 rfl (zb9 (n := 42) (Nat.le_of_ble_eq_true rfl))) (Nat.le_of_ble_eq_true rfl) (Nat.le_of_ble_eq_true rfl) rfl rfl ?_
  rintro r9 h9 ⟨rfl, rfl⟩
  refine xA.shp (σ' := [.inl (9, [some 1, some 3, some 6, some 9, some 11, some 12, some 16, some 18, some 38, none, none, none, none]), .inl (4, [some 2, none]), .inr (.inl 45), .inl (1, [some 4, some 5, none, none, none, none, none, none]), .inr (.inl 36), .inr (.inl 6), .inl (1, [some 7, some 8, none, none, none, none, none, none]), .inr (.inl 36), .inr (.inl 6), .inl (3, [some 10, none, none, none]), .inr (.inl 17), .inr (.inr [none, none, none, none]), .inl (7, [some 13, some 14, some 15, none]), .inr (.inl 5), .inr (.inl 5), .inr (.inl 5), .inl (0, [some 17, none]), .inr (.inl 8), .inl (2, [some 19, some 20, some 24, none, none]), .inr (.inr [some 26, some 29, some 32, some 35]), .inl (7, [some 21, some 22, some 23, none]), .inr (.inl 5), .inr (.inl 5), .inr (.inl 5), .inl (0, [some 25, none]), .inr (.inl 8), .inl (5, [some 27, none]), .inl (3, [some 28, none, none, none]), .inr (.inl 17), .inl (5, [some 30, none]), .inl (3, [some 31, none, none, none]), .inr (.inl 17), .inl (5, [some 33, none]), .inl (3, [some 34, none, none, none]), .inr (.inl 17), .inl (5, [some 36, none]), .inl (3, [some 37, none, none, none]), .inr (.inl 17), .inl (6, [some 39, some 40, none, none, none, none, none]), .inr (.inl 2520), .inr (.inl 60), .inl (8, [none, none, none])]) rfl ?_
  refine xA.putR rfl q9_70 rfl rfl rfl (by decide) rfl ?_
  refine xA.shp (σ' := [.inl (9, [some 1, some 3, some 6, some 9, some 11, some 12, some 16, some 18, some 38, some 41, none, none, none]), .inl (4, [some 2, none]), .inr (.inl 45), .inl (1, [some 4, some 5, none, none, none, none, none, none]), .inr (.inl 36), .inr (.inl 6), .inl (1, [some 7, some 8, none, none, none, none, none, none]), .inr (.inl 36), .inr (.inl 6), .inl (3, [some 10, none, none, none]), .inr (.inl 17), .inr (.inr [none, none, none, none]), .inl (7, [some 13, some 14, some 15, none]), .inr (.inl 5), .inr (.inl 5), .inr (.inl 5), .inl (0, [some 17, none]), .inr (.inl 8), .inl (2, [some 19, some 20, some 24, none, none]), .inr (.inr [some 26, some 29, some 32, some 35]), .inl (7, [some 21, some 22, some 23, none]), .inr (.inl 5), .inr (.inl 5), .inr (.inl 5), .inl (0, [some 25, none]), .inr (.inl 8), .inl (5, [some 27, none]), .inl (3, [some 28, none, none, none]), .inr (.inl 17), .inl (5, [some 30, none]), .inl (3, [some 31, none, none, none]), .inr (.inl 17), .inl (5, [some 33, none]), .inl (3, [some 34, none, none, none]), .inr (.inl 17), .inl (5, [some 36, none]), .inl (3, [some 37, none, none, none]), .inr (.inl 17), .inl (6, [some 39, some 40, none, none, none, none, none]), .inr (.inl 2520), .inr (.inl 60), .inl (8, [none, none, none])]) rfl ?_
  refine xA.iconst (v := (0)) rfl (by decide) rfl ?_
  refine xA.istore_n (i := 1) (L' := [_, _]) rfl rfl (Nat.le_of_ble_eq_true rfl) rfl rfl ?_
  refine xA.iload_n (i := 1) rfl rfl rfl rfl ?_
  refine xA.aload_n (i := 0) rfl rfl rfl rfl ?_
  refine xA.getR rfl f9_35 rfl rfl rfl rfl ?_
  refine xA.alenR rfl rfl rfl ?_
  refine xA.icmp_ge (tgt := 141) rfl rfl rfl (fun h119 => ?_) (fun h119 => ?_)
  · exact absurd h119 (by decide)
  refine xA.aload_n (i := 0) rfl rfl rfl rfl ?_
  refine xA.getR rfl f9_35 rfl rfl rfl rfl ?_
  refine xA.iload_n (i := 1) rfl rfl rfl rfl ?_
  refine xA.new rfl n9_33 rfl (Nat.le_of_ble_eq_true rfl) (Nat.le_of_ble_eq_true rfl) rfl ?_
  refine xA.zz (m := 42) (zb9 (n := 42) (Nat.le_of_ble_eq_true rfl)) (Nat.le_of_ble_eq_true rfl) ?_
  refine xA.top (k' := 42) rfl ?_
  refine xA.shp (σ' := [.inl (9, [some 1, some 3, some 6, some 9, some 11, some 12, some 16, some 18, some 38, some 41, none, none, none]), .inl (4, [some 2, none]), .inr (.inl 45), .inl (1, [some 4, some 5, none, none, none, none, none, none]), .inr (.inl 36), .inr (.inl 6), .inl (1, [some 7, some 8, none, none, none, none, none, none]), .inr (.inl 36), .inr (.inl 6), .inl (3, [some 10, none, none, none]), .inr (.inl 17), .inr (.inr [none, none, none, none]), .inl (7, [some 13, some 14, some 15, none]), .inr (.inl 5), .inr (.inl 5), .inr (.inl 5), .inl (0, [some 17, none]), .inr (.inl 8), .inl (2, [some 19, some 20, some 24, none, none]), .inr (.inr [some 26, some 29, some 32, some 35]), .inl (7, [some 21, some 22, some 23, none]), .inr (.inl 5), .inr (.inl 5), .inr (.inl 5), .inl (0, [some 25, none]), .inr (.inl 8), .inl (5, [some 27, none]), .inl (3, [some 28, none, none, none]), .inr (.inl 17), .inl (5, [some 30, none]), .inl (3, [some 31, none, none, none]), .inr (.inl 17), .inl (5, [some 33, none]), .inl (3, [some 34, none, none, none]), .inr (.inl 17), .inl (5, [some 36, none]), .inl (3, [some 37, none, none, none]), .inr (.inl 17), .inl (6, [some 39, some 40, none, none, none, none, none]), .inr (.inl 2520), .inr (.inl 60), .inl (8, [none, none, none]), .inl (5, [none, none])]) rfl ?_
  refine xA.dup rfl rfl rfl ?_
  refine xA.callIN (As := []) rfl k9_74 okX5_init rfl rfl (Nat.le_of_ble_eq_true rfl) (c_X5_init (d + 1) _ _ _ 42 rfl (zb9 (n := 43) (Nat.le_of_ble_eq_true rfl))) (Nat.le_of_ble_eq_true rfl) (Nat.le_of_ble_eq_true rfl) rfl rfl ?_
  rintro r9 h9 ⟨rfl, rfl⟩
  refine xA.shp (σ' := [.inl (9, [some 1, some 3, some 6, some 9, some 11, some 12, some 16, some 18, some 38, some 41, none, none, none]), .inl (4, [some 2, none]), .inr (.inl 45), .inl (1, [some 4, some 5, none, none, none, none, none, none]), .inr (.inl 36), .inr (.inl 6), .inl (1, [some 7, some 8, none, none, none, none, none, none]), .inr (.inl 36), .inr (.inl 6), .inl (3, [some 10, none, none, none]), .inr (.inl 17), .inr (.inr [none, none, none, none]), .inl (7, [some 13, some 14, some 15, none]), .inr (.inl 5), .inr (.inl 5), .inr (.inl 5), .inl (0, [some 17, none]), .inr (.inl 8), .inl (2, [some 19, some 20, some 24, none, none]), .inr (.inr [some 26, some 29, some 32, some 35]), .inl (7, [some 21, some 22, some 23, none]), .inr (.inl 5), .inr (.inl 5), .inr (.inl 5), .inl (0, [some 25, none]), .inr (.inl 8), .inl (5, [some 27, none]), .inl (3, [some 28, none, none, none]), .inr (.inl 17), .inl (5, [some 30, none]), .inl (3, [some 31, none, none, none]), .inr (.inl 17), .inl (5, [some 33, none]), .inl (3, [some 34, none, none, none]), .inr (.inl 17), .inl (5, [some 36, none]), .inl (3, [some 37, none, none, none]), .inr (.inl 17), .inl (6, [some 39, some 40, none, none, none, none, none]), .inr (.inl 2520), .inr (.inl 60), .inl (8, [none, none, none]), .inl (5, [some 43, none]), .inl (3, [some 44, none, none, none]), .inr (.inl 17)]) rfl ?_
  refine xA.aast (ci := 5) rfl rfl rfl (vp_in_nI (n := 0) (by decide) (by decide)) rfl ?_
  refine xA.shp (σ' := [.inl (9, [some 1, some 3, some 6, some 9, some 11, some 12, some 16, some 18, some 38, some 41, none, none, none]), .inl (4, [some 2, none]), .inr (.inl 45), .inl (1, [some 4, some 5, none, none, none, none, none, none]), .inr (.inl 36), .inr (.inl 6), .inl (1, [some 7, some 8, none, none, none, none, none, none]), .inr (.inl 36), .inr (.inl 6), .inl (3, [some 10, none, none, none]), .inr (.inl 17), .inr (.inr [some 42, none, none, none]), .inl (7, [some 13, some 14, some 15, none]), .inr (.inl 5), .inr (.inl 5), .inr (.inl 5), .inl (0, [some 17, none]), .inr (.inl 8), .inl (2, [some 19, some 20, some 24, none, none]), .inr (.inr [some 26, some 29, some 32, some 35]), .inl (7, [some 21, some 22, some 23, none]), .inr (.inl 5), .inr (.inl 5), .inr (.inl 5), .inl (0, [some 25, none]), .inr (.inl 8), .inl (5, [some 27, none]), .inl (3, [some 28, none, none, none]), .inr (.inl 17), .inl (5, [some 30, none]), .inl (3, [some 31, none, none, none]), .inr (.inl 17), .inl (5, [some 33, none]), .inl (3, [some 34, none, none, none]), .inr (.inl 17), .inl (5, [some 36, none]), .inl (3, [some 37, none, none, none]), .inr (.inl 17), .inl (6, [some 39, some 40, none, none, none, none, none]), .inr (.inl 2520), .inr (.inl 60), .inl (8, [none, none, none]), .inl (5, [some 43, none]), .inl (3, [some 44, none, none, none]), .inr (.inl 17)]) rfl ?_
  refine xA.iinc (L' := [_, _]) rfl rfl (nI_1 0) rfl rfl ?_
  refine xA.goto (q := 113) rfl rfl ?_
  refine xA.iload_n (i := 1) rfl rfl rfl rfl ?_
  refine xA.aload_n (i := 0) rfl rfl rfl rfl ?_
  refine xA.getR rfl f9_35 rfl rfl rfl rfl ?_
  refine xA.alenR rfl rfl rfl ?_
  refine xA.icmp_ge (tgt := 141) rfl rfl rfl (fun h119 => ?_) (fun h119 => ?_)
  · exact absurd h119 (by decide)
  refine xA.aload_n (i := 0) rfl rfl rfl rfl ?_
  refine xA.getR rfl f9_35 rfl rfl rfl rfl ?_
  refine xA.iload_n (i := 1) rfl rfl rfl rfl ?_
  refine xA.new rfl n9_33 rfl (Nat.le_of_ble_eq_true rfl) (Nat.le_of_ble_eq_true rfl) rfl ?_
  refine xA.zz (m := 45) (zb9 (n := 45) (Nat.le_of_ble_eq_true rfl)) (Nat.le_of_ble_eq_true rfl) ?_
  refine xA.top (k' := 45) rfl ?_
  refine xA.shp (σ' := [.inl (9, [some 1, some 3, some 6, some 9, some 11, some 12, some 16, some 18, some 38, some 41, none, none, none]), .inl (4, [some 2, none]), .inr (.inl 45), .inl (1, [some 4, some 5, none, none, none, none, none, none]), .inr (.inl 36), .inr (.inl 6), .inl (1, [some 7, some 8, none, none, none, none, none, none]), .inr (.inl 36), .inr (.inl 6), .inl (3, [some 10, none, none, none]), .inr (.inl 17), .inr (.inr [some 42, none, none, none]), .inl (7, [some 13, some 14, some 15, none]), .inr (.inl 5), .inr (.inl 5), .inr (.inl 5), .inl (0, [some 17, none]), .inr (.inl 8), .inl (2, [some 19, some 20, some 24, none, none]), .inr (.inr [some 26, some 29, some 32, some 35]), .inl (7, [some 21, some 22, some 23, none]), .inr (.inl 5), .inr (.inl 5), .inr (.inl 5), .inl (0, [some 25, none]), .inr (.inl 8), .inl (5, [some 27, none]), .inl (3, [some 28, none, none, none]), .inr (.inl 17), .inl (5, [some 30, none]), .inl (3, [some 31, none, none, none]), .inr (.inl 17), .inl (5, [some 33, none]), .inl (3, [some 34, none, none, none]), .inr (.inl 17), .inl (5, [some 36, none]), .inl (3, [some 37, none, none, none]), .inr (.inl 17), .inl (6, [some 39, some 40, none, none, none, none, none]), .inr (.inl 2520), .inr (.inl 60), .inl (8, [none, none, none]), .inl (5, [some 43, none]), .inl (3, [some 44, none, none, none]), .inr (.inl 17), .inl (5, [none, none])]) rfl ?_
  refine xA.dup rfl rfl rfl ?_
  refine xA.callIN (As := []) rfl k9_74 okX5_init rfl rfl (Nat.le_of_ble_eq_true rfl) (c_X5_init (d + 1) _ _ _ 45 rfl (zb9 (n := 46) (Nat.le_of_ble_eq_true rfl))) (Nat.le_of_ble_eq_true rfl) (Nat.le_of_ble_eq_true rfl) rfl rfl ?_
  rintro r9 h9 ⟨rfl, rfl⟩
  refine xA.shp (σ' := [.inl (9, [some 1, some 3, some 6, some 9, some 11, some 12, some 16, some 18, some 38, some 41, none, none, none]), .inl (4, [some 2, none]), .inr (.inl 45), .inl (1, [some 4, some 5, none, none, none, none, none, none]), .inr (.inl 36), .inr (.inl 6), .inl (1, [some 7, some 8, none, none, none, none, none, none]), .inr (.inl 36), .inr (.inl 6), .inl (3, [some 10, none, none, none]), .inr (.inl 17), .inr (.inr [some 42, none, none, none]), .inl (7, [some 13, some 14, some 15, none]), .inr (.inl 5), .inr (.inl 5), .inr (.inl 5), .inl (0, [some 17, none]), .inr (.inl 8), .inl (2, [some 19, some 20, some 24, none, none]), .inr (.inr [some 26, some 29, some 32, some 35]), .inl (7, [some 21, some 22, some 23, none]), .inr (.inl 5), .inr (.inl 5), .inr (.inl 5), .inl (0, [some 25, none]), .inr (.inl 8), .inl (5, [some 27, none]), .inl (3, [some 28, none, none, none]), .inr (.inl 17), .inl (5, [some 30, none]), .inl (3, [some 31, none, none, none]), .inr (.inl 17), .inl (5, [some 33, none]), .inl (3, [some 34, none, none, none]), .inr (.inl 17), .inl (5, [some 36, none]), .inl (3, [some 37, none, none, none]), .inr (.inl 17), .inl (6, [some 39, some 40, none, none, none, none, none]), .inr (.inl 2520), .inr (.inl 60), .inl (8, [none, none, none]), .inl (5, [some 43, none]), .inl (3, [some 44, none, none, none]), .inr (.inl 17), .inl (5, [some 46, none]), .inl (3, [some 47, none, none, none]), .inr (.inl 17)]) rfl ?_
  refine xA.aast (ci := 5) rfl rfl rfl (vp_in_nI (n := 1) (by decide) (by decide)) rfl ?_
  refine xA.shp (σ' := [.inl (9, [some 1, some 3, some 6, some 9, some 11, some 12, some 16, some 18, some 38, some 41, none, none, none]), .inl (4, [some 2, none]), .inr (.inl 45), .inl (1, [some 4, some 5, none, none, none, none, none, none]), .inr (.inl 36), .inr (.inl 6), .inl (1, [some 7, some 8, none, none, none, none, none, none]), .inr (.inl 36), .inr (.inl 6), .inl (3, [some 10, none, none, none]), .inr (.inl 17), .inr (.inr [some 42, some 45, none, none]), .inl (7, [some 13, some 14, some 15, none]), .inr (.inl 5), .inr (.inl 5), .inr (.inl 5), .inl (0, [some 17, none]), .inr (.inl 8), .inl (2, [some 19, some 20, some 24, none, none]), .inr (.inr [some 26, some 29, some 32, some 35]), .inl (7, [some 21, some 22, some 23, none]), .inr (.inl 5), .inr (.inl 5), .inr (.inl 5), .inl (0, [some 25, none]), .inr (.inl 8), .inl (5, [some 27, none]), .inl (3, [some 28, none, none, none]), .inr (.inl 17), .inl (5, [some 30, none]), .inl (3, [some 31, none, none, none]), .inr (.inl 17), .inl (5, [some 33, none]), .inl (3, [some 34, none, none, none]), .inr (.inl 17), .inl (5, [some 36, none]), .inl (3, [some 37, none, none, none]), .inr (.inl 17), .inl (6, [some 39, some 40, none, none, none, none, none]), .inr (.inl 2520), .inr (.inl 60), .inl (8, [none, none, none]), .inl (5, [some 43, none]), .inl (3, [some 44, none, none, none]), .inr (.inl 17), .inl (5, [some 46, none]), .inl (3, [some 47, none, none, none]), .inr (.inl 17)]) rfl ?_
  refine xA.iinc (L' := [_, _]) rfl rfl (nI_1 1) rfl rfl ?_
  refine xA.goto (q := 113) rfl rfl ?_
  refine xA.iload_n (i := 1) rfl rfl rfl rfl ?_
  refine xA.aload_n (i := 0) rfl rfl rfl rfl ?_
  refine xA.getR rfl f9_35 rfl rfl rfl rfl ?_
  refine xA.alenR rfl rfl rfl ?_
  refine xA.icmp_ge (tgt := 141) rfl rfl rfl (fun h119 => ?_) (fun h119 => ?_)
  · exact absurd h119 (by decide)
  refine xA.aload_n (i := 0) rfl rfl rfl rfl ?_
  refine xA.getR rfl f9_35 rfl rfl rfl rfl ?_
  refine xA.iload_n (i := 1) rfl rfl rfl rfl ?_
  refine xA.new rfl n9_33 rfl (Nat.le_of_ble_eq_true rfl) (Nat.le_of_ble_eq_true rfl) rfl ?_
  refine xA.zz (m := 48) (zb9 (n := 48) (Nat.le_of_ble_eq_true rfl)) (Nat.le_of_ble_eq_true rfl) ?_
  refine xA.top (k' := 48) rfl ?_
  refine xA.shp (σ' := [.inl (9, [some 1, some 3, some 6, some 9, some 11, some 12, some 16, some 18, some 38, some 41, none, none, none]), .inl (4, [some 2, none]), .inr (.inl 45), .inl (1, [some 4, some 5, none, none, none, none, none, none]), .inr (.inl 36), .inr (.inl 6), .inl (1, [some 7, some 8, none, none, none, none, none, none]), .inr (.inl 36), .inr (.inl 6), .inl (3, [some 10, none, none, none]), .inr (.inl 17), .inr (.inr [some 42, some 45, none, none]), .inl (7, [some 13, some 14, some 15, none]), .inr (.inl 5), .inr (.inl 5), .inr (.inl 5), .inl (0, [some 17, none]), .inr (.inl 8), .inl (2, [some 19, some 20, some 24, none, none]), .inr (.inr [some 26, some 29, some 32, some 35]), .inl (7, [some 21, some 22, some 23, none]), .inr (.inl 5), .inr (.inl 5), .inr (.inl 5), .inl (0, [some 25, none]), .inr (.inl 8), .inl (5, [some 27, none]), .inl (3, [some 28, none, none, none]), .inr (.inl 17), .inl (5, [some 30, none]), .inl (3, [some 31, none, none, none]), .inr (.inl 17), .inl (5, [some 33, none]), .inl (3, [some 34, none, none, none]), .inr (.inl 17), .inl (5, [some 36, none]), .inl (3, [some 37, none, none, none]), .inr (.inl 17), .inl (6, [some 39, some 40, none, none, none, none, none]), .inr (.inl 2520), .inr (.inl 60), .inl (8, [none, none, none]), .inl (5, [some 43, none]), .inl (3, [some 44, none, none, none]), .inr (.inl 17), .inl (5, [some 46, none]), .inl (3, [some 47, none, none, none]), .inr (.inl 17), .inl (5, [none, none])]) rfl ?_
  refine xA.dup rfl rfl rfl ?_
  refine xA.callIN (As := []) rfl k9_74 okX5_init rfl rfl (Nat.le_of_ble_eq_true rfl) (c_X5_init (d + 1) _ _ _ 48 rfl (zb9 (n := 49) (Nat.le_of_ble_eq_true rfl))) (Nat.le_of_ble_eq_true rfl) (Nat.le_of_ble_eq_true rfl) rfl rfl ?_
  rintro r9 h9 ⟨rfl, rfl⟩
  refine xA.shp (σ' := [.inl (9, [some 1, some 3, some 6, some 9, some 11, some 12, some 16, some 18, some 38, some 41, none, none, none]), .inl (4, [some 2, none]), .inr (.inl 45), .inl (1, [some 4, some 5, none, none, none, none, none, none]), .inr (.inl 36), .inr (.inl 6), .inl (1, [some 7, some 8, none, none, none, none, none, none]), .inr (.inl 36), .inr (.inl 6), .inl (3, [some 10, none, none, none]), .inr (.inl 17), .inr (.inr [some 42, some 45, none, none]), .inl (7, [some 13, some 14, some 15, none]), .inr (.inl 5), .inr (.inl 5), .inr (.inl 5), .inl (0, [some 17, none]), .inr (.inl 8), .inl (2, [some 19, some 20, some 24, none, none]), .inr (.inr [some 26, some 29, some 32, some 35]), .inl (7, [some 21, some 22, some 23, none]), .inr (.inl 5), .inr (.inl 5), .inr (.inl 5), .inl (0, [some 25, none]), .inr (.inl 8), .inl (5, [some 27, none]), .inl (3, [some 28, none, none, none]), .inr (.inl 17), .inl (5, [some 30, none]), .inl (3, [some 31, none, none, none]), .inr (.inl 17), .inl (5, [some 33, none]), .inl (3, [some 34, none, none, none]), .inr (.inl 17), .inl (5, [some 36, none]), .inl (3, [some 37, none, none, none]), .inr (.inl 17), .inl (6, [some 39, some 40, none, none, none, none, none]), .inr (.inl 2520), .inr (.inl 60), .inl (8, [none, none, none]), .inl (5, [some 43, none]), .inl (3, [some 44, none, none, none]), .inr (.inl 17), .inl (5, [some 46, none]), .inl (3, [some 47, none, none, none]), .inr (.inl 17), .inl (5, [some 49, none]), .inl (3, [some 50, none, none, none]), .inr (.inl 17)]) rfl ?_
  refine xA.aast (ci := 5) rfl rfl rfl (vp_in_nI (n := 2) (by decide) (by decide)) rfl ?_
  refine xA.shp (σ' := [.inl (9, [some 1, some 3, some 6, some 9, some 11, some 12, some 16, some 18, some 38, some 41, none, none, none]), .inl (4, [some 2, none]), .inr (.inl 45), .inl (1, [some 4, some 5, none, none, none, none, none, none]), .inr (.inl 36), .inr (.inl 6), .inl (1, [some 7, some 8, none, none, none, none, none, none]), .inr (.inl 36), .inr (.inl 6), .inl (3, [some 10, none, none, none]), .inr (.inl 17), .inr (.inr [some 42, some 45, some 48, none]), .inl (7, [some 13, some 14, some 15, none]), .inr (.inl 5), .inr (.inl 5), .inr (.inl 5), .inl (0, [some 17, none]), .inr (.inl 8), .inl (2, [some 19, some 20, some 24, none, none]), .inr (.inr [some 26, some 29, some 32, some 35]), .inl (7, [some 21, some 22, some 23, none]), .inr (.inl 5), .inr (.inl 5), .inr (.inl 5), .inl (0, [some 25, none]), .inr (.inl 8), .inl (5, [some 27, none]), .inl (3, [some 28, none, none, none]), .inr (.inl 17), .inl (5, [some 30, none]), .inl (3, [some 31, none, none, none]), .inr (.inl 17), .inl (5, [some 33, none]), .inl (3, [some 34, none, none, none]), .inr (.inl 17), .inl (5, [some 36, none]), .inl (3, [some 37, none, none, none]), .inr (.inl 17), .inl (6, [some 39, some 40, none, none, none, none, none]), .inr (.inl 2520), .inr (.inl 60), .inl (8, [none, none, none]), .inl (5, [some 43, none]), .inl (3, [some 44, none, none, none]), .inr (.inl 17), .inl (5, [some 46, none]), .inl (3, [some 47, none, none, none]), .inr (.inl 17), .inl (5, [some 49, none]), .inl (3, [some 50, none, none, none]), .inr (.inl 17)]) rfl ?_
  refine xA.iinc (L' := [_, _]) rfl rfl (nI_1 2) rfl rfl ?_
  refine xA.goto (q := 113) rfl rfl ?_
  refine xA.iload_n (i := 1) rfl rfl rfl rfl ?_
  refine xA.aload_n (i := 0) rfl rfl rfl rfl ?_
  refine xA.getR rfl f9_35 rfl rfl rfl rfl ?_
  refine xA.alenR rfl rfl rfl ?_
  refine xA.icmp_ge (tgt := 141) rfl rfl rfl (fun h119 => ?_) (fun h119 => ?_)
  · exact absurd h119 (by decide)
  refine xA.aload_n (i := 0) rfl rfl rfl rfl ?_
  refine xA.getR rfl f9_35 rfl rfl rfl rfl ?_
  refine xA.iload_n (i := 1) rfl rfl rfl rfl ?_
  refine xA.new rfl n9_33 rfl (Nat.le_of_ble_eq_true rfl) (Nat.le_of_ble_eq_true rfl) rfl ?_
  refine xA.zz (m := 51) (zb9 (n := 51) (Nat.le_of_ble_eq_true rfl)) (Nat.le_of_ble_eq_true rfl) ?_
  refine xA.top (k' := 51) rfl ?_
  refine xA.shp (σ' := [.inl (9, [some 1, some 3, some 6, some 9, some 11, some 12, some 16, some 18, some 38, some 41, none, none, none]), .inl (4, [some 2, none]), .inr (.inl 45), .inl (1, [some 4, some 5, none, none, none, none, none, none]), .inr (.inl 36), .inr (.inl 6), .inl (1, [some 7, some 8, none, none, none, none, none, none]), .inr (.inl 36), .inr (.inl 6), .inl (3, [some 10, none, none, none]), .inr (.inl 17), .inr (.inr [some 42, some 45, some 48, none]), .inl (7, [some 13, some 14, some 15, none]), .inr (.inl 5), .inr (.inl 5), .inr (.inl 5), .inl (0, [some 17, none]), .inr (.inl 8), .inl (2, [some 19, some 20, some 24, none, none]), .inr (.inr [some 26, some 29, some 32, some 35]), .inl (7, [some 21, some 22, some 23, none]), .inr (.inl 5), .inr (.inl 5), .inr (.inl 5), .inl (0, [some 25, none]), .inr (.inl 8), .inl (5, [some 27, none]), .inl (3, [some 28, none, none, none]), .inr (.inl 17), .inl (5, [some 30, none]), .inl (3, [some 31, none, none, none]), .inr (.inl 17), .inl (5, [some 33, none]), .inl (3, [some 34, none, none, none]), .inr (.inl 17), .inl (5, [some 36, none]), .inl (3, [some 37, none, none, none]), .inr (.inl 17), .inl (6, [some 39, some 40, none, none, none, none, none]), .inr (.inl 2520), .inr (.inl 60), .inl (8, [none, none, none]), .inl (5, [some 43, none]), .inl (3, [some 44, none, none, none]), .inr (.inl 17), .inl (5, [some 46, none]), .inl (3, [some 47, none, none, none]), .inr (.inl 17), .inl (5, [some 49, none]), .inl (3, [some 50, none, none, none]), .inr (.inl 17), .inl (5, [none, none])]) rfl ?_
  refine xA.dup rfl rfl rfl ?_
  refine xA.callIN (As := []) rfl k9_74 okX5_init rfl rfl (Nat.le_of_ble_eq_true rfl) (c_X5_init (d + 1) _ _ _ 51 rfl (zb9 (n := 52) (Nat.le_of_ble_eq_true rfl))) (Nat.le_of_ble_eq_true rfl) (Nat.le_of_ble_eq_true rfl) rfl rfl ?_
  rintro r9 h9 ⟨rfl, rfl⟩
  refine xA.shp (σ' := [.inl (9, [some 1, some 3, some 6, some 9, some 11, some 12, some 16, some 18, some 38, some 41, none, none, none]), .inl (4, [some 2, none]), .inr (.inl 45), .inl (1, [some 4, some 5, none, none, none, none, none, none]), .inr (.inl 36), .inr (.inl 6), .inl (1, [some 7, some 8, none, none, none, none, none, none]), .inr (.inl 36), .inr (.inl 6), .inl (3, [some 10, none, none, none]), .inr (.inl 17), .inr (.inr [some 42, some 45, some 48, none]), .inl (7, [some 13, some 14, some 15, none]), .inr (.inl 5), .inr (.inl 5), .inr (.inl 5), .inl (0, [some 17, none]), .inr (.inl 8), .inl (2, [some 19, some 20, some 24, none, none]), .inr (.inr [some 26, some 29, some 32, some 35]), .inl (7, [some 21, some 22, some 23, none]), .inr (.inl 5), .inr (.inl 5), .inr (.inl 5), .inl (0, [some 25, none]), .inr (.inl 8), .inl (5, [some 27, none]), .inl (3, [some 28, none, none, none]), .inr (.inl 17), .inl (5, [some 30, none]), .inl (3, [some 31, none, none, none]), .inr (.inl 17), .inl (5, [some 33, none]), .inl (3, [some 34, none, none, none]), .inr (.inl 17), .inl (5, [some 36, none]), .inl (3, [some 37, none, none, none]), .inr (.inl 17), .inl (6, [some 39, some 40, none, none, none, none, none]), .inr (.inl 2520), .inr (.inl 60), .inl (8, [none, none, none]), .inl (5, [some 43, none]), .inl (3, [some 44, none, none, none]), .inr (.inl 17), .inl (5, [some 46, none]), .inl (3, [some 47, none, none, none]), .inr (.inl 17), .inl (5, [some 49, none]), .inl (3, [some 50, none, none, none]), .inr (.inl 17), .inl (5, [some 52, none]), .inl (3, [some 53, none, none, none]), .inr (.inl 17)]) rfl ?_
  refine xA.aast (ci := 5) rfl rfl rfl (vp_in_nI (n := 3) (by decide) (by decide)) rfl ?_
  refine xA.shp (σ' := [.inl (9, [some 1, some 3, some 6, some 9, some 11, some 12, some 16, some 18, some 38, some 41, none, none, none]), .inl (4, [some 2, none]), .inr (.inl 45), .inl (1, [some 4, some 5, none, none, none, none, none, none]), .inr (.inl 36), .inr (.inl 6), .inl (1, [some 7, some 8, none, none, none, none, none, none]), .inr (.inl 36), .inr (.inl 6), .inl (3, [some 10, none, none, none]), .inr (.inl 17), .inr (.inr [some 42, some 45, some 48, some 51]), .inl (7, [some 13, some 14, some 15, none]), .inr (.inl 5), .inr (.inl 5), .inr (.inl 5), .inl (0, [some 17, none]), .inr (.inl 8), .inl (2, [some 19, some 20, some 24, none, none]), .inr (.inr [some 26, some 29, some 32, some 35]), .inl (7, [some 21, some 22, some 23, none]), .inr (.inl 5), .inr (.inl 5), .inr (.inl 5), .inl (0, [some 25, none]), .inr (.inl 8), .inl (5, [some 27, none]), .inl (3, [some 28, none, none, none]), .inr (.inl 17), .inl (5, [some 30, none]), .inl (3, [some 31, none, none, none]), .inr (.inl 17), .inl (5, [some 33, none]), .inl (3, [some 34, none, none, none]), .inr (.inl 17), .inl (5, [some 36, none]), .inl (3, [some 37, none, none, none]), .inr (.inl 17), .inl (6, [some 39, some 40, none, none, none, none, none]), .inr (.inl 2520), .inr (.inl 60), .inl (8, [none, none, none]), .inl (5, [some 43, none]), .inl (3, [some 44, none, none, none]), .inr (.inl 17), .inl (5, [some 46, none]), .inl (3, [some 47, none, none, none]), .inr (.inl 17), .inl (5, [some 49, none]), .inl (3, [some 50, none, none, none]), .inr (.inl 17), .inl (5, [some 52, none]), .inl (3, [some 53, none, none, none]), .inr (.inl 17)]) rfl ?_
  refine xA.iinc (L' := [_, _]) rfl rfl (nI_1 3) rfl rfl ?_
  refine xA.goto (q := 113) rfl rfl ?_
  refine xA.iload_n (i := 1) rfl rfl rfl rfl ?_
  refine xA.aload_n (i := 0) rfl rfl rfl rfl ?_
  refine xA.getR rfl f9_35 rfl rfl rfl rfl ?_
  refine xA.alenR rfl rfl rfl ?_
  refine xA.icmp_ge (tgt := 141) rfl rfl rfl (fun h119 => ?_) (fun h119 => ?_)
  rotate_left
  · exact absurd (by decide) h119
  exact xA.vret rfl rfl ⟨rfl, rfl⟩

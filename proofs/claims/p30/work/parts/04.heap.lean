/-! ===== walks at the machine, with the heap's size kept (the kit's rows va_put, va_putF, va_iast, va_astq, va_new, va_newa, va_newq, told with it) ===== -/
section XH
variable {p : Program} {l : Launch} {e : Env} {R : Room} {s : State} {m : MethodId} {args : Array Value} {below : List Frame} {meth : Method} {c : Code} {H : Heap} {locs : List Loc} {cells slots : Nat} {Q : State → Prop}
variable {cc : ByteArray} {pc : Nat} {ls : Array Slot} {rest : List Value} {D : va_G} {cl : List vw_C} {A : Nat → Prop} {a : Nat} {tys : List (ClassId × FieldType)} {ws : va_W} {H0 : Heap}
theorem x_put (hexec : p.tables.exec = Jvm.exec) (hb : c.code = cc) {own ref C : String} {T : u_T} {N ci index : Nat} {Ts : List Cond} (hts : ∀ w ∈ Ts, w.before args s = true) (hin : ∀ w ∈ u_ws C T N, w ∈ Ts) (ty0 : Nat → FieldType) (hty : ∀ k, k < N → parseFieldDescriptor (T k).2.2.1 = some (ty0 k)) (hnm : ∀ a, a < N → ∀ b, b < N → a ≠ b → (T a).2.1 ≠ (T b).2.1) (hown : s.vm.findClass own = some m.cls) (hK : va_K D cl tys s) (hP : va_P D cl ws H) (hD : va_D A ws) (hS0 : va_S A H0 H locs) (q0 : Nat) {fs : List Value} (he : ws[q0]? = some (a, .inr (ci, fs))) (hc : cl[ci]? = some (C, T, N)) (k : Nat) (hk : k < N) (hlink : (Cond.fieldLink own index ref (T k).2.1 (T k).2.2.1).before args s = true) (hsame : ∀ x, s.fieldFound? (T k).1 (T k).2.1 (T k).2.2.1 = some x → s.fieldFound? ref (T k).2.1 (T k).2.2.1 = some x) (hfin : (T k).2.2.2 = false) {ty : FieldType} {v : Value} (hd : parseFieldDescriptor (T k).2.2.1 = some ty) (hn : narrow ty v = v) (hfit : fits ty v = true) (hl : k < fs.length)
    (hdg : decode cc pc = .ok (.putfield index, 3)) (kk : ∀ (H1 : Heap) (locs1 : List Loc), H1.size = H.size → va_P D cl (ws.set q0 (a, .inr (ci, fs.set k v))) H1 → va_S A H0 H1 locs1 → W p l e R s m args below meth c H1 locs1 cells slots Q (F0 m (pc + 3) ls rest)) : W p l e R s m args below meth c H locs cells slots Q (F0 m pc ls (v :: .ref a :: rest)) := by
  have hap := va_apart (own := own) hts hin ty0 hty hnm hK hc
  obtain ⟨r, h1, cell, q1, q2, q3, q4⟩ := hP q0 _ he
  have hr : r = (C, T, N) := Option.some.inj (h1.symm.trans hc)
  subst hr
  obtain ⟨hS, hfc, kC, hkC, hkind⟩ := hK.1 ci _ hc
  obtain ⟨cf, kf, fi, f, hi, hsl⟩ := hS k hk
  have hlay := hts _ (hin _ (u_in_lay hk))
  unfold u_lay at hlay
  rw [if_neg (by rw [hfin]; decide)] at hlay
  have hst := (u_facts hfc hkC (u_lays hts hin hk) hi).1
  have h6 := u_store hfc hkC hkind hlay hi hd hn hfit
  refine W.putK hexec hb (f := f) ⟨hown, hlink, ⟨_, _, _, hsame _ hi⟩, hst⟩ (by rw [q2]; exact h6) q1 q3 (by rw [hsl]; exact k2_hasslot (q4 k hk)) rfl rfl hdg fun H' e1 e2 e3 => ?_
  rw [hsl] at e1 ⊢
  exact kk H' _ e2 (hP.set hD he ⟨_, hc, t_OB.to (V := updV (vp_V fs) k v) ⟨_, e1, q2, q3, t_set q4 hap hk v⟩ (fun j _ => vp_updV_set hl v j)⟩ e3) (hS0.put e2 e3 (hD.2 q0 _ he))
theorem x_putF (hexec : p.tables.exec = Jvm.exec) (hb : c.code = cc) {own ref C : String} {T : u_T} {N ci index : Nat} {Ts : List Cond} (hts : ∀ w ∈ Ts, w.before args s = true) (hin : ∀ w ∈ u_ws C T N, w ∈ Ts) (ty0 : Nat → FieldType) (hty : ∀ k, k < N → parseFieldDescriptor (T k).2.2.1 = some (ty0 k)) (hnm : ∀ a, a < N → ∀ b, b < N → a ≠ b → (T a).2.1 ≠ (T b).2.1) (hown : s.vm.findClass own = some m.cls) (hK : va_K D cl tys s) (hP : va_P D cl ws H) (hD : va_D A ws) (hS0 : va_S A H0 H locs) (q0 : Nat) {fs : List Value} (he : ws[q0]? = some (a, .inr (ci, fs))) (hc : cl[ci]? = some (C, T, N)) (k : Nat) (hk : k < N) (hlink : (Cond.fieldLink own index ref (T k).2.1 (T k).2.2.1).before args s = true) (hsame : ∀ x, s.fieldFound? (T k).1 (T k).2.1 (T k).2.2.1 = some x → s.fieldFound? ref (T k).2.1 (T k).2.2.1 = some x) (hfin : (T k).2.2.2 = true) (hin2 : meth.name = "<init>") (hdecl : (T k).1 = own) {ty : FieldType} {v : Value} (hd : parseFieldDescriptor (T k).2.2.1 = some ty) (hn : narrow ty v = v) (hfit : fits ty v = true) (hl : k < fs.length)
    (hdg : decode cc pc = .ok (.putfield index, 3)) (kk : ∀ (H1 : Heap) (locs1 : List Loc), H1.size = H.size → va_P D cl (ws.set q0 (a, .inr (ci, fs.set k v))) H1 → va_S A H0 H1 locs1 → W p l e R s m args below meth c H1 locs1 cells slots Q (F0 m (pc + 3) ls rest)) : W p l e R s m args below meth c H locs cells slots Q (F0 m pc ls (v :: .ref a :: rest)) := by
  have hap := va_apart (own := own) hts hin ty0 hty hnm hK hc
  obtain ⟨r, h1, cell, q1, q2, q3, q4⟩ := hP q0 _ he
  have hr : r = (C, T, N) := Option.some.inj (h1.symm.trans hc)
  subst hr
  obtain ⟨hS, hfc, kC, hkC, hkind⟩ := hK.1 ci _ hc
  obtain ⟨cf, kf, fi, f, hi, hsl⟩ := hS k hk
  have hlay := hts _ (hin _ (u_in_lay hk))
  unfold u_lay at hlay
  rw [if_pos hfin] at hlay
  have hst := (u_facts hfc hkC (u_lays hts hin hk) hi).1
  have hcf : m.cls = cf := by
    obtain ⟨_, _, c', _, _, _, -, -, hf', -, -, -, hown2, -⟩ := Cond.laysFinal_spec hlay
    have e1 : c' = cf := by have := hi.symm.trans hf'; simp at this; exact this.1.symm
    rw [hdecl] at hown2
    rw [← e1]; exact Option.some.inj (hown.symm.trans hown2)
  have h6 := u_fits hfc hkC hkind (Or.inr hlay) hi hd hn hfit
  refine W.putFinK hexec hb hown hlink (hsame _ hi) hst hcf hin2 (by rw [q2]; exact h6) q1 q3 (by rw [hsl]; exact k2_hasslot (q4 k hk)) rfl rfl hdg fun H' e1 e2 e3 => ?_
  rw [hsl] at e1 ⊢
  exact kk H' _ e2 (hP.set hD he ⟨_, hc, t_OB.to (V := updV (vp_V fs) k v) ⟨_, e1, q2, q3, t_set q4 hap hk v⟩ (fun j _ => vp_updV_set hl v j)⟩ e3) (hS0.put e2 e3 (hD.2 q0 _ he))
theorem x_iast (hexec : p.tables.exec = Jvm.exec) (hb : c.code = cc) (hK : va_K D cl tys s) (hP : va_P D cl ws H) (hD : va_D A ws) (hS : va_S A H0 H locs) (q0 t0 : Nat) {cA : ClassId} {n : Nat} {f : Nat → Int32} (ha : ws[q0]? = some (a, .inl (cA, n, .inl f))) (ht : tys[t0]? = some (cA, .int)) {i : Int32} {x : Int32} (hin : vp_in i n) (hdg : decode cc pc = .ok (.iastore, 1))
    (kk : ∀ (H1 : Heap) (locs1 : List Loc), H1.size = H.size → va_P D cl (ws.set q0 (a, .inl (cA, n, .inl (upd f i.toNatClampNeg x)))) H1 → va_S A H0 H1 locs1 → W p l e R s m args below meth c H1 locs1 cells slots Q (F0 m (pc + 1) ls rest)) : W p l e R s m args below meth c H locs cells slots Q (F0 m pc ls (.int x :: .int i :: .ref a :: rest)) := by
  refine W.iast hexec hb (hP q0 _ ha) ((hK.2 t0 _ ht).1 n (fun j => .int (f j))) (fun q => by cases q) (by show ¬ (i < 0 ∨ (arrV _ _ _).slots.size ≤ _); rw [arrV_size]; exact hin) rfl rfl hdg fun H1 e z oq => ?_
  refine kk H1 _ z (hP.set hD ha ?_ oq) (hS.put z oq (hD.2 q0 _ ha))
  show H1[a]? = some (vp_cell _ _)
  rw [e]
  rw [vp_cell_i, vp_cell_i, arrV_store]
  congr 2
  funext q
  by_cases hq : q = i.toNatClampNeg
  · subst hq
    simp [updV, upd]
  · simp [updV, upd, hq]
theorem x_astq (hexec : p.tables.exec = Jvm.exec) (hb : c.code = cc) (hK : va_K D cl tys s) (hP : va_P D cl ws H) (hD : va_D A ws) (hS : va_S A H0 H locs) (q0 t0 qk ci : Nat) {cA : ClassId} {r : vw_C} {n v : Nat} {vs : List Value} {f : Nat → Option Nat} (ha : ws[q0]? = some (a, .inl (cA, n, .inr (.inr (.inr (.inr f)))))) (ht : tys[t0]? = some (cA, .object r.1)) (hv : ws[qk]? = some (v, .inr (ci, vs))) (hc : cl[ci]? = some r) {i : Int32} (hin : vp_in i n) (hdg : decode cc pc = .ok (.aastore, 1))
    (kk : ∀ (H1 : Heap) (locs1 : List Loc), H1.size = H.size → va_P D cl (ws.set q0 (a, .inl (cA, n, .inr (.inr (.inr (.inr (va_up f i.toNatClampNeg (some v)))))))) H1 → va_S A H0 H1 locs1 → W p l e R s m args below meth c H1 locs1 cells slots Q (F0 m (pc + 1) ls rest)) : W p l e R s m args below meth c H locs cells slots Q (F0 m pc ls (.ref v :: .int i :: .ref a :: rest)) := by
  have hlt : i.toNatClampNeg < n := Nat.not_le.mp fun q => hin (Or.inr q)
  have h0 : ¬ i < 0 := fun q => hin (Or.inl q)
  obtain ⟨r', hr', cellV, g1, g2, g3, -⟩ := hP qk _ hv
  have hcls := (hK.1 ci r hc).2
  obtain ⟨kA, comp, k1, k2, k3, -⟩ := (hK.2 t0 _ ht).2
  have hcomp : comp = D.1 ci := Option.some.inj (k3.symm.trans hcls.1)
  subst hcomp
  obtain ⟨kC, hkC, -⟩ := hcls.2
  refine W.aast hexec hb (hP q0 _ ha) (fun q h => by cases h) (fun h => by cases h) k1 k2 rfl hkC ⟨h0, by show _ < (arrV _ _ _).slots.size; rw [arrV_size]; exact hlt⟩ g1 (fun q h => by rw [g3] at h; cases h) (by rw [g2]; exact hkC) (by rw [g2]; exact va_assign hcls) rfl rfl hdg fun H1 e z oq => ?_
  refine kk H1 _ z (hP.set hD ha ?_ oq) (hS.put z oq (hD.2 q0 _ ha))
  show H1[a]? = some (vp_cell _ _)
  rw [e]
  rw [vp_cell_q, vp_cell_q, arrV_store]
  congr 2
  funext q
  by_cases hq : q = i.toNatClampNeg
  · subst hq
    simp [updV, va_up, va_rf]
  · simp [updV, va_up, hq]
theorem x_P1 {D : va_G} {cl : List vw_C} {q : Nat × va_E} {H : Heap} (h : va_at D cl q H) : va_P D cl [q] H := by
  intro k x hx
  have hz : k < 1 := (List.getElem?_eq_some_iff.mp hx).1
  rw [show k = 0 by omega] at hx
  cases hx
  exact h
theorem x_new {c0 : Code} (hexec : p.tables.exec = Jvm.exec) (hb : c0.code = cc) {own C : String} {T : u_T} {N ci index : Nat} {Ts : List Cond} (hts : ∀ w ∈ Ts, w.before args s = true) (hin : ∀ w ∈ u_ws C T N, w ∈ Ts) (ty : Nat → FieldType) (hty : ∀ k, k < N → parseFieldDescriptor (T k).2.2.1 = some (ty k)) (hown : s.vm.findClass own = some m.cls) (hcl : (Cond.classLink own index C).before args s = true) (hinst : (Cond.instantiable C N).before args s = true) (hini : (Cond.initialized C).before args s = true)
    (hK : va_K D cl tys s) (hP : va_P D cl ws H) (hS : va_S A H0 H locs) (hc : cl[ci]? = some (C, T, N)) {fs : List Value} (hfs : ∀ j, j < N → defaultValue (ty j) = vp_V fs j) (hcells : cells + 1 ≤ R.cells) (hslots : slots + N ≤ R.slots) (hdg : decode cc pc = .ok (.new index, 3))
    (kk : ∀ (H1 : Heap), H1.size = H.size + 1 → va_P D cl (ws ++ [(H.size, .inr (ci, fs))]) H1 → va_S A H0 H1 locs →
      W p l e R s m args below meth c0 H1 locs (cells + 1) (slots + N) Q (F0 m (pc + 3) ls (.ref H.size :: rest))) : W p l e R s m args below meth c0 H locs cells slots Q (F0 m pc ls rest) := by
  have hKn := hK.1 ci _ hc
  refine W.newcK hexec hb hown hcl hinst hini rfl hdg hcells hslots hKn.2.1 rfl fun H1 kC hkC e1 z1 o1 => ?_
  have hk : ∀ (k : Nat) (x : Nat × va_E), ws[k]? = some x → H1[x.1]? = H[x.1]? := fun k x hx => o1 x.1 ((hP k x hx).lt)
  exact kk H1 z1 ((hP.kept hk).app (x_P1 ⟨_, hc, (u_born ty hts hin hKn hkC e1 hty).to hfs⟩)) ⟨Nat.le_trans hS.1 (by omega), fun x h1 h2 => (o1 x (Nat.lt_of_lt_of_le h1 hS.1)).trans (hS.2.1 x h1 h2), hS.2.2⟩
theorem x_newa (hexec : p.tables.exec = Jvm.exec) (hb : c.code = cc) (harr : (Cond.arrayClass .int).before args s = true) (hK : va_K D cl tys s) (hP : va_P D cl ws H) (hS : va_S A H0 H locs) {yI : ClassId} (t0 : Nat) (ht : tys[t0]? = some (yI, .int))
    {n : Int32} {N' : Nat} (hn : ¬ n < 0) (hN : n.toNatClampNeg = N') (hbytes : N' * 4 ≤ 536870912) (hcells : cells + 1 ≤ R.cells) (hslots : slots + N' ≤ R.slots) (hdg : decode cc pc = .ok (.newarray .int, 2))
    (kk : ∀ (H1 : Heap), H1.size = H.size + 1 → va_P D cl (ws ++ [(H.size, .inl (yI, N', .inl (fun _ => 0)))]) H1 → va_S A H0 H1 locs →
      W p l e R s m args below meth c H1 locs (cells + 1) (slots + N') Q (F0 m (pc + 2) ls (.ref H.size :: rest))) : W p l e R s m args below meth c H locs cells slots Q (F0 m pc ls (.int n :: rest)) := by
  refine va_newaK (atype := .int) hexec hb harr rfl hdg rfl hn hN hbytes hcells hslots rfl fun H1 cA e1 z1 o1 hAr hNm => ?_
  have hcy : cA = yI := Option.some.inj (hNm.symm.trans (hK.2 t0 _ ht).2)
  subst hcy
  have hk : ∀ (k : Nat) (x : Nat × va_E), ws[k]? = some x → H1[x.1]? = H[x.1]? := fun k x hx => o1 x.1 ((hP k x hx).lt)
  refine kk H1 z1 ((hP.kept hk).app (x_P1 ?_)) ⟨Nat.le_trans hS.1 (by omega), fun x h1 h2 => (o1 x (Nat.lt_of_lt_of_le h1 hS.1)).trans (hS.2.1 x h1 h2), hS.2.2⟩
  show H1[H.size]? = some (vp_cell _ _)
  rw [vp_cell_i]
  exact e1
theorem x_newq (hexec : p.tables.exec = Jvm.exec) (hb : c.code = cc) {own C : String} {index : Nat} (hown : s.vm.findClass own = some m.cls) (hclink : (Cond.classLink own index C).before args s = true) (hover : va_AO C s) (hK : va_K D cl tys s) (hP : va_P D cl ws H) (hS : va_S A H0 H locs) {yP : ClassId} (t0 : Nat) (ht : tys[t0]? = some (yP, .object C))
    {n : Int32} {N' : Nat} (hn : ¬ n < 0) (hN : n.toNatClampNeg = N') (hbytes : N' * 4 ≤ 536870912) (hcells : cells + 1 ≤ R.cells) (hslots : slots + N' ≤ R.slots) (hdg : decode cc pc = .ok (.anewarray index, 3))
    (kk : ∀ (H1 : Heap), H1.size = H.size + 1 → va_P D cl (ws ++ [(H.size, .inl (yP, N', .inr (.inr (.inr (.inr (fun _ => none))))))]) H1 → va_S A H0 H1 locs →
      W p l e R s m args below meth c H1 locs (cells + 1) (slots + N') Q (F0 m (pc + 3) ls (.ref H.size :: rest))) : W p l e R s m args below meth c H locs cells slots Q (F0 m pc ls (.int n :: rest)) := by
  subst hN
  refine W.anew hexec hb hown hclink (va_AO.use hover) rfl hdg rfl hn hbytes hcells hslots fun cA kA comp f1 f2 f3 f4 => ?_
  have hcy : cA = yP := by
    obtain ⟨kA2, comp2, g1, g2, g3, g4⟩ := (hK.2 t0 _ ht).2
    first | exact Option.some.inj (f4.symm.trans g4) | exact Option.some.inj (f1.symm.trans g4)
  subst hcy
  generalize hH1 : H.push ({ cls := cA, slots := Array.replicate n.toNatClampNeg .null, vm := .none } : Cell) = H1
  have z1 : H1.size = H.size + 1 := by rw [← hH1, Array.size_push]
  have e1 : H1[H.size]? = some (arrV cA n.toNatClampNeg (fun _ => .null)) := by rw [← hH1, Array.getElem?_push_size, ← arrV_new]
  have o1 : ∀ q : Nat, q < H.size → H1[q]? = H[q]? := fun q hq => by rw [← hH1, Array.getElem?_push, if_neg (Nat.ne_of_lt hq)]
  have hk : ∀ (k : Nat) (x : Nat × va_E), ws[k]? = some x → H1[x.1]? = H[x.1]? := fun k x hx => o1 x.1 ((hP k x hx).lt)
  refine kk H1 z1 ((hP.kept hk).app (x_P1 ?_)) ⟨Nat.le_trans hS.1 (by omega), fun x h1 h2 => (o1 x (Nat.lt_of_lt_of_le h1 hS.1)).trans (hS.2.1 x h1 h2), hS.2.2⟩
  show H1[H.size]? = some (vp_cell _ _)
  rw [vp_cell_q]
  exact e1
/-- behind a call -/
theorem x_call {b base : Nat} {yI yP : ClassId} {mc ms : Nat} {Q' : Option Value → xH → Prop} {st0 : List Value} {a : Array Value} (hr : va_Run p l e R s m args below meth c H locs cells slots mc ms (F0 m pc ls st0) rest (xQc b base yI yP D Q' a) (xAd base)) (hS : va_S (xAd base) s.heap H locs) (hbs : base ≤ s.heap.size)
    (kk : ∀ (r : Option Value) (h' : xH) (H1 : Heap) (locs1 : List Loc), Q' r h' → xWd base yI yP D h' H1 → va_S (xAd base) s.heap H1 locs1 → W p l e R s m args below meth c H1 locs1 (cells + mc) (slots + ms) Q (F0 m (pc + 3) ls ((r.map (xe b base)).toList ++ rest))) : W p l e R s m args below meth c H locs cells slots Q (F0 m pc ls st0) := by
  intro T hT X
  obtain ⟨v, st₀, t, T', L, h0, X', hL, e1, e2, ⟨r, h', hv, hq, hw, hz, hk⟩, st⟩ := hr T hT X
  cases hv
  rw [h0] at hz hk
  obtain ⟨t2, a1, b1⟩ := kk r h' T'.heap (locs ++ L) hq (by rw [e1]; exact hw)
    ⟨Nat.le_trans hS.1 (by rw [e1]; exact hz), fun q h1 h2 => by rw [e1, hk q (Nat.lt_of_not_le h2)]; exact hS.2.1 q h1 h2, fun q hq => by
      rcases List.mem_append.mp hq with h | h
      · exact hS.2.2 q h
      · exact hL q h⟩ T' rfl X'
  exact ⟨t2, st t2 a1, b1⟩
end XH
/-! ===== fields, rows ===== -/
/-- a field's link: in a class's table -/
def xfldOk (own : String) (idx ci k : Nat) : Prop := ∃ (C : String) (T : u_T) (N : Nat), vwCl[ci]? = some (C, T, N) ∧ k < N ∧ Cond.fieldLink own idx (T k).1 (T k).2.1 (T k).2.2.1 ∈ xBW
/-- the same, and it isn't final; it is, and the class' own -/
def xputOk (own : String) (idx ci k : Nat) : Prop := ∃ (C : String) (T : u_T) (N : Nat), vwCl[ci]? = some (C, T, N) ∧ k < N ∧ Cond.fieldLink own idx (T k).1 (T k).2.1 (T k).2.2.1 ∈ xBW ∧ (T k).2.2.2 = false
def xputFOk (own : String) (idx ci k : Nat) : Prop := ∃ (C : String) (T : u_T) (N : Nat), vwCl[ci]? = some (C, T, N) ∧ k < N ∧ Cond.fieldLink own idx (T k).1 (T k).2.1 (T k).2.2.1 ∈ xBW ∧ (T k).2.2.2 = true ∧ (T k).1 = own
section XF
variable {X : Option (Nat × (Nat → Int32))} {d : Nat} {M : xM} {c n mc ms pc q : Nat} {L : List (Option Value)} {st : List Value} {σ : List xSh} {S : Nat → Nat → Int32} {G : Nat → Nat → Int64} {Q : Option Value → xH → Prop}
theorem xA.getI {idx a ci k : Nat} {r : List (Option Nat)} (hd : xfetch M pc = some (.getfield idx, 3)) (hf : xfldOk M.1.cls idx ci k) (hσ : σ[a]? = some (.inl (ci, r))) (hk : xkind ci k = 0) (hq : pc + 3 = q) (kk : xA X d M c n mc ms q L (.int (S a k) :: st) (σ, S, G) Q) : xA X d M c n mc ms pc L (.ref a :: st) (σ, S, G) Q := by
  subst hq
  intro p l e R s m args below meth cd Z b base yI yP D cx H locs ls hW hS hL
  obtain ⟨C, T, N, hc, hkN, hw⟩ := hf
  obtain ⟨hu, -, hN, -⟩ := xlay hc
  refine va_get cx.ex cx.co cx.ts hu cx.ow cx.2.1.2.1 hW.2 a (xws_get (h := (σ, S, G)) hσ) hc k hkN (cx.ts _ hw) (fun _ h => h) ?_ (cx.de hd) (kk p l e R s m args below meth cd Z b base yI yP D cx H locs ls hW hS hL)
  rw [List.getElem?_map, List.getElem?_range (by omega)]
  simp only [Option.map_some, xval, hk, xe]
theorem xA.getZ {idx a ci k : Nat} {r : List (Option Nat)} (hd : xfetch M pc = some (.getfield idx, 3)) (hf : xfldOk M.1.cls idx ci k) (hσ : σ[a]? = some (.inl (ci, r))) (hk : xkind ci k = 3) (hq : pc + 3 = q) (kk : xA X d M c n mc ms q L (.int (S a k) :: st) (σ, S, G) Q) : xA X d M c n mc ms pc L (.ref a :: st) (σ, S, G) Q := by
  subst hq
  intro p l e R s m args below meth cd Z b base yI yP D cx H locs ls hW hS hL
  obtain ⟨C, T, N, hc, hkN, hw⟩ := hf
  obtain ⟨hu, -, hN, -⟩ := xlay hc
  refine va_get cx.ex cx.co cx.ts hu cx.ow cx.2.1.2.1 hW.2 a (xws_get (h := (σ, S, G)) hσ) hc k hkN (cx.ts _ hw) (fun _ h => h) ?_ (cx.de hd) (kk p l e R s m args below meth cd Z b base yI yP D cx H locs ls hW hS hL)
  rw [List.getElem?_map, List.getElem?_range (by omega)]
  simp only [Option.map_some, xval, hk, xe]
theorem xA.getL {idx a ci k : Nat} {r : List (Option Nat)} (hd : xfetch M pc = some (.getfield idx, 3)) (hf : xfldOk M.1.cls idx ci k) (hσ : σ[a]? = some (.inl (ci, r))) (hk : xkind ci k = 1) (hq : pc + 3 = q) (kk : xA X d M c n mc ms q L (.long (G a k) :: st) (σ, S, G) Q) : xA X d M c n mc ms pc L (.ref a :: st) (σ, S, G) Q := by
  subst hq
  intro p l e R s m args below meth cd Z b base yI yP D cx H locs ls hW hS hL
  obtain ⟨C, T, N, hc, hkN, hw⟩ := hf
  obtain ⟨hu, -, hN, -⟩ := xlay hc
  refine va_get cx.ex cx.co cx.ts hu cx.ow cx.2.1.2.1 hW.2 a (xws_get (h := (σ, S, G)) hσ) hc k hkN (cx.ts _ hw) (fun _ h => h) ?_ (cx.de hd) (kk p l e R s m args below meth cd Z b base yI yP D cx H locs ls hW hS hL)
  rw [List.getElem?_map, List.getElem?_range (by omega)]
  simp only [Option.map_some, xval, hk, xe]
theorem xA.getR {idx a ci k a' : Nat} {r : List (Option Nat)} (hd : xfetch M pc = some (.getfield idx, 3)) (hf : xfldOk M.1.cls idx ci k) (hσ : σ[a]? = some (.inl (ci, r))) (hk : xkind ci k = 2) (hr : r[k]? = some (some a')) (hq : pc + 3 = q) (kk : xA X d M c n mc ms q L (.ref a' :: st) (σ, S, G) Q) : xA X d M c n mc ms pc L (.ref a :: st) (σ, S, G) Q := by
  subst hq
  intro p l e R s m args below meth cd Z b base yI yP D cx H locs ls hW hS hL
  obtain ⟨C, T, N, hc, hkN, hw⟩ := hf
  obtain ⟨hu, -, hN, -⟩ := xlay hc
  refine va_get cx.ex cx.co cx.ts hu cx.ow cx.2.1.2.1 hW.2 a (xws_get (h := (σ, S, G)) hσ) hc k hkN (cx.ts _ hw) (fun _ h => h) ?_ (cx.de hd) (kk p l e R s m args below meth cd Z b base yI yP D cx H locs ls hW hS hL)
  rw [List.getElem?_map, List.getElem?_range (by omega)]
  simp only [Option.map_some, xval, hk, xe, List.getD_eq_getElem?_getD, hr, Option.getD_some, va_rf]
theorem xA.putI {idx a ci k : Nat} {v : Int32} {r : List (Option Nat)} (hd : xfetch M pc = some (.putfield idx, 3)) (hf : xputOk M.1.cls idx ci k) (hσ : σ[a]? = some (.inl (ci, r))) (hk : xkind ci k = 0) (hq : pc + 3 = q) (kk : xA X d M c n mc ms q L st (σ, xu S a k v, G) Q) : xA X d M c n mc ms pc L (.int v :: .ref a :: st) (σ, S, G) Q := by
  subst hq
  intro p l e R s m args below meth cd Z b base yI yP D cx H locs ls hW hS hL
  obtain ⟨C, T, N, hc, hkN, hw, hfin⟩ := hf
  obtain ⟨hu, hnm, hN, ty, hty, htk⟩ := xlay hc
  have hty2 : ty k = .int := by
    have h1 := htk k hkN
    rw [hk] at h1
    revert h1
    cases ty k <;> intro h1 <;> first | rfl | (simp [xtyB] at h1)
  refine x_put cx.ex cx.co cx.ts hu ty hty hnm cx.ow cx.2.1.2.1 hW.2 (xws_D base yI yP (σ, S, G)) hS a (xws_get (h := (σ, S, G)) hσ) hc k hkN (cx.ts _ hw) (fun _ h => h) hfin (hty k hkN) (by rw [hty2]; exact rfl) (by rw [hty2]; exact rfl) (by simp; omega) (cx.de hd) (fun H1 locs1 hz hP hS1 => kk p l e R s m args below meth cd Z b base yI yP D cx H1 locs1 ls ⟨hz.trans hW.1, ?_⟩ hS1 hL)
  rw [xws_set (h := (σ, S, G)) (h' := (σ, xu S a k v, G)) hσ (x_setSelf hσ) (fun j hj z => xcell_eq (by funext i; simp [xu, hj]) (by funext i; simp [xul, hj]) z)]
  rw [xfs_set (h' := (σ, xu S a k v, G)) (r' := r) (by simp [xval, hk, xu, xul, xe]) (fun i hi => xval_eq (by simp [xu, hi]) (by simp [xul, hi]))] at hP
  exact hP
theorem xA.putZ {idx a ci k : Nat} {v : Int32} {r : List (Option Nat)} (hd : xfetch M pc = some (.putfield idx, 3)) (hf : xputOk M.1.cls idx ci k) (hσ : σ[a]? = some (.inl (ci, r))) (hk : xkind ci k = 3) (hv : v = 0 ∨ v = 1) (hq : pc + 3 = q) (kk : xA X d M c n mc ms q L st (σ, xu S a k v, G) Q) : xA X d M c n mc ms pc L (.int v :: .ref a :: st) (σ, S, G) Q := by
  subst hq
  intro p l e R s m args below meth cd Z b base yI yP D cx H locs ls hW hS hL
  obtain ⟨C, T, N, hc, hkN, hw, hfin⟩ := hf
  obtain ⟨hu, hnm, hN, ty, hty, htk⟩ := xlay hc
  have hty2 : ty k = .boolean := by
    have h1 := htk k hkN
    rw [hk] at h1
    revert h1
    cases ty k <;> intro h1 <;> first | rfl | (simp [xtyB] at h1)
  refine x_put cx.ex cx.co cx.ts hu ty hty hnm cx.ow cx.2.1.2.1 hW.2 (xws_D base yI yP (σ, S, G)) hS a (xws_get (h := (σ, S, G)) hσ) hc k hkN (cx.ts _ hw) (fun _ h => h) hfin (hty k hkN) (by rw [hty2]; exact (by rcases hv with rfl | rfl <;> rfl)) (by rw [hty2]; exact (by rcases hv with rfl | rfl <;> rfl)) (by simp; omega) (cx.de hd) (fun H1 locs1 hz hP hS1 => kk p l e R s m args below meth cd Z b base yI yP D cx H1 locs1 ls ⟨hz.trans hW.1, ?_⟩ hS1 hL)
  rw [xws_set (h := (σ, S, G)) (h' := (σ, xu S a k v, G)) hσ (x_setSelf hσ) (fun j hj z => xcell_eq (by funext i; simp [xu, hj]) (by funext i; simp [xul, hj]) z)]
  rw [xfs_set (h' := (σ, xu S a k v, G)) (r' := r) (by simp [xval, hk, xu, xul, xe]) (fun i hi => xval_eq (by simp [xu, hi]) (by simp [xul, hi]))] at hP
  exact hP
theorem xA.putL {idx a ci k : Nat} {v : Int64} {r : List (Option Nat)} (hd : xfetch M pc = some (.putfield idx, 3)) (hf : xputOk M.1.cls idx ci k) (hσ : σ[a]? = some (.inl (ci, r))) (hk : xkind ci k = 1) (hq : pc + 3 = q) (kk : xA X d M c n mc ms q L st (σ, S, xul G a k v) Q) : xA X d M c n mc ms pc L (.long v :: .ref a :: st) (σ, S, G) Q := by
  subst hq
  intro p l e R s m args below meth cd Z b base yI yP D cx H locs ls hW hS hL
  obtain ⟨C, T, N, hc, hkN, hw, hfin⟩ := hf
  obtain ⟨hu, hnm, hN, ty, hty, htk⟩ := xlay hc
  have hty2 : ty k = .long := by
    have h1 := htk k hkN
    rw [hk] at h1
    revert h1
    cases ty k <;> intro h1 <;> first | rfl | (simp [xtyB] at h1)
  refine x_put cx.ex cx.co cx.ts hu ty hty hnm cx.ow cx.2.1.2.1 hW.2 (xws_D base yI yP (σ, S, G)) hS a (xws_get (h := (σ, S, G)) hσ) hc k hkN (cx.ts _ hw) (fun _ h => h) hfin (hty k hkN) (by rw [hty2]; exact rfl) (by rw [hty2]; exact rfl) (by simp; omega) (cx.de hd) (fun H1 locs1 hz hP hS1 => kk p l e R s m args below meth cd Z b base yI yP D cx H1 locs1 ls ⟨hz.trans hW.1, ?_⟩ hS1 hL)
  rw [xws_set (h := (σ, S, G)) (h' := (σ, S, xul G a k v)) hσ (x_setSelf hσ) (fun j hj z => xcell_eq (by funext i; simp [xu, hj]) (by funext i; simp [xul, hj]) z)]
  rw [xfs_set (h' := (σ, S, xul G a k v)) (r' := r) (by simp [xval, hk, xu, xul, xe]) (fun i hi => xval_eq (by simp [xu, hi]) (by simp [xul, hi]))] at hP
  exact hP
theorem xA.putR {idx a ci k v : Nat} {r : List (Option Nat)} (hd : xfetch M pc = some (.putfield idx, 3)) (hf : xputFOk M.1.cls idx ci k) (hin : M.1.name = "<init>") (hσ : σ[a]? = some (.inl (ci, r))) (hk : xkind ci k = 2) (hrl : k < r.length) (hq : pc + 3 = q) (kk : xA X d M c n mc ms q L st (σ.set a (.inl (ci, r.set k (some v))), S, G) Q) : xA X d M c n mc ms pc L (.ref v :: .ref a :: st) (σ, S, G) Q := by
  subst hq
  intro p l e R s m args below meth cd Z b base yI yP D cx H locs ls hW hS hL
  obtain ⟨C, T, N, hc, hkN, hw, hfin, hdecl⟩ := hf
  obtain ⟨hu, hnm, hN, ty, hty, htk⟩ := xlay hc
  have hty2 : (∃ nm, ty k = .object nm) ∨ ∃ t, ty k = .array t := by
    have h1 := htk k hkN
    rw [hk] at h1
    revert h1
    cases ty k <;> intro h1 <;> first | exact Or.inl ⟨_, rfl⟩ | exact Or.inr ⟨_, rfl⟩ | (simp [xtyB] at h1)
  refine x_putF cx.ex cx.co cx.ts hu ty hty hnm cx.ow cx.2.1.2.1 hW.2 (xws_D base yI yP (σ, S, G)) hS a (xws_get (h := (σ, S, G)) hσ) hc k hkN (cx.ts _ hw) (fun _ h => h) hfin (cx.2.2.1.1.trans hin) hdecl (hty k hkN) (by rcases hty2 with ⟨_, h⟩ | ⟨_, h⟩ <;> rw [h] <;> rfl) (by rcases hty2 with ⟨_, h⟩ | ⟨_, h⟩ <;> rw [h] <;> rfl) (by simp; omega) (cx.de hd) (fun H1 locs1 hz hP hS1 => kk p l e R s m args below meth cd Z b base yI yP D cx H1 locs1 ls ⟨by simpa using hz.trans hW.1, ?_⟩ hS1 hL)
  rw [xws_set (h := (σ, S, G)) (h' := (σ.set a (.inl (ci, r.set k (some v))), S, G)) hσ rfl (fun j hj z => xcell_eq rfl rfl z)]
  rw [xfs_set (h' := (σ.set a (.inl (ci, r.set k (some v))), S, G)) (r' := r.set k (some v)) (by simp [xval, hk, xe, hrl, va_rf]) (fun i hi => by simp [xval, List.getElem?_set_ne (Ne.symm hi)])] at hP
  exact hP
theorem xA.iald {a N : Nat} {i : Int32} (hd : xfetch M pc = some (.iaload, 1)) (hσ : σ[a]? = some (.inr (.inl N))) (hin : vp_in i N) (hq : pc + 1 = q) (kk : xA X d M c n mc ms q L (.int (S a i.toNatClampNeg) :: st) (σ, S, G) Q) : xA X d M c n mc ms pc L (.int i :: .ref a :: st) (σ, S, G) Q := by
  subst hq
  intro p l e R s m args below meth cd Z b base yI yP D cx H locs ls hW hS hL
  exact va_iald cx.ex cx.co cx.2.1.2.1 hW.2 a 0 (xws_get (h := (σ, S, G)) hσ) rfl hin (cx.de hd) (kk p l e R s m args below meth cd Z b base yI yP D cx H locs ls hW hS hL)
theorem xA.iast {a N : Nat} {i v : Int32} (hd : xfetch M pc = some (.iastore, 1)) (hσ : σ[a]? = some (.inr (.inl N))) (hin : vp_in i N) (hq : pc + 1 = q) (kk : xA X d M c n mc ms q L st (σ, xu S a i.toNatClampNeg v, G) Q) : xA X d M c n mc ms pc L (.int v :: .int i :: .ref a :: st) (σ, S, G) Q := by
  subst hq
  intro p l e R s m args below meth cd Z b base yI yP D cx H locs ls hW hS hL
  refine x_iast cx.ex cx.co cx.2.1.2.1 hW.2 (xws_D base yI yP (σ, S, G)) hS a 0 (xws_get (h := (σ, S, G)) hσ) rfl hin (cx.de hd) (fun H1 locs1 hz hP hS1 => kk p l e R s m args below meth cd Z b base yI yP D cx H1 locs1 ls ⟨hz.trans hW.1, ?_⟩ hS1 hL)
  rw [xws_set (h := (σ, S, G)) (h' := (σ, xu S a i.toNatClampNeg v, G)) hσ (x_setSelf hσ) (fun j hj z => xcell_eq (h := (σ, S, G)) (h' := (σ, xu S a i.toNatClampNeg v, G)) (by funext i; simp [xu, hj]) rfl z)]
  have e9 : upd (S a) i.toNatClampNeg v = xu S a i.toNatClampNeg v a := by funext j; simp [upd, xu]
  rw [e9] at hP
  exact hP
theorem xA.alen {a N : Nat} (hd : xfetch M pc = some (.arraylength, 1)) (hσ : σ[a]? = some (.inr (.inl N))) (hq : pc + 1 = q) (kk : xA X d M c n mc ms q L (.int (nI N) :: st) (σ, S, G) Q) : xA X d M c n mc ms pc L (.ref a :: st) (σ, S, G) Q := by
  subst hq
  intro p l e R s m args below meth cd Z b base yI yP D cx H locs ls hW hS hL
  exact va_alen cx.ex cx.co cx.2.1.2.1 hW.2 a 0 (xws_get (h := (σ, S, G)) hσ) rfl rfl (cx.de hd) (kk p l e R s m args below meth cd Z b base yI yP D cx H locs ls hW hS hL)
theorem xA.alenR {a : Nat} {l0 : List (Option Nat)} (hd : xfetch M pc = some (.arraylength, 1)) (hσ : σ[a]? = some (.inr (.inr l0))) (hq : pc + 1 = q) (kk : xA X d M c n mc ms q L (.int (nI l0.length) :: st) (σ, S, G) Q) : xA X d M c n mc ms pc L (.ref a :: st) (σ, S, G) Q := by
  subst hq
  intro p l e R s m args below meth cd Z b base yI yP D cx H locs ls hW hS hL
  exact va_alen cx.ex cx.co cx.2.1.2.1 hW.2 a 1 (xws_get (h := (σ, S, G)) hσ) rfl rfl (cx.de hd) (kk p l e R s m args below meth cd Z b base yI yP D cx H locs ls hW hS hL)
theorem xA.aald {a a' : Nat} {l0 : List (Option Nat)} {i : Int32} (hd : xfetch M pc = some (.aaload, 1)) (hσ : σ[a]? = some (.inr (.inr l0))) (hin : vp_in i l0.length) (hv : l0[i.toNatClampNeg]? = some (some a')) (hq : pc + 1 = q) (kk : xA X d M c n mc ms q L (.ref a' :: st) (σ, S, G) Q) : xA X d M c n mc ms pc L (.int i :: .ref a :: st) (σ, S, G) Q := by
  subst hq
  intro p l e R s m args below meth cd Z b base yI yP D cx H locs ls hW hS hL
  refine va_aldq cx.ex cx.co cx.2.1.2.1 hW.2 a 1 (xws_get (h := (σ, S, G)) hσ) rfl hin (cx.de hd) ?_
  have e9 : va_rf ((l0.getD i.toNatClampNeg none).map (fun j => base + j)) = .ref (base + a') := by simp [List.getD_eq_getElem?_getD, hv, va_rf]
  rw [e9]
  exact kk p l e R s m args below meth cd Z b base yI yP D cx H locs ls hW hS hL
theorem xA.aast {a v ci : Nat} {r l0 : List (Option Nat)} {i : Int32} (hd : xfetch M pc = some (.aastore, 1)) (hσ : σ[a]? = some (.inr (.inr l0))) (hσv : σ[v]? = some (.inl (5, r))) (hin : vp_in i l0.length) (hq : pc + 1 = q) (kk : xA X d M c n mc ms q L st (σ.set a (.inr (.inr (l0.set i.toNatClampNeg (some v)))), S, G) Q) : xA X d M c n mc ms pc L (.ref v :: .int i :: .ref a :: st) (σ, S, G) Q := by
  subst hq
  intro p l e R s m args below meth cd Z b base yI yP D cx H locs ls hW hS hL
  refine x_astq (r := (RX5, TX5, 2)) cx.ex cx.co cx.2.1.2.1 hW.2 (xws_D base yI yP (σ, S, G)) hS a 1 v 5 (xws_get (h := (σ, S, G)) hσ) rfl (xws_get (h := (σ, S, G)) hσv) rfl hin (cx.de hd) (fun H1 locs1 hz hP hS1 => kk p l e R s m args below meth cd Z b base yI yP D cx H1 locs1 ls ⟨by simpa using hz.trans hW.1, ?_⟩ hS1 hL)
  have hlt : i.toNatClampNeg < l0.length := Nat.not_le.mp fun q => hin (Or.inr q)
  rw [xws_set (h := (σ, S, G)) (h' := (σ.set a (.inr (.inr (l0.set i.toNatClampNeg (some v)))), S, G)) hσ rfl (fun j hj z => xcell_eq rfl rfl z)]
  have e9 : (fun j => ((l0.set i.toNatClampNeg (some v)).getD j none).map (fun j => base + j)) = va_up (fun j => (l0.getD j none).map (fun j => base + j)) i.toNatClampNeg (some (base + v)) := by
    funext j
    by_cases hj : j = i.toNatClampNeg
    · subst hj
      simp [va_up, List.getD_eq_getElem?_getD, hlt]
    · simp [va_up, List.getD_eq_getElem?_getD, hj, List.getElem?_set_ne (Ne.symm hj)]
  simp only [xcell, List.length_set, e9]
  exact hP
theorem xA.sld {N x : Nat} {xs : Nat → Int32} {i : Int32} {h : xH} (hd : xfetch M pc = some (.iaload, 1)) (hin : vp_in i N) (hq : pc + 1 = q) (kk : xA (some (N, xs)) d M c n mc ms q L (.int (xs i.toNatClampNeg) :: st) h Q) : xA (some (N, xs)) d M c n mc ms pc L (.int i :: .retAddr x :: st) h Q := by
  subst hq
  intro p l e R s m args below meth cd Z b base yI yP D cx H locs ls hW hS hL
  have hX := cx.2.2.2.2.2.1
  exact va_sld cx.ex cx.co hX.1 (Nat.lt_of_lt_of_le hX.2 cx.2.2.2.2.1) (Nat.not_le.mpr hX.2) hS hin (cx.de hd) (kk p l e R s m args below meth cd Z b base yI yP D cx H locs ls hW hS hL)
theorem xA.slen {N x : Nat} {xs : Nat → Int32} {h : xH} (hd : xfetch M pc = some (.arraylength, 1)) (hq : pc + 1 = q) (kk : xA (some (N, xs)) d M c n mc ms q L (.int (nI N) :: st) h Q) : xA (some (N, xs)) d M c n mc ms pc L (.retAddr x :: st) h Q := by
  subst hq
  intro p l e R s m args below meth cd Z b base yI yP D cx H locs ls hW hS hL
  have hX := cx.2.2.2.2.2.1
  exact va_slen cx.ex cx.co hX.1 (Nat.lt_of_lt_of_le hX.2 cx.2.2.2.2.1) (Nat.not_le.mpr hX.2) hS (cx.de hd) (kk p l e R s m args below meth cd Z b base yI yP D cx H locs ls hW hS hL)
end XF

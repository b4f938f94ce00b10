
/-! ===== an own judgement over the kit's: the objects have numbers (the k-th made lies at base + k), their whole numbers lie in one store ===== -/
/-- a method: name, code, locals, answer's type, parameters, its instructions -/
abbrev xM : Type := MethodName × ByteArray × Nat × Option FieldType × Nat × List (Nat × Instr × Nat)
/-- what a numbered cell is: an object of a class with its references; a row of ints; a row of references -/
abbrev xSh : Type := (Nat × List (Option Nat)) ⊕ (Nat ⊕ List (Option Nat))
/-- the cells, their ints, their longs -/
abbrev xH : Type := List xSh × (Nat → Nat → Int32) × (Nat → Nat → Int64)
def xfetch (M : xM) (pc : Nat) : Option (Instr × Nat) := M.2.2.2.2.2.lookup pc
def xe (b base : Nat) : Value → Value
  | .ref k => .ref (base + k)
  | .retAddr _ => .ref b
  | v => v
theorem xe_cat (b base : Nat) (v : Value) : (xe b base v).category = v.category := by cases v <;> rfl
/-- the kinds of fields: 0 int, 1 long, 2 reference, 3 boolean -/
def xkinds : List (List Nat) := [[2, 0], [2, 2, 0, 0, 0, 0, 0, 0], [2, 2, 2, 3, 0], [2, 0, 0, 0], [2, 0], [2, 0], [2, 2, 0, 0, 0, 0, 0], [2, 2, 2, 0], [0, 0, 0], [2, 2, 2, 2, 2, 2, 2, 2, 2, 2, 0, 0, 0]]
def xkind (ci k : Nat) : Nat := (xkinds.getD ci []).getD k 0
def xnf (ci : Nat) : Nat := (xkinds.getD ci []).length
def xval (base : Nat) (h : xH) (k c : Nat) (r : List (Option Nat)) (i : Nat) : Value := match xkind c i with
  | 0 => .int (h.2.1 k i)
  | 1 => .long (h.2.2 k i)
  | 2 => va_rf ((r.getD i none).map (fun j => base + j))
  | _ => .int (h.2.1 k i)
def xcell (base : Nat) (yI yP : ClassId) (h : xH) (k : Nat) : xSh → va_E
  | .inl (c, r) => .inr (c, (List.range (xnf c)).map (xval base h k c r))
  | .inr (.inl n) => .inl (yI, n, .inl (h.2.1 k))
  | .inr (.inr l) => .inl (yP, l.length, .inr (.inr (.inr (.inr (fun i => (l.getD i none).map (fun j => base + j))))))
def xws (base : Nat) (yI yP : ClassId) (h : xH) : va_W := h.1.mapIdx (fun k sh => (base + k, xcell base yI yP h k sh))
abbrev xtys (yI yP : ClassId) : List (ClassId × FieldType) := [(yI, .int), (yP, .object RX5)]
def xWd (base : Nat) (yI yP : ClassId) (D : va_G) (h : xH) (H : Heap) : Prop := H.size = base + h.1.length ∧ va_P D vwCl (xws base yI yP h) H
def xLs (b base : Nat) (ls : Array Slot) (L : List (Option Value)) : Prop := ls.size = L.length ∧ lv_wf ls ∧ ∀ (i : Nat) (v : Value), L[i]? = some (some v) → ls[i]? = some (.val (xe b base v))
/-- a word of the tables that every method may use -/
def xW (w : Cond) : Prop := w ∈ lw_tbl ∧ goodWord w = true
def xnest : Cond → Bool
  | .methodLinkNest _ _ _ _ => true
  | _ => false
def xBW : List Cond := lw_tbl.filter goodWord
theorem xBW_of {w : Cond} (h : xW w) : w ∈ xBW := List.mem_filter.mpr h
theorem xW_of {w : Cond} (h : w ∈ xBW) : xW w := List.mem_filter.mp h
abbrev xAd (base : Nat) : Nat → Prop := fun q => base ≤ q
def xIsRet (rt : Option FieldType) (i : Instr) (st : List Value) (r : Option Value) : Prop :=
  (i = .ireturn ∧ ∃ v : Int32, st = [.int v] ∧ r = some (.int v) ∧ ∃ ty, rt = some ty ∧ narrow ty (.int v) = .int v) ∨
  (i = .lreturn ∧ ∃ v : Int64, st = [.long v] ∧ r = some (.long v) ∧ rt = some .long) ∨
  (i = .areturn ∧ ∃ v : Value, st = [v] ∧ r = some v ∧ (∃ n, rt = some (.object n)) ∧ (v = .null ∨ ∃ a, v = .ref a)) ∨
  (i = .return_ ∧ st = [] ∧ r = none ∧ rt = none)
/-- the tables' part of a state -/
def xTb (yI yP : ClassId) (D : va_G) (s : State) : Prop := va_K D vwCl (xtys yI yP) s ∧ va_AO RX5 s ∧ ∀ w, w ∈ lw_tbl → xnest w = true → va_Nw w s
/-- what a walk stands on -/
def xCx (X : Option (Nat × (Nat → Int32))) (d : Nat) (M : xM) (mc ms : Nat) (Q : Option Value → xH → Prop) (p : Program) (l : Launch) (e : Env) (R : Room) (s : State) (m : MethodId) (args : Array Value) (below : List Frame) (meth : Method) (cd : Code) (Z : State → Prop) (b base : Nat) (yI yP : ClassId) (D : va_G) : Prop :=
  (p.tables.exec = Jvm.exec ∧ cd.code = M.2.1 ∧ cd.maxLocals = M.2.2.1 ∧ s.vm.findClass M.1.cls = some m.cls) ∧
  ((∀ w, w ∈ xBW → w.before args s = true) ∧ xTb yI yP D s) ∧
  (meth.name = M.1.name ∧ ∀ pc i n, xfetch M pc = some (i, n) → decode M.2.1 pc = .ok (i, n)) ∧
  (d ≤ R.frames ∧ 46 * d ≤ R.locals ∧ mc ≤ R.cells ∧ ms ≤ R.slots) ∧
  (base ≤ s.heap.size) ∧
  (match X with | none => True | some q => va_X b q.1 q.2 s s.heap ∧ b < base) ∧
  (∀ (pc : Nat) (ls : Array Slot) (i : Instr) (st : List Value) (r : Option Value) (h : xH) (H : Heap) (locs : List Loc), decode M.2.1 pc = .ok (i, 1) → xIsRet M.2.2.2.1 i st r → Q r h → xWd base yI yP D h H → va_S (xAd base) s.heap H locs → W p l e R s m args below meth cd H locs mc ms Z (F0 m pc ls (st.map (xe b base))))
/-- from this point of the method, with these locals, this stack, these cells, it returns, and Q holds of its answer and of the cells then -/
def xA (X : Option (Nat × (Nat → Int32))) (d : Nat) (M : xM) (c n mc ms pc : Nat) (L : List (Option Value)) (st : List Value) (h : xH) (Q : Option Value → xH → Prop) : Prop :=
  ∀ (p : Program) (l : Launch) (e : Env) (R : Room) (s : State) (m : MethodId) (args : Array Value) (below : List Frame) (meth : Method) (cd : Code) (Z : State → Prop) (b base : Nat) (yI yP : ClassId) (D : va_G), xCx X d M mc ms Q p l e R s m args below meth cd Z b base yI yP D →
    ∀ (H : Heap) (locs : List Loc) (ls : Array Slot), xWd base yI yP D h H → va_S (xAd base) s.heap H locs → xLs b base ls L → W p l e R s m args below meth cd H locs c n Z (F0 m pc ls (st.map (xe b base)))
def xPc (b base : Nat) (yI yP : ClassId) (D : va_G) (args : List Value) (h : xH) : Array Value → State → Prop := va_Pc (args.map (xe b base)) (fun U => xWd base yI yP D h U.heap ∧ xTb yI yP D U)
def xQc (b base : Nat) (yI yP : ClassId) (D : va_G) (Q : Option Value → xH → Prop) : Array Value → State → Outcome → State → Prop := fun _ st o t => ∃ (r : Option Value) (h' : xH), o = .returned (r.map (xe b base)) ∧ Q r h' ∧ xWd base yI yP D h' t.heap ∧ st.heap.size ≤ t.heap.size ∧ ∀ q : Nat, q < base → t.heap[q]? = st.heap[q]?
/-- a method's contract: called with these, over these cells, it returns, and Q holds -/
def xC (d : Nat) (M : xM) (args : List Value) (h : xH) (mc ms : Nat) (Q : Option Value → xH → Prop) : Prop :=
  ∀ (l : Launch) (b base : Nat) (yI yP : ClassId) (D : va_G), Met l M.1 (.code M.1 M.2.1 M.2.2.1 M.2.2.2.1 :: xBW) { frames := d, cells := mc, slots := ms, locals := 46 * d } (xPc b base yI yP D args h) (xQc b base yI yP D Q) mc ms (xAd base)
theorem xA.mono {X : Option (Nat × (Nat → Int32))} {d : Nat} {M : xM} {c n mc ms pc : Nat} {L : List (Option Value)} {st : List Value} {h : xH} {Q Q' : Option Value → xH → Prop} (k : xA X d M c n mc ms pc L st h Q) (hq : ∀ r h', Q r h' → Q' r h') : xA X d M c n mc ms pc L st h Q' := by
  intro p l e R s m args below meth cd Z b base yI yP D cx
  exact k p l e R s m args below meth cd Z b base yI yP D ⟨cx.1, cx.2.1, cx.2.2.1, cx.2.2.2.1, cx.2.2.2.2.1, cx.2.2.2.2.2.1, fun pc ls i st r h H locs a1 a2 a3 => cx.2.2.2.2.2.2 pc ls i st r h H locs a1 a2 (hq _ _ a3)⟩
theorem xC.mono {d : Nat} {M : xM} {args : List Value} {h : xH} {mc ms : Nat} {Q Q' : Option Value → xH → Prop} (k : xC d M args h mc ms Q) (hq : ∀ r h', Q r h' → Q' r h') : xC d M args h mc ms Q' := by
  intro l b base yI yP D
  refine MetFree.mono (k l b base yI yP D) (fun _ _ z => z) (fun _ _ _ _ _ _ => trivial) ?_
  rintro a s o s' - ⟨⟨r, h', h1, h2, h3⟩, hl⟩
  exact ⟨⟨r, h', h1, hq _ _ h2, h3⟩, hl⟩
/-! what the tables say of a class -/
def xtyB : Nat → FieldType → Bool
  | 0, .int => true
  | 1, .long => true
  | 2, .object _ => true
  | 2, .array _ => true
  | 3, .boolean => true
  | _, _ => false
def xLay (ci : Nat) (C : String) (T : u_T) (N : Nat) : Prop := (∀ w ∈ u_ws C T N, w ∈ xBW) ∧ (∀ a, a < N → ∀ b, b < N → a ≠ b → (T a).2.1 ≠ (T b).2.1) ∧ N = xnf ci ∧ ∃ ty : Nat → FieldType, (∀ k, k < N → parseFieldDescriptor (T k).2.2.1 = some (ty k)) ∧ ∀ k, k < N → xtyB (xkind ci k) (ty k) = true
def xinB (ws : List Cond) : Bool := ws.all (fun w => decide (w ∈ lw_tbl) && goodWord w)
theorem xinB_of {ws : List Cond} (h : xinB ws = true) : ∀ w ∈ ws, w ∈ xBW := by
  intro w hw
  have h1 := List.all_eq_true.mp h w hw
  simp only [Bool.and_eq_true, decide_eq_true_eq] at h1
  exact xBW_of h1
theorem xlay0 : xLay 0 RX0 TX0 2 := ⟨xinB_of (by decide +kernel), nmX0, by decide +kernel, tyX0, tyX0_ok, by decide +kernel⟩
theorem xlay1 : xLay 1 RX1 TX1 8 := ⟨xinB_of (by decide +kernel), nmX1, by decide +kernel, tyX1, tyX1_ok, by decide +kernel⟩
theorem xlay2 : xLay 2 RX2 TX2 5 := ⟨xinB_of (by decide +kernel), nmX2, by decide +kernel, tyX2, tyX2_ok, by decide +kernel⟩
theorem xlay3 : xLay 3 RX3 TX3 4 := ⟨xinB_of (by decide +kernel), nmX3, by decide +kernel, tyX3, tyX3_ok, by decide +kernel⟩
theorem xlay4 : xLay 4 RX4 TX4 2 := ⟨xinB_of (by decide +kernel), nmX4, by decide +kernel, tyX4, tyX4_ok, by decide +kernel⟩
theorem xlay5 : xLay 5 RX5 TX5 2 := ⟨xinB_of (by decide +kernel), nmX5, by decide +kernel, tyX5, tyX5_ok, by decide +kernel⟩
theorem xlay6 : xLay 6 RX6 TX6 7 := ⟨xinB_of (by decide +kernel), nmX6, by decide +kernel, tyX6, tyX6_ok, by decide +kernel⟩
theorem xlay7 : xLay 7 RX7 TX7 4 := ⟨xinB_of (by decide +kernel), nmX7, by decide +kernel, tyX7, tyX7_ok, by decide +kernel⟩
theorem xlay8 : xLay 8 RX8 TX8 3 := ⟨xinB_of (by decide +kernel), nmX8, by decide +kernel, tyX8, tyX8_ok, by decide +kernel⟩
theorem xlay9 : xLay 9 RX9 TX9 13 := ⟨xinB_of (by decide +kernel), nmX9, by decide +kernel, tyX9, tyX9_ok, by decide +kernel⟩
theorem xlay {ci : Nat} {C : String} {T : u_T} {N : Nat} (h : vwCl[ci]? = some (C, T, N)) : xLay ci C T N := by
  match ci, h with
  | 0, h => cases h; exact xlay0
  | 1, h => cases h; exact xlay1
  | 2, h => cases h; exact xlay2
  | 3, h => cases h; exact xlay3
  | 4, h => cases h; exact xlay4
  | 5, h => cases h; exact xlay5
  | 6, h => cases h; exact xlay6
  | 7, h => cases h; exact xlay7
  | 8, h => cases h; exact xlay8
  | 9, h => cases h; exact xlay9
  | k + 11, h => simp [vwCl] at h
/-! pictures -/
theorem xws_get {base : Nat} {yI yP : ClassId} {h : xH} {k : Nat} {sh : xSh} (hk : h.1[k]? = some sh) : (xws base yI yP h)[k]? = some (base + k, xcell base yI yP h k sh) := by simp [xws, hk]
theorem xws_len (base : Nat) (yI yP : ClassId) (h : xH) : (xws base yI yP h).length = h.1.length := by simp [xws]
theorem xws_D (base : Nat) (yI yP : ClassId) (h : xH) : va_D (xAd base) (xws base yI yP h) := by
  have key : ∀ (k : Nat) (q : Nat × va_E), (xws base yI yP h)[k]? = some q → q.1 = base + k := by
    intro k q hq
    simp only [xws, List.getElem?_mapIdx, Option.map_eq_some_iff] at hq
    obtain ⟨sh, -, rfl⟩ := hq
    rfl
  refine ⟨fun i j p q hi hj hpq => ?_, fun k q hq => ?_⟩
  · have := key i p hi
    have := key j q hj
    omega
  · have := key k q hq
    show base ≤ q.1
    omega
theorem xws_set {base : Nat} {yI yP : ClassId} {h h' : xH} {k : Nat} {sh sh' : xSh} (hk : h.1[k]? = some sh) (h1 : h'.1 = h.1.set k sh') (hne : ∀ j, j ≠ k → ∀ z, xcell base yI yP h' j z = xcell base yI yP h j z) : xws base yI yP h' = (xws base yI yP h).set k (base + k, xcell base yI yP h' k sh') := by
  have hl : k < h.1.length := (List.getElem?_eq_some_iff.mp hk).1
  refine List.ext_getElem? fun j => ?_
  by_cases hj : j = k
  · subst hj
    rw [List.getElem?_set_self (by rw [xws_len]; exact hl)]
    exact xws_get (by rw [h1, List.getElem?_set_self hl])
  · rw [List.getElem?_set_ne (Ne.symm hj)]
    simp only [xws, List.getElem?_mapIdx, h1, List.getElem?_set_ne (Ne.symm hj)]
    cases h.1[j]? with
    | none => rfl
    | some z => simp [hne j hj z]
theorem x_setSelf {α : Type} {l : List α} {k : Nat} {x : α} (h : l[k]? = some x) : l = l.set k x := by
  refine List.ext_getElem? fun j => ?_
  by_cases hj : j = k
  · subst hj
    rw [List.getElem?_set_self (List.getElem?_eq_some_iff.mp h).1, h]
  · rw [List.getElem?_set_ne (Ne.symm hj)]
/-- the store, changed at one place -/
def xu (S : Nat → Nat → Int32) (a k : Nat) (v : Int32) : Nat → Nat → Int32 := fun j i => if j = a then (if i = k then v else S j i) else S j i
def xul (G : Nat → Nat → Int64) (a k : Nat) (v : Int64) : Nat → Nat → Int64 := fun j i => if j = a then (if i = k then v else G j i) else G j i
theorem xval_eq {base : Nat} {h h' : xH} {k c : Nat} {r : List (Option Nat)} {i : Nat} (h1 : h'.2.1 k i = h.2.1 k i) (h2 : h'.2.2 k i = h.2.2 k i) : xval base h' k c r i = xval base h k c r i := by unfold xval; rw [h1, h2]
theorem xcell_eq {base : Nat} {yI yP : ClassId} {h h' : xH} {k : Nat} (h1 : h'.2.1 k = h.2.1 k) (h2 : h'.2.2 k = h.2.2 k) (z : xSh) : xcell base yI yP h' k z = xcell base yI yP h k z := by
  rcases z with ⟨c, r⟩ | n | l
  · simp only [xcell]
    congr 2
    exact List.map_congr_left fun i _ => xval_eq (by rw [h1]) (by rw [h2])
  · simp only [xcell, h1]
  · rfl
/-- an object's fields when one is changed -/
theorem xfs_set {base : Nat} {h h' : xH} {a ci k : Nat} {r r' : List (Option Nat)} {v : Value} (hv : xval base h' a ci r' k = v) (hne : ∀ i, i ≠ k → xval base h' a ci r' i = xval base h a ci r i) :
    ((List.range (xnf ci)).map (xval base h a ci r)).set k v = (List.range (xnf ci)).map (xval base h' a ci r') := by
  refine List.ext_getElem? fun j => ?_
  by_cases hj : j = k
  · subst hj
    by_cases hl : j < xnf ci
    · rw [List.getElem?_set_self (by simpa using hl)]
      simp [hl, hv]
    · rw [List.getElem?_eq_none (by simpa using hl), List.getElem?_eq_none (by simpa using hl)]
  · rw [List.getElem?_set_ne (Ne.symm hj)]
    by_cases hl : j < xnf ci
    · simp [hl, hne j hj]
    · rw [List.getElem?_eq_none (by simpa using hl), List.getElem?_eq_none (by simpa using hl)]

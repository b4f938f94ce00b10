/-! ===== making ===== -/
/-- a store with a new number's places at zero -/
def xz {α : Type} (z : α) (S : Nat → Nat → α) (k : Nat) : Nat → Nat → α := fun j => if j = k then fun _ => z else S j
theorem xws_push {base : Nat} {yI yP : ClassId} {σ : List xSh} {S S' : Nat → Nat → Int32} {G G' : Nat → Nat → Int64} {sh : xSh} (h1 : ∀ j, j ≠ σ.length → S' j = S j) (h2 : ∀ j, j ≠ σ.length → G' j = G j) :
    xws base yI yP (σ ++ [sh], S', G') = xws base yI yP (σ, S, G) ++ [(base + σ.length, xcell base yI yP (σ ++ [sh], S', G') σ.length sh)] := by
  refine List.ext_getElem? fun j => ?_
  by_cases hj : j < σ.length
  · rw [List.getElem?_append_left (by rw [xws_len]; exact hj)]
    simp only [xws, List.getElem?_mapIdx]
    rw [List.getElem?_append_left hj]
    have hne : j ≠ σ.length := by omega
    cases σ[j]? with
    | none => rfl
    | some z => exact congrArg some (congrArg (Prod.mk _) (xcell_eq (h1 j hne) (h2 j hne) z))
  · rw [List.getElem?_append_right (by rw [xws_len]; exact Nat.not_lt.mp hj), xws_len]
    simp only [xws, List.getElem?_mapIdx]
    rw [List.getElem?_append_right (Nat.not_lt.mp hj)]
    cases hz : j - σ.length with
    | zero =>
      have : j = σ.length := by omega
      subst this
      rfl
    | succ k => simp
def xnewOk (own : String) (idx ci : Nat) : Prop := ∃ (C : String) (T : u_T) (N : Nat), vwCl[ci]? = some (C, T, N) ∧ Cond.classLink own idx C ∈ xBW ∧ Cond.instantiable C N ∈ xBW ∧ Cond.initialized C ∈ xBW
section XN
variable {X : Option (Nat × (Nat → Int32))} {d : Nat} {M : xM} {c n mc ms pc q : Nat} {L : List (Option Value)} {st : List Value} {σ : List xSh} {S : Nat → Nat → Int32} {G : Nat → Nat → Int64} {Q : Option Value → xH → Prop}
theorem xA.new {idx ci N : Nat} (hd : xfetch M pc = some (.new idx, 3)) (hf : xnewOk M.1.cls idx ci) (hN : xnf ci = N) (h1 : c + 1 ≤ mc) (h2 : n + N ≤ ms) (hq : pc + 3 = q) (kk : xA X d M (c + 1) (n + N) mc ms q L (.ref σ.length :: st) (σ ++ [.inl (ci, List.replicate N none)], xz 0 S σ.length, xz 0 G σ.length) Q) : xA X d M c n mc ms pc L st (σ, S, G) Q := by
  subst hq; subst hN
  intro p l e R s m args below meth cd Z b base yI yP D cx H locs ls hW hS hL
  obtain ⟨C, T, N, hc, hw1, hw2, hw3⟩ := hf
  obtain ⟨hu, hnm, hN, ty, hty, htk⟩ := xlay hc
  subst hN
  refine x_new (fs := (List.range (xnf ci)).map (xval base (σ ++ [.inl (ci, List.replicate (xnf ci) none)], xz 0 S σ.length, xz 0 G σ.length) σ.length ci (List.replicate (xnf ci) none))) cx.ex cx.co cx.ts hu ty hty cx.ow (cx.ts _ hw1) (cx.ts _ hw2) (cx.ts _ hw3) cx.2.1.2.1 hW.2 hS hc ?_ (Nat.le_trans h1 cx.2.2.2.1.2.2.1) (Nat.le_trans h2 cx.2.2.2.1.2.2.2) (cx.de hd) (fun H1 hz hP hS1 => ?_)
  · intro j hj
    have h3 := htk j hj
    simp only [vp_V, List.getD_eq_getElem?_getD, List.getElem?_map, List.getElem?_range hj, Option.map_some, Option.getD_some, xval]
    generalize xkind ci j = kd at h3 ⊢
    generalize ty j = t at h3 ⊢
    revert h3
    rcases kd with _ | _ | _ | _ | kd <;> cases t <;> intro h3 <;> first | (simp [xtyB] at h3; done) | (simp [xz, defaultValue, va_rf, List.getElem?_replicate]; done) | (simp [xz, defaultValue, va_rf, List.getElem?_replicate]; split <;> simp_all)
  · have hsz : H.size = base + σ.length := hW.1
    rw [hsz] at hP ⊢
    refine kk p l e R s m args below meth cd Z b base yI yP D cx H1 locs ls ⟨by rw [hz, hsz]; simp [Nat.add_assoc], ?_⟩ hS1 hL
    rw [xws_push (S := S) (G := G) (fun j hj => by simp [xz, hj]) (fun j hj => by simp [xz, hj])]
    exact hP
theorem xA.newa {i : Int32} {N : Nat} (hd : xfetch M pc = some (.newarray .int, 2)) (hw : Cond.arrayClass .int ∈ xBW) (hi : ¬ i < 0) (hN : i.toNatClampNeg = N) (hb : N * 4 ≤ 536870912) (h1 : c + 1 ≤ mc) (h2 : n + N ≤ ms) (hq : pc + 2 = q) (kk : xA X d M (c + 1) (n + N) mc ms q L (.ref σ.length :: st) (σ ++ [.inr (.inl N)], xz 0 S σ.length, xz 0 G σ.length) Q) : xA X d M c n mc ms pc L (.int i :: st) (σ, S, G) Q := by
  subst hq
  intro p l e R s m args below meth cd Z b base yI yP D cx H locs ls hW hS hL
  refine x_newa cx.ex cx.co (cx.ts _ hw) cx.2.1.2.1 hW.2 hS 0 rfl hi hN hb (Nat.le_trans h1 cx.2.2.2.1.2.2.1) (Nat.le_trans h2 cx.2.2.2.1.2.2.2) (cx.de hd) (fun H1 hz hP hS1 => ?_)
  have hsz : H.size = base + σ.length := hW.1
  rw [hsz] at hP ⊢
  refine kk p l e R s m args below meth cd Z b base yI yP D cx H1 locs ls ⟨by rw [hz, hsz]; simp [Nat.add_assoc], ?_⟩ hS1 hL
  rw [xws_push (S := S) (G := G) (fun j hj => by simp [xz, hj]) (fun j hj => by simp [xz, hj])]
  have e9 : xz 0 S σ.length σ.length = fun _ => 0 := by simp [xz]
  simp only [xcell, e9]
  exact hP
theorem xA.newq {i : Int32} {idx N : Nat} (hd : xfetch M pc = some (.anewarray idx, 3)) (hw : Cond.classLink M.1.cls idx RX5 ∈ xBW) (hi : ¬ i < 0) (hN : i.toNatClampNeg = N) (hb : N * 4 ≤ 536870912) (h1 : c + 1 ≤ mc) (h2 : n + N ≤ ms) (hq : pc + 3 = q) (kk : xA X d M (c + 1) (n + N) mc ms q L (.ref σ.length :: st) (σ ++ [.inr (.inr (List.replicate N none))], xz 0 S σ.length, xz 0 G σ.length) Q) : xA X d M c n mc ms pc L (.int i :: st) (σ, S, G) Q := by
  subst hq
  intro p l e R s m args below meth cd Z b base yI yP D cx H locs ls hW hS hL
  refine x_newq cx.ex cx.co cx.ow (cx.ts _ hw) cx.2.1.2.2.1 cx.2.1.2.1 hW.2 hS 1 rfl hi hN hb (Nat.le_trans h1 cx.2.2.2.1.2.2.1) (Nat.le_trans h2 cx.2.2.2.1.2.2.2) (cx.de hd) (fun H1 hz hP hS1 => ?_)
  have hsz : H.size = base + σ.length := hW.1
  rw [hsz] at hP ⊢
  refine kk p l e R s m args below meth cd Z b base yI yP D cx H1 locs ls ⟨by rw [hz, hsz]; simp [Nat.add_assoc], ?_⟩ hS1 hL
  rw [xws_push (S := S) (G := G) (fun j hj => by simp [xz, hj]) (fun j hj => by simp [xz, hj])]
  have e9 : (fun j => ((List.replicate N (none : Option Nat)).getD j none).map (fun j => base + j)) = fun _ => none := by
    funext j
    by_cases hj : j < N <;> simp [List.getD_eq_getElem?_getD, List.getElem?_replicate, hj]
  simp only [xcell, List.length_replicate, e9]
  exact hP
end XN
/-! ===== calls ===== -/
def xmOk (M : xM) : Prop := Cond.code M.1 M.2.1 M.2.2.1 M.2.2.2.1 ∈ xBW ∧ (M.1.cls ≠ "java/lang/invoke/MethodHandle" ∧ M.1.cls ≠ "java/lang/invoke/VarHandle" ∧ (parseMethodDescriptor M.1.desc).map (fun d => d.parameters.length) = some M.2.2.2.2.1) ∧ M.2.2.1 ≤ 27 ∧ plainName M.1.cls = true ∧ ∀ pc i n, xfetch M pc = some (i, n) → decode M.2.1 pc = .ok (i, n)
theorem xfetch_of {M : xM} (h : M.2.2.2.2.2.all (fun q => decide (decode M.2.1 q.1 = .ok (q.2.1, q.2.2))) = true) : ∀ pc i n, xfetch M pc = some (i, n) → decode M.2.1 pc = .ok (i, n) := by
  intro pc i n hf
  unfold xfetch at hf
  obtain ⟨l1, l2, he, -⟩ := List.lookup_eq_some_iff.mp hf
  have h1 := List.all_eq_true.mp h (pc, i, n) (by rw [he]; simp)
  simpa using h1
def xcV (own : String) (idx : Nat) (M : xM) : Prop := Cond.methodLink own idx M.1 ∈ xBW ∧ Cond.instanceMethod M.1 ∈ xBW ∧ Cond.selects M.1.cls M.1 M.1 ∈ xBW ∧ Cond.initialized M.1.cls ∈ xBW
def xcS (own : String) (idx : Nat) (M : xM) : Prop := Cond.methodLink own idx M.1 ∈ xBW ∧ Cond.static M.1 ∈ xBW ∧ Cond.initialized M.1.cls ∈ xBW
def xcI (own : String) (idx : Nat) (M : xM) : Prop := Cond.methodLink own idx M.1 ∈ xBW ∧ Cond.instanceMethod M.1 ∈ xBW ∧ Cond.initialized M.1.cls ∈ xBW ∧ M.1.name = "<init>" ∧ M.2.2.2.1 = none
def xcSN (own : String) (idx : Nat) (M : xM) : Prop := Cond.methodLinkNest own idx M.1 "HourAgo" ∈ lw_tbl ∧ Cond.static M.1 ∈ xBW ∧ Cond.initialized M.1.cls ∈ xBW
def xcIN (own : String) (idx : Nat) (M : xM) : Prop := Cond.methodLinkNest own idx M.1 "HourAgo" ∈ lw_tbl ∧ Cond.instanceMethod M.1 ∈ xBW ∧ Cond.initialized M.1.cls ∈ xBW ∧ M.1.name = "<init>" ∧ M.2.2.2.1 = none
theorem x_good {w : Cond} (h : w ∈ xBW) : GoodIn xBW (w :: xBW) := by
  intro v hv
  have h1 : v ∈ xBW := by
    rcases List.mem_cons.mp hv with h2 | h2
    · rw [h2]; exact h
    · exact h2
  exact ⟨h1, good_of_word (xW_of h1).2⟩
theorem xTb_of {yI yP : ClassId} {D : va_G} {s U : State} (hvm : s.vm.Alike U.vm) (hn : ∀ w, w ∈ lw_tbl → xnest w = true → va_Nw w s → va_Nw w U) (h : xTb yI yP D s) : xTb yI yP D U := ⟨va_K.moved hvm h.1, va_AO.moved hvm h.2.1, fun w h1 h2 => hn w h1 h2 (h.2.2 w h1 h2)⟩
theorem xTb_warm {yI yP : ClassId} {D : va_G} {s U : State} (hW : s.WarmedH U.vm) (h : xTb yI yP D s) : xTb yI yP D U := by
  refine xTb_of hW.alike (fun w h1 h2 h3 => ?_) h
  cases w <;> first | exact va_Nw.warmM hW h3 | (simp [xnest] at h2)
theorem xPc_blind {b base : Nat} {yI yP : ClassId} {D : va_G} {args : List Value} {h : xH} : FrameBlind (xPc b base yI yP D args h) := by
  intro a U g mk q
  refine ⟨q.1, q.2.1, xTb_of (U := U.calling g mk a) (Vm.Alike.refl U.vm) (fun w h1 h2 h3 => ?_) q.2.2⟩
  cases w <;> first | exact va_Nw.same rfl rfl h3 | (simp [xnest] at h2)
theorem x_ret {b base : Nat} {r : Option Value} {st : List Value} : (r.toList ++ st).map (xe b base) = (r.map (xe b base)).toList ++ st.map (xe b base) := by cases r <;> simp
theorem x_cats {b base : Nat} {st : List Value} (h : (st.map Value.category).sum ≤ 8) : ((st.map (xe b base)).map (fun v => v.category)).sum ≤ 8 := by
  rw [List.map_map]
  have e : ((fun v : Value => v.category) ∘ xe b base) = Value.category := by funext v; exact xe_cat b base v
  rw [e]
  exact h
section XC
variable {X : Option (Nat × (Nat → Int32))} {d : Nat} {M M' : xM} {c n mc ms mc' ms' pc q idx : Nat} {L : List (Option Value)} {As st stk : List Value} {h : xH} {Q Q' : Option Value → xH → Prop}
theorem xA.callV {a ci : Nat} {r : List (Option Nat)} (hd : xfetch M pc = some (.invokevirtual idx, 3)) (hk : xcV M.1.cls idx M') (hm : xmOk M') (hσ : h.1[a]? = some (.inl (ci, r))) (hci : (vwCl[ci]?).map (fun z => z.1) = some M'.1.cls) (hn : As.length = M'.2.2.2.2.1) (hLn : L.length = M.2.2.1) (hst : (st.map Value.category).sum ≤ 8) (hC : xC d M' (.ref a :: As) h mc' ms' Q') (hc1 : c + mc' ≤ mc) (hc2 : n + ms' ≤ ms) (hq : pc + 3 = q) (hs : stk = As.reverse ++ .ref a :: st) (kk : ∀ r h', Q' r h' → xA X (d + 1) M (c + mc') (n + ms') mc ms q L (r.toList ++ st) h' Q) : xA X (d + 1) M c n mc ms pc L stk h Q := by
  subst hq; subst hs
  intro p l e R s m args below meth cd Z b base yI yP D cx H locs ls hW hS hL
  obtain ⟨w1, w2, w3, w4⟩ := hk
  have hro := cx.2.2.2.1
  have hml := hm.2.2.1
  obtain ⟨⟨C, T, N⟩, hc, hcC⟩ := Option.map_eq_some_iff.mp hci
  dsimp only at hcC
  have hr := va_runV (e := e) (below := below) (meth := meth) (ms := ms') (mc := mc') (cells := c) (slots := n) (locs := locs) (g := F0 m pc ls ((As.reverse ++ .ref a :: st).map (xe b base))) (C := M'.1.cls) (As := As.map (xe b base)) (rest := st.map (xe b base)) ⟨cx.ex, cx.co, cx.1.2.2.1, cx.ow, cx.ts⟩ (hC l b base yI yP D) ⟨callB_of (ws' := xBW) M'.2.2.2.2.1 cx.ts (x_good hm.1) rfl rfl rfl (cx.ts _ w4) (cx.ts _ w1) hm.2.1 ⟨by show d + 1 ≤ R.frames; omega, by show 8 + (M'.2.2.1 + 11) + 46 * d ≤ R.locals; omega⟩, cx.ts _ w2, cx.ts _ w3⟩ ⟨xPc_blind, hcC ▸ va_recv cx.2.1.2.1 hW.2 (q := (C, T, N)) hc (xws_get hσ), fun U hU hWm => ⟨rfl, by rw [hU]; exact hW, xTb_warm hWm cx.2.1.2⟩⟩ rfl (by rw [List.length_map]; exact hn) (hL.1.trans hLn) (by simp [xe]) (lv_room (x_cats hst)) (cx.de hd) ⟨Nat.le_trans hc1 hro.2.2.1, Nat.le_trans hc2 hro.2.2.2⟩
  refine x_call hr hS cx.2.2.2.2.1 (fun r h' H1 locs1 hq hW1 hS1 => ?_)
  rw [← x_ret]
  exact kk r h' hq p l e R s m args below meth cd Z b base yI yP D cx H1 locs1 ls hW1 hS1 hL
theorem xA.callS (hd : xfetch M pc = some (.invokestatic idx, 3)) (hk : xcS M.1.cls idx M') (hm : xmOk M') (hn : As.length = M'.2.2.2.2.1) (hLn : L.length = M.2.2.1) (hst : (st.map Value.category).sum ≤ 8) (hC : xC d M' As h mc' ms' Q') (hc1 : c + mc' ≤ mc) (hc2 : n + ms' ≤ ms) (hq : pc + 3 = q) (hs : stk = As.reverse ++ st) (kk : ∀ r h', Q' r h' → xA X (d + 1) M (c + mc') (n + ms') mc ms q L (r.toList ++ st) h' Q) : xA X (d + 1) M c n mc ms pc L stk h Q := by
  subst hq; subst hs
  intro p l e R s m args below meth cd Z b base yI yP D cx H locs ls hW hS hL
  obtain ⟨w1, w2, w4⟩ := hk
  have hro := cx.2.2.2.1
  have hml := hm.2.2.1
  have hr := va_runS (e := e) (below := below) (meth := meth) (ms := ms') (mc := mc') (cells := c) (slots := n) (locs := locs) (g := F0 m pc ls ((As.reverse ++ st).map (xe b base))) (As := As.map (xe b base)) (rest := st.map (xe b base)) ⟨cx.ex, cx.co, cx.1.2.2.1, cx.ow, cx.ts⟩ (hC l b base yI yP D) ⟨callB_of (ws' := xBW) M'.2.2.2.2.1 cx.ts (x_good hm.1) rfl rfl rfl (cx.ts _ w4) (cx.ts _ w1) hm.2.1 ⟨by show d + 1 ≤ R.frames; omega, by show 8 + (M'.2.2.1 + 11) + 46 * d ≤ R.locals; omega⟩, cx.ts _ w2⟩ ⟨xPc_blind, fun U hU hWm => ⟨rfl, by rw [hU]; exact hW, xTb_warm hWm cx.2.1.2⟩⟩ rfl (by rw [List.length_map]; exact hn) (hL.1.trans hLn) (by simp [xe]) (lv_room (x_cats hst)) (cx.de hd) ⟨Nat.le_trans hc1 hro.2.2.1, Nat.le_trans hc2 hro.2.2.2⟩
  refine x_call hr hS cx.2.2.2.2.1 (fun r h' H1 locs1 hq hW1 hS1 => ?_)
  rw [← x_ret]
  exact kk r h' hq p l e R s m args below meth cd Z b base yI yP D cx H1 locs1 ls hW1 hS1 hL
theorem xA.callI {a : Nat} (hd : xfetch M pc = some (.invokespecial idx, 3)) (hk : xcI M.1.cls idx M') (hm : xmOk M') (hn : As.length = M'.2.2.2.2.1) (hLn : L.length = M.2.2.1) (hst : (st.map Value.category).sum ≤ 8) (hC : xC d M' (.ref a :: As) h mc' ms' Q') (hc1 : c + mc' ≤ mc) (hc2 : n + ms' ≤ ms) (hq : pc + 3 = q) (hs : stk = As.reverse ++ .ref a :: st) (kk : ∀ r h', Q' r h' → xA X (d + 1) M (c + mc') (n + ms') mc ms q L (r.toList ++ st) h' Q) : xA X (d + 1) M c n mc ms pc L stk h Q := by
  subst hq; subst hs
  intro p l e R s m args below meth cd Z b base yI yP D cx H locs ls hW hS hL
  obtain ⟨w1, w2, w4, w5, w6⟩ := hk
  have hro := cx.2.2.2.1
  have hml := hm.2.2.1
  have hr := va_runI (e := e) (below := below) (meth := meth) (ms := ms') (mc := mc') (cells := c) (slots := n) (locs := locs) (g := F0 m pc ls ((As.reverse ++ .ref a :: st).map (xe b base))) (As := As.map (xe b base)) (rest := st.map (xe b base)) ⟨cx.ex, cx.co, cx.1.2.2.1, cx.ow, cx.ts⟩ (hC l b base yI yP D) ⟨by rw [← w6]; exact callB_of (ws' := xBW) M'.2.2.2.2.1 cx.ts (x_good hm.1) rfl rfl rfl (cx.ts _ w4) (cx.ts _ w1) hm.2.1 ⟨by show d + 1 ≤ R.frames; omega, by show 8 + (M'.2.2.1 + 11) + 46 * d ≤ R.locals; omega⟩, w5, cx.ts _ w2⟩ ⟨xPc_blind, fun U hU hWm => ⟨rfl, by rw [hU]; exact hW, xTb_warm hWm cx.2.1.2⟩⟩ rfl (by rw [List.length_map]; exact hn) (hL.1.trans hLn) (by simp [xe]) (lv_room (x_cats hst)) (cx.de hd) ⟨Nat.le_trans hc1 hro.2.2.1, Nat.le_trans hc2 hro.2.2.2⟩
  refine x_call hr hS cx.2.2.2.2.1 (fun r h' H1 locs1 hq hW1 hS1 => ?_)
  rw [← x_ret]
  exact kk r h' hq p l e R s m args below meth cd Z b base yI yP D cx H1 locs1 ls hW1 hS1 hL
theorem xA.callSN (hd : xfetch M pc = some (.invokestatic idx, 3)) (hk : xcSN M.1.cls idx M') (hm : xmOk M') (hn : As.length = M'.2.2.2.2.1) (hLn : L.length = M.2.2.1) (hst : (st.map Value.category).sum ≤ 8) (hC : xC d M' As h mc' ms' Q') (hc1 : c + mc' ≤ mc) (hc2 : n + ms' ≤ ms) (hq : pc + 3 = q) (hs : stk = As.reverse ++ st) (kk : ∀ r h', Q' r h' → xA X (d + 1) M (c + mc') (n + ms') mc ms q L (r.toList ++ st) h' Q) : xA X (d + 1) M c n mc ms pc L stk h Q := by
  subst hq; subst hs
  intro p l e R s m args below meth cd Z b base yI yP D cx H locs ls hW hS hL
  obtain ⟨w1, w2, w4⟩ := hk
  have hro := cx.2.2.2.1
  have hml := hm.2.2.1
  have hr := va_runSN (e := e) (below := below) (meth := meth) (ms := ms') (mc := mc') (cells := c) (slots := n) (locs := locs) (g := F0 m pc ls ((As.reverse ++ st).map (xe b base))) (As := As.map (xe b base)) (rest := st.map (xe b base)) ⟨cx.ex, cx.co, cx.1.2.2.1, cx.ow, cx.ts⟩ (hC l b base yI yP D) ⟨va_cnB (ws' := xBW) M'.2.2.2.2.1 cx.ts (x_good hm.1) rfl rfl rfl (cx.2.1.2.2.2 _ w1 rfl) (cx.ts _ w4) hm.2.1 ⟨by show d + 1 ≤ R.frames; omega, by show 8 + (M'.2.2.1 + 11) + 46 * d ≤ R.locals; omega⟩, cx.ts _ w2, trivial⟩ ⟨xPc_blind, fun U hU hWm => ⟨rfl, by rw [hU]; exact hW, xTb_warm hWm cx.2.1.2⟩⟩ rfl (by rw [List.length_map]; exact hn) (hL.1.trans hLn) (by simp [xe]) (lv_room (x_cats hst)) (cx.de hd) ⟨Nat.le_trans hc1 hro.2.2.1, Nat.le_trans hc2 hro.2.2.2⟩
  refine x_call hr hS cx.2.2.2.2.1 (fun r h' H1 locs1 hq hW1 hS1 => ?_)
  rw [← x_ret]
  exact kk r h' hq p l e R s m args below meth cd Z b base yI yP D cx H1 locs1 ls hW1 hS1 hL
theorem xA.callIN {a : Nat} (hd : xfetch M pc = some (.invokespecial idx, 3)) (hk : xcIN M.1.cls idx M') (hm : xmOk M') (hn : As.length = M'.2.2.2.2.1) (hLn : L.length = M.2.2.1) (hst : (st.map Value.category).sum ≤ 8) (hC : xC d M' (.ref a :: As) h mc' ms' Q') (hc1 : c + mc' ≤ mc) (hc2 : n + ms' ≤ ms) (hq : pc + 3 = q) (hs : stk = As.reverse ++ .ref a :: st) (kk : ∀ r h', Q' r h' → xA X (d + 1) M (c + mc') (n + ms') mc ms q L (r.toList ++ st) h' Q) : xA X (d + 1) M c n mc ms pc L stk h Q := by
  subst hq; subst hs
  intro p l e R s m args below meth cd Z b base yI yP D cx H locs ls hW hS hL
  obtain ⟨w1, w2, w4, w5, w6⟩ := hk
  have hro := cx.2.2.2.1
  have hml := hm.2.2.1
  have hr := va_runIN (e := e) (below := below) (meth := meth) (ms := ms') (mc := mc') (cells := c) (slots := n) (locs := locs) (g := F0 m pc ls ((As.reverse ++ .ref a :: st).map (xe b base))) (As := As.map (xe b base)) (rest := st.map (xe b base)) ⟨cx.ex, cx.co, cx.1.2.2.1, cx.ow, cx.ts⟩ (hC l b base yI yP D) ⟨by rw [← w6]; exact va_cnB (ws' := xBW) M'.2.2.2.2.1 cx.ts (x_good hm.1) rfl rfl rfl (cx.2.1.2.2.2 _ w1 rfl) (cx.ts _ w4) hm.2.1 ⟨by show d + 1 ≤ R.frames; omega, by show 8 + (M'.2.2.1 + 11) + 46 * d ≤ R.locals; omega⟩, w5, cx.ts _ w2⟩ ⟨xPc_blind, fun U hU hWm => ⟨rfl, by rw [hU]; exact hW, xTb_warm hWm cx.2.1.2⟩⟩ rfl (by rw [List.length_map]; exact hn) (hL.1.trans hLn) (by simp [xe]) (lv_room (x_cats hst)) (cx.de hd) ⟨Nat.le_trans hc1 hro.2.2.1, Nat.le_trans hc2 hro.2.2.2⟩
  refine x_call hr hS cx.2.2.2.2.1 (fun r h' H1 locs1 hq hW1 hS1 => ?_)
  rw [← x_ret]
  exact kk r h' hq p l e R s m args below meth cd Z b base yI yP D cx H1 locs1 ls hW1 hS1 hL
theorem xA.objInit {a : Nat} (hd : xfetch M pc = some (.invokespecial idx, 3)) (hk : Cond.methodLink M.1.cls idx objectInit ∈ xBW) (hk2 : Cond.instanceMethod objectInit ∈ xBW) (hk3 : Cond.code objectInit ⟨#[0xb1]⟩ 1 none ∈ xBW) (hLn : L.length = M.2.2.1) (hst : (st.map Value.category).sum ≤ 8) (hq : pc + 3 = q) (kk : xA X (d + 1) M c n mc ms q L st h Q) : xA X (d + 1) M c n mc ms pc L (.ref a :: st) h Q := by
  subst hq
  intro p l e R s m args below meth cd Z b base yI yP D cx H locs ls hW hS hL
  have hro := cx.2.2.2.1
  have h8 := lv_room (m := m) (pc := pc) (ls := ls) (rest := (.ref a :: st : List Value).map (xe b base)) (x_cats (b := b) (base := base) hst)
  refine W.objInit (g := F0 m pc ls ((.ref a :: st : List Value).map (xe b base))) cx.ex cx.co cx.ow (cx.ts _ hk) (cx.ts _ hk2) (cx.ts _ hk3) rfl (by rw [cx.1.2.2.1]; exact hL.1.trans hLn) rfl (cx.de hd) (by omega) (by omega) (kk p l e R s m args below meth cd Z b base yI yP D cx H locs ls hW hS hL)
end XC
/-! ===== entry ===== -/
def xlocs : List Value → List (Option Value)
  | [] => []
  | v :: vs => if v.category = 2 then some v :: none :: xlocs vs else some v :: xlocs vs
def xargs (n : Nat) (args : List Value) : List (Option Value) := xlocs args ++ List.replicate (n - (xlocs args).length) none
theorem xlocs_cons (v : Value) (vs : List Value) : xlocs (v :: vs) = if v.category = 2 then some v :: none :: xlocs vs else some v :: xlocs vs := rfl
theorem xlocs_mem {b base : Nat} : ∀ (args : List Value) (o i : Nat) (v : Value), (xlocs args)[i]? = some (some v) → (o + i, xe b base v) ∈ lv_args o (args.map (xe b base))
  | [], o, i, v, h => by simp [xlocs] at h
  | w :: vs, o, i, v, h => by
    unfold xlocs at h
    rw [List.map_cons]
    unfold lv_args
    rw [xe_cat]
    by_cases hc : w.category = 2
    · rw [if_pos hc] at h
      rw [if_pos hc]
      match i, h with
      | 0, h => simp at h; subst h; exact List.mem_cons_self
      | 1, h => simp at h
      | i + 2, h =>
        have h1 := xlocs_mem (b := b) (base := base) vs (o + 2) i v (by simpa using h)
        rw [show o + (i + 2) = o + 2 + i by omega]
        exact List.mem_cons_of_mem _ h1
    · rw [if_neg hc] at h
      rw [if_neg hc]
      match i, h with
      | 0, h => simp at h; subst h; exact List.mem_cons_self
      | i + 1, h =>
        have h1 := xlocs_mem (b := b) (base := base) vs (o + 1) i v (by simpa using h)
        rw [show o + (i + 1) = o + 1 + i by omega]
        exact List.mem_cons_of_mem _ h1
theorem xlocs_len {b base : Nat} : ∀ (args : List Value), (lg_sl (args.map (xe b base))).length = (xlocs args).length
  | [] => rfl
  | w :: vs => by
    have h1 := xlocs_len (b := b) (base := base) vs
    unfold lg_sl at h1 ⊢
    rw [List.map_cons, List.flatMap_cons, List.length_append, h1, xlocs_cons, xe_cat]
    by_cases hc : w.category = 2
    · simp [hc]; omega
    · simp [hc]; omega
theorem xLs_entry {b base : Nat} {args : List Value} {nL : Nat} (hlen : (xlocs args).length ≤ nL) : xLs b base ((lg_sl (args.map (xe b base)) ++ List.replicate (nL - (lg_sl (args.map (xe b base))).length) Slot.unset).toArray) (xargs nL args) := by
  have hl := lv_entry (args.map (xe b base)) (n := nL) (by rw [xlocs_len]; exact hlen)
  refine ⟨by rw [hl.1]; simp [xargs]; omega, hl.2.1, fun i v hi => ?_⟩
  refine hl.2.2 (i, xe b base v) ?_
  have h1 : (xlocs args)[i]? = some (some v) := by
    unfold xargs at hi
    by_cases hj : i < (xlocs args).length
    · rwa [List.getElem?_append_left hj] at hi
    · rw [List.getElem?_append_right (Nat.not_lt.mp hj)] at hi
      have := List.mem_of_getElem? hi
      simp at this
  have h2 := xlocs_mem (b := b) (base := base) args 0 i v h1
  rwa [Nat.zero_add] at h2
theorem xC.of {d : Nat} {M : xM} {args : List Value} {h : xH} {mc ms : Nat} {Q : Option Value → xH → Prop} {L : List (Option Value)} (hm : xmOk M) (hlen : (xlocs args).length ≤ M.2.2.1) (hL : xargs M.2.2.1 args = L) (k : xA none d M 0 0 mc ms 0 L [] h Q) : xC d M args h mc ms Q := by
  subst hL
  intro l b base yI yP D
  refine Met.ofW (cc := M.2.1) (maxL := M.2.2.1) (ret := M.2.2.2.1) hm.2.2.2.1 rfl ?_
  intro p e s m a below meth cd s₁ B hml hv
  obtain ⟨rfl, hW, hT⟩ := hv
  rw [lg_entry_eq]
  have hbs : base ≤ s.heap.size := by rw [hW.1]; omega
  refine k p l e _ s m _ below meth cd _ b base yI yP D ⟨⟨B.exec, B.bytes, hml, findClass_of_methodNamed B.named⟩, ⟨fun w hw => atoms_spec (ws := .code M.1 M.2.1 M.2.2.1 M.2.2.2.1 :: xBW) B.pre w (List.mem_cons_of_mem _ hw), hT⟩, ⟨(name_of_methodNamed B.named B.method).1, hm.2.2.2.2⟩, ⟨Nat.le_refl _, Nat.le_refl _, Nat.le_refl _, Nat.le_refl _⟩, hbs, trivial, ?_⟩ s.heap [] _ hW va_S.rf (xLs_entry hlen)
  intro pc ls i st r h' H locs hd hret hQ hW' hS'
  have post : ∀ (r : Option Value) (t : State), Q r h' → t.heap = H → xQc b base yI yP D Q (args.map (xe b base)).toArray s (.returned (r.map (xe b base))) t := fun r t hQ ht => ⟨r, h', rfl, hQ, by rw [ht]; exact hW', by rw [ht]; exact hS'.1, fun q hq => by rw [ht]; exact hS'.2.1 q (Nat.lt_of_lt_of_le hq hbs) (Nat.not_le.mpr hq)⟩
  rcases hret with ⟨rfl, v, rfl, rfl, ty, hr, hn⟩ | ⟨rfl, v, rfl, rfl, hr⟩ | ⟨rfl, v, rfl, rfl, ⟨nm, hr⟩, hv⟩ | ⟨rfl, rfl, rfl, hr⟩
  · exact W.zret B.exec B.bytes (B.returns.trans hr) hn (fun t ht hWm => post (some (.int v)) t hQ ht) hS'.2.2 hd B.notSynchronized
  · exact W.lret B.exec B.bytes (B.returns.trans hr) (fun t ht hWm => post (some (.long v)) t hQ ht) hS'.2.2 hd B.notSynchronized
  · refine W.aret (v := xe b base v) B.exec B.bytes (B.returns.trans hr) (Or.inl ⟨nm, rfl⟩) ?_ (fun t ht hWm => post (some v) t hQ ht) hS'.2.2 hd B.notSynchronized
    rcases hv with rfl | ⟨a, rfl⟩
    · exact Or.inl rfl
    · exact Or.inr ⟨_, rfl⟩
  · exact W.vret B.exec B.bytes (B.returns.trans hr) (fun t ht hWm => post none t hQ ht) hS'.2.2 hd B.notSynchronized

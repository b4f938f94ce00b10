variable {τ : List xSh}
/-! ===== what the law's walks want beyond the class's ===== -/
section LR
variable {X : Option (Nat × (Nat → Int32))} {d : Nat} {M : xM} {c n mc ms pc q : Nat} {L : List (Option Value)} {st : List Value} {h : xH} {Q : Option Value → xH → Prop}
theorem xA.iushr {x y : Int32} (hd : xfetch M pc = some (.iushr, 1)) (hq : pc + 1 = q) (k : xA X d M c n mc ms q L (.int (x.toUInt32 >>> (y.toUInt32 &&& Int32.toUInt32 31)).toInt32 :: st) h Q) : xA X d M c n mc ms pc L (.int y :: .int x :: st) h Q := by
  subst hq
  intro p l e R s m args below meth cd Z b base yI yP D cx H locs ls hW hS hL
  exact lv_iushr cx.ex cx.co (cx.de hd) rfl (k p l e R s m args below meth cd Z b base yI yP D cx H locs ls hW hS hL)
theorem xA.ldiv {x y : Int64} (hd : xfetch M pc = some (.ldiv, 1)) (hne : ¬ y = 0) (hq : pc + 1 = q) (k : xA X d M c n mc ms q L (.long (x / y) :: st) h Q) : xA X d M c n mc ms pc L (.long y :: .long x :: st) h Q := by
  subst hq
  intro p l e R s m args below meth cd Z b base yI yP D cx H locs ls hW hS hL
  exact lv_ldiv cx.ex cx.co (cx.de hd) hne (k p l e R s m args below meth cd Z b base yI yP D cx H locs ls hW hS hL)
theorem xA.lrem {x y : Int64} (hd : xfetch M pc = some (.lrem, 1)) (hne : ¬ y = 0) (hq : pc + 1 = q) (k : xA X d M c n mc ms q L (.long (x - x / y * y) :: st) h Q) : xA X d M c n mc ms pc L (.long y :: .long x :: st) h Q := by
  subst hq
  intro p l e R s m args below meth cd Z b base yI yP D cx H locs ls hW hS hL
  exact lv_lrem cx.ex cx.co (cx.de hd) hne (k p l e R s m args below meth cd Z b base yI yP D cx H locs ls hW hS hL)
theorem xA.dup_x2 {v w z : Value} (hd : xfetch M pc = some (.dup_x2, 1)) (hv : v.category = 1) (hw : w.category = 1) (hz : z.category = 1) (hq : pc + 1 = q) (k : xA X d M c n mc ms q L (v :: w :: z :: v :: st) h Q) : xA X d M c n mc ms pc L (v :: w :: z :: st) h Q := by
  subst hq
  intro p l e R s m args below meth cd Z b base yI yP D cx H locs ls hW hS hL
  exact lv_dup_x2 cx.ex cx.co (cx.de hd) (by rw [xe_cat]; exact hv) (by rw [xe_cat]; exact hw) (by rw [xe_cat]; exact hz) (k p l e R s m args below meth cd Z b base yI yP D cx H locs ls hW hS hL)
end LR
/-- as xPc, and the script stands, if there is one -/
def xPs (X : Option (Nat × (Nat → Int32))) (b base : Nat) (yI yP : ClassId) (D : va_G) (args : List Value) (h : xH) : Array Value → State → Prop := va_Pc (args.map (xe b base)) (fun U => (xWd base yI yP D h U.heap ∧ xTb yI yP D U) ∧ (match X with | none => True | some q => va_X b q.1 q.2 U U.heap ∧ b < base))
theorem xPs_blind {X : Option (Nat × (Nat → Int32))} {b base : Nat} {yI yP : ClassId} {D : va_G} {args : List Value} {h : xH} : FrameBlind (xPs X b base yI yP D args h) := by
  intro a U g mk q
  have h1 := xPc_blind (b := b) (base := base) (yI := yI) (yP := yP) (D := D) (args := args) (h := h) a U g mk ⟨q.1, q.2.1⟩
  refine ⟨h1.1, h1.2, ?_⟩
  have h2 := q.2.2
  cases X with
  | none => exact trivial
  | some z => exact ⟨va_X.moved (U := U.calling g mk a) (Vm.Alike.refl U.vm) h2.1, h2.2⟩
/-- a contract that may read the script -/
def xCs (X : Option (Nat × (Nat → Int32))) (d : Nat) (M : xM) (args : List Value) (h : xH) (mc ms : Nat) (Q : Option Value → xH → Prop) : Prop :=
  ∀ (l : Launch) (b base : Nat) (yI yP : ClassId) (D : va_G), Met l M.1 (.code M.1 M.2.1 M.2.2.1 M.2.2.2.1 :: xBW) { frames := d, cells := mc, slots := ms, locals := 46 * d } (xPs X b base yI yP D args h) (xQc b base yI yP D Q) mc ms (xAd base)
theorem xCs.mono {X : Option (Nat × (Nat → Int32))} {d : Nat} {M : xM} {args : List Value} {h : xH} {mc ms : Nat} {Q Q' : Option Value → xH → Prop} (k : xCs X d M args h mc ms Q) (hq : ∀ r h', Q r h' → Q' r h') : xCs X d M args h mc ms Q' := by
  intro l b base yI yP D
  refine MetFree.mono (k l b base yI yP D) (fun _ _ z => z) (fun _ _ _ _ _ _ => trivial) ?_
  rintro a s o s' - ⟨⟨r, h', h1, h2, h3⟩, hl⟩
  exact ⟨⟨r, h', h1, hq _ _ h2, h3⟩, hl⟩
theorem xA.callX {X : Option (Nat × (Nat → Int32))} {d : Nat} {M M' : xM} {c n mc ms mc' ms' pc q idx : Nat} {L : List (Option Value)} {As st stk : List Value} {h : xH} {Q Q' : Option Value → xH → Prop} (hd : xfetch M pc = some (.invokestatic idx, 3)) (hk : xcS M.1.cls idx M') (hm : xmOk M') (hn : As.length = M'.2.2.2.2.1) (hLn : L.length = M.2.2.1) (hst : (st.map Value.category).sum ≤ 8) (hC : xCs X d M' As h mc' ms' Q') (hc1 : c + mc' ≤ mc) (hc2 : n + ms' ≤ ms) (hq : pc + 3 = q) (hs : stk = As.reverse ++ st) (kk : ∀ r h', Q' r h' → xA X (d + 1) M (c + mc') (n + ms') mc ms q L (r.toList ++ st) h' Q) : xA X (d + 1) M c n mc ms pc L stk h Q := by
  subst hq; subst hs
  intro p l e R s m args below meth cd Z b base yI yP D cx H locs ls hW hS hL
  obtain ⟨w1, w2, w4⟩ := hk
  have hro := cx.2.2.2.1
  have hml := hm.2.2.1
  have hr := va_runS (e := e) (below := below) (meth := meth) (ms := ms') (mc := mc') (cells := c) (slots := n) (locs := locs) (g := F0 m pc ls ((As.reverse ++ st).map (xe b base))) (As := As.map (xe b base)) (rest := st.map (xe b base)) ⟨cx.ex, cx.co, cx.1.2.2.1, cx.ow, cx.ts⟩ (hC l b base yI yP D) ⟨callB_of (ws' := xBW) M'.2.2.2.2.1 cx.ts (x_good hm.1) rfl rfl rfl (cx.ts _ w4) (cx.ts _ w1) hm.2.1 ⟨by show d + 1 ≤ R.frames; omega, by show 8 + (M'.2.2.1 + 11) + 46 * d ≤ R.locals; omega⟩, cx.ts _ w2⟩ ⟨xPs_blind, fun U hU hWm => ⟨rfl, ⟨by rw [hU]; exact hW, xTb_warm hWm cx.2.1.2⟩, ?_⟩⟩ rfl (by rw [List.length_map]; exact hn) (hL.1.trans hLn) (by simp [xe]) (lv_room (x_cats hst)) (cx.de hd) ⟨Nat.le_trans hc1 hro.2.2.1, Nat.le_trans hc2 hro.2.2.2⟩
  · refine x_call hr hS cx.2.2.2.2.1 (fun r h' H1 locs1 hq hW1 hS1 => ?_)
    rw [← x_ret]
    exact kk r h' hq p l e R s m args below meth cd Z b base yI yP D cx H1 locs1 ls hW1 hS1 hL
  · have hX := cx.2.2.2.2.2.1
    cases X with
    | none => exact trivial
    | some z =>
      refine ⟨?_, hX.2⟩
      rw [hU]
      exact va_X.moved hWm.alike (va_X.kept hX.1 (hS.2.1 b (Nat.lt_of_lt_of_le hX.2 cx.2.2.2.2.1) (Nat.not_le.mpr hX.2)))
theorem xCs.of {X : Option (Nat × (Nat → Int32))} {d : Nat} {M : xM} {args : List Value} {h : xH} {mc ms : Nat} {Q : Option Value → xH → Prop} {L : List (Option Value)} (hm : xmOk M) (hlen : (xlocs args).length ≤ M.2.2.1) (hL : xargs M.2.2.1 args = L) (k : xA X d M 0 0 mc ms 0 L [] h Q) : xCs X d M args h mc ms Q := by
  subst hL
  intro l b base yI yP D
  refine Met.ofW (cc := M.2.1) (maxL := M.2.2.1) (ret := M.2.2.2.1) hm.2.2.2.1 rfl ?_
  intro p e s m a below meth cd s₁ B hml hv
  obtain ⟨rfl, ⟨hW, hT⟩, hX⟩ := hv
  rw [lg_entry_eq]
  have hbs : base ≤ s.heap.size := by rw [hW.1]; omega
  refine k p l e _ s m _ below meth cd _ b base yI yP D ⟨⟨B.exec, B.bytes, hml, findClass_of_methodNamed B.named⟩, ⟨fun w hw => atoms_spec (ws := .code M.1 M.2.1 M.2.2.1 M.2.2.2.1 :: xBW) B.pre w (List.mem_cons_of_mem _ hw), hT⟩, ⟨(name_of_methodNamed B.named B.method).1, hm.2.2.2.2⟩, ⟨Nat.le_refl _, Nat.le_refl _, Nat.le_refl _, Nat.le_refl _⟩, hbs, hX, ?_⟩ s.heap [] _ hW va_S.rf (xLs_entry hlen)
  intro pc ls i st r h' H locs hd hret hQ hW' hS'
  have post : ∀ (r : Option Value) (t : State), Q r h' → t.heap = H → xQc b base yI yP D Q (args.map (xe b base)).toArray s (.returned (r.map (xe b base))) t := fun r t hQ ht => ⟨r, h', rfl, hQ, by rw [ht]; exact hW', by rw [ht]; exact hS'.1, fun q hq => by rw [ht]; exact hS'.2.1 q (Nat.lt_of_lt_of_le hq hbs) (Nat.not_le.mpr hq)⟩
  rcases hret with ⟨rfl, v, rfl, rfl, ty, hr, hn⟩ | ⟨rfl, v, rfl, rfl, hr⟩ | ⟨rfl, v, rfl, rfl, ⟨nm, hr⟩, hv⟩ | ⟨rfl, rfl, rfl, hr⟩
  · exact W.zret B.exec B.bytes (B.returns.trans hr) hn (fun t ht hWm => post (some (.int v)) t hQ ht) hS'.2.2 hd B.notSynchronized
  · exact W.lret B.exec B.bytes (B.returns.trans hr) (fun t ht hWm => post (some (.long v)) t hQ ht) hS'.2.2 hd B.notSynchronized
  · refine W.aret (v := xe b base v) B.exec B.bytes (B.returns.trans hr) (Or.inl ⟨nm, rfl⟩) ?_ (fun t ht hWm => post (some v) t hQ ht) hS'.2.2 hd B.notSynchronized
    rcases hv with rfl | ⟨a, rfl⟩
    · exact Or.inl rfl
    · exact Or.inr ⟨_, rfl⟩
  · exact W.vret B.exec B.bytes (B.returns.trans hr) (fun t ht hWm => post none t hQ ht) hS'.2.2 hd B.notSynchronized
/-- nothing changed, an int answered -/
def xRs (X : Option (Nat × (Nat → Int32))) (τ : List xSh) (d : Nat) (M : xM) (args : List Value) (S : Nat → Nat → Int32) (G : Nat → Nat → Int64) (r : Option Value) : Prop := xCs X d M args (σF τ, S, G) 0 0 (fun r' h' => r' = r ∧ h' = (σF τ, S, G))
section LC
variable {X : Option (Nat × (Nat → Int32))} {d : Nat} {M M' : xM} {c n mc ms pc q idx : Nat} {L : List (Option Value)} {As st stk : List Value} {S S' : Nat → Nat → Int32} {G G' : Nat → Nat → Int64} {Q : Option Value → xH → Prop} {h : xH}
theorem xA.gV {v : Int32} {a ci : Nat} {r : List (Option Nat)} (hd : xfetch M pc = some (.invokevirtual idx, 3)) (hk : xcV M.1.cls idx M') (hm : xmOk M') (hσ : (σF τ)[a]? = some (.inl (ci, r))) (hci : (vwCl[ci]?).map (fun z => z.1) = some M'.1.cls) (hn : As.length = M'.2.2.2.2.1) (hLn : L.length = M.2.2.1) (hst : (st.map Value.category).sum ≤ 8) (hc1 : c ≤ mc) (hc2 : n ≤ ms) (hC : xR τ d M' (.ref a :: As) S G (some (.int v)) S' G') (hq : pc + 3 = q) (hs : stk = As.reverse ++ .ref a :: st) (kk : xA X (d + 1) M c n mc ms q L (.int v :: st) (σF τ, S', G') Q) : xA X (d + 1) M c n mc ms pc L stk (σF τ, S, G) Q := by
  refine xA.callV hd hk hm (h := (σF τ, S, G)) hσ hci hn hLn hst hC hc1 hc2 hq hs ?_
  rintro r' h' ⟨rfl, rfl⟩
  exact kk
theorem xA.gS {v : Int32} (hd : xfetch M pc = some (.invokestatic idx, 3)) (hk : xcS M.1.cls idx M') (hm : xmOk M') (hn : As.length = M'.2.2.2.2.1) (hLn : L.length = M.2.2.1) (hst : (st.map Value.category).sum ≤ 8) (hc1 : c ≤ mc) (hc2 : n ≤ ms) (hC : xR τ d M' As S G (some (.int v)) S' G') (hq : pc + 3 = q) (hs : stk = As.reverse ++ st) (kk : xA X (d + 1) M c n mc ms q L (.int v :: st) (σF τ, S', G') Q) : xA X (d + 1) M c n mc ms pc L stk (σF τ, S, G) Q := by
  refine xA.callS hd hk hm (h := (σF τ, S, G)) hn hLn hst hC hc1 hc2 hq hs ?_
  rintro r' h' ⟨rfl, rfl⟩
  exact kk
theorem xA.gX {v : Int32} (hd : xfetch M pc = some (.invokestatic idx, 3)) (hk : xcS M.1.cls idx M') (hm : xmOk M') (hn : As.length = M'.2.2.2.2.1) (hLn : L.length = M.2.2.1) (hst : (st.map Value.category).sum ≤ 8) (hc1 : c ≤ mc) (hc2 : n ≤ ms) (hC : xRs X τ d M' As S G (some (.int v))) (hq : pc + 3 = q) (hs : stk = As.reverse ++ st) (kk : xA X (d + 1) M c n mc ms q L (.int v :: st) (σF τ, S, G) Q) : xA X (d + 1) M c n mc ms pc L stk (σF τ, S, G) Q := by
  refine xA.callX hd hk hm (h := (σF τ, S, G)) hn hLn hst hC hc1 hc2 hq hs ?_
  rintro r' h' ⟨rfl, rfl⟩
  exact kk
/-- a call of the class that changes its state -/
theorem xA.gO {s s' : sS} {v : Int32} (hd : xfetch M pc = some (.invokevirtual idx, 3)) (hk : xcV M.1.cls idx M') (hm : xmOk M') (hci : (vwCl[9]?).map (fun z => z.1) = some M'.1.cls) (hn : As.length = M'.2.2.2.2.1) (hLn : L.length = M.2.2.1) (hst : (st.map Value.category).sum ≤ 8) (hc1 : c ≤ mc) (hc2 : n ≤ ms) (hC : opC τ d M' (.ref 0 :: As) s (.int v) s') (hc : CS S s) (hq : pc + 3 = q) (hs : stk = As.reverse ++ .ref 0 :: st) (kk : ∀ S', CS S' s' → (∀ j, 54 ≤ j → S' j = S j) → xA X (d + 1) M c n mc ms q L (.int v :: st) (σF τ, S', G) Q) : xA X (d + 1) M c n mc ms pc L stk (σF τ, S, G) Q := by
  refine xA.callV hd hk hm (h := (σF τ, S, G)) rfl hci hn hLn hst (hC S G hc) hc1 hc2 hq hs ?_
  rintro r' h' ⟨S', rfl, rfl, h1, h2⟩
  exact kk S' h1 h2
end LC
/-- the class's cells are its own -/
theorem CS.lo {S S' : Nat → Nat → Int32} {s : sS} (hc : CS S s) (h : ∀ j, j < 54 → S' j = S j) : CS S' s := by
  obtain ⟨a1, a2, a3, a4, a5, ⟨a6, a7⟩, a8, a9⟩ := hc
  exact ⟨a1.to (h 1 (by decide)) (h 2 (by decide)), a2.to (by rw [h 0 (by decide)]) (h 3 (by decide)) (h 4 (by decide)) (h 5 (by decide)), a3.to (by rw [h 0 (by decide)]) (fun j _ h2 => h j h2), a4.to (h 12 (by decide)) (h 13 (by decide)) (h 14 (by decide)) (h 15 (by decide)), a5.to (h 16 (by decide)) (h 17 (by decide)), ⟨by rw [h 0 (by decide)]; exact a6, a7⟩, a8.to (fun j _ h2 => h j (by omega)), a9⟩
theorem xA.gen {X : Option (Nat × (Nat → Int32))} {d : Nat} {M : xM} {c n mc ms pc : Nat} {L : List (Option Value)} {st : List Value} {σ : List xSh} {S : Nat → Nat → Int32} {G : Nat → Nat → Int64} {Q : Option Value → xH → Prop} (P : (Nat → Nat → Int32) → Prop) (hP : P S) (k : ∀ S', P S' → xA X d M c n mc ms pc L st (σ, S', G) Q) : xA X d M c n mc ms pc L st (σ, S, G) Q := k S hP
theorem xu_at {S : Nat → Nat → Int32} {a k : Nat} {v : Int32} : xu S a k v a = iu (S a) k v := by funext i; simp [xu, iu]
theorem xu_off {S : Nat → Nat → Int32} {a k j : Nat} {v : Int32} (h : j ≠ a) : xu S a k v j = S j := by funext i; simp [xu, h]
theorem iu_at {f : Nat → Int32} {k : Nat} {v : Int32} : iu f k v k = v := by simp [iu]
theorem iu_off {f : Nat → Int32} {k j : Nat} {v : Int32} (h : j ≠ k) : iu f k v j = f j := by simp [iu, h]
/-! numbers -/
def atv (x : Int32) (n : Nat) : Nat := x.toUInt32.toNat / 2 % n
theorem atv_lt {x : Int32} {n : Nat} (h : 0 < n) : atv x n < n := Nat.mod_lt _ h
theorem iushr1 (x : Int32) : (x.toUInt32 >>> ((1 : Int32).toUInt32 &&& Int32.toUInt32 31)).toInt32 = nI (x.toUInt32.toNat / 2) := by
  have e : (1 : Int32).toUInt32 &&& Int32.toUInt32 31 = 1 := by decide
  rw [e]
  have h1 : (x.toUInt32 >>> 1).toNat = x.toUInt32.toNat / 2 := by
    rw [UInt32.toNat_shiftRight]
    simp [Nat.shiftRight_eq_div_pow]
  have h2 : x.toUInt32 >>> 1 = UInt32.ofNat (x.toUInt32.toNat / 2) := by
    rw [← h1, UInt32.ofNat_toNat]
  rw [h2]
  rfl
theorem nI_rem {a b : Nat} (ha : a < 2 ^ 31) (hb : b < 2 ^ 31) (h0 : 0 < b) : nI a - nI a / nI b * nI b = nI (a % b) := by
  have h1 : a / b * b ≤ a := Nat.div_mul_le_self a b
  rw [nI_div ha hb h0, nI_mul, nI_sub h1]
  congr 1
  have := Nat.div_add_mod a b
  rw [Nat.mul_comm] at this
  omega
theorem at_eq {x : Int32} {n : Nat} (hn : n < 2 ^ 31) (h0 : 0 < n) : (x.toUInt32 >>> ((1 : Int32).toUInt32 &&& Int32.toUInt32 31)).toInt32 - (x.toUInt32 >>> ((1 : Int32).toUInt32 &&& Int32.toUInt32 31)).toInt32 / nI n * nI n = nI (atv x n) := by
  have hx : x.toUInt32.toNat / 2 < 2 ^ 31 := by
    have := x.toUInt32.toNat_lt
    omega
  rw [iushr1, nI_rem hx hn h0, atv]
/-- a cell of the script -/
def clV (N : Nat) (xs : Nat → Int32) (k : Nat) : Int32 := if k < N then xs k else 747796405 * nI (k + 1)
/-- a spot in the law's numbers -/
def e8 (q : Nat) : Nat := q / 6 * 8 + q % 6
theorem e8_div (q : Nat) : e8 q / 8 = q / 6 := by unfold e8; omega
theorem e8_mod (q : Nat) : e8 q % 8 = q % 6 := by unfold e8; omega
theorem e8_inj {q r : Nat} : e8 q = e8 r ↔ q = r := by unfold e8; omega
theorem e8_lt {q : Nat} (h : q < 360) : e8 q < 480 := by unfold e8; omega
theorem e8_mk {m r : Nat} (h : r < 6) : e8 (m * 6 + r) = m * 8 + r := by unfold e8; omega

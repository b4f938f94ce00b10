variable {τ : List xSh}
/-! ===== the cells of the law's two systems, once they are made: 54 of them ===== -/
def σF (τ : List xSh) : List xSh := .inl (9, [some 1, some 3, some 6, some 9, some 11, some 12, some 16, some 18, some 38, some 41, none, none, none]) ::
  .inl (4, [some 2, none]) ::
  .inr (.inl 45) ::
  .inl (1, [some 4, some 5, none, none, none, none, none, none]) ::
  .inr (.inl 36) ::
  .inr (.inl 6) ::
  .inl (1, [some 7, some 8, none, none, none, none, none, none]) ::
  .inr (.inl 36) ::
  .inr (.inl 6) ::
  .inl (3, [some 10, none, none, none]) ::
  .inr (.inl 17) ::
  .inr (.inr [some 42, some 45, some 48, some 51]) ::
  .inl (7, [some 13, some 14, some 15, none]) ::
  .inr (.inl 5) ::
  .inr (.inl 5) ::
  .inr (.inl 5) ::
  .inl (0, [some 17, none]) ::
  .inr (.inl 8) ::
  .inl (2, [some 19, some 20, some 24, none, none]) ::
  .inr (.inr [some 26, some 29, some 32, some 35]) ::
  .inl (7, [some 21, some 22, some 23, none]) ::
  .inr (.inl 5) ::
  .inr (.inl 5) ::
  .inr (.inl 5) ::
  .inl (0, [some 25, none]) ::
  .inr (.inl 8) ::
  .inl (5, [some 27, none]) ::
  .inl (3, [some 28, none, none, none]) ::
  .inr (.inl 17) ::
  .inl (5, [some 30, none]) ::
  .inl (3, [some 31, none, none, none]) ::
  .inr (.inl 17) ::
  .inl (5, [some 33, none]) ::
  .inl (3, [some 34, none, none, none]) ::
  .inr (.inl 17) ::
  .inl (5, [some 36, none]) ::
  .inl (3, [some 37, none, none, none]) ::
  .inr (.inl 17) ::
  .inl (6, [some 39, some 40, none, none, none, none, none]) ::
  .inr (.inl 2520) ::
  .inr (.inl 60) ::
  .inl (8, [none, none, none]) ::
  .inl (5, [some 43, none]) ::
  .inl (3, [some 44, none, none, none]) ::
  .inr (.inl 17) ::
  .inl (5, [some 46, none]) ::
  .inl (3, [some 47, none, none, none]) ::
  .inr (.inl 17) ::
  .inl (5, [some 49, none]) ::
  .inl (3, [some 50, none, none, none]) ::
  .inr (.inl 17) ::
  .inl (5, [some 52, none]) ::
  .inl (3, [some 53, none, none, none]) ::
  .inr (.inl 17) :: τ
/-- a contract of a method that makes nothing: what it answers, the stores behind it -/
def xR (τ : List xSh) (d : Nat) (M : xM) (args : List Value) (S : Nat → Nat → Int32) (G : Nat → Nat → Int64) (r : Option Value) (S' : Nat → Nat → Int32) (G' : Nat → Nat → Int64) : Prop := xC d M args ((σF τ), S, G) 0 0 (fun r' h' => r' = r ∧ h' = ((σF τ), S', G'))
/-- a truth as an int -/
def xb (p : Prop) [Decidable p] : Int32 := if p then 1 else 0
theorem xb_t {p : Prop} [Decidable p] (h : p) : xb p = 1 := if_pos h
theorem xb_f {p : Prop} [Decidable p] (h : ¬ p) : xb p = 0 := if_neg h
theorem xb_ne0 {p : Prop} [Decidable p] : ¬ xb p = 0 ↔ p := by
  unfold xb; split <;> simp_all
theorem xb_eq0 {p : Prop} [Decidable p] : xb p = 0 ↔ ¬ p := by
  unfold xb; split <;> simp_all
theorem xb_01 {p : Prop} [Decidable p] : xb p = 0 ∨ xb p = 1 := by
  unfold xb; split <;> simp
theorem xb_nar {p : Prop} [Decidable p] : narrow .boolean (.int (xb p)) = .int (xb p) := by
  unfold xb; split <;> rfl
theorem xb_iff {p q : Prop} [Decidable p] [Decidable q] (h : p ↔ q) : xb p = xb q := by
  unfold xb; simp [h]
theorem i32_ext {a b : Int32} : a = b ↔ a.toInt = b.toInt := ⟨fun h => by rw [h], fun h => Int32.toInt_inj.mp h⟩
section XP
variable {X : Option (Nat × (Nat → Int32))} {d : Nat} {M M' : xM} {c n mc ms pc q idx : Nat} {L : List (Option Value)} {As st stk : List Value} {S S' : Nat → Nat → Int32} {G G' : Nat → Nat → Int64} {Q : Option Value → xH → Prop} {h : xH}
theorem xA.topi {x y : Int32} (e : x = y) (k : xA X d M c n mc ms pc L (.int y :: st) h Q) : xA X d M c n mc ms pc L (.int x :: st) h Q := e ▸ k
theorem xA.topl {x y : Int64} (e : x = y) (k : xA X d M c n mc ms pc L (.long y :: st) h Q) : xA X d M c n mc ms pc L (.long x :: st) h Q := e ▸ k
theorem xA.store {σ : List xSh} (e : S = S') (k : xA X d M c n mc ms pc L st (σ, S', G) Q) : xA X d M c n mc ms pc L st (σ, S, G) Q := e ▸ k
theorem xA.callVv {a ci : Nat} {r : List (Option Nat)} (hd : xfetch M pc = some (.invokevirtual idx, 3)) (hk : xcV M.1.cls idx M') (hm : xmOk M') (hσ : (σF τ)[a]? = some (.inl (ci, r))) (hci : (vwCl[ci]?).map (fun z => z.1) = some M'.1.cls) (hn : As.length = M'.2.2.2.2.1) (hLn : L.length = M.2.2.1) (hst : (st.map Value.category).sum ≤ 8) (hC : xR τ d M' (.ref a :: As) S G none S' G') (hq : pc + 3 = q) (hs : stk = As.reverse ++ .ref a :: st) (kk : xA X (d + 1) M 0 0 0 0 q L st ((σF τ), S', G') Q) : xA X (d + 1) M 0 0 0 0 pc L stk ((σF τ), S, G) Q := by
  refine xA.callV hd hk hm (h := ((σF τ), S, G)) hσ hci hn hLn hst hC (Nat.le_refl _) (Nat.le_refl _) hq hs ?_
  rintro r' h' ⟨rfl, rfl⟩
  exact kk
theorem xA.callSv (hd : xfetch M pc = some (.invokestatic idx, 3)) (hk : xcS M.1.cls idx M') (hm : xmOk M') (hn : As.length = M'.2.2.2.2.1) (hLn : L.length = M.2.2.1) (hst : (st.map Value.category).sum ≤ 8) (hC : xR τ d M' As S G none S' G') (hq : pc + 3 = q) (hs : stk = As.reverse ++ st) (kk : xA X (d + 1) M 0 0 0 0 q L st ((σF τ), S', G') Q) : xA X (d + 1) M 0 0 0 0 pc L stk ((σF τ), S, G) Q := by
  refine xA.callS hd hk hm (h := ((σF τ), S, G)) hn hLn hst hC (Nat.le_refl _) (Nat.le_refl _) hq hs ?_
  rintro r' h' ⟨rfl, rfl⟩
  exact kk
theorem xA.callSNv (hd : xfetch M pc = some (.invokestatic idx, 3)) (hk : xcSN M.1.cls idx M') (hm : xmOk M') (hn : As.length = M'.2.2.2.2.1) (hLn : L.length = M.2.2.1) (hst : (st.map Value.category).sum ≤ 8) (hC : xR τ d M' As S G none S' G') (hq : pc + 3 = q) (hs : stk = As.reverse ++ st) (kk : xA X (d + 1) M 0 0 0 0 q L st ((σF τ), S', G') Q) : xA X (d + 1) M 0 0 0 0 pc L stk ((σF τ), S, G) Q := by
  refine xA.callSN hd hk hm (h := ((σF τ), S, G)) hn hLn hst hC (Nat.le_refl _) (Nat.le_refl _) hq hs ?_
  rintro r' h' ⟨rfl, rfl⟩
  exact kk
theorem xA.callVi {v : Int32} {a ci : Nat} {r : List (Option Nat)} (hd : xfetch M pc = some (.invokevirtual idx, 3)) (hk : xcV M.1.cls idx M') (hm : xmOk M') (hσ : (σF τ)[a]? = some (.inl (ci, r))) (hci : (vwCl[ci]?).map (fun z => z.1) = some M'.1.cls) (hn : As.length = M'.2.2.2.2.1) (hLn : L.length = M.2.2.1) (hst : (st.map Value.category).sum ≤ 8) (hC : xR τ d M' (.ref a :: As) S G (some (.int v)) S' G') (hq : pc + 3 = q) (hs : stk = As.reverse ++ .ref a :: st) (kk : xA X (d + 1) M 0 0 0 0 q L (.int v :: st) ((σF τ), S', G') Q) : xA X (d + 1) M 0 0 0 0 pc L stk ((σF τ), S, G) Q := by
  refine xA.callV hd hk hm (h := ((σF τ), S, G)) hσ hci hn hLn hst hC (Nat.le_refl _) (Nat.le_refl _) hq hs ?_
  rintro r' h' ⟨rfl, rfl⟩
  exact kk
theorem xA.callSi {v : Int32} (hd : xfetch M pc = some (.invokestatic idx, 3)) (hk : xcS M.1.cls idx M') (hm : xmOk M') (hn : As.length = M'.2.2.2.2.1) (hLn : L.length = M.2.2.1) (hst : (st.map Value.category).sum ≤ 8) (hC : xR τ d M' As S G (some (.int v)) S' G') (hq : pc + 3 = q) (hs : stk = As.reverse ++ st) (kk : xA X (d + 1) M 0 0 0 0 q L (.int v :: st) ((σF τ), S', G') Q) : xA X (d + 1) M 0 0 0 0 pc L stk ((σF τ), S, G) Q := by
  refine xA.callS hd hk hm (h := ((σF τ), S, G)) hn hLn hst hC (Nat.le_refl _) (Nat.le_refl _) hq hs ?_
  rintro r' h' ⟨rfl, rfl⟩
  exact kk
theorem xA.callSNi {v : Int32} (hd : xfetch M pc = some (.invokestatic idx, 3)) (hk : xcSN M.1.cls idx M') (hm : xmOk M') (hn : As.length = M'.2.2.2.2.1) (hLn : L.length = M.2.2.1) (hst : (st.map Value.category).sum ≤ 8) (hC : xR τ d M' As S G (some (.int v)) S' G') (hq : pc + 3 = q) (hs : stk = As.reverse ++ st) (kk : xA X (d + 1) M 0 0 0 0 q L (.int v :: st) ((σF τ), S', G') Q) : xA X (d + 1) M 0 0 0 0 pc L stk ((σF τ), S, G) Q := by
  refine xA.callSN hd hk hm (h := ((σF τ), S, G)) hn hLn hst hC (Nat.le_refl _) (Nat.le_refl _) hq hs ?_
  rintro r' h' ⟨rfl, rfl⟩
  exact kk
theorem xA.callVl {v : Int64} {a ci : Nat} {r : List (Option Nat)} (hd : xfetch M pc = some (.invokevirtual idx, 3)) (hk : xcV M.1.cls idx M') (hm : xmOk M') (hσ : (σF τ)[a]? = some (.inl (ci, r))) (hci : (vwCl[ci]?).map (fun z => z.1) = some M'.1.cls) (hn : As.length = M'.2.2.2.2.1) (hLn : L.length = M.2.2.1) (hst : (st.map Value.category).sum ≤ 8) (hC : xR τ d M' (.ref a :: As) S G (some (.long v)) S' G') (hq : pc + 3 = q) (hs : stk = As.reverse ++ .ref a :: st) (kk : xA X (d + 1) M 0 0 0 0 q L (.long v :: st) ((σF τ), S', G') Q) : xA X (d + 1) M 0 0 0 0 pc L stk ((σF τ), S, G) Q := by
  refine xA.callV hd hk hm (h := ((σF τ), S, G)) hσ hci hn hLn hst hC (Nat.le_refl _) (Nat.le_refl _) hq hs ?_
  rintro r' h' ⟨rfl, rfl⟩
  exact kk
theorem xA.callSl {v : Int64} (hd : xfetch M pc = some (.invokestatic idx, 3)) (hk : xcS M.1.cls idx M') (hm : xmOk M') (hn : As.length = M'.2.2.2.2.1) (hLn : L.length = M.2.2.1) (hst : (st.map Value.category).sum ≤ 8) (hC : xR τ d M' As S G (some (.long v)) S' G') (hq : pc + 3 = q) (hs : stk = As.reverse ++ st) (kk : xA X (d + 1) M 0 0 0 0 q L (.long v :: st) ((σF τ), S', G') Q) : xA X (d + 1) M 0 0 0 0 pc L stk ((σF τ), S, G) Q := by
  refine xA.callS hd hk hm (h := ((σF τ), S, G)) hn hLn hst hC (Nat.le_refl _) (Nat.le_refl _) hq hs ?_
  rintro r' h' ⟨rfl, rfl⟩
  exact kk
theorem xA.callSNl {v : Int64} (hd : xfetch M pc = some (.invokestatic idx, 3)) (hk : xcSN M.1.cls idx M') (hm : xmOk M') (hn : As.length = M'.2.2.2.2.1) (hLn : L.length = M.2.2.1) (hst : (st.map Value.category).sum ≤ 8) (hC : xR τ d M' As S G (some (.long v)) S' G') (hq : pc + 3 = q) (hs : stk = As.reverse ++ st) (kk : xA X (d + 1) M 0 0 0 0 q L (.long v :: st) ((σF τ), S', G') Q) : xA X (d + 1) M 0 0 0 0 pc L stk ((σF τ), S, G) Q := by
  refine xA.callSN hd hk hm (h := ((σF τ), S, G)) hn hLn hst hC (Nat.le_refl _) (Nat.le_refl _) hq hs ?_
  rintro r' h' ⟨rfl, rfl⟩
  exact kk
theorem xA.callVr {v : Value} {a ci : Nat} {r : List (Option Nat)} (hd : xfetch M pc = some (.invokevirtual idx, 3)) (hk : xcV M.1.cls idx M') (hm : xmOk M') (hσ : (σF τ)[a]? = some (.inl (ci, r))) (hci : (vwCl[ci]?).map (fun z => z.1) = some M'.1.cls) (hn : As.length = M'.2.2.2.2.1) (hLn : L.length = M.2.2.1) (hst : (st.map Value.category).sum ≤ 8) (hC : xR τ d M' (.ref a :: As) S G (some v) S' G') (hq : pc + 3 = q) (hs : stk = As.reverse ++ .ref a :: st) (kk : xA X (d + 1) M 0 0 0 0 q L (v :: st) ((σF τ), S', G') Q) : xA X (d + 1) M 0 0 0 0 pc L stk ((σF τ), S, G) Q := by
  refine xA.callV hd hk hm (h := ((σF τ), S, G)) hσ hci hn hLn hst hC (Nat.le_refl _) (Nat.le_refl _) hq hs ?_
  rintro r' h' ⟨rfl, rfl⟩
  exact kk
theorem xA.callSr {v : Value} (hd : xfetch M pc = some (.invokestatic idx, 3)) (hk : xcS M.1.cls idx M') (hm : xmOk M') (hn : As.length = M'.2.2.2.2.1) (hLn : L.length = M.2.2.1) (hst : (st.map Value.category).sum ≤ 8) (hC : xR τ d M' As S G (some v) S' G') (hq : pc + 3 = q) (hs : stk = As.reverse ++ st) (kk : xA X (d + 1) M 0 0 0 0 q L (v :: st) ((σF τ), S', G') Q) : xA X (d + 1) M 0 0 0 0 pc L stk ((σF τ), S, G) Q := by
  refine xA.callS hd hk hm (h := ((σF τ), S, G)) hn hLn hst hC (Nat.le_refl _) (Nat.le_refl _) hq hs ?_
  rintro r' h' ⟨rfl, rfl⟩
  exact kk
theorem xA.callSNr {v : Value} (hd : xfetch M pc = some (.invokestatic idx, 3)) (hk : xcSN M.1.cls idx M') (hm : xmOk M') (hn : As.length = M'.2.2.2.2.1) (hLn : L.length = M.2.2.1) (hst : (st.map Value.category).sum ≤ 8) (hC : xR τ d M' As S G (some v) S' G') (hq : pc + 3 = q) (hs : stk = As.reverse ++ st) (kk : xA X (d + 1) M 0 0 0 0 q L (v :: st) ((σF τ), S', G') Q) : xA X (d + 1) M 0 0 0 0 pc L stk ((σF τ), S, G) Q := by
  refine xA.callSN hd hk hm (h := ((σF τ), S, G)) hn hLn hst hC (Nat.le_refl _) (Nat.le_refl _) hq hs ?_
  rintro r' h' ⟨rfl, rfl⟩
  exact kk
end XP
theorem xu_same {S : Nat → Nat → Int32} {a k : Nat} {v : Int32} : xu S a k v a k = v := by simp [xu]
theorem xu_ne1 {S : Nat → Nat → Int32} {a k j i : Nat} {v : Int32} (h : j ≠ a) : xu S a k v j i = S j i := by simp [xu, h]
theorem xu_ne2 {S : Nat → Nat → Int32} {a k j i : Nat} {v : Int32} (h : i ≠ k) : xu S a k v j i = S j i := by simp [xu, h]
theorem nI_mul (a b : Nat) : nI a * nI b = nI (a * b) := by
  unfold nI; exact (Int32.ofNat_mul a b).symm
theorem nI_sub {a b : Nat} (h : b ≤ a) : nI a - nI b = nI (a - b) := by
  have e : a = (a - b) + b := by omega
  rw [e, ← nI_add, Int32.add_sub_cancel, Nat.add_sub_cancel]

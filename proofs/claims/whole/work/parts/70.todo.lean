section S_TODO
/-- the weight of a shipment that is rated alone -/
def wsI (μ : Nat → Int32) (s : Nat) : Nat := iv (wtF μ (iv (gvF μ (2 ^ s))) (2 ^ s))
def wSum (μ : Nat → Int32) (g : Nat) : Nat → Nat → Nat → Nat
  | 0, _, x => x
  | k + 1, s, x => wSum μ g k (s + 1) (if g.testBit s = true then x + wsI μ s else x)
def shN (μ : Nat → Int32) (g a s : Nat) : Nat := a * wsI μ s / wSum μ g (iv (μ 1)) 0 0
abbrev SH : Type := (Nat → Int32) × Int32
def s2F (μ : Nat → Int32) (g a : Nat) : Nat → Nat → SH → SH
  | 0, _, x => x
  | k + 1, s, x => s2F μ g a k (s + 1) (if g.testBit s = true then (upd x.1 (14 + 26 * s + 5) (nI (shN μ g a s)), x.2 - nI (shN μ g a s)) else x)
def s3F (g : Nat) : Nat → Nat → SH → SH
  | 0, _, x => x
  | k + 1, s, x => s3F g k (s + 1) (if g.testBit s = true ∧ ¬ x.2 ≤ 0 then (upd x.1 (14 + 26 * s + 5) (x.1 (14 + 26 * s + 5) + 1), x.2 + (-1)) else x)
/-- a group's total is divided -/
def shrF (μ : Nat → Int32) (g a : Nat) : Nat → Int32 := (s3F g (iv (μ 1)) 0 (s2F μ g a (iv (μ 1)) 0 (μ, nI a))).1
def poF (T F : Nat → Int32) : Nat → Nat → (Nat → Int32) → (Nat → Int32)
  | 0, _, μ => μ
  | k + 1, n, μ => if n = 0 then μ else poF T F k (dif n (iv (F n))) (upd (shrF μ (iv (F n)) (iv (T (iv (F n))))) 3 (shrF μ (iv (F n)) (iv (T (iv (F n)))) 3 + 1))
def poC (μ : Nat → Int32) (g : Int32) : Int32 := if lckF μ g 8 = 0 then (if posF μ &&& g = 0 then match rfF μ (iv g) with | none => 0 | some _ => 4 else 3) else lckF μ g 8
/-- all but the shares and the number of the booked ones -/
def eqS (μ μ' : Nat → Int32) : Prop := ∀ k, k ≠ 3 → (∀ s, s < 10 → k ≠ 14 + 26 * s + 5) → μ' k = μ k
def sg0 (μ : Nat → Int32) (g : Nat) : Prop := ∀ s, g.testBit s = true → (rsnD μ (2 ^ s)).1 = 0

abbrev ws_X11_shares : List Cond := Cond.code yX11_shares cX11_shares 8 none :: W0
abbrev rm_X11_shares : Room := ({ frames := 6, cells := 0, slots := 0, locals := 139 } : Room)
theorem k_X11_shares (l : Launch) (D : va_G) (T : Nat → ClassId) (m0 : Nat) (a : Nat → Nat) (p0 : Int32) (r : Nat → Int32) (q : Nat → Nat → Int32) (h : WF (q 0) ∧ gok (q 0) p0 ∧ sg0 (q 0) (iv p0) ∧ bn (q 7 (iv p0)) 1000000000) : RMv l yX11_shares (ws_X11_shares) rm_X11_shares D T m0 a [.ref m0, .int p0] r q (fun u => (kR r u.1 [17, 18, 19, 20, 21, 22, 23] ∧ kQ q u.2 [0] ∧ u.2 0 = shrF (q 0) (iv p0) (iv (q 7 (iv p0))))) := sorry
abbrev ws_X11_post : List Cond := Cond.code yX11_post cX11_post 3 (some .int) :: W0
abbrev rm_X11_post : Room := ({ frames := 8, cells := 0, slots := 0, locals := 183 } : Room)
theorem k_X11_post (l : Launch) (D : va_G) (T : Nat → ClassId) (m0 : Nat) (a : Nat → Nat) (p0 : Int32) (r : Nat → Int32) (q : Nat → Nat → Int32) (h : WF (q 0) ∧ CW8 r) : RMi l yX11_post (ws_X11_post) rm_X11_post D T m0 a [.ref m0, .int p0] r q (fun v u => (kQ q u.2 [0, 3, 7, 8, 9, 10] ∧ kR r u.1 (5 :: SCK) ∧ u.1 6 = poC (q 0) p0 ∧ u.1 29 = (if poC (q 0) p0 = 4 then rfR (q 0) (iv p0) else r 29) ∧ u.1 30 = (if poC (q 0) p0 = 4 then rfT (q 0) (iv p0) else r 30) ∧ (¬ poC (q 0) p0 = 0 → u.1 5 = r 5 ∧ u.2 = q) ∧ (poC (q 0) p0 = 0 → psh (q 3) (u.2 3) (q 0) (r 5) (u.1 5) ∧ u.2 0 = poF (ttF (q 0)) (dpZ (ttF (q 0)) (iv p0)).2.2 1024 (iv p0) (q 0) ∧ v = (dpZ (ttF (q 0)) (iv p0)).1 (iv p0)))) := sorry
end S_TODO

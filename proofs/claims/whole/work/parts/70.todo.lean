section S_TODO
/-- decimal digits -/
def dgL : Nat → Nat → List Int32
  | 0, v => [nI (48 + v % 10)]
  | k + 1, v => nI (48 + v / 10 ^ (k + 1) % 10) :: dgL k v
def nuL (n : Nat) : List Int32 := dgL (if n < 10 then 0 else if n < 100 then 1 else if n < 1000 then 2 else 3) n
def teL (n : Nat) : List Int32 := (if n / 150000 % 2 = 1 then [45] else []) ++ (letF (nI (n / 30000 % 5)) :: ((if 0 < n / 30000 % 5 then [if n / 10000 % 3 = 0 then (60 : Int32) else if n / 10000 % 3 = 1 then 62 else 61] else []) ++ nuL (n % 10000)))
def paT (μ : Nat → Int32) (e : Nat) : Nat → Nat → List Int32
  | 0, _ => []
  | k + 1, j => (if j = 0 then (63 : Int32) else if iv (μ (e + 6 + j - 1)) / 300000 = iv (μ (e + 6 + j)) / 300000 then 38 else 124) :: (teL (iv (μ (e + 6 + j))) ++ paT μ e k (j + 1))
def paF (μ : Nat → Int32) (e a : Nat) : List Int32 := 97 :: (nuL a ++ (58 :: (nuL (iv (μ (e + 1))) ++ ((if μ (e + 2) = 0 then [] else [if μ (e + 2) = 1 then (42 : Int32) else 37]) ++ (paT μ e (iv (μ (e + 4))) 0 ++ (if μ (e + 5) < 0 then [] else 33 :: nuL (iv (μ (e + 5)))))))))
/-- the tests' text is short -/
def WFP (μ : Nat → Int32) : Prop := ∀ v, v < 6 → ∀ a, a < 10 → (paT μ (274 + 510 * v + 150 + 36 * a) (iv (μ (274 + 510 * v + 150 + 36 * a + 4))) 0).length ≤ 80
/-- signs are put behind what stands on the paper -/
def apP (r : Nat → Int32) (q : Nat → Nat → Int32) (l : List Int32) (r1 : Nat → Int32) (q1 : Nat → Nat → Int32) : Prop := kR r r1 [40] ∧ kQ q q1 [12] ∧ r1 40 = nI (iv (r 40) + l.length) ∧ (∀ i, i < iv (r 40) → q1 12 i = q 12 i) ∧ (∀ j x, l[j]? = some x → q1 12 (iv (r 40) + j) = x)
def pa40 (r : Nat → Int32) (B : Nat) : Prop := ∃ n : Nat, n ≤ B ∧ r 40 = nI n
def wrC (μ : Nat → Int32) (p a : Int32) : Int32 := if zin p 0 (μ 0 - 1) = 0 then 1 else if zin a 0 9 = 0 then 2 else if μ (274 + 510 * iv p + 150 + 36 * iv a) = 0 then 2 else 0


abbrev X3 : Type := Int32 × Int32 × Int32
abbrev T3 : Type := (Nat → Int32) × (Nat → Int32) × (Nat → Int32)
/-- one group more for a part: total, number of groups, first group -/
def lpS (T B C : Nat → Int32) (p g : Nat) (x : X3) : X3 := if g &&& p = g ∧ g.testBit (lowN p) = true ∧ 0 ≤ T g then (if x.1 < 0 ∨ T g + B (dif p g) < x.1 ∨ (T g + B (dif p g) = x.1 ∧ 1 + C (dif p g) < x.2.1) then (T g + B (dif p g), 1 + C (dif p g), nI g) else x) else x
def lpF (T B C : Nat → Int32) (p : Nat) : Nat → Nat → X3 → X3
  | 0, _, x => x
  | k + 1, g, x => lpF T B C p k (g + 1) (lpS T B C p g x)
def dpX (T : Nat → Int32) (u : T3) (p : Nat) : X3 := lpF T u.1 u.2.1 p p 1 (-1, u.2.1 p, u.2.2 p)
def dpU (T : Nat → Int32) (u : T3) (p : Nat) : T3 := (upd u.1 p (dpX T u p).1, upd u.2.1 p (dpX T u p).2.1, upd u.2.2 p (dpX T u p).2.2)
def dpK (T : Nat → Int32) (n : Nat) (t : T3) : Nat → T3
  | 0 => (upd t.1 0 0, upd t.2.1 0 0, t.2.2)
  | k + 1 => if (k + 1) &&& n = k + 1 then dpU T (dpK T n t k) (k + 1) else dpK T n t k
def dpZ (T : Nat → Int32) (n : Nat) : T3 := dpK T n (fun _ => 0, fun _ => 0, fun _ => 0) n
/-- all members of a set can be rated alone -/
def sgO (μ : Nat → Int32) (n : Nat) : Prop := ∀ s, n.testBit s = true → 0 ≤ ttF μ (2 ^ s)
def lbP (r : Nat → Int32) (q : Nat → Nat → Int32) (n : Nat) (r1 : Nat → Int32) (q1 : Nat → Nat → Int32) : Prop := kQ q q1 [7, 8, 9, 10] ∧ kR r r1 [7, 17, 18, 19, 20, 21, 22, 23, 24, 25, 26, 27, 28] ∧ (∀ p, 0 < p → sub p n → q1 7 p = ttF (q 0) p) ∧ (∀ p, sub p n → q1 8 p = (dpZ (ttF (q 0)) n).1 p ∧ q1 9 p = (dpZ (ttF (q 0)) n).2.1 p ∧ (0 < p → q1 10 p = (dpZ (ttF (q 0)) n).2.2 p))


abbrev ws_X11_layPart : List Cond := Cond.code yX11_layPart cX11_layPart 6 none :: W0
abbrev rm_X11_layPart : Room := ({ frames := 0, cells := 0, slots := 0, locals := 0 } : Room)
theorem k_X11_layPart (l : Launch) (D : va_G) (T : Nat → ClassId) (m0 : Nat) (a : Nat → Nat) (p0 : Int32) (r : Nat → Int32) (q : Nat → Nat → Int32) (h : ∃ p : Nat, p < 1024 ∧ 0 < p ∧ p0 = nI p) : RMv l yX11_layPart (ws_X11_layPart) rm_X11_layPart D T m0 a [.ref m0, .int p0] r q (fun u => (u.1 = r ∧ kQ q u.2 [8, 9, 10] ∧ u.2 8 = upd (q 8) (iv p0) (dpX (q 7) (q 8, q 9, q 10) (iv p0)).1 ∧ u.2 9 = upd (q 9) (iv p0) (dpX (q 7) (q 8, q 9, q 10) (iv p0)).2.1 ∧ u.2 10 = upd (q 10) (iv p0) (dpX (q 7) (q 8, q 9, q 10) (iv p0)).2.2)) := sorry
abbrev ws_X11_findsPair : List Cond := Cond.code yX11_findsPair cX11_findsPair 7 (some .boolean) :: W0
abbrev rm_X11_findsPair : Room := ({ frames := 0, cells := 0, slots := 0, locals := 0 } : Room)
theorem k_X11_findsPair (l : Launch) (D : va_G) (T : Nat → ClassId) (m0 : Nat) (a : Nat → Nat)  (r : Nat → Int32) (q : Nat → Nat → Int32) : RMi l yX11_findsPair (ws_X11_findsPair) rm_X11_findsPair D T m0 a [.ref m0] r q (fun v u => True) := sorry
abbrev ws_X11_put : List Cond := Cond.code yX11_put cX11_put 2 none :: W0
abbrev rm_X11_put : Room := ({ frames := 0, cells := 0, slots := 0, locals := 0 } : Room)
theorem k_X11_put (l : Launch) (D : va_G) (T : Nat → ClassId) (m0 : Nat) (a : Nat → Nat) (p0 : Int32) (r : Nat → Int32) (q : Nat → Nat → Int32) (h : pa40 r 199 ∧ ∃ c : Nat, c < 128 ∧ p0 = nI c) : RMv l yX11_put (ws_X11_put) rm_X11_put D T m0 a [.ref m0, .int p0] r q (fun u => (apP r q [p0] u.1 u.2)) := sorry
abbrev ws_X11_putNumber : List Cond := Cond.code yX11_putNumber cX11_putNumber 3 none :: W0
abbrev rm_X11_putNumber : Room := ({ frames := 1, cells := 0, slots := 0, locals := 21 } : Room)
theorem k_X11_putNumber (l : Launch) (D : va_G) (T : Nat → ClassId) (m0 : Nat) (a : Nat → Nat) (p0 : Int32) (r : Nat → Int32) (q : Nat → Nat → Int32) (h : pa40 r 196 ∧ ∃ c : Nat, c ≤ 9999 ∧ p0 = nI c) : RMv l yX11_putNumber (ws_X11_putNumber) rm_X11_putNumber D T m0 a [.ref m0, .int p0] r q (fun u => (apP r q (nuL (iv p0)) u.1 u.2)) := sorry
abbrev ws_X11_putTest : List Cond := Cond.code yX11_putTest cX11_putTest 4 none :: W0
abbrev rm_X11_putTest : Room := ({ frames := 2, cells := 0, slots := 0, locals := 43 } : Room)
theorem k_X11_putTest (l : Launch) (D : va_G) (T : Nat → ClassId) (m0 : Nat) (a : Nat → Nat) (p0 : Int32) (r : Nat → Int32) (q : Nat → Nat → Int32) (h : pa40 r 190 ∧ tix p0) : RMv l yX11_putTest (ws_X11_putTest) rm_X11_putTest D T m0 a [.ref m0, .int p0] r q (fun u => (apP r q (teL (iv p0)) u.1 u.2)) := sorry
abbrev ws_X11_write : List Cond := Cond.code yX11_write cX11_write 7 (some .int) :: W0
abbrev rm_X11_write : Room := ({ frames := 3, cells := 0, slots := 0, locals := 66 } : Room)
theorem k_X11_write (l : Launch) (D : va_G) (T : Nat → ClassId) (m0 : Nat) (a : Nat → Nat) (p0 : Int32) (p1 : Int32) (r : Nat → Int32) (q : Nat → Nat → Int32) (h : WF (q 0) ∧ WFP (q 0)) : RMi l yX11_write (ws_X11_write) rm_X11_write D T m0 a [.ref m0, .int p0, .int p1] r q (fun v u => (kR r u.1 (40 :: SC) ∧ kQ q u.2 [12] ∧ u.1 6 = wrC (q 0) p0 p1 ∧ (¬ wrC (q 0) p0 p1 = 0 → u.1 40 = r 40 ∧ u.2 = q) ∧ (wrC (q 0) p0 p1 = 0 → v = u.1 40 ∧ u.1 40 = nI (paF (q 0) (274 + 510 * iv p0 + 150 + 36 * iv p1) (iv p1)).length ∧ ∀ j x, (paF (q 0) (274 + 510 * iv p0 + 150 + 36 * iv p1) (iv p1))[j]? = some x → u.2 12 j = x))) := sorry
abbrev ws_X11_shares : List Cond := Cond.code yX11_shares cX11_shares 8 none :: W0
abbrev rm_X11_shares : Room := ({ frames := 6, cells := 0, slots := 0, locals := 139 } : Room)
theorem k_X11_shares (l : Launch) (D : va_G) (T : Nat → ClassId) (m0 : Nat) (a : Nat → Nat) (p0 : Int32) (r : Nat → Int32) (q : Nat → Nat → Int32) : RMv l yX11_shares (ws_X11_shares) rm_X11_shares D T m0 a [.ref m0, .int p0] r q (fun u => True) := sorry
abbrev ws_X11_amend : List Cond := Cond.code yX11_amend cX11_amend 6 (some .int) :: W0
abbrev rm_X11_amend : Room := ({ frames := 7, cells := 0, slots := 0, locals := 158 } : Room)
theorem k_X11_amend (l : Launch) (D : va_G) (T : Nat → ClassId) (m0 : Nat) (a : Nat → Nat) (p0 : Int32) (r : Nat → Int32) (q : Nat → Nat → Int32) : RMi l yX11_amend (ws_X11_amend) rm_X11_amend D T m0 a [.ref m0, .int p0] r q (fun v u => True) := sorry
abbrev ws_X11_layBest : List Cond := Cond.code yX11_layBest cX11_layBest 3 none :: W0
abbrev rm_X11_layBest : Room := ({ frames := 7, cells := 0, slots := 0, locals := 161 } : Room)
theorem k_X11_layBest (l : Launch) (D : va_G) (T : Nat → ClassId) (m0 : Nat) (a : Nat → Nat) (p0 : Int32) (r : Nat → Int32) (q : Nat → Nat → Int32) (h : WF (q 0) ∧ gok (q 0) p0 ∧ sgO (q 0) (iv p0)) : RMv l yX11_layBest (ws_X11_layBest) rm_X11_layBest D T m0 a [.ref m0, .int p0] r q (fun u => (lbP r q (iv p0) u.1 u.2)) := sorry
abbrev ws_X11_layMerged : List Cond := Cond.code yX11_layMerged cX11_layMerged 3 none :: W0
abbrev rm_X11_layMerged : Room := ({ frames := 7, cells := 0, slots := 0, locals := 161 } : Room)
theorem k_X11_layMerged (l : Launch) (D : va_G) (T : Nat → ClassId) (m0 : Nat) (a : Nat → Nat) (p0 : Int32) (r : Nat → Int32) (q : Nat → Nat → Int32) : RMv l yX11_layMerged (ws_X11_layMerged) rm_X11_layMerged D T m0 a [.ref m0, .int p0] r q (fun u => True) := sorry
abbrev ws_X11_consolidate : List Cond := Cond.code yX11_consolidate cX11_consolidate 2 (some .int) :: W0
abbrev rm_X11_consolidate : Room := ({ frames := 8, cells := 0, slots := 0, locals := 183 } : Room)
theorem k_X11_consolidate (l : Launch) (D : va_G) (T : Nat → ClassId) (m0 : Nat) (a : Nat → Nat) (p0 : Int32) (r : Nat → Int32) (q : Nat → Nat → Int32) : RMi l yX11_consolidate (ws_X11_consolidate) rm_X11_consolidate D T m0 a [.ref m0, .int p0] r q (fun v u => True) := sorry
abbrev ws_X11_group : List Cond := Cond.code yX11_group cX11_group 5 (some .int) :: W0
abbrev rm_X11_group : Room := ({ frames := 8, cells := 0, slots := 0, locals := 183 } : Room)
theorem k_X11_group (l : Launch) (D : va_G) (T : Nat → ClassId) (m0 : Nat) (a : Nat → Nat) (p0 : Int32) (p1 : Int32) (r : Nat → Int32) (q : Nat → Nat → Int32) : RMi l yX11_group (ws_X11_group) rm_X11_group D T m0 a [.ref m0, .int p0, .int p1] r q (fun v u => True) := sorry
abbrev ws_X11_searched : List Cond := Cond.code yX11_searched cX11_searched 2 (some .int) :: W0
abbrev rm_X11_searched : Room := ({ frames := 8, cells := 0, slots := 0, locals := 183 } : Room)
theorem k_X11_searched (l : Launch) (D : va_G) (T : Nat → ClassId) (m0 : Nat) (a : Nat → Nat) (p0 : Int32) (r : Nat → Int32) (q : Nat → Nat → Int32) : RMi l yX11_searched (ws_X11_searched) rm_X11_searched D T m0 a [.ref m0, .int p0] r q (fun v u => True) := sorry
abbrev ws_X11_merged : List Cond := Cond.code yX11_merged cX11_merged 6 (some .int) :: W0
abbrev rm_X11_merged : Room := ({ frames := 8, cells := 0, slots := 0, locals := 183 } : Room)
theorem k_X11_merged (l : Launch) (D : va_G) (T : Nat → ClassId) (m0 : Nat) (a : Nat → Nat) (p0 : Int32) (p1 : Int32) (r : Nat → Int32) (q : Nat → Nat → Int32) : RMi l yX11_merged (ws_X11_merged) rm_X11_merged D T m0 a [.ref m0, .int p0, .int p1] r q (fun v u => True) := sorry
abbrev ws_X11_post : List Cond := Cond.code yX11_post cX11_post 3 (some .int) :: W0
abbrev rm_X11_post : Room := ({ frames := 8, cells := 0, slots := 0, locals := 183 } : Room)
theorem k_X11_post (l : Launch) (D : va_G) (T : Nat → ClassId) (m0 : Nat) (a : Nat → Nat) (p0 : Int32) (r : Nat → Int32) (q : Nat → Nat → Int32) : RMi l yX11_post (ws_X11_post) rm_X11_post D T m0 a [.ref m0, .int p0] r q (fun v u => True) := sorry
end S_TODO

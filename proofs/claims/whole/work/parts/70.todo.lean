section S_TODO

/-- the statements stand in their rows -/
def stL (w u : Nat → Int32) (hi : Nat) (l : List STM) : Prop := ∀ j x, l[j]? = some x → stK w u (8 * j) hi x

def gl (G : List Nat) (i : Nat) : Nat := (G[i]?).getD 0
abbrev MS : Type := Int32 × Option (Nat × Nat)
def gaF (T : Nat → Int32) (G : List Nat) (a b : Nat) : Int32 := T (gl G a) + T (gl G b) - T (gl G a ||| gl G b)
def sonB (T : Nat → Int32) (G : List Nat) (a b : Nat) (s : MS) : Bool := match s.2 with | none => false | some (o, p) => decide (gaF T G a b = s.1) && (decide (gl G a < gl G o) || (decide (gl G a = gl G o) && decide (gl G b < gl G p)))
/-- one pair more -/
def fpS (T : Nat → Int32) (G : List Nat) (a b : Nat) (s : MS) : MS := if gl G a < gl G b ∧ 0 ≤ T (gl G a ||| gl G b) then (if s.1 < gaF T G a b ∨ sonB T G a b s = true then (gaF T G a b, some (a, b)) else s) else s
def fpB (T : Nat → Int32) (G : List Nat) (a : Nat) : Nat → Nat → MS → MS
  | 0, _, s => s
  | k + 1, b, s => fpB T G a k (b + 1) (fpS T G a b s)
def fpA (T : Nat → Int32) (G : List Nat) : Nat → Nat → MS → MS
  | 0, _, s => s
  | k + 1, a, s => fpA T G k (a + 1) (fpB T G a G.length 0 s)
def fpF (T : Nat → Int32) (G : List Nat) : MS := fpA T G G.length 0 (0, none)
def mgS (G : List Nat) (a b : Nat) : List Nat := ((G.set a (gl G a ||| gl G b)).set b (gl (G.set a (gl G a ||| gl G b)) (G.length - 1))).dropLast
def mgL (T : Nat → Int32) : Nat → List Nat → List Nat
  | 0, G => G
  | k + 1, G => match (fpF T G).2 with | none => G | some (a, b) => mgL T k (mgS G a b)
/-- the members of a set, each alone -/
def siL (n : Nat) : Nat → Nat → List Nat
  | 0, _ => []
  | k + 1, s => if n.testBit s = true then 2 ^ s :: siL n k (s + 1) else siL n k (s + 1)
/-- the groups of the plain merging -/
def meF (μ : Nat → Int32) (n : Nat) : List Nat := mgL (ttF μ) 10 (siL n (iv (μ 1)) 0)
def suL (T : Nat → Int32) : List Nat → Int32 → Int32
  | [], x => x
  | g :: l, x => suL T l (x + T g)
def loL (s : Nat) : List Nat → Int32 → Int32
  | [], x => x
  | g :: l, x => loL s l (if g.testBit s = true then nI g else x)
def meC (μ : Nat → Int32) (g w : Int32) : Int32 := if lckF μ g 8 = 0 then (if zin w 0 2 = 0 then 2 else match rfF μ (iv g) with | none => 0 | some _ => 3) else lckF μ g 8
def meA (μ : Nat → Int32) (n : Nat) (w : Int32) : Int32 := if w = 0 then suL (ttF μ) (meF μ n) 0 else if w = 1 then nI (meF μ n).length else loL (lowN n) (meF μ n) 0
/-- the groups as they stand in the row of ten -/
def alL (w : Nat → Int32) (n : Nat) : List Nat := (List.range n).map (fun i => iv (w i))
def grO (r : Nat → Int32) (q : Nat → Nat → Int32) : Prop := ∃ n : Nat, n ≤ 10 ∧ r 36 = nI n ∧ ∀ i, i < n → ∃ g : Nat, 0 < g ∧ g < 1024 ∧ q 11 i = nI g
def lmP (r : Nat → Int32) (q : Nat → Nat → Int32) (n : Nat) (r1 : Nat → Int32) (q1 : Nat → Nat → Int32) : Prop := kR r r1 [7, 17, 18, 19, 20, 21, 22, 23, 24, 25, 26, 27, 28, 36, 38, 39] ∧ kQ q q1 [7, 11] ∧ (∀ p, 0 < p → sub p n → q1 7 p = ttF (q 0) p) ∧ (meF (q 0) n).length ≤ 10 ∧ r1 36 = nI (meF (q 0) n).length ∧ (∀ i, i < (meF (q 0) n).length → q1 11 i = nI (gl (meF (q 0) n) i)) ∧ ∀ g, g ∈ meF (q 0) n → 0 < g ∧ sub g n

abbrev ws_X11_findsPair : List Cond := Cond.code yX11_findsPair cX11_findsPair 7 (some .boolean) :: W0
abbrev rm_X11_findsPair : Room := ({ frames := 0, cells := 0, slots := 0, locals := 0 } : Room)
theorem k_X11_findsPair (l : Launch) (D : va_G) (T : Nat → ClassId) (m0 : Nat) (a : Nat → Nat)  (r : Nat → Int32) (q : Nat → Nat → Int32) (h : grO r q) : RMi l yX11_findsPair (ws_X11_findsPair) rm_X11_findsPair D T m0 a [.ref m0] r q (fun v u => (u.2 = q ∧ v = (match (fpF (q 7) (alL (q 11) (iv (r 36)))).2 with | none => 0 | some _ => 1) ∧ kR r u.1 [38, 39] ∧ ∀ a b, (fpF (q 7) (alL (q 11) (iv (r 36)))).2 = some (a, b) → a < iv (r 36) ∧ b < iv (r 36) ∧ u.1 38 = nI a ∧ u.1 39 = nI b)) := sorry
abbrev ws_X11_shares : List Cond := Cond.code yX11_shares cX11_shares 8 none :: W0
abbrev rm_X11_shares : Room := ({ frames := 6, cells := 0, slots := 0, locals := 139 } : Room)
theorem k_X11_shares (l : Launch) (D : va_G) (T : Nat → ClassId) (m0 : Nat) (a : Nat → Nat) (p0 : Int32) (r : Nat → Int32) (q : Nat → Nat → Int32) : RMv l yX11_shares (ws_X11_shares) rm_X11_shares D T m0 a [.ref m0, .int p0] r q (fun u => True) := sorry
abbrev ws_X11_amend : List Cond := Cond.code yX11_amend cX11_amend 6 (some .int) :: W0
abbrev rm_X11_amend : Room := ({ frames := 7, cells := 0, slots := 0, locals := 158 } : Room)
theorem k_X11_amend (l : Launch) (D : va_G) (T : Nat → ClassId) (m0 : Nat) (a : Nat → Nat) (p0 : Int32) (r : Nat → Int32) (q : Nat → Nat → Int32) (h : WF (q 0) ∧ FW r ∧ CW8 r) : RMi l yX11_amend (ws_X11_amend) rm_X11_amend D T m0 a [.ref m0, .int p0] r q (fun v u => (amP r q p0 v u.1 u.2)) := sorry
abbrev ws_X11_layMerged : List Cond := Cond.code yX11_layMerged cX11_layMerged 3 none :: W0
abbrev rm_X11_layMerged : Room := ({ frames := 7, cells := 0, slots := 0, locals := 161 } : Room)
theorem k_X11_layMerged (l : Launch) (D : va_G) (T : Nat → ClassId) (m0 : Nat) (a : Nat → Nat) (p0 : Int32) (r : Nat → Int32) (q : Nat → Nat → Int32) (h : WF (q 0) ∧ gok (q 0) p0) : RMv l yX11_layMerged (ws_X11_layMerged) rm_X11_layMerged D T m0 a [.ref m0, .int p0] r q (fun u => (lmP r q (iv p0) u.1 u.2)) := sorry
abbrev ws_X11_merged : List Cond := Cond.code yX11_merged cX11_merged 6 (some .int) :: W0
abbrev rm_X11_merged : Room := ({ frames := 8, cells := 0, slots := 0, locals := 183 } : Room)
theorem k_X11_merged (l : Launch) (D : va_G) (T : Nat → ClassId) (m0 : Nat) (a : Nat → Nat) (p0 : Int32) (p1 : Int32) (r : Nat → Int32) (q : Nat → Nat → Int32) (h : WF (q 0)) : RMi l yX11_merged (ws_X11_merged) rm_X11_merged D T m0 a [.ref m0, .int p0, .int p1] r q (fun v u => (kQ q u.2 [7, 11] ∧ kR r u.1 SC ∧ u.1 6 = meC (q 0) p0 p1 ∧ (meC (q 0) p0 p1 = 0 → v = meA (q 0) (iv p0) p1))) := sorry
abbrev ws_X11_post : List Cond := Cond.code yX11_post cX11_post 3 (some .int) :: W0
abbrev rm_X11_post : Room := ({ frames := 8, cells := 0, slots := 0, locals := 183 } : Room)
theorem k_X11_post (l : Launch) (D : va_G) (T : Nat → ClassId) (m0 : Nat) (a : Nat → Nat) (p0 : Int32) (r : Nat → Int32) (q : Nat → Nat → Int32) : RMi l yX11_post (ws_X11_post) rm_X11_post D T m0 a [.ref m0, .int p0] r q (fun v u => True) := sorry
end S_TODO

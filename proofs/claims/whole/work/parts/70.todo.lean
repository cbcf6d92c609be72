section S_TODO
/-- a test as a number -/
def tsN (y : Nat × TS) : Nat := iv (tsE (nI y.1) y.2)
def tsW (t : TS) : Prop := ∃ kd by_ v : Nat, t.2.1 = nI kd ∧ t.2.2.1 = nI by_ ∧ t.2.2.2 = nI v ∧ kd ≤ 4 ∧ by_ ≤ 2 ∧ v ≤ 9999
def txL : List (Nat × TS) → Nat
  | [] => 0
  | y :: l => 1 + (teL (tsN y)).length + txL l
/-- a statement that has been read well -/
def stW (x : STM) : Prop := (x.1.1 = 122 ∧ zix x.1.2.1 ∧ bn x.1.2.2.1 9999 ∧ bn x.1.2.2.2 9999) ∨ (x.1.1 = 98 ∧ zix x.1.2.1 ∧ bn x.1.2.2.1 9999 ∧ bn x.1.2.2.2 9999) ∨ (x.1.1 = 109 ∧ zix x.1.2.1 ∧ bn x.1.2.2.1 9999) ∨ ((x.1.1 = 100 ∨ x.1.1 = 102 ∨ x.1.1 = 115 ∨ x.1.1 = 99) ∧ bn x.1.2.1 9999) ∨ (x.1.1 = 97 ∧ six x.1.2.1 ∧ bn x.1.2.2.1 9999 ∧ bn x.1.2.2.2 2 ∧ x.2.1.1.length ≤ 30 ∧ x.2.1.2 ≤ 30 ∧ (∀ y, y ∈ x.2.1.1 → y.1 < x.2.1.2 ∧ tsW y.2) ∧ txL x.2.1.1 ≤ 80 ∧ (x.2.2 = -1 ∨ bn x.2.2 9)) ∨ (x.1.1 = 114 ∧ six x.1.2.1)
def amL (b : Nat → Int32) (n : Nat) : Nat → PS → List STM × PS
  | 0, σ => ([], σ)
  | k + 1, σ => if tkB b n (stR b n σ).2 59 = true then ((stR b n σ).1 :: (amL b n k (tkS b n (stR b n σ).2 59)).1, (amL b n k (tkS b n (stR b n σ).2 59)).2) else ([(stR b n σ).1], (stR b n σ).2)
def amF (b : Nat → Int32) (n : Nat) : List STM × PS := amL b n 81 (0, false)
def crBx (μ : Nat → Int32) (v : Nat) (x : STM) : Bool := crB μ v x.1.1 x.1.2.1 x.1.2.2.1 x.1.2.2.2
def tvF (l : List (Nat × TS)) : Nat → Int32 := fun j => match l[j]? with | some y => tsE (nI y.1) y.2 | none => 0
def crSx (μ : Nat → Int32) (v : Nat) (x : STM) : Nat → Int32 := crS μ v x.1.1 x.1.2.1 x.1.2.2.1 x.1.2.2.2 (nI x.2.1.2) (nI x.2.1.1.length) (tvF x.2.1.1) x.2.2
/-- all statements, one after the other: the first that is impossible, the row -/
def amG (v : Nat) : List STM → Nat → (Nat → Int32) → Option Nat × (Nat → Int32)
  | [], _, μ => (none, μ)
  | x :: l, i, μ => if crBx μ v x = true then amG v l (i + 1) (crSx μ v x) else (some i, μ)
def amP (r : Nat → Int32) (q : Nat → Nat → Int32) (p v : Int32) (r1 : Nat → Int32) (q1 : Nat → Nat → Int32) : Prop := kR r r1 (5 :: 8 :: 12 :: SC) ∧ kQ q q1 [0, 2, 3, 5, 6] ∧ r1 8 = 0 ∧ (zin p 0 (q 0 0 - 1) = 0 → r1 6 = 1 ∧ r1 5 = r 5 ∧ r1 12 = r 12 ∧ q1 0 = q 0 ∧ q1 3 = q 3) ∧ (¬ zin p 0 (q 0 0 - 1) = 0 → ((amF (q 4) (iv (r 8))).2.2 = true ∨ (amF (q 4) (iv (r 8))).2.1 < iv (r 8)) → r1 6 = 0 ∧ v = (-100) - nI (amF (q 4) (iv (r 8))).2.1 ∧ r1 5 = r 5 ∧ r1 12 = r 12 ∧ q1 0 = q 0 ∧ q1 3 = q 3) ∧ (¬ zin p 0 (q 0 0 - 1) = 0 → (amF (q 4) (iv (r 8))).2.2 = false → iv (r 8) ≤ (amF (q 4) (iv (r 8))).2.1 → (∀ i, (amG (iv p) (amF (q 4) (iv (r 8))).1 0 (q 0)).1 = some i → r1 6 = 2 ∧ r1 12 = nI i ∧ r1 5 = r 5 ∧ (∀ k, k < 3334 → q1 0 k = q 0 k) ∧ q1 3 = q 3) ∧ ((amG (iv p) (amF (q 4) (iv (r 8))).1 0 (q 0)).1 = none → r1 6 = 0 ∧ r1 12 = r 12 ∧ v = nI (amF (q 4) (iv (r 8))).1.length ∧ q1 0 = (amG (iv p) (amF (q 4) (iv (r 8))).1 0 (q 0)).2 ∧ psh (q 3) (q1 3) (q 0) (r 5) (r1 5)))

def rfR (μ : Nat → Int32) (n : Nat) : Int32 := match rfF μ n with | none => 0 | some s => nI (rsnD μ (2 ^ s)).1
def rfT (μ : Nat → Int32) (n : Nat) : Int32 := match rfF μ n with | none => 0 | some s => (rsnD μ (2 ^ s)).2
/-- why a set cannot be consolidated -/
def conC (μ : Nat → Int32) (g : Int32) (m : Nat) : Int32 := if lckF μ g m = 0 then (match rfF μ (iv g) with | none => 0 | some _ => 3) else lckF μ g m
def gpL (F : Nat → Int32) : Nat → Nat → Nat
  | 0, n => n
  | k + 1, n => gpL F k (dif n (iv (F n)))
def grC (μ : Nat → Int32) (g i : Int32) : Int32 := if conC μ g 8 = 0 then (if i = -1 then 0 else if zin i 0 ((dpZ (ttF μ) (iv g)).2.1 (iv g) - 1) = 0 then 4 else 0) else conC μ g 8
def grA (μ : Nat → Int32) (n : Nat) (i : Int32) : Int32 := if i = -1 then (dpZ (ttF μ) n).2.1 n else (dpZ (ttF μ) n).2.2 (gpL (dpZ (ttF μ) n).2.2 (iv i) n)
def dpQ (T : Nat → Int32) (t : T3) (p : Nat) : Prop := ∃ g, 0 < g ∧ sub g p ∧ g.testBit (lowN p) = true ∧ 0 ≤ T g ∧ t.1 p = T g + t.1 (dif p g) ∧ t.2.1 p = 1 + t.2.1 (dif p g) ∧ t.2.2 p = nI g

abbrev ws_X11_findsPair : List Cond := Cond.code yX11_findsPair cX11_findsPair 7 (some .boolean) :: W0
abbrev rm_X11_findsPair : Room := ({ frames := 0, cells := 0, slots := 0, locals := 0 } : Room)
theorem k_X11_findsPair (l : Launch) (D : va_G) (T : Nat → ClassId) (m0 : Nat) (a : Nat → Nat)  (r : Nat → Int32) (q : Nat → Nat → Int32) : RMi l yX11_findsPair (ws_X11_findsPair) rm_X11_findsPair D T m0 a [.ref m0] r q (fun v u => True) := sorry
abbrev ws_X11_shares : List Cond := Cond.code yX11_shares cX11_shares 8 none :: W0
abbrev rm_X11_shares : Room := ({ frames := 6, cells := 0, slots := 0, locals := 139 } : Room)
theorem k_X11_shares (l : Launch) (D : va_G) (T : Nat → ClassId) (m0 : Nat) (a : Nat → Nat) (p0 : Int32) (r : Nat → Int32) (q : Nat → Nat → Int32) : RMv l yX11_shares (ws_X11_shares) rm_X11_shares D T m0 a [.ref m0, .int p0] r q (fun u => True) := sorry
abbrev ws_X11_amend : List Cond := Cond.code yX11_amend cX11_amend 6 (some .int) :: W0
abbrev rm_X11_amend : Room := ({ frames := 7, cells := 0, slots := 0, locals := 158 } : Room)
theorem k_X11_amend (l : Launch) (D : va_G) (T : Nat → ClassId) (m0 : Nat) (a : Nat → Nat) (p0 : Int32) (r : Nat → Int32) (q : Nat → Nat → Int32) (h : WF (q 0) ∧ FW r ∧ CW8 r) : RMi l yX11_amend (ws_X11_amend) rm_X11_amend D T m0 a [.ref m0, .int p0] r q (fun v u => (amP r q p0 v u.1 u.2)) := sorry
abbrev ws_X11_layMerged : List Cond := Cond.code yX11_layMerged cX11_layMerged 3 none :: W0
abbrev rm_X11_layMerged : Room := ({ frames := 7, cells := 0, slots := 0, locals := 161 } : Room)
theorem k_X11_layMerged (l : Launch) (D : va_G) (T : Nat → ClassId) (m0 : Nat) (a : Nat → Nat) (p0 : Int32) (r : Nat → Int32) (q : Nat → Nat → Int32) : RMv l yX11_layMerged (ws_X11_layMerged) rm_X11_layMerged D T m0 a [.ref m0, .int p0] r q (fun u => True) := sorry
abbrev ws_X11_consolidate : List Cond := Cond.code yX11_consolidate cX11_consolidate 2 (some .int) :: W0
abbrev rm_X11_consolidate : Room := ({ frames := 8, cells := 0, slots := 0, locals := 183 } : Room)
theorem k_X11_consolidate (l : Launch) (D : va_G) (T : Nat → ClassId) (m0 : Nat) (a : Nat → Nat) (p0 : Int32) (r : Nat → Int32) (q : Nat → Nat → Int32) (h : WF (q 0)) : RMi l yX11_consolidate (ws_X11_consolidate) rm_X11_consolidate D T m0 a [.ref m0, .int p0] r q (fun v u => (kQ q u.2 [7, 8, 9, 10] ∧ kR r u.1 SCK ∧ u.1 6 = conC (q 0) p0 8 ∧ (conC (q 0) p0 8 = 0 → v = (dpZ (ttF (q 0)) (iv p0)).1 (iv p0)) ∧ u.1 29 = (if conC (q 0) p0 8 = 3 then rfR (q 0) (iv p0) else r 29) ∧ u.1 30 = (if conC (q 0) p0 8 = 3 then rfT (q 0) (iv p0) else r 30))) := sorry
abbrev ws_X11_group : List Cond := Cond.code yX11_group cX11_group 5 (some .int) :: W0
abbrev rm_X11_group : Room := ({ frames := 8, cells := 0, slots := 0, locals := 183 } : Room)
theorem k_X11_group (l : Launch) (D : va_G) (T : Nat → ClassId) (m0 : Nat) (a : Nat → Nat) (p0 : Int32) (p1 : Int32) (r : Nat → Int32) (q : Nat → Nat → Int32) (h : WF (q 0)) : RMi l yX11_group (ws_X11_group) rm_X11_group D T m0 a [.ref m0, .int p0, .int p1] r q (fun v u => (kQ q u.2 [7, 8, 9, 10] ∧ kR r u.1 SC ∧ u.1 6 = grC (q 0) p0 p1 ∧ (grC (q 0) p0 p1 = 0 → v = grA (q 0) (iv p0) p1))) := sorry
abbrev ws_X11_searched : List Cond := Cond.code yX11_searched cX11_searched 2 (some .int) :: W0
abbrev rm_X11_searched : Room := ({ frames := 8, cells := 0, slots := 0, locals := 183 } : Room)
theorem k_X11_searched (l : Launch) (D : va_G) (T : Nat → ClassId) (m0 : Nat) (a : Nat → Nat) (p0 : Int32) (r : Nat → Int32) (q : Nat → Nat → Int32) (h : WF (q 0)) : RMi l yX11_searched (ws_X11_searched) rm_X11_searched D T m0 a [.ref m0, .int p0] r q (fun v u => (kQ q u.2 [7, 8, 9, 10] ∧ kR r u.1 SC ∧ u.1 6 = conC (q 0) p0 6 ∧ (conC (q 0) p0 6 = 0 → v = (dpZ (ttF (q 0)) (iv p0)).1 (iv p0)))) := sorry
abbrev ws_X11_merged : List Cond := Cond.code yX11_merged cX11_merged 6 (some .int) :: W0
abbrev rm_X11_merged : Room := ({ frames := 8, cells := 0, slots := 0, locals := 183 } : Room)
theorem k_X11_merged (l : Launch) (D : va_G) (T : Nat → ClassId) (m0 : Nat) (a : Nat → Nat) (p0 : Int32) (p1 : Int32) (r : Nat → Int32) (q : Nat → Nat → Int32) : RMi l yX11_merged (ws_X11_merged) rm_X11_merged D T m0 a [.ref m0, .int p0, .int p1] r q (fun v u => True) := sorry
abbrev ws_X11_post : List Cond := Cond.code yX11_post cX11_post 3 (some .int) :: W0
abbrev rm_X11_post : Room := ({ frames := 8, cells := 0, slots := 0, locals := 183 } : Room)
theorem k_X11_post (l : Launch) (D : va_G) (T : Nat → ClassId) (m0 : Nat) (a : Nat → Nat) (p0 : Int32) (r : Nat → Int32) (q : Nat → Nat → Int32) : RMi l yX11_post (ws_X11_post) rm_X11_post D T m0 a [.ref m0, .int p0] r q (fun v u => True) := sorry
end S_TODO

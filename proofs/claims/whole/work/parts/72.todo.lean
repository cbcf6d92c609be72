section S_CTODO
/-- a state's object and rows, in order of their kinds -/
def StO (S : HS) (x : Nat) : Prop := hK S x = 7 ∧ ∃ a b c d, hR S 140 x = some a ∧ hR S 142 x = some b ∧ hR S 144 x = some c ∧ hR S 145 x = some d ∧ hK S a = 29 ∧ hN S a = 6 ∧ hK S b = 27 ∧ hN S b = 10 ∧ hK S c = 22 ∧ hN S c = 5 ∧ hK S d = 22 ∧ hN S d = 5 ∧ c ≠ d

abbrev ws_X6_copyFrom : List Cond := Cond.code yX6_copyFrom cX6_copyFrom 3 none :: W0
abbrev rm_X6_copyFrom : Room := ({ frames := 0, cells := 0, slots := 0, locals := 0 } : Room)
theorem k_X6_copyFrom (l : Launch) (D : va_G) (T : Nat → ClassId) (x0 : Nat) (p0 : Nat) (S : HS) (e0 : (Nat → Prop)) (e1 : Nat → Int32) (hx0 : hK S x0 = 7) (hp0 : hK S p0 = 7) (h : StO S x0 ∧ WF e1 ∧ RelSt S e0 p0 e1 ∧ (∀ b, stA S x0 b → e0 b) ∧ (∀ b, stA S x0 b → ¬ stA S p0 b)) : CMv l yX6_copyFrom (ws_X6_copyFrom) rm_X6_copyFrom D T [.ref x0, .ref p0] S 0 0 (fun S1 => (frM S S1 (stA S x0) ∧ hK S1 = hK S ∧ hN S1 = hN S ∧ hR S1 = hR S ∧ RelSt S1 e0 x0 e1)) := sorry
abbrev ws_X6_addVersion : List Cond := Cond.code yX6_addVersion cX6_addVersion 2 (some .int) :: W0
abbrev rm_X6_addVersion : Room := ({ frames := 0, cells := 0, slots := 0, locals := 0 } : Room)
theorem k_X6_addVersion (l : Launch) (D : va_G) (T : Nat → ClassId) (x0 : Nat) (p0 : Nat) (S : HS) (e0 : Nat) (e1 : Nat) (hx0 : hK S x0 = 7) (hp0 : hK S p0 = 10) (h : hR S 140 x0 = some e0 ∧ hK S e0 = 29 ∧ hN S e0 = 6 ∧ hI S 141 x0 = nI e1 ∧ e1 < 6) : CMi l yX6_addVersion (ws_X6_addVersion) rm_X6_addVersion D T [.ref x0, .ref p0] S 0 0 (fun v S1 => (v = nI e1 ∧ S1 = putI (putB S e0 e1 (some p0)) 141 x0 (nI (e1 + 1)))) := sorry
abbrev ws_X6_addShipment : List Cond := Cond.code yX6_addShipment cX6_addShipment 2 (some .int) :: W0
abbrev rm_X6_addShipment : Room := ({ frames := 0, cells := 0, slots := 0, locals := 0 } : Room)
theorem k_X6_addShipment (l : Launch) (D : va_G) (T : Nat → ClassId) (x0 : Nat) (p0 : Nat) (S : HS) (e0 : Nat) (e1 : Nat) (hx0 : hK S x0 = 7) (hp0 : hK S p0 = 6) (h : hR S 142 x0 = some e0 ∧ hK S e0 = 27 ∧ hN S e0 = 10 ∧ hI S 143 x0 = nI e1 ∧ e1 < 10) : CMi l yX6_addShipment (ws_X6_addShipment) rm_X6_addShipment D T [.ref x0, .ref p0] S 0 0 (fun v S1 => (v = nI e1 ∧ S1 = putI (putB S e0 e1 (some p0)) 143 x0 (nI (e1 + 1)))) := sorry
end S_CTODO

section S_CTODO
def andF (a b : Int32) : Int32 := if a = 0 then 0 else if b = 0 then 0 else 1
/-- an accessorial that is there -/
def acX (μ : Nat → Int32) (v : Nat) (a : Int32) : Prop := ¬ zin a 0 9 = 0 ∧ ¬ μ (274 + 510 * v + 150 + 36 * iv a) = 0
/-- an array of ints that is not among the changing ones -/
def fz (S : HS) (M : Nat → Prop) (x k n : Nat) : Prop := hK S x = k ∧ hN S x = n ∧ ¬ M x
/-- a test's object against its number -/
def RelT (S : HS) (M : Nat → Prop) (t n : Nat) (op : Prop) : Prop := hK S t = 9 ∧ ¬ M t ∧ (op → hI S 180 t = 1) ∧ (¬ op → hI S 180 t = 0) ∧ hI S 181 t = (if n / 150000 % 2 = 1 then 1 else 0) ∧ hI S 182 t = letF (nI (n / 30000 % 5)) ∧ (0 < n / 30000 % 5 → hI S 183 t = (if n / 10000 % 3 = 0 then 60 else if n / 10000 % 3 = 1 then 62 else 61)) ∧ hI S 184 t = nI (n % 10000)
def RelA (S : HS) (M : Nat → Prop) (x : Nat) (μ : Nat → Int32) (v a : Nat) : Prop := hK S x = 1 ∧ ¬ M x ∧ hI S 20 x = μ (274 + 510 * v + 150 + 36 * a + 1) ∧ hI S 21 x = μ (274 + 510 * v + 150 + 36 * a + 2) ∧ hI S 22 x = μ (274 + 510 * v + 150 + 36 * a + 5) ∧ hI S 23 x = μ (274 + 510 * v + 150 + 36 * a + 3) ∧ ∃ al ar, hR S 24 x = some al ∧ hK S al = 13 ∧ ¬ M al ∧ hR S 261 al = some ar ∧ hK S ar = 30 ∧ ¬ M ar ∧ hI S 262 al = μ (274 + 510 * v + 150 + 36 * a + 4) ∧ iv (μ (274 + 510 * v + 150 + 36 * a + 4)) ≤ hN S ar ∧ ∀ j, j < iv (μ (274 + 510 * v + 150 + 36 * a + 4)) → ∃ t, hB S ar j = some t ∧ RelT S M t (iv (μ (274 + 510 * v + 150 + 36 * a + 6 + j))) (j = 0 ∨ ¬ iv (μ (274 + 510 * v + 150 + 36 * a + 6 + j)) / 300000 = iv (μ (274 + 510 * v + 150 + 36 * a + 6 + j - 1)) / 300000)
def RelSc (S : HS) (M : Nat → Prop) (x : Nat) (μ : Nat → Int32) (v z : Nat) : Prop := hK S x = 5 ∧ ¬ M x ∧ hI S 100 x = μ (274 + 510 * v + 38 + z - 1) ∧ hI S 103 x = μ (274 + 510 * v + 137 + z - 1) ∧ ∃ w p, hR S 101 x = some w ∧ hR S 102 x = some p ∧ fz S M w 22 5 ∧ fz S M p 22 5 ∧ ∀ i, i < iv (μ (274 + 510 * v + 38 + z - 1)) → hA S w i = μ (274 + 510 * v + 47 + 10 * (z - 1) + 2 * i) ∧ hA S p i = μ (274 + 510 * v + 47 + 10 * (z - 1) + 2 * i + 1)
def RelV (S : HS) (M : Nat → Prop) (x : Nat) (μ : Nat → Int32) (v : Nat) : Prop := (hK S x = 10 ∧ ¬ M x ∧ hI S 200 x = μ (274 + 510 * v) ∧ hI S 201 x = μ (274 + 510 * v + 1) ∧ hI S 206 x = μ (274 + 510 * v + 146) ∧ hI S 207 x = μ (274 + 510 * v + 147) ∧ hI S 208 x = μ (274 + 510 * v + 148) ∧ hI S 209 x = μ (274 + 510 * v + 149)) ∧ (∃ f t z, hR S 202 x = some f ∧ hR S 203 x = some t ∧ hR S 204 x = some z ∧ fz S M f 22 12 ∧ fz S M t 22 12 ∧ fz S M z 22 12 ∧ ∀ i, i < iv (μ (274 + 510 * v + 1)) → hA S f i = μ (274 + 510 * v + 2 + 3 * i) ∧ hA S t i = μ (274 + 510 * v + 2 + 3 * i + 1) ∧ hA S z i = μ (274 + 510 * v + 2 + 3 * i + 2)) ∧ (∃ sc, hR S 205 x = some sc ∧ fz S M sc 26 9 ∧ ∀ z, z < 9 → ∃ y, hB S sc z = some y ∧ RelSc S M y μ v (z + 1)) ∧ ∃ ac, hR S 210 x = some ac ∧ fz S M ac 25 10 ∧ ∀ a, a < 10 → (μ (274 + 510 * v + 150 + 36 * a) = 0 ∧ hB S ac a = none) ∨ (μ (274 + 510 * v + 150 + 36 * a) = 1 ∧ ∃ y, hB S ac a = some y ∧ RelA S M y μ v a)
def RelS (S : HS) (M : Nat → Prop) (x : Nat) (μ : Nat → Int32) (s : Nat) : Prop := hK S x = 6 ∧ ¬ M x ∧ hI S 120 x = μ (14 + 26 * s) ∧ hI S 121 x = μ (14 + 26 * s + 1) ∧ hI S 122 x = μ (14 + 26 * s + 2) ∧ hI S 123 x = μ (14 + 26 * s + 3) ∧ hI S 124 x = μ (14 + 26 * s + 4) ∧ hI S 126 x = realF μ s ∧ hI S 127 x = longF μ s ∧ hI S 128 x = μ (14 + 26 * s + 5) ∧ ∃ b, hR S 125 x = some b ∧ fz S M b 22 5 ∧ ∀ p, p < iv (μ (14 + 26 * s + 4)) → hA S b p = volF μ s p
/-- a state's object against the row of numbers -/
def RelSt (S : HS) (M : Nat → Prop) (x : Nat) (μ : Nat → Int32) : Prop := (hK S x = 7 ∧ hI S 141 x = μ 0 ∧ hI S 143 x = μ 1 ∧ hI S 146 x = μ 2 ∧ hI S 147 x = μ 3) ∧ (∃ b, hR S 140 x = some b ∧ hK S b = 29 ∧ hN S b = 6 ∧ ∀ v, v < iv (μ 0) → ∃ y, hB S b v = some y ∧ RelV S M y μ v) ∧ (∃ b, hR S 142 x = some b ∧ hK S b = 27 ∧ hN S b = 10 ∧ ∀ s, s < iv (μ 1) → ∃ y, hB S b s = some y ∧ RelS S M y μ s) ∧ ∃ t p, hR S 144 x = some t ∧ hR S 145 x = some p ∧ hK S t = 22 ∧ hK S p = 22 ∧ hN S t = 5 ∧ hN S p = 5 ∧ ∀ i, i < iv (μ 2) → hA S t i = μ (4 + 2 * i) ∧ hA S p i = μ (4 + 2 * i + 1)

/-- the rebates' thresholds are not negative -/
def stO (μ : Nat → Int32) : Prop := ∀ i, i < iv (μ 2) → 0 ≤ μ (4 + 2 * i)



abbrev ws_X4_amountBy : List Cond := Cond.code yX4_amountBy cX4_amountBy 3 (some .int) :: W0
abbrev rm_X4_amountBy : Room := ({ frames := 1, cells := 0, slots := 0, locals := 21 } : Room)
theorem k_X4_amountBy (l : Launch) (D : va_G) (T : Nat → ClassId) (x0 : Nat) (p0 : Int32) (p1 : Int32) (S : HS) (e0 : (Nat → Prop)) (e1 : Nat → Int32) (e2 : Nat) (e3 : Nat) (hx0 : hK S x0 = 5) (h : WF e1 ∧ e2 < 6 ∧ 1 ≤ e3 ∧ e3 ≤ 9 ∧ RelSc S e0 x0 e1 e2 e3 ∧ ∃ i : Nat, i < iv (e1 (274 + 510 * e2 + 38 + e3 - 1)) ∧ p0 = nI i) : CMi l yX4_amountBy (ws_X4_amountBy) rm_X4_amountBy D T [.ref x0, .int p0, .int p1] S 0 0 (fun v S1 => v = (amtF e1 e2 e3 (iv p0) p1) ∧ S1 = S) := sorry
abbrev ws_X5_isPosted : List Cond := Cond.code yX5_isPosted cX5_isPosted 1 (some .boolean) :: W0
abbrev rm_X5_isPosted : Room := ({ frames := 0, cells := 0, slots := 0, locals := 0 } : Room)
theorem k_X5_isPosted (l : Launch) (D : va_G) (T : Nat → ClassId) (x0 : Nat) (S : HS) (e0 : (Nat → Prop)) (e1 : Nat → Int32) (e2 : Nat) (hx0 : hK S x0 = 6) (h : WF e1 ∧ e2 < 10 ∧ RelS S e0 x0 e1 e2) : CMi l yX5_isPosted (ws_X5_isPosted) rm_X5_isPosted D T [.ref x0] S 0 0 (fun v S1 => v = (psF e1 e2) ∧ S1 = S) := sorry
abbrev ws_X5_volume : List Cond := Cond.code yX5_volume cX5_volume 3 (some .int) :: W0
abbrev rm_X5_volume : Room := ({ frames := 0, cells := 0, slots := 0, locals := 0 } : Room)
theorem k_X5_volume (l : Launch) (D : va_G) (T : Nat → ClassId) (x0 : Nat) (S : HS) (e0 : (Nat → Prop)) (e1 : Nat → Int32) (e2 : Nat) (hx0 : hK S x0 = 6) (h : WF e1 ∧ e2 < 10 ∧ RelS S e0 x0 e1 e2) : CMi l yX5_volume (ws_X5_volume) rm_X5_volume D T [.ref x0] S 0 0 (fun v S1 => v = (dimF e1 e2 1) ∧ S1 = S) := sorry
abbrev ws_X5_dimensionalWeight : List Cond := Cond.code yX5_dimensionalWeight cX5_dimensionalWeight 4 (some .int) :: W0
abbrev rm_X5_dimensionalWeight : Room := ({ frames := 0, cells := 0, slots := 0, locals := 0 } : Room)
theorem k_X5_dimensionalWeight (l : Launch) (D : va_G) (T : Nat → ClassId) (x0 : Nat) (p0 : Int32) (S : HS) (e0 : (Nat → Prop)) (e1 : Nat → Int32) (e2 : Nat) (hx0 : hK S x0 = 6) (h : WF e1 ∧ e2 < 10 ∧ RelS S e0 x0 e1 e2 ∧ ∃ d : Nat, 1 ≤ d ∧ d ≤ 9999 ∧ p0 = nI d) : CMi l yX5_dimensionalWeight (ws_X5_dimensionalWeight) rm_X5_dimensionalWeight D T [.ref x0, .int p0] S 0 0 (fun v S1 => v = (dimF e1 e2 p0) ∧ S1 = S) := sorry
abbrev ws_X9_accessorialSet : List Cond := Cond.code yX9_accessorialSet cX9_accessorialSet 3 (some .int) :: W0
abbrev rm_X9_accessorialSet : Room := ({ frames := 0, cells := 0, slots := 0, locals := 0 } : Room)
theorem k_X9_accessorialSet (l : Launch) (D : va_G) (T : Nat → ClassId) (x0 : Nat) (S : HS) (e0 : (Nat → Prop)) (e1 : Nat → Int32) (e2 : Nat) (hx0 : hK S x0 = 10) (h : WF e1 ∧ e2 < 6 ∧ RelV S e0 x0 e1 e2) : CMi l yX9_accessorialSet (ws_X9_accessorialSet) rm_X9_accessorialSet D T [.ref x0] S 0 0 (fun v S1 => v = (eSet e1 e2) ∧ S1 = S) := sorry
abbrev ws_X9_countBreaks : List Cond := Cond.code yX9_countBreaks cX9_countBreaks 3 (some .int) :: W0
abbrev rm_X9_countBreaks : Room := ({ frames := 0, cells := 0, slots := 0, locals := 0 } : Room)
theorem k_X9_countBreaks (l : Launch) (D : va_G) (T : Nat → ClassId) (x0 : Nat) (S : HS) (e0 : (Nat → Prop)) (e1 : Nat → Int32) (e2 : Nat) (hx0 : hK S x0 = 10) (h : WF e1 ∧ e2 < 6 ∧ RelV S e0 x0 e1 e2) : CMi l yX9_countBreaks (ws_X9_countBreaks) rm_X9_countBreaks D T [.ref x0] S 0 0 (fun v S1 => v = (aBr e1 e2) ∧ S1 = S) := sorry
abbrev ws_X10_isBetween : List Cond := Cond.code yX10_isBetween cX10_isBetween 3 (some .boolean) :: W0
abbrev rm_X10_isBetween : Room := ({ frames := 0, cells := 0, slots := 0, locals := 0 } : Room)
theorem k_X10_isBetween (l : Launch) (D : va_G) (T : Nat → ClassId) (p0 : Int32) (p1 : Int32) (p2 : Int32) (S : HS)  : CMi l yX10_isBetween (ws_X10_isBetween) rm_X10_isBetween D T [.int p0, .int p1, .int p2] S 0 0 (fun v S1 => v = (zin p0 p1 p2) ∧ S1 = S) := sorry
abbrev ws_X10_isIn : List Cond := Cond.code yX10_isIn cX10_isIn 2 (some .boolean) :: W0
abbrev rm_X10_isIn : Room := ({ frames := 0, cells := 0, slots := 0, locals := 0 } : Room)
theorem k_X10_isIn (l : Launch) (D : va_G) (T : Nat → ClassId) (p0 : Int32) (p1 : Int32) (S : HS)  : CMi l yX10_isIn (ws_X10_isIn) rm_X10_isIn D T [.int p0, .int p1] S 0 0 (fun v S1 => v = (hasF p0 p1) ∧ S1 = S) := sorry
abbrev ws_X10_percentOf : List Cond := Cond.code yX10_percentOf cX10_percentOf 2 (some .int) :: W0
abbrev rm_X10_percentOf : Room := ({ frames := 0, cells := 0, slots := 0, locals := 0 } : Room)
theorem k_X10_percentOf (l : Launch) (D : va_G) (T : Nat → ClassId) (p0 : Int32) (p1 : Int32) (S : HS)  : CMi l yX10_percentOf (ws_X10_percentOf) rm_X10_percentOf D T [.int p0, .int p1] S 0 0 (fun v S1 => v = (pctF p0 p1) ∧ S1 = S) := sorry
abbrev ws_X4_findCheapest : List Cond := Cond.code yX4_findCheapest cX4_findCheapest 4 (some .int) :: W0
abbrev rm_X4_findCheapest : Room := ({ frames := 2, cells := 0, slots := 0, locals := 43 } : Room)
theorem k_X4_findCheapest (l : Launch) (D : va_G) (T : Nat → ClassId) (x0 : Nat) (p0 : Int32) (S : HS) (e0 : (Nat → Prop)) (e1 : Nat → Int32) (e2 : Nat) (e3 : Nat) (hx0 : hK S x0 = 5) (h : WF e1 ∧ e2 < 6 ∧ 1 ≤ e3 ∧ e3 ≤ 9 ∧ RelSc S e0 x0 e1 e2 e3) : CMi l yX4_findCheapest (ws_X4_findCheapest) rm_X4_findCheapest D T [.ref x0, .int p0] S 0 0 (fun v S1 => v = ((if e1 (274 + 510 * e2 + 38 + e3 - 1) = 0 then -1 else nI (chpF e1 e2 e3 p0))) ∧ S1 = S) := sorry
abbrev ws_X4_chargeFor : List Cond := Cond.code yX4_chargeFor cX4_chargeFor 3 (some .int) :: W0
abbrev rm_X4_chargeFor : Room := ({ frames := 2, cells := 0, slots := 0, locals := 43 } : Room)
theorem k_X4_chargeFor (l : Launch) (D : va_G) (T : Nat → ClassId) (x0 : Nat) (p0 : Int32) (p1 : Int32) (S : HS) (e0 : (Nat → Prop)) (e1 : Nat → Int32) (e2 : Nat) (e3 : Nat) (hx0 : hK S x0 = 5) (h : WF e1 ∧ e2 < 6 ∧ 1 ≤ e3 ∧ e3 ≤ 9 ∧ RelSc S e0 x0 e1 e2 e3 ∧ p0 = nI (chpF e1 e2 e3 p1) ∧ ¬ e1 (274 + 510 * e2 + 38 + e3 - 1) = 0) : CMi l yX4_chargeFor (ws_X4_chargeFor) rm_X4_chargeFor D T [.ref x0, .int p0, .int p1] S 0 0 (fun v S1 => v = (baseF e1 e2 e3 p1) ∧ S1 = S) := sorry
abbrev ws_X6_versionAt : List Cond := Cond.code yX6_versionAt cX6_versionAt 2 (some (.object "FreightRater$Version")) :: W0
abbrev rm_X6_versionAt : Room := ({ frames := 1, cells := 0, slots := 0, locals := 22 } : Room)
theorem k_X6_versionAt (l : Launch) (D : va_G) (T : Nat → ClassId) (x0 : Nat) (p0 : Int32) (S : HS) (e0 : (Nat → Prop)) (e1 : Nat → Int32) (hx0 : hK S x0 = 7) (h : WF e1 ∧ RelSt S e0 x0 e1) : CMq l yX6_versionAt (ws_X6_versionAt) rm_X6_versionAt D T [.ref x0, .int p0] S 0 0 10 (fun v S1 => (S1 = S ∧ (zin p0 0 (e1 0 - 1) = 0 → v = none) ∧ (¬ zin p0 0 (e1 0 - 1) = 0 → ∃ y, v = some y ∧ RelV S e0 y e1 (iv p0)))) := sorry
abbrev ws_X6_shipmentAt : List Cond := Cond.code yX6_shipmentAt cX6_shipmentAt 2 (some (.object "FreightRater$Shipment")) :: W0
abbrev rm_X6_shipmentAt : Room := ({ frames := 1, cells := 0, slots := 0, locals := 22 } : Room)
theorem k_X6_shipmentAt (l : Launch) (D : va_G) (T : Nat → ClassId) (x0 : Nat) (p0 : Int32) (S : HS) (e0 : (Nat → Prop)) (e1 : Nat → Int32) (hx0 : hK S x0 = 7) (h : WF e1 ∧ RelSt S e0 x0 e1) : CMq l yX6_shipmentAt (ws_X6_shipmentAt) rm_X6_shipmentAt D T [.ref x0, .int p0] S 0 0 6 (fun v S1 => (S1 = S ∧ (zin p0 0 (e1 1 - 1) = 0 → v = none) ∧ (¬ zin p0 0 (e1 1 - 1) = 0 → ∃ y, v = some y ∧ RelS S e0 y e1 (iv p0)))) := sorry
abbrev ws_X9_scaleOf : List Cond := Cond.code yX9_scaleOf cX9_scaleOf 2 (some (.object "FreightRater$Scale")) :: W0
abbrev rm_X9_scaleOf : Room := ({ frames := 1, cells := 0, slots := 0, locals := 22 } : Room)
theorem k_X9_scaleOf (l : Launch) (D : va_G) (T : Nat → ClassId) (x0 : Nat) (p0 : Int32) (S : HS) (e0 : (Nat → Prop)) (e1 : Nat → Int32) (e2 : Nat) (hx0 : hK S x0 = 10) (h : WF e1 ∧ e2 < 6 ∧ RelV S e0 x0 e1 e2) : CMq l yX9_scaleOf (ws_X9_scaleOf) rm_X9_scaleOf D T [.ref x0, .int p0] S 0 0 5 (fun v S1 => (S1 = S ∧ (zin p0 1 9 = 0 → v = none) ∧ (¬ zin p0 1 9 = 0 → ∃ y, v = some y ∧ RelSc S e0 y e1 e2 (iv p0)))) := sorry
abbrev ws_X9_accessorialAt : List Cond := Cond.code yX9_accessorialAt cX9_accessorialAt 2 (some (.object "FreightRater$Accessorial")) :: W0
abbrev rm_X9_accessorialAt : Room := ({ frames := 1, cells := 0, slots := 0, locals := 22 } : Room)
theorem k_X9_accessorialAt (l : Launch) (D : va_G) (T : Nat → ClassId) (x0 : Nat) (p0 : Int32) (S : HS) (e0 : (Nat → Prop)) (e1 : Nat → Int32) (e2 : Nat) (hx0 : hK S x0 = 10) (h : WF e1 ∧ e2 < 6 ∧ RelV S e0 x0 e1 e2) : CMq l yX9_accessorialAt (ws_X9_accessorialAt) rm_X9_accessorialAt D T [.ref x0, .int p0] S 0 0 1 (fun v S1 => (S1 = S ∧ (¬ acX e1 e2 p0 → v = none) ∧ (acX e1 e2 p0 → ∃ y, v = some y ∧ RelA S e0 y e1 e2 (iv p0)))) := sorry
abbrev ws_X9_findZone : List Cond := Cond.code yX9_findZone cX9_findZone 3 (some .int) :: W0
abbrev rm_X9_findZone : Room := ({ frames := 1, cells := 0, slots := 0, locals := 22 } : Room)
theorem k_X9_findZone (l : Launch) (D : va_G) (T : Nat → ClassId) (x0 : Nat) (p0 : Int32) (S : HS) (e0 : (Nat → Prop)) (e1 : Nat → Int32) (e2 : Nat) (hx0 : hK S x0 = 10) (h : WF e1 ∧ e2 < 6 ∧ RelV S e0 x0 e1 e2) : CMi l yX9_findZone (ws_X9_findZone) rm_X9_findZone D T [.ref x0, .int p0] S 0 0 (fun v S1 => v = (zIn e1 e2 p0) ∧ S1 = S) := sorry
abbrev ws_X10_isRoute : List Cond := Cond.code yX10_isRoute cX10_isRoute 2 (some .boolean) :: W0
abbrev rm_X10_isRoute : Room := ({ frames := 1, cells := 0, slots := 0, locals := 22 } : Room)
theorem k_X10_isRoute (l : Launch) (D : va_G) (T : Nat → ClassId) (p0 : Int32) (p1 : Int32) (S : HS)  : CMi l yX10_isRoute (ws_X10_isRoute) rm_X10_isRoute D T [.int p0, .int p1] S 0 0 (fun v S1 => v = (andF (zin p0 0 999) (zin p1 0 999)) ∧ S1 = S) := sorry
abbrev ws_X10_isSide : List Cond := Cond.code yX10_isSide cX10_isSide 1 (some .boolean) :: W0
abbrev rm_X10_isSide : Room := ({ frames := 1, cells := 0, slots := 0, locals := 22 } : Room)
theorem k_X10_isSide (l : Launch) (D : va_G) (T : Nat → ClassId) (p0 : Int32) (S : HS)  : CMi l yX10_isSide (ws_X10_isSide) rm_X10_isSide D T [.int p0] S 0 0 (fun v S1 => v = (zin p0 1 200) ∧ S1 = S) := sorry
end S_CTODO

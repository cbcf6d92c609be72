section GCLS
-- kinds: 1 FreightRater$Accessorial, 2 FreightRater$Plan, 3 FreightRater$Rating, 4 FreightRater$Reader, 5 FreightRater$Scale, 6 FreightRater$Shipment, 7 FreightRater$State, 8 FreightRater$Statement, 9 FreightRater$Test, 10 FreightRater$Version, 11 FreightRater, 12 java/lang/StringBuilder, 13 java/util/ArrayList; 20 [B, 21 [C, 22 [I, 25 [LFreightRater$Accessorial;, 26 [LFreightRater$Scale;, 27 [LFreightRater$Shipment;, 28 [LFreightRater$State;, 29 [LFreightRater$Version;, 30 [Ljava/lang/Object;
-- kind 1 fields: 20 number I, 21 kind I, 22 excluded I, 23 rowCount I, 24 tests Ljava/util/ArrayList;
-- kind 2 fields: 40 size I, 41 sets [I, 42 totals [I, 43 bestTotals [I, 44 bestCounts [I, 45 bestFirsts [I, 46 parts [I, 47 partCount I
-- kind 3 fields: 60 count I, 61 members [LFreightRater$Shipment;, 62 numbers [I, 63 reason I, 64 detail I, 65 version I, 66 zone I, 67 weight I, 68 handlings I, 69 pieceCount I, 70 longest I, 71 baseCharge I, 72 paidWeight I, 73 breakWeight I, 74 extras I, 75 counting I, 76 stops I, 77 fuel I
-- kind 4 fields: 80 text [C, 81 length I, 82 at I, 83 hasFailed Z
-- kind 5 fields: 100 count I, 101 weights [I, 102 rates [I, 103 minimum I
-- kind 6 fields: 120 place I, 121 day I, 122 handlings I, 123 customer I, 124 pieceCount I, 125 volumes [I, 126 realWeight I, 127 longest I, 128 share I
-- kind 7 fields: 140 versions [LFreightRater$Version;, 141 versionCount I, 142 shipments [LFreightRater$Shipment;, 143 shipmentCount I, 144 thresholds [I, 145 percentages [I, 146 stepCount I, 147 bookedGroups I
-- kind 8 fields: 160 letter I, 161 target I, 162 first I, 163 second I, 164 accessorial LFreightRater$Accessorial;
-- kind 9 fields: 180 opensRow Z, 181 isNegated Z, 182 subject C, 183 relation C, 184 number I
-- kind 10 fields: 200 firstDay I, 201 rangeCount I, 202 rangeFirsts [I, 203 rangeLasts [I, 204 rangeZones [I, 205 scales [LFreightRater$Scale;, 206 divisor I, 207 fuel I, 208 stopCharge I, 209 capacity I, 210 accessorials [LFreightRater$Accessorial;
-- kind 11 fields: 220 now LFreightRater$State;, 221 saved LFreightRater$State;, 222 isSaved Z, 223 past [LFreightRater$State;, 224 pastEnd I, 225 pastCount I, 226 input [C, 227 inputLength I, 228 sheet Ljava/lang/StringBuilder;, 229 impossibleStatement I, 230 keptReason I, 231 keptDetail I, 232 current LFreightRater$Rating;, 233 plan LFreightRater$Plan;
-- kind 12 fields: 240 value [B, 241 coder B, 242 maybeLatin1 Z, 243 count I
-- kind 13 fields: 260 modCount I, 261 elementData [Ljava/lang/Object;, 262 size I
abbrev HS : Type := (Nat → Nat) × (Nat → Nat) × (Nat → Nat → Int32) × (Nat → Nat → Option Nat) × (Nat → Nat → Int32) × (Nat → Nat → Option Nat)
/-- the kind of what lies at an address; 0: nothing of ours -/
def hK (S : HS) : Nat → Nat := S.1
/-- an array's length -/
def hN (S : HS) : Nat → Nat := S.2.1
/-- an int field, by its number, at an address -/
def hI (S : HS) : Nat → Nat → Int32 := S.2.2.1
/-- a reference field -/
def hR (S : HS) : Nat → Nat → Option Nat := S.2.2.2.1
/-- an array of ints, chars or bytes at an address -/
def hA (S : HS) : Nat → Nat → Int32 := S.2.2.2.2.1
/-- an array of references -/
def hB (S : HS) : Nat → Nat → Option Nat := S.2.2.2.2.2
def up2 {α : Type} (f : Nat → Nat → α) (i a : Nat) (v : α) : Nat → Nat → α := fun j b => if j = i ∧ b = a then v else f j b
theorem up2_self {α : Type} (f : Nat → Nat → α) (i a : Nat) (v : α) : up2 f i a v i a = v := by simp [up2]
theorem up2_i {α : Type} (f : Nat → Nat → α) {i j : Nat} (a b : Nat) (v : α) (h : j ≠ i) : up2 f i a v j b = f j b := by simp [up2, h]
theorem up2_a {α : Type} (f : Nat → Nat → α) (i j : Nat) {a b : Nat} (v : α) (h : b ≠ a) : up2 f i a v j b = f j b := by simp [up2, h]
def putI (S : HS) (i a : Nat) (v : Int32) : HS := (hK S, hN S, up2 (hI S) i a v, hR S, hA S, hB S)
def putR (S : HS) (i a : Nat) (v : Option Nat) : HS := (hK S, hN S, hI S, up2 (hR S) i a v, hA S, hB S)
def putA (S : HS) (a k : Nat) (v : Int32) : HS := (hK S, hN S, hI S, hR S, up2 (hA S) a k v, hB S)
def putB (S : HS) (a k : Nat) (v : Option Nat) : HS := (hK S, hN S, hI S, hR S, hA S, up2 (hB S) a k v)
def newO (S : HS) (q kd : Nat) : HS := (va_up (hK S) q kd, hN S, hI S, hR S, hA S, hB S)
def newA (S : HS) (q kd n : Nat) : HS := (va_up (hK S) q kd, va_up (hN S) q n, hI S, hR S, hA S, hB S)
def newC (S : HS) (q kd n : Nat) (row : Nat → Int32) : HS := (va_up (hK S) q kd, va_up (hN S) q n, hI S, hR S, va_up (hA S) q row, hB S)
/-- which fields of a kind are references -/
def shp : Nat → List Bool
  | 1 => [false, false, false, false, true]
  | 2 => [false, true, true, true, true, true, true, false]
  | 3 => [false, true, true, false, false, false, false, false, false, false, false, false, false, false, false, false, false, false]
  | 4 => [true, false, false, false]
  | 5 => [false, true, true, false]
  | 6 => [false, false, false, false, false, true, false, false, false]
  | 7 => [true, false, true, false, true, true, false, false]
  | 8 => [false, false, false, false, true]
  | 9 => [false, false, false, false, false]
  | 10 => [false, false, true, true, true, true, false, false, false, false, true]
  | 11 => [true, true, false, true, false, false, true, false, true, false, false, false, true, true]
  | 12 => [true, false, false, false]
  | 13 => [false, true, false]
  | _ => []
/-- the kind's place among the classes -/
def clx : Nat → Nat
  | 1 => 5
  | 2 => 6
  | 3 => 7
  | 4 => 8
  | 5 => 9
  | 6 => 10
  | 7 => 11
  | 8 => 12
  | 9 => 13
  | 10 => 14
  | 11 => 15
  | 12 => 1
  | 13 => 4
  | _ => 0
/-- the kind that a reference field points to -/
def tyf : Nat → Nat
  | 24 => 13
  | 41 => 22
  | 42 => 22
  | 43 => 22
  | 44 => 22
  | 45 => 22
  | 46 => 22
  | 61 => 27
  | 62 => 22
  | 80 => 21
  | 101 => 22
  | 102 => 22
  | 125 => 22
  | 140 => 29
  | 142 => 27
  | 144 => 22
  | 145 => 22
  | 164 => 1
  | 202 => 22
  | 203 => 22
  | 204 => 22
  | 205 => 26
  | 210 => 25
  | 220 => 7
  | 221 => 7
  | 223 => 28
  | 226 => 21
  | 228 => 12
  | 232 => 3
  | 233 => 2
  | 240 => 20
  | 261 => 30
  | _ => 0
def eok (ka kb : Nat) : Prop := match ka with
  | 25 => kb = 1
  | 26 => kb = 5
  | 27 => kb = 6
  | 28 => kb = 7
  | 29 => kb = 10
  | _ => kb = 8 ∨ kb = 9
def fsl (S : HS) (a kd : Nat) : Nat → List Bool → List Value
  | _, [] => []
  | k, b :: bs => (if b then va_rf (hR S (20 * kd + k) a) else .int (hI S (20 * kd + k) a)) :: fsl S a kd (k + 1) bs
def wF (T : Nat → ClassId) (S : HS) (a : Nat) : va_E := if hK S a < 20 then .inr (clx (hK S a), fsl S a (hK S a) 0 (shp (hK S a))) else if hK S a < 25 then .inl (T (hK S a - 20), hN S a, .inl (hA S a)) else .inl (T (hK S a - 20), hN S a, .inr (.inr (.inr (.inr (hB S a)))))
/-- the shared empty row of the lists (T 120): known, but none of the world's cells -/
def okG (T : Nat → ClassId) (S : HS) : Prop := (hK S (T 120) = 30 ∧ hN S (T 120) = 0) ∨ hK S (T 120) = 0
def Lf (T : Nat → ClassId) (L : List Nat) : List Nat := L.filter (fun a => !(a == T 120))
noncomputable def gd (T : Nat → ClassId) (S : HS) : va_W := @ite va_W (okG T S) (Classical.propDecidable _) [] [(0, .inr (99, []))]
noncomputable def CW (T : Nat → ClassId) (S : HS) (L : List Nat) : va_W := va_pl (Lf T L) (wF T S) ++ gd T S
def hL (S : HS) (L : List Nat) : Prop := ∀ a, a ∈ L ↔ hK S a ≠ 0
/-- nothing is said where nothing lies -/
def zr (S : HS) (a : Nat) : Prop := (∀ i, hI S i a = 0) ∧ (∀ i, hR S i a = none) ∧ (∀ k, hA S a k = 0) ∧ (∀ k, hB S a k = none)
/-- the pool is typed -/
def wt (S : HS) : Prop := (∀ a, hK S a = 0 → zr S a) ∧ (∀ i a b, hR S i a = some b → hK S b = tyf i) ∧ (∀ a k b, hB S a k = some b → eok (hK S a) (hK S b)) ∧ (∀ i a b, hR S i a = some b → tyf i ≠ 0)
/-- what was there keeps its kind and its length -/
def ext (S S' : HS) : Prop := ∀ a, hK S a ≠ 0 → hK S' a = hK S a ∧ hN S' a = hN S a
theorem ext_rf {S : HS} : ext S S := fun _ _ => ⟨rfl, rfl⟩
theorem ext_tr {S S' S'' : HS} (h : ext S S') (h' : ext S' S'') : ext S S'' := fun a ha => by
  obtain ⟨h1, h2⟩ := h a ha
  obtain ⟨h3, h4⟩ := h' a (by rw [h1]; exact ha)
  exact ⟨h3.trans h1, h4.trans h2⟩
theorem ext_K {S S' : HS} (h : ext S S') {a kd : Nat} (ha : hK S a = kd) (h0 : kd ≠ 0) : hK S' a = kd := by rw [(h a (by rw [ha]; exact h0)).1]; exact ha
theorem ext_putI {S S' : HS} (h : ext S S') (i a : Nat) (v : Int32) : ext S (putI S' i a v) := h
theorem ext_putR {S S' : HS} (h : ext S S') (i a : Nat) (v : Option Nat) : ext S (putR S' i a v) := h
theorem ext_putA {S S' : HS} (h : ext S S') (a k : Nat) (v : Int32) : ext S (putA S' a k v) := h
theorem ext_putB {S S' : HS} (h : ext S S') (a k : Nat) (v : Option Nat) : ext S (putB S' a k v) := h
theorem ext_newO {S S' : HS} (h : ext S S') {q : Nat} (hq : hK S' q = 0) (kd : Nat) : ext S (newO S' q kd) := ext_tr h (fun a ha => ⟨va_up_ne _ _ (fun e => ha (by rw [e]; exact hq)), rfl⟩)
theorem ext_newA {S S' : HS} (h : ext S S') {q : Nat} (hq : hK S' q = 0) (kd n : Nat) : ext S (newA S' q kd n) := ext_tr h (fun a ha => ⟨va_up_ne _ _ (fun e => ha (by rw [e]; exact hq)), va_up_ne _ _ (fun e => ha (by rw [e]; exact hq))⟩)
theorem ext_newC {S S' : HS} (h : ext S S') {q : Nat} (hq : hK S' q = 0) (kd n : Nat) (row : Nat → Int32) : ext S (newC S' q kd n row) := ext_newA h hq kd n
theorem newO_self (S : HS) (q kd : Nat) : hK (newO S q kd) q = kd := va_up_self _ _ _
theorem newA_self (S : HS) (q kd n : Nat) : hK (newA S q kd n) q = kd := va_up_self _ _ _
theorem newC_self (S : HS) (q kd n : Nat) (row : Nat → Int32) : hK (newC S q kd n row) q = kd := va_up_self _ _ _
theorem newO_old {S : HS} {q x k : Nat} (kd : Nat) (hx : hK S x = k) (h0 : k ≠ 0) (hq : hK S q = 0) : hK (newO S q kd) x = k := (va_up_ne _ _ (fun e => h0 (by rw [← hx, e]; exact hq))).trans hx
theorem newA_old {S : HS} {q x k : Nat} (kd n : Nat) (hx : hK S x = k) (h0 : k ≠ 0) (hq : hK S q = 0) : hK (newA S q kd n) x = k := newO_old kd hx h0 hq
theorem newC_old {S : HS} {q x k : Nat} (kd n : Nat) (row : Nat → Int32) (hx : hK S x = k) (h0 : k ≠ 0) (hq : hK S q = 0) : hK (newC S q kd n row) x = k := newO_old kd hx h0 hq
theorem wt_putI {S : HS} (h : wt S) {x : Nat} (i : Nat) (v : Int32) (hx : hK S x ≠ 0) : wt (putI S i x v) := by
  refine ⟨fun a ha => ?_, h.2.1, h.2.2.1, h.2.2.2⟩
  obtain ⟨z1, z2, z3, z4⟩ := h.1 a ha
  refine ⟨fun j => ?_, z2, z3, z4⟩
  show up2 (hI S) i x v j a = 0
  rw [up2_a _ _ _ _ (fun e => hx (by rw [← e]; exact ha))]
  exact z1 j
theorem wt_putA {S : HS} (h : wt S) {x : Nat} (k : Nat) (v : Int32) (hx : hK S x ≠ 0) : wt (putA S x k v) := by
  refine ⟨fun a ha => ?_, h.2.1, h.2.2.1, h.2.2.2⟩
  obtain ⟨z1, z2, z3, z4⟩ := h.1 a ha
  refine ⟨z1, z2, fun j => ?_, z4⟩
  show up2 (hA S) x k v a j = 0
  rw [up2_i _ _ _ _ (fun e => hx (by rw [← e]; exact ha))]
  exact z3 j
theorem wt_putR {S : HS} (h : wt S) {x : Nat} (i : Nat) (v : Option Nat) (hx : hK S x ≠ 0) (hv : ∀ b, v = some b → hK S b = tyf i) (hi : tyf i ≠ 0) : wt (putR S i x v) := by
  refine ⟨fun a ha => ?_, fun j a b hb => ?_, h.2.2.1, fun j a b hb => ?_⟩
  · obtain ⟨z1, z2, z3, z4⟩ := h.1 a ha
    refine ⟨z1, fun j => ?_, z3, z4⟩
    show up2 (hR S) i x v j a = none
    rw [up2_a _ _ _ _ (fun e => hx (by rw [← e]; exact ha))]
    exact z2 j
  · have hb : up2 (hR S) i x v j a = some b := hb
    by_cases e : j = i ∧ a = x
    · obtain ⟨rfl, rfl⟩ := e
      rw [up2_self] at hb
      exact hv b hb
    · rw [show up2 (hR S) i x v j a = hR S j a from if_neg e] at hb
      exact h.2.1 j a b hb
  · have hb : up2 (hR S) i x v j a = some b := hb
    by_cases e : j = i ∧ a = x
    · rw [e.1]; exact hi
    · rw [show up2 (hR S) i x v j a = hR S j a from if_neg e] at hb
      exact h.2.2.2 j a b hb
theorem wt_putB {S : HS} (h : wt S) {x : Nat} (k : Nat) (v : Option Nat) (hx : hK S x ≠ 0) (hv : ∀ b, v = some b → eok (hK S x) (hK S b)) : wt (putB S x k v) := by
  refine ⟨fun a ha => ?_, h.2.1, fun a j b hb => ?_, h.2.2.2⟩
  · obtain ⟨z1, z2, z3, z4⟩ := h.1 a ha
    refine ⟨z1, z2, z3, fun j => ?_⟩
    show up2 (hB S) x k v a j = none
    rw [up2_i _ _ _ _ (fun e => hx (by rw [← e]; exact ha))]
    exact z4 j
  · have hb : up2 (hB S) x k v a j = some b := hb
    by_cases e : a = x ∧ j = k
    · obtain ⟨rfl, rfl⟩ := e
      rw [up2_self] at hb
      exact hv b hb
    · rw [show up2 (hB S) x k v a j = hB S a j from if_neg e] at hb
      exact h.2.2.1 a j b hb
theorem eok_0 {ka : Nat} (h : eok ka 0) : False := by
  unfold eok at h
  split at h <;> first | (exact absurd h (by decide)) | (rcases h with h | h <;> exact absurd h (by decide))
theorem wt_new {S : HS} (h : wt S) {q : Nat} (kd : Nat) (n' : Nat → Nat) (row : Nat → Int32) (hq : hK S q = 0) (h0 : kd ≠ 0) : wt ((va_up (hK S) q kd, n', hI S, hR S, va_up (hA S) q row, hB S) : HS) := by
  have ne : ∀ a, va_up (hK S) q kd a = 0 → a ≠ q ∧ hK S a = 0 := fun a ha => by
    by_cases e : a = q
    · subst e
      rw [va_up_self] at ha
      exact absurd ha h0
    · rw [va_up_ne _ _ e] at ha
      exact ⟨e, ha⟩
  have old : ∀ b k, hK S b = k → k ≠ 0 → va_up (hK S) q kd b = k := fun b k hb hk => by
    rw [va_up_ne _ _ (fun e => hk (by rw [← hb, e]; exact hq))]
    exact hb
  refine ⟨fun a ha => ?_, fun i a b hb => ?_, fun a k b hb => ?_, h.2.2.2⟩
  · obtain ⟨e, ha⟩ := ne a ha
    obtain ⟨z1, z2, z3, z4⟩ := h.1 a ha
    refine ⟨z1, z2, fun k => ?_, z4⟩
    show va_up (hA S) q row a k = 0
    rw [va_up_ne _ _ e]
    exact z3 k
  · have hb : hR S i a = some b := hb
    exact old b _ (h.2.1 i a b hb) (h.2.2.2 i a b hb)
  · have hb : hB S a k = some b := hb
    have hab := h.2.2.1 a k b hb
    have ha : hK S a ≠ 0 := fun e => by rw [(h.1 a e).2.2.2 k] at hb; cases hb
    have hb0 : hK S b ≠ 0 := fun e => by rw [e] at hab; exact eok_0 hab
    show eok (va_up (hK S) q kd a) (va_up (hK S) q kd b)
    rw [old a _ rfl ha, old b _ rfl hb0]
    exact hab
theorem va_up_row {f : Nat → Nat → Int32} {q : Nat} (h : ∀ k, f q k = 0) : va_up f q (fun _ => 0) = f := by
  funext a k
  by_cases e : a = q
  · subst e; rw [va_up_self]; exact (h k).symm
  · rw [va_up_ne _ _ e]
theorem wt_newO {S : HS} (h : wt S) {q : Nat} (kd : Nat) (hq : hK S q = 0) (h0 : kd ≠ 0) : wt (newO S q kd) := by
  have := wt_new h kd (hN S) (fun _ => 0) hq h0
  rw [va_up_row (h.1 q hq).2.2.1] at this
  exact this
theorem wt_newA {S : HS} (h : wt S) {q : Nat} (kd n : Nat) (hq : hK S q = 0) (h0 : kd ≠ 0) : wt (newA S q kd n) := by
  have := wt_new h kd (va_up (hN S) q n) (fun _ => 0) hq h0
  rw [va_up_row (h.1 q hq).2.2.1] at this
  exact this
theorem wt_newC {S : HS} (h : wt S) {q : Nat} (kd n : Nat) (row : Nat → Int32) (hq : hK S q = 0) (h0 : kd ≠ 0) : wt (newC S q kd n row) := wt_new h kd (va_up (hN S) q n) row hq h0
theorem fsl_get {S : HS} {a kd : Nat} : ∀ (bs : List Bool) (j k : Nat) {b : Bool}, bs[k]? = some b → (fsl S a kd j bs)[k]? = some (if b then va_rf (hR S (20 * kd + (j + k)) a) else .int (hI S (20 * kd + (j + k)) a))
  | [], j, k, b, h => by simp at h
  | c :: bs, j, 0, b, h => by
    rw [List.getElem?_cons_zero] at h
    cases h
    rfl
  | c :: bs, j, k + 1, b, h => by
    rw [List.getElem?_cons_succ] at h
    show (fsl S a kd (j + 1) bs)[k]? = _
    rw [fsl_get bs (j + 1) k h, show j + 1 + k = j + (k + 1) by omega]
theorem fsl_len {S : HS} {a kd : Nat} : ∀ (bs : List Bool) (j : Nat), (fsl S a kd j bs).length = bs.length
  | [], j => rfl
  | c :: bs, j => by
    show (fsl S a kd (j + 1) bs).length + 1 = bs.length + 1
    rw [fsl_len bs (j + 1)]
theorem fsl_congr {S S' : HS} {a kd : Nat} : ∀ (bs : List Bool) (j : Nat), (∀ i, 20 * kd + j ≤ i → hI S' i a = hI S i a ∧ hR S' i a = hR S i a) → fsl S' a kd j bs = fsl S a kd j bs
  | [], j, h => rfl
  | c :: bs, j, h => by
    show _ :: fsl S' a kd (j + 1) bs = _ :: fsl S a kd (j + 1) bs
    rw [fsl_congr bs (j + 1) (fun i hi => h i (by omega)), (h (20 * kd + j) (Nat.le_refl _)).1, (h (20 * kd + j) (Nat.le_refl _)).2]
theorem fsl_setI {S : HS} {a kd : Nat} {v : Int32} : ∀ (bs : List Bool) (j k : Nat), bs[k]? = some false → fsl (putI S (20 * kd + (j + k)) a v) a kd j bs = (fsl S a kd j bs).set k (.int v)
  | [], j, k, h => by simp at h
  | c :: bs, j, 0, h => by
    rw [List.getElem?_cons_zero] at h
    cases h
    show (.int (up2 (hI S) (20 * kd + j) a v (20 * kd + j) a) : Value) :: fsl _ a kd (j + 1) bs = .int v :: fsl S a kd (j + 1) bs
    have h9 := fsl_congr (S := S) (S' := putI S (20 * kd + (j + 0)) a v) (a := a) (kd := kd) bs (j + 1) (fun i hi => ⟨show up2 (hI S) (20 * kd + j) a v i a = hI S i a from up2_i _ _ _ _ (by omega), rfl⟩)
    rw [up2_self, h9]
  | c :: bs, j, k + 1, h => by
    rw [List.getElem?_cons_succ] at h
    show (if c then va_rf (hR S (20 * kd + j) a) else .int (up2 (hI S) (20 * kd + (j + (k + 1))) a v (20 * kd + j) a)) :: fsl _ a kd (j + 1) bs = (if c then va_rf (hR S (20 * kd + j) a) else .int (hI S (20 * kd + j) a)) :: (fsl S a kd (j + 1) bs).set k (.int v)
    rw [up2_i _ _ _ _ (by omega), ← fsl_setI bs (j + 1) k h, show j + 1 + k = j + (k + 1) by omega]
theorem fsl_setR {S : HS} {a kd : Nat} {v : Option Nat} : ∀ (bs : List Bool) (j k : Nat), bs[k]? = some true → fsl (putR S (20 * kd + (j + k)) a v) a kd j bs = (fsl S a kd j bs).set k (va_rf v)
  | [], j, k, h => by simp at h
  | c :: bs, j, 0, h => by
    rw [List.getElem?_cons_zero] at h
    cases h
    show va_rf (up2 (hR S) (20 * kd + j) a v (20 * kd + j) a) :: fsl _ a kd (j + 1) bs = va_rf v :: fsl S a kd (j + 1) bs
    have h9 := fsl_congr (S := S) (S' := putR S (20 * kd + (j + 0)) a v) (a := a) (kd := kd) bs (j + 1) (fun i hi => ⟨rfl, show up2 (hR S) (20 * kd + j) a v i a = hR S i a from up2_i _ _ _ _ (by omega)⟩)
    rw [up2_self, h9]
  | c :: bs, j, k + 1, h => by
    rw [List.getElem?_cons_succ] at h
    show (if c then va_rf (up2 (hR S) (20 * kd + (j + (k + 1))) a v (20 * kd + j) a) else .int (hI S (20 * kd + j) a)) :: fsl _ a kd (j + 1) bs = (if c then va_rf (hR S (20 * kd + j) a) else .int (hI S (20 * kd + j) a)) :: (fsl S a kd (j + 1) bs).set k (va_rf v)
    rw [up2_i _ _ _ _ (by omega), ← fsl_setR bs (j + 1) k h, show j + 1 + k = j + (k + 1) by omega]
/-- the same at another address -/
theorem wF_off {T : Nat → ClassId} {S S' : HS} {b : Nat} (h1 : hK S' b = hK S b) (h2 : hN S' b = hN S b) (h3 : ∀ i, hI S' i b = hI S i b) (h4 : ∀ i, hR S' i b = hR S i b) (h5 : hA S' b = hA S b) (h6 : hB S' b = hB S b) : wF T S' b = wF T S b := by
  unfold wF
  rw [h1, h2, h5, h6, fsl_congr _ _ (fun i _ => ⟨h3 i, h4 i⟩)]
theorem wF_obj {T : Nat → ClassId} {S : HS} {x kd : Nat} (hx : hK S x = kd) (h : kd < 20) : wF T S x = .inr (clx kd, fsl S x kd 0 (shp kd)) := by
  unfold wF
  rw [hx, if_pos h]
theorem wF_int {T : Nat → ClassId} {S : HS} {x kd : Nat} (hx : hK S x = kd) (h : 20 ≤ kd) (h2 : kd < 25) : wF T S x = .inl (T (kd - 20), hN S x, .inl (hA S x)) := by
  unfold wF
  rw [hx, if_neg (by omega), if_pos h2]
theorem wF_ref {T : Nat → ClassId} {S : HS} {x kd : Nat} (hx : hK S x = kd) (h : 25 ≤ kd) : wF T S x = .inl (T (kd - 20), hN S x, .inr (.inr (.inr (.inr (hB S x))))) := by
  unfold wF
  rw [hx, if_neg (by omega), if_neg (by omega)]
theorem pl_at {f : Nat → va_E} {L : List Nat} {x : Nat} (h : x ∈ L) : ∃ k : Nat, (va_pl L f)[k]? = some (x, f x) := by
  obtain ⟨k, hk⟩ := va_pl_get (X := []) (f := f) h
  exact ⟨k, by simpa using hk⟩
theorem pl_set {A : Nat → Prop} {f g : Nat → va_E} {L : List Nat} {x k : Nat} {e : va_E} (hD : va_D A (va_pl L f)) (h : x ∈ L) (hk : (va_pl L f)[k]? = some (x, f x)) (hg : g x = e) (ho : ∀ b, b ≠ x → g b = f b) : (va_pl L f).set k (x, e) = va_pl L g := by
  have h1 := va_pl_set (X := []) (e := e) (by simpa using hD) h (by simpa using hk)
  have h2 : (va_pl L f).set k (x, e) = va_pl L (va_up f x e) := by simpa using h1
  rw [h2]
  refine va_pl_congr (fun b => ?_)
  by_cases hb : b = x
  · subst hb; rw [va_up_self, hg]
  · rw [va_up_ne _ _ hb, ho b hb]
theorem pl_push {A : Nat → Prop} {f g : Nat → va_E} {L : List Nat} {q : Nat} {e : va_E} (hD : va_D A (va_pl L f ++ [(q, e)])) (hg : g q = e) (ho : ∀ b, b ≠ q → g b = f b) : q ∉ L ∧ va_pl L f ++ [(q, e)] = va_pl (L ++ [q]) g := by
  have hq : q ∉ L := fun h => by
    obtain ⟨k, hk⟩ := pl_at (f := f) h
    have hl := (List.getElem?_eq_some_iff.mp hk).1
    have h1 : (va_pl L f ++ [(q, e)])[k]? = some (q, f q) := by rw [List.getElem?_append_left hl]; exact hk
    have h2 : (va_pl L f ++ [(q, e)])[(va_pl L f).length]? = some (q, e) := by rw [List.getElem?_append_right (Nat.le_refl _)]; simp
    have := hD.1 _ _ _ _ h1 h2 rfl
    omega
  refine ⟨hq, ?_⟩
  rw [va_pl_push hq]
  refine va_pl_congr (fun b => ?_)
  by_cases hb : b = q
  · subst hb; rw [va_up_self, hg]
  · rw [va_up_ne _ _ hb, ho b hb]
theorem hL_new {S S' : HS} {L : List Nat} {q kd : Nat} (h : hL S L) (h0 : kd ≠ 0) (hk : hK S' = va_up (hK S) q kd) : hL S' (L ++ [q]) := fun a => by
  rw [hk, List.mem_append, List.mem_singleton]
  by_cases e : a = q
  · subst e; rw [va_up_self]; exact ⟨fun _ => h0, fun _ => Or.inr rfl⟩
  · rw [va_up_ne _ _ e]; exact ⟨fun z => z.elim (h a).mp (fun z => absurd z e), fun z => Or.inl ((h a).mpr z)⟩
theorem cw_eq {T : Nat → ClassId} {S : HS} {L : List Nat} (h : okG T S) : CW T S L = va_pl (Lf T L) (wF T S) := by
  unfold CW gd
  rw [if_pos h, List.append_nil]
theorem cw_gd {D : va_G} {T : Nat → ClassId} {S : HS} {L : List Nat} {H : Heap} (h : va_P D vwCl (CW T S L) H) : okG T S := by
  refine Classical.byContradiction (fun hc => ?_)
  have e : CW T S L = va_pl (Lf T L) (wF T S) ++ [(0, .inr (99, []))] := by unfold CW gd; rw [if_neg hc]
  have h1 := h (va_pl (Lf T L) (wF T S)).length (0, .inr (99, [])) (by rw [e, List.getElem?_append_right (Nat.le_refl _)]; simp)
  obtain ⟨r, h2, _⟩ := h1
  have h3 : vwCl[99]? = some r := h2
  exact absurd (List.getElem?_eq_some_iff.mp h3).1 (by decide)
theorem Lf_mem {T : Nat → ClassId} {L : List Nat} {x : Nat} (h : x ∈ L) (hne : x ≠ T 120) : x ∈ Lf T L := List.mem_filter.mpr ⟨h, by simpa using hne⟩
theorem cw_mem {T : Nat → ClassId} {S : HS} {L : List Nat} {x : Nat} (hG : okG T S) (h : hL S L) {kd : Nat} (hx : hK S x = kd) (h0 : kd ≠ 0) (h3 : kd ≠ 30 ∨ 0 < hN S x) : x ∈ Lf T L := Lf_mem ((h x).mpr (by rw [hx]; exact h0)) (fun e => by
  rcases hG with ⟨g1, g2⟩ | g1
  · rcases h3 with h3 | h3
    · exact h3 (by rw [← hx, e]; exact g1)
    · rw [e, g2] at h3; exact absurd h3 (Nat.lt_irrefl 0)
  · exact h0 (by rw [← hx, e]; exact g1))
theorem cw_obj {T : Nat → ClassId} {S : HS} {L : List Nat} {x : Nat} (hG : okG T S) (h : hL S L) {kd : Nat} (hx : hK S x = kd) (h0 : kd ≠ 0) (h1 : kd < 20) : ∃ k : Nat, (va_pl (Lf T L) (wF T S))[k]? = some (x, .inr (clx kd, fsl S x kd 0 (shp kd))) := by
  obtain ⟨k, hk⟩ := pl_at (f := wF T S) (cw_mem hG h hx h0 (Or.inl (by omega)))
  exact ⟨k, by rw [hk, wF_obj hx h1]⟩
theorem cw_objC {D : va_G} {H : Heap} {T : Nat → ClassId} {S : HS} {L : List Nat} {x : Nat} (hP : va_P D vwCl (CW T S L) H) (h : hL S L) {kd : Nat} (hx : hK S x = kd) (h0 : kd ≠ 0) (h1 : kd < 20) : ∃ k : Nat, (CW T S L)[k]? = some (x, .inr (clx kd, fsl S x kd 0 (shp kd))) := by
  obtain ⟨k, hk⟩ := cw_obj (cw_gd hP) h hx h0 h1
  exact ⟨k, by rw [cw_eq (cw_gd hP)]; exact hk⟩
theorem cw_nw {T : Nat → ClassId} {S S' : HS} {L : List Nat} {q : Nat} (hG : okG T S) (hne : q ≠ T 120) (hk : hK S' (T 120) = hK S (T 120)) (hn : hN S' (T 120) = hN S (T 120)) : va_pl (Lf T L ++ [q]) (wF T S') = CW T S' (L ++ [q]) := by
  rw [cw_eq (show okG T S' by unfold okG; rw [hk, hn]; exact hG)]
  have e : Lf T (L ++ [q]) = Lf T L ++ [q] := by
    unfold Lf
    rw [List.filter_append]
    congr 1
    simp [hne]
  rw [e]
theorem in_pos {i : Int32} {n : Nat} (h : vp_in i n) : 0 < n := by
  rcases Nat.eq_zero_or_pos n with e | e
  · exact absurd (Or.inr (by rw [e]; exact Nat.zero_le _)) h
  · exact e
end GCLS

section S_TMP17
theorem li_2 : (2 : Int32) = nI 2 := rfl
theorem li_3 : (3 : Int32) = nI 3 := rfl
theorem li_4 : (4 : Int32) = nI 4 := rfl
theorem li_5 : (5 : Int32) = nI 5 := rfl
theorem li_6 : (6 : Int32) = nI 6 := rfl
theorem li_7 : (7 : Int32) = nI 7 := rfl
theorem li_8 : (8 : Int32) = nI 8 := rfl
theorem li_9 : (9 : Int32) = nI 9 := rfl
theorem li_10 : (10 : Int32) = nI 10 := rfl
theorem li_12 : (12 : Int32) = nI 12 := rfl
theorem li_14 : (14 : Int32) = nI 14 := rfl
theorem li_20 : (20 : Int32) = nI 20 := rfl
theorem li_26 : (26 : Int32) = nI 26 := rfl
theorem li_30 : (30 : Int32) = nI 30 := rfl
theorem li_31 : (31 : Int32) = nI 31 := rfl
theorem li_36 : (36 : Int32) = nI 36 := rfl
theorem li_38 : (38 : Int32) = nI 38 := rfl
theorem li_47 : (47 : Int32) = nI 47 := rfl
theorem li_48 : (48 : Int32) = nI 48 := rfl
theorem li_50 : (50 : Int32) = nI 50 := rfl
theorem li_57 : (57 : Int32) = nI 57 := rfl
theorem li_58 : (58 : Int32) = nI 58 := rfl
theorem li_80 : (80 : Int32) = nI 80 := rfl
theorem li_98 : (98 : Int32) = nI 98 := rfl
theorem li_99 : (99 : Int32) = nI 99 := rfl
theorem li_100 : (100 : Int32) = nI 100 := rfl
theorem li_102 : (102 : Int32) = nI 102 := rfl
theorem li_104 : (104 : Int32) = nI 104 := rfl
theorem li_105 : (105 : Int32) = nI 105 := rfl
theorem li_108 : (108 : Int32) = nI 108 := rfl
theorem li_109 : (109 : Int32) = nI 109 := rfl
theorem li_110 : (110 : Int32) = nI 110 := rfl
theorem li_114 : (114 : Int32) = nI 114 := rfl
theorem li_115 : (115 : Int32) = nI 115 := rfl
theorem li_119 : (119 : Int32) = nI 119 := rfl
theorem li_122 : (122 : Int32) = nI 122 := rfl
theorem li_137 : (137 : Int32) = nI 137 := rfl
theorem li_146 : (146 : Int32) = nI 146 := rfl
theorem li_147 : (147 : Int32) = nI 147 := rfl
theorem li_148 : (148 : Int32) = nI 148 := rfl
theorem li_149 : (149 : Int32) = nI 149 := rfl
theorem li_150 : (150 : Int32) = nI 150 := rfl
theorem li_200 : (200 : Int32) = nI 200 := rfl
theorem li_255 : (255 : Int32) = nI 255 := rfl
theorem li_256 : (256 : Int32) = nI 256 := rfl
theorem li_274 : (274 : Int32) = nI 274 := rfl
theorem li_510 : (510 : Int32) = nI 510 := rfl
theorem li_512 : (512 : Int32) = nI 512 := rfl
theorem li_640 : (640 : Int32) = nI 640 := rfl
theorem li_999 : (999 : Int32) = nI 999 := rfl
theorem li_1000 : (1000 : Int32) = nI 1000 := rfl
theorem li_1024 : (1024 : Int32) = nI 1024 := rfl
theorem li_3334 : (3334 : Int32) = nI 3334 := rfl
theorem li_5000 : (5000 : Int32) = nI 5000 := rfl
theorem li_9999 : (9999 : Int32) = nI 9999 := rfl
theorem li_10000 : (10000 : Int32) = nI 10000 := rfl
theorem li_23338 : (23338 : Int32) = nI 23338 := rfl
theorem li_26672 : (26672 : Int32) = nI 26672 := rfl
theorem li_30000 : (30000 : Int32) = nI 30000 := rfl
theorem li_99999 : (99999 : Int32) = nI 99999 := rfl
theorem li_150000 : (150000 : Int32) = nI 150000 := rfl
theorem li_300000 : (300000 : Int32) = nI 300000 := rfl
theorem nI_p1 {a : Nat} (h : 1 ≤ a) : nI a - 1 = nI (a - 1) := pk_sub (b := 1) h
theorem nI_a0 (a : Nat) : nI a + 0 = nI a := nI_add a 0
theorem nI_0a (a : Nat) : 0 + nI a = nI a := by rw [show (0 : Int32) + nI a = nI (0 + a) from nI_add 0 a, Nat.zero_add]
theorem nI_m0 (a : Nat) : nI a * 0 = 0 := pk_mul a 0
theorem nI_m1 (a : Nat) : nI a * 1 = nI a := by rw [show nI a * (1 : Int32) = nI (a * 1) from pk_mul a 1, Nat.mul_one]
theorem nz_lt0 {a : Nat} (h : a < 2 ^ 31) : (nI a < 0) = False := eq_false (nI_pos h)
theorem nz_le {a : Nat} (h : a < 2 ^ 31) : (0 ≤ nI a) = True := eq_true (nI_pos' h)
theorem nz_eq0 {a : Nat} (h : a < 2 ^ 31) : (nI a = 0) = (a = 0) := propext (nI_eq (b := 0) h (by decide))
theorem nz_pos {a : Nat} (h : a < 2 ^ 31) : (0 < nI a) = (0 < a) := propext (nI_ltI (a := 0) (by decide) h)
theorem nz_le0 {a : Nat} (h : a < 2 ^ 31) : (nI a ≤ 0) = (a ≤ 0) := propext (nI_leI (b := 0) h (by decide))
theorem nz_eq1 {a : Nat} (h : a < 2 ^ 31) : (nI a = 1) = (a = 1) := propext (nI_eq (b := 1) h (by decide))
theorem nz_lt1 {a : Nat} (h : a < 2 ^ 31) : (nI a < 1) = (a < 1) := propext (nI_ltI (b := 1) h (by decide))
theorem nz_ge1 {a : Nat} (h : a < 2 ^ 31) : (1 ≤ nI a) = (1 ≤ a) := propext (nI_leI (a := 1) (by decide) h)
theorem nz_le1 {a : Nat} (h : a < 2 ^ 31) : (nI a ≤ 1) = (a ≤ 1) := propext (nI_leI (b := 1) h (by decide))
theorem nz_gt1 {a : Nat} (h : a < 2 ^ 31) : (1 < nI a) = (1 < a) := propext (nI_ltI (a := 1) (by decide) h)
theorem nz_vp {a N : Nat} (h : a < 2 ^ 31) (hN : N < 2 ^ 31) : (vp_in (nI a) N) = (a < N) := propext ⟨fun z => by
  rcases Nat.lt_or_ge a N with q | q
  · exact q
  · exact absurd (Or.inr (by rw [nI_clamp h]; exact q)) z, fun q => vp_in_nI q hN⟩
theorem nz_vp0 {N : Nat} (hN : N < 2 ^ 31) : vp_in 0 N = (0 < N) := nz_vp (a := 0) (by decide) hN
theorem nz_vp1 {N : Nat} (hN : N < 2 ^ 31) : vp_in 1 N = (1 < N) := nz_vp (a := 1) (by decide) hN
theorem cl_0 : Int32.toNatClampNeg 0 = 0 := by decide
theorem cl_1 : Int32.toNatClampNeg 1 = 1 := by decide
abbrev iv (x : Int32) : Nat := Int32.toNatClampNeg x
/-- a small number stands at place i -/
def sm (μ : Nat → Int32) (i B : Nat) : Prop := ∃ n : Nat, n ≤ B ∧ μ i = nI n
def vix (v : Int32) : Prop := ∃ n : Nat, n < 6 ∧ v = nI n
def zix (z : Int32) : Prop := ∃ n : Nat, 1 ≤ n ∧ n ≤ 9 ∧ z = nI n
def six (s : Int32) : Prop := ∃ n : Nat, n < 10 ∧ s = nI n
def bix (i : Int32) : Prop := ∃ n : Nat, n < 5 ∧ i = nI n
def pix (i : Int32) : Prop := ∃ n : Nat, n < 26 ∧ i = nI n
def gix (g : Int32) : Prop := ∃ n : Nat, n < 1024 ∧ g = nI n
def rix (x : Int32) : Prop := ∃ n : Nat, n ≤ 8 ∧ x = nI n
def fix4 (i : Int32) : Prop := ∃ n : Nat, n < 4 ∧ i = nI n
/-- an accessorial's cells are in order -/
def WFA (μ : Nat → Int32) (v a : Nat) : Prop := (μ (274 + 510 * v + 150 + 36 * a) = 0 ∨ μ (274 + 510 * v + 150 + 36 * a) = 1) ∧ sm μ (274 + 510 * v + 150 + 36 * a + 1) 9999 ∧ sm μ (274 + 510 * v + 150 + 36 * a + 2) 2 ∧ sm μ (274 + 510 * v + 150 + 36 * a + 3) 30 ∧ sm μ (274 + 510 * v + 150 + 36 * a + 4) 30 ∧ (μ (274 + 510 * v + 150 + 36 * a + 5) = -1 ∨ sm μ (274 + 510 * v + 150 + 36 * a + 5) 9) ∧ (∀ k, k < 30 → sm μ (274 + 510 * v + 150 + 36 * a + 6 + k) 9999999) ∧ (μ (274 + 510 * v + 150 + 36 * a + 2) = 1 → sm μ (274 + 510 * v + 150 + 36 * a + 1) 99) ∧ (μ (274 + 510 * v + 150 + 36 * a + 2) = 2 → sm μ (274 + 510 * v + 150 + 36 * a + 1) 50)
/-- a version's cells are in order -/
def WFV (μ : Nat → Int32) (v : Nat) : Prop := sm μ (274 + 510 * v + 1) 12 ∧ (∀ z, 1 ≤ z → z ≤ 9 → sm μ (274 + 510 * v + 38 + z - 1) 5 ∧ sm μ (274 + 510 * v + 137 + z - 1) 9999 ∧ ∀ i, i < 5 → sm μ (274 + 510 * v + 47 + 10 * (z - 1) + 2 * i) 9999 ∧ sm μ (274 + 510 * v + 47 + 10 * (z - 1) + 2 * i + 1) 99) ∧ (∀ i, i < 12 → sm μ (274 + 510 * v + 2 + 3 * i + 2) 9) ∧ sm μ (274 + 510 * v + 146) 9999 ∧ sm μ (274 + 510 * v + 147) 99 ∧ sm μ (274 + 510 * v + 148) 9999 ∧ sm μ (274 + 510 * v + 149) 9999 ∧ (∀ a, a < 10 → WFA μ v a) ∧ (∀ n, μ 0 = nI n → n ≤ 6 → v < n → ∃ d : Nat, 1000 ≤ d ∧ d ≤ 9999 ∧ μ (274 + 510 * v + 146) = nI d)
/-- a shipment's cells are in order -/
def WFS (μ : Nat → Int32) (s : Nat) : Prop := sm μ (14 + 26 * s + 2) 255 ∧ sm μ (14 + 26 * s + 3) 3 ∧ sm μ (14 + 26 * s + 4) 5 ∧ (μ (14 + 26 * s + 5) = -1 ∨ 0 ≤ μ (14 + 26 * s + 5)) ∧ (∀ p, p < 5 → (∀ k, k < 3 → sm μ (14 + 26 * s + (6 + 4 * p + k)) 200) ∧ sm μ (14 + 26 * s + (6 + 4 * p + 3)) 999) ∧ (∀ n, μ (14 + 26 * s + 4) = nI n → n ≤ 5 → ∀ p, p < n → ∀ k, k < 4 → ¬ μ (14 + 26 * s + (6 + 4 * p + k)) = 0)
/-- the reference's row of numbers is in order -/
def WF (μ : Nat → Int32) : Prop := sm μ 0 6 ∧ sm μ 1 10 ∧ sm μ 2 5 ∧ (∀ v, v < 6 → WFV μ v) ∧ ∀ s, s < 10 → WFS μ s
theorem WF.v {μ : Nat → Int32} (h : WF μ) {v : Nat} (hv : v < 6) : WFV μ v := h.2.2.2.1 v hv
theorem WF.s {μ : Nat → Int32} (h : WF μ) {s : Nat} (hs : s < 10) : WFS μ s := h.2.2.2.2 s hs
theorem WF.rng {μ : Nat → Int32} (h : WF μ) {v : Nat} (hv : v < 6) : sm μ (274 + 510 * v + 1) 12 := (h.v hv).1
theorem WF.brk {μ : Nat → Int32} (h : WF μ) {v z : Nat} (hv : v < 6) (h1 : 1 ≤ z) (h9 : z ≤ 9) : sm μ (274 + 510 * v + 38 + z - 1) 5 := ((h.v hv).2.1 z h1 h9).1
theorem WF.acc {μ : Nat → Int32} (h : WF μ) {v a : Nat} (hv : v < 6) (ha : a < 10) : WFA μ v a := (h.v hv).2.2.2.2.2.2.2.1 a ha
theorem WF.pcs {μ : Nat → Int32} (h : WF μ) {s : Nat} (hs : s < 10) : sm μ (14 + 26 * s + 4) 5 := (h.s hs).2.2.1
theorem WF.div {μ : Nat → Int32} (h : WF μ) {v n : Nat} (hn : μ 0 = nI n) (h6 : n ≤ 6) (hv : v < n) : ∃ d : Nat, 1000 ≤ d ∧ d ≤ 9999 ∧ μ (274 + 510 * v + 146) = nI d := (h.v (by omega)).2.2.2.2.2.2.2.2 n hn h6 hv
theorem vu_up {f : Nat → Int32} (k : Nat) (x y : Int32) : va_up (va_up f k x) k y = va_up f k y := by
  funext j
  by_cases e : j = k
  · subst e; rw [va_up_self, va_up_self]
  · rw [va_up_ne _ _ e, va_up_ne _ _ e, va_up_ne _ _ e]
theorem vu_id {f : Nat → Int32} (k : Nat) : va_up f k (f k) = f := by
  funext j
  by_cases e : j = k
  · subst e; rw [va_up_self]
  · rw [va_up_ne _ _ e]
def zb : Nat → Int32 → Bool
  | 0, x => x == 0
  | k + 1, x => x == 0 || zb k (x &&& (x - 1))
theorem zb_n {n : Nat} (h : n < 1024) : zb 10 (nI n) = true := by
  have : ∀ n : Nat, n < 1024 → zb 10 (nI n) = true := by decide +kernel
  exact this n h
theorem six_nI {n : Nat} (h : n < 2 ^ 31) : six (nI n) = (n < 10) := propext ⟨fun ⟨m, hm, e⟩ => by rw [(nI_eq h (by omega)).mp e]; exact hm, fun q => ⟨n, q, rfl⟩⟩
theorem vix_nI {n : Nat} (h : n < 2 ^ 31) : vix (nI n) = (n < 6) := propext ⟨fun ⟨m, hm, e⟩ => by rw [(nI_eq h (by omega)).mp e]; exact hm, fun q => ⟨n, q, rfl⟩⟩
theorem bix_nI {n : Nat} (h : n < 2 ^ 31) : bix (nI n) = (n < 5) := propext ⟨fun ⟨m, hm, e⟩ => by rw [(nI_eq h (by omega)).mp e]; exact hm, fun q => ⟨n, q, rfl⟩⟩
theorem pix_nI {n : Nat} (h : n < 2 ^ 31) : pix (nI n) = (n < 26) := propext ⟨fun ⟨m, hm, e⟩ => by rw [(nI_eq h (by omega)).mp e]; exact hm, fun q => ⟨n, q, rfl⟩⟩
theorem fix_nI {n : Nat} (h : n < 2 ^ 31) : fix4 (nI n) = (n < 4) := propext ⟨fun ⟨m, hm, e⟩ => by rw [(nI_eq h (by omega)).mp e]; exact hm, fun q => ⟨n, q, rfl⟩⟩
theorem gix_nI {n : Nat} (h : n < 2 ^ 31) : gix (nI n) = (n < 1024) := propext ⟨fun ⟨m, hm, e⟩ => by rw [(nI_eq h (by omega)).mp e]; exact hm, fun q => ⟨n, q, rfl⟩⟩
theorem rix_nI {n : Nat} (h : n < 2 ^ 31) : rix (nI n) = (n ≤ 8) := propext ⟨fun ⟨m, hm, e⟩ => by rw [(nI_eq h (by omega)).mp e]; exact hm, fun q => ⟨n, q, rfl⟩⟩
theorem zix_nI {n : Nat} (h : n < 2 ^ 31) : zix (nI n) = (1 ≤ n ∧ n ≤ 9) := propext ⟨fun ⟨m, h1, hm, e⟩ => by rw [(nI_eq h (by omega)).mp e]; exact ⟨h1, hm⟩, fun q => ⟨n, q.1, q.2, rfl⟩⟩
theorem pix_0 : pix 0 = True := eq_true ⟨0, by decide, rfl⟩
theorem pix_1 : pix 1 = True := eq_true ⟨1, by decide, rfl⟩
theorem bix_0 : bix 0 = True := eq_true ⟨0, by decide, rfl⟩
theorem fix_0 : fix4 0 = True := eq_true ⟨0, by decide, rfl⟩
theorem fix_1 : fix4 1 = True := eq_true ⟨1, by decide, rfl⟩
theorem z01 : (0 : Int32) + 1 = 1 := rfl
theorem z11 : (1 : Int32) + 1 = nI 2 := rfl
theorem rix_1 : rix 1 = True := eq_true ⟨1, by decide, rfl⟩
/-- the reference's test: low ≤ v ≤ high -/
def zin (v low high : Int32) : Int32 := if v < low then 0 else if high < v then 0 else 1
def sgnF (r : Nat → Int32) (q : Nat → Nat → Int32) : Int32 := if r 10 < r 8 then q 4 (iv (r 10)) else -1
def kindF (c : Int32) : Int32 := if c = 104 then 0 else if c = 119 then 1 else if c = 110 then 2 else if c = 108 then 3 else if c = 122 then 4 else -1
def compF (c : Int32) : Int32 := if c = 60 then 0 else if c = 62 then 1 else if c = 61 then 2 else -1
def hasF (g s : Int32) : Int32 := if ((g >>> (s &&& 31)) &&& 1) = 1 then 1 else 0
def onesFold : Nat → Int32 → Int32 → Int32
  | 0, _, n => n
  | k + 1, x, n => if x = 0 then n else onesFold k (x &&& (x - 1)) (n + 1)
def onesF (g : Int32) : Int32 := onesFold 32 g 0
def pctF (a p : Int32) : Int32 := Int64.toInt32 ((Int32.toInt64 a * Int32.toInt64 p + 50) / 100)
def letF (k : Int32) : Int32 := if k = 0 then 104 else if k = 1 then 119 else if k = 2 then 110 else if k = 3 then 108 else 122
def grpF (μ : Nat → Int32) (g : Int32) : Int32 := if 0 < g then if g < ((1 : Int32) <<< (μ 1 &&& 31)) then 1 else 0 else 0
def vFold (μ : Nat → Int32) (day : Int32) : Nat → Nat → Int32 → Int32
  | 0, _, b => b
  | k + 1, v, b => vFold μ day k (v + 1) (if μ (274 + 510 * v) ≤ day ∧ (b < 0 ∨ μ (274 + 510 * iv b) < μ (274 + 510 * v)) then nI v else b)
/-- the version of a day -/
def vOf (μ : Nat → Int32) (day : Int32) : Int32 := vFold μ day (iv (μ 0)) 0 (-1)
def aBrFold (μ : Nat → Int32) (v : Nat) : Nat → Nat → Int32 → Int32
  | 0, _, n => n
  | k + 1, z, n => aBrFold μ v k (z + 1) (n + μ (274 + 510 * v + 38 + z))
def aBr (μ : Nat → Int32) (v : Nat) : Int32 := aBrFold μ v 9 0 0
def eFold (μ : Nat → Int32) (v : Nat) : Nat → Nat → Int32 → Int32
  | 0, _, s => s
  | k + 1, a, s => eFold μ v k (a + 1) (s ||| (if μ (274 + 510 * v + 150 + 36 * a) = 1 then (1 : Int32) <<< (nI a &&& 31) else 0))
def eSet (μ : Nat → Int32) (v : Nat) : Int32 := eFold μ v 10 0 0
def zFold (μ : Nat → Int32) (v : Nat) (place : Int32) : Nat → Nat → Int32 → Int32
  | 0, _, z => z
  | k + 1, i, z => zFold μ v place k (i + 1) (if zin place (μ (274 + 510 * v + 2 + 3 * i)) (μ (274 + 510 * v + 2 + 3 * i + 1)) = 0 then z else μ (274 + 510 * v + 2 + 3 * i + 2))
/-- the zone of a place -/
def zIn (μ : Nat → Int32) (v : Nat) (place : Int32) : Int32 := zFold μ v place (iv (μ (274 + 510 * v + 1))) 0 0
def amtF (μ : Nat → Int32) (v z i : Nat) (w : Int32) : Int32 := (if w < μ (274 + 510 * v + 47 + 10 * (z - 1) + 2 * i) then μ (274 + 510 * v + 47 + 10 * (z - 1) + 2 * i) else w) * μ (274 + 510 * v + 47 + 10 * (z - 1) + 2 * i + 1)
def chpFold (μ : Nat → Int32) (v z : Nat) (w : Int32) : Nat → Nat → Nat → Nat
  | 0, _, b => b
  | k + 1, i, b => chpFold μ v z w k (i + 1) (if amtF μ v z i w < amtF μ v z b w then i else b)
/-- the cheapest break -/
def chpF (μ : Nat → Int32) (v z : Nat) (w : Int32) : Nat := chpFold μ v z w (iv (μ (274 + 510 * v + 38 + z - 1)) - 1) 1 0
def baseF (μ : Nat → Int32) (v z : Nat) (w : Int32) : Int32 := if amtF μ v z (chpF μ v z w) w < μ (274 + 510 * v + 137 + z - 1) then μ (274 + 510 * v + 137 + z - 1) else amtF μ v z (chpF μ v z w) w
def volF (μ : Nat → Int32) (s p : Nat) : Int32 := μ (14 + 26 * s + (6 + 4 * p)) * μ (14 + 26 * s + (6 + 4 * p + 1)) * μ (14 + 26 * s + (6 + 4 * p + 2))
def realFold (μ : Nat → Int32) (s : Nat) : Nat → Nat → Int32 → Int32
  | 0, _, n => n
  | k + 1, p, n => realFold μ s k (p + 1) (n + μ (14 + 26 * s + (6 + 4 * p + 3)))
def realF (μ : Nat → Int32) (s : Nat) : Int32 := realFold μ s (iv (μ (14 + 26 * s + 4))) 0 0
def mxF (a b : Int32) : Int32 := if a < b then b else a
def longFold (μ : Nat → Int32) (s : Nat) : Nat → Nat → Int32 → Int32
  | 0, _, n => n
  | k + 1, p, n => longFold μ s k (p + 1) (mxF (mxF (mxF n (μ (14 + 26 * s + (6 + 4 * p)))) (μ (14 + 26 * s + (6 + 4 * p + 1)))) (μ (14 + 26 * s + (6 + 4 * p + 2))))
def longF (μ : Nat → Int32) (s : Nat) : Int32 := longFold μ s (iv (μ (14 + 26 * s + 4))) 0 0
def dimFold (μ : Nat → Int32) (s : Nat) (d : Int32) : Nat → Nat → Int32 → Int32
  | 0, _, n => n
  | k + 1, p, n => dimFold μ s d k (p + 1) (n + (volF μ s p + d - 1) / d)
def dimF (μ : Nat → Int32) (s : Nat) (d : Int32) : Int32 := dimFold μ s d (iv (μ (14 + 26 * s + 4))) 0 0
def accFold (μ : Nat → Int32) (c : Int32) : Nat → Nat → Int32 → Int32
  | 0, _, n => n
  | k + 1, s, n => accFold μ c k (s + 1) (n + (if 0 ≤ μ (14 + 26 * s + 5) ∧ (c = 4 ∨ μ (14 + 26 * s + 3) = c) then μ (14 + 26 * s + 5) else 0))
def accF (μ : Nat → Int32) (c : Int32) : Int32 := accFold μ c (iv (μ 1)) 0 0
def posFold (μ : Nat → Int32) : Nat → Nat → Int32 → Int32
  | 0, _, n => n
  | k + 1, s, n => posFold μ k (s + 1) (n ||| (if 0 ≤ μ (14 + 26 * s + 5) then (1 : Int32) <<< (nI s &&& 31) else 0))
def posF (μ : Nat → Int32) : Int32 := posFold μ (iv (μ 1)) 0 0
def lowFold (n : Nat) : Nat → Nat → Nat
  | 0, s => s
  | k + 1, s => if n.testBit s then s else lowFold n k (s + 1)
/-- the lowest member of a group -/
def lowN (n : Nat) : Nat := lowFold n 10 0
def popFold (n : Nat) : Nat → Nat → Nat → Nat
  | 0, _, a => a
  | k + 1, s, a => popFold n k (s + 1) (if n.testBit s then a + 1 else a)
/-- how many members -/
def popN (n : Nat) : Nat := popFold n 10 0 0
def hoFold (μ : Nat → Int32) (g s : Nat) (h : Int32) : Nat → Nat → Int32 → Int32
  | 0, _, a => a
  | k + 1, o, a => hoFold μ g s h k (o + 1) (if ¬ o = s ∧ g.testBit o = true ∧ ¬ hasF (μ (14 + 26 * o + 2)) h = 0 then 1 else a)
/-- whether another one of the group has the handling -/
def hoF (μ : Nat → Int32) (g s : Nat) (h : Int32) : Int32 := hoFold μ g s h (iv (μ 1)) 0 0
def clF (μ : Nat → Int32) (g s : Nat) : Int32 := if (¬ hasF (μ (14 + 26 * s + 2)) 0 = 0 ∧ ¬ hoF μ g s 1 = 0) ∨ (¬ hasF (μ (14 + 26 * s + 2)) 1 = 0 ∧ ¬ hoF μ g s 0 = 0) then 1 else 0
def rsF (μ : Nat → Int32) (gv rs g s : Nat) : Int32 := if rs = 1 then (if μ (14 + 26 * s + 4) = 0 then 1 else 0) else if rs = 2 then (if μ (14 + 26 * s + 1) = μ (14 + 26 * lowN g + 1) then 0 else 1) else if rs = 4 then (if zIn μ gv (μ (14 + 26 * s + 0)) = 0 then 1 else 0) else if rs = 5 then (if zIn μ gv (μ (14 + 26 * s + 0)) = zIn μ gv (μ (14 + 26 * lowN g + 0)) then 0 else 1) else clF μ g s
def firFold (μ : Nat → Int32) (gv rs g : Nat) : Nat → Nat → Option Nat
  | 0, _ => none
  | k + 1, s => if g.testBit s = true ∧ ¬ rsF μ gv rs g s = 0 then some s else firFold μ gv rs g k (s + 1)
/-- the first shipment to which a reason applies -/
def firF (μ : Nat → Int32) (gv rs g : Nat) : Option Nat := firFold μ gv rs g (iv (μ 1)) 0
def psF (μ : Nat → Int32) (s : Nat) : Int32 := if 0 ≤ μ (14 + 26 * s + 5) then 1 else 0
theorem has_tb {n s : Nat} (hn : n < 1024) (hs : s < 10) : hasF (nI n) (nI s) = if n.testBit s then 1 else 0 := by
  have h : ∀ n : Nat, n < 1024 → ∀ s : Nat, s < 10 → hasF (nI n) (nI s) = if n.testBit s then 1 else 0 := by decide +kernel
  exact h n hn s hs
theorem has_0 {n s : Nat} (hn : n < 1024) (hs : s < 10) : hasF (nI n) (nI s) = 0 ↔ ¬ n.testBit s = true := by
  rw [has_tb hn hs]
  cases n.testBit s <;> decide
theorem low_lt {n : Nat} (hn : n < 1024) (h0 : n ≠ 0) : lowN n < 10 := by
  have h : ∀ n : Nat, n < 1024 → n ≠ 0 → lowN n < 10 := by decide +kernel
  exact h n hn h0
theorem ones_pop {n : Nat} (hn : n < 1024) : onesFold 11 (nI n) 0 = nI (popN n) ∧ popN n ≤ 10 := by
  have h : ∀ n : Nat, n < 1024 → onesFold 11 (nI n) 0 = nI (popN n) ∧ popN n ≤ 10 := by decide +kernel
  exact h n hn
theorem ones_end {n : Nat} (hn : n < 1024) : (fun x : Int32 => x &&& (x - 1)) ((fun x : Int32 => x &&& (x - 1)) ((fun x : Int32 => x &&& (x - 1)) ((fun x : Int32 => x &&& (x - 1)) ((fun x : Int32 => x &&& (x - 1)) ((fun x : Int32 => x &&& (x - 1)) ((fun x : Int32 => x &&& (x - 1)) ((fun x : Int32 => x &&& (x - 1)) ((fun x : Int32 => x &&& (x - 1)) ((fun x : Int32 => x &&& (x - 1)) (nI n)))))))))) = 0 := by
  have h : ∀ n : Nat, n < 1024 → (fun x : Int32 => x &&& (x - 1)) ((fun x : Int32 => x &&& (x - 1)) ((fun x : Int32 => x &&& (x - 1)) ((fun x : Int32 => x &&& (x - 1)) ((fun x : Int32 => x &&& (x - 1)) ((fun x : Int32 => x &&& (x - 1)) ((fun x : Int32 => x &&& (x - 1)) ((fun x : Int32 => x &&& (x - 1)) ((fun x : Int32 => x &&& (x - 1)) ((fun x : Int32 => x &&& (x - 1)) (nI n)))))))))) = 0 := by decide +kernel
  exact h n hn
theorem zin_vz (a b c : Int32) : vz (zin a b c) := by
  unfold zin; split
  · exact vz0
  · split
    · exact vz0
    · exact vz1
theorem six_of {n : Nat} (h : n < 10) : six (nI n) := ⟨n, h, rfl⟩
theorem iv_nI {n : Nat} (h : n < 2 ^ 31) : iv (nI n) = n := nI_clamp h

end S_TMP17

section S_TMP17
theorem sh1 {s : Nat} (h : s < 10) : (1 : Int32) <<< (nI s &&& 31) = nI (2 ^ s) := by
  have : ∀ s : Nat, s < 10 → (1 : Int32) <<< (nI s &&& 31) = nI (2 ^ s) := by decide +kernel
  exact this s h
theorem sh1' {s : Nat} (h : s ≤ 10) : (1 : Int32) <<< (nI s &&& 31) = nI (2 ^ s) := by
  have : ∀ s : Nat, s < 11 → (1 : Int32) <<< (nI s &&& 31) = nI (2 ^ s) := by decide +kernel
  exact this s (by omega)
theorem bv_n {a : Nat} : (nI a).toBitVec = BitVec.ofNat 32 a := rfl
theorem nI_and (a b : Nat) : nI a &&& nI b = nI (a &&& b) := by
  apply Int32.toBitVec_inj.mp
  rw [Int32.toBitVec_and, bv_n, bv_n, bv_n, BitVec.ofNat_and]
theorem nI_or (a b : Nat) : nI a ||| nI b = nI (a ||| b) := by
  apply Int32.toBitVec_inj.mp
  rw [Int32.toBitVec_or, bv_n, bv_n, bv_n, BitVec.ofNat_or]
theorem nI_xor (a b : Nat) : nI a ^^^ nI b = nI (a ^^^ b) := by
  apply Int32.toBitVec_inj.mp
  rw [Int32.toBitVec_xor, bv_n, bv_n, bv_n, BitVec.ofNat_xor]
/-- without the members of another set -/
def dif (a b : Nat) : Nat := a ^^^ (a &&& b)
theorem dif_tb (a b i : Nat) : (dif a b).testBit i = (a.testBit i && !b.testBit i) := by
  unfold dif
  rw [Nat.testBit_xor, Nat.testBit_and]
  cases a.testBit i <;> cases b.testBit i <;> rfl
theorem nI_dif (a b : Nat) : nI a &&& (nI b ^^^ (-1)) = nI (dif a b) := by
  have : ∀ x y : Int32, x &&& (y ^^^ (-1)) = x ^^^ (x &&& y) := by
    intro x y
    apply Int32.toBitVec_inj.mp
    rw [Int32.toBitVec_and, Int32.toBitVec_xor, Int32.toBitVec_xor, Int32.toBitVec_and]
    apply BitVec.eq_of_getLsbD_eq
    intro i hi
    rw [BitVec.getLsbD_and, BitVec.getLsbD_xor, BitVec.getLsbD_xor, BitVec.getLsbD_and]
    have : (Int32.toBitVec (-1)).getLsbD i = true := by
      have h : ∀ i : Nat, i < 32 → (Int32.toBitVec (-1)).getLsbD i = true := by decide +kernel
      exact h i hi
    rw [this]
    cases x.toBitVec.getLsbD i <;> cases y.toBitVec.getLsbD i <;> rfl
  rw [this, nI_and, nI_xor]
  rfl
/-- a part of a set -/
def sub (p n : Nat) : Prop := p &&& n = p
theorem sub_tb {p n : Nat} : sub p n ↔ ∀ i, p.testBit i = true → n.testBit i = true := by
  unfold sub
  constructor
  · intro h i hi
    rw [← h, Nat.testBit_and] at hi
    cases hn : n.testBit i with
    | true => rfl
    | false => rw [hn, Bool.and_false] at hi; cases hi
  · intro h
    apply Nat.eq_of_testBit_eq
    intro i
    rw [Nat.testBit_and]
    cases hp : p.testBit i with
    | false => rfl
    | true => rw [h i hp]; rfl
theorem sub_le {p n : Nat} (h : sub p n) : p ≤ n := by
  have := @Nat.and_le_right p n
  rw [show p &&& n = p from h] at this
  exact this
theorem sub_rf (n : Nat) : sub n n := Nat.and_self n
theorem sub_tr {a b c : Nat} (h : sub a b) (h2 : sub b c) : sub a c := sub_tb.mpr fun i hi => sub_tb.mp h2 i (sub_tb.mp h i hi)
theorem sub_dif (a b : Nat) : sub (dif a b) a := sub_tb.mpr fun i hi => by
  rw [dif_tb] at hi
  cases ha : a.testBit i with
  | true => rfl
  | false => rw [ha] at hi; cases hi
theorem dif_0 {a b : Nat} : dif a b = 0 ↔ sub a b := by
  rw [sub_tb]
  constructor
  · intro h i hi
    have := dif_tb a b i
    rw [h, Nat.zero_testBit, hi] at this
    cases hb : b.testBit i with
    | true => rfl
    | false => rw [hb] at this; cases this
  · intro h
    apply Nat.eq_of_testBit_eq
    intro i
    rw [dif_tb, Nat.zero_testBit]
    cases ha : a.testBit i with
    | false => rfl
    | true => rw [h i ha]; rfl
theorem dif_lt {a b i : Nat} (ha : a.testBit i = true) (hb : b.testBit i = true) : dif a b < a := by
  have h := sub_le (sub_dif a b)
  rcases Nat.lt_or_ge (dif a b) a with q | q
  · exact q
  · have e : dif a b = a := Nat.le_antisymm h q
    have := dif_tb a b i
    rw [e, ha, hb] at this
    cases this
theorem land_h (a b : Nat) : a &&& b = 2 * (a / 2 &&& b / 2) + (a &&& b) % 2 := by
  have := Nat.div_add_mod (a &&& b) 2
  rw [Nat.and_div_two] at this
  omega
theorem land_m (a b : Nat) : (a &&& b) % 2 = (a % 2) * (b % 2) := by
  have := @Nat.and_mod_two_eq_one a b
  have h1 : a % 2 = 0 ∨ a % 2 = 1 := by omega
  have h2 : b % 2 = 0 ∨ b % 2 = 1 := by omega
  have h3 : (a &&& b) % 2 = 0 ∨ (a &&& b) % 2 = 1 := by omega
  rcases h1 with h1 | h1 <;> rcases h2 with h2 | h2 <;> rw [h1, h2] at this ⊢ <;> omega
theorem sub_h {p n : Nat} (h : sub p n) : sub (p / 2) (n / 2) ∧ p % 2 ≤ n % 2 := by
  have h' : p &&& n = p := h
  have h1 := land_h p n
  have h2 := land_m p n
  refine ⟨?_, ?_⟩
  · show p / 2 &&& n / 2 = p / 2
    rw [← Nat.and_div_two, h']
  · rw [h'] at h2
    rcases (show p % 2 = 0 ∨ p % 2 = 1 by omega) with a | a
    · omega
    · rw [a] at h2 ⊢
      rcases (show n % 2 = 0 ∨ n % 2 = 1 by omega) with b | b
      · rw [b] at h2; omega
      · omega
/-- the next lesser part of a set -/
theorem sub_prev : ∀ (x p n : Nat), sub x n → sub p n → p < x → p ≤ (x - 1) &&& n := by
  intro x
  induction x using Nat.strongRecOn with
  | ind x ih =>
    intro p n hx hp hlt
    obtain ⟨x1, x2⟩ := sub_h hx
    obtain ⟨p1, p2⟩ := sub_h hp
    have e := land_h (x - 1) n
    have em := land_m (x - 1) n
    rcases (show x % 2 = 1 ∨ x % 2 = 0 by omega) with h | h
    · have e1 : (x - 1) / 2 = x / 2 := by omega
      have e2 : x / 2 &&& n / 2 = x / 2 := x1
      rw [e1, e2] at e
      omega
    · have e1 : (x - 1) / 2 = x / 2 - 1 := by omega
      have e2 : (x - 1) % 2 = 1 := by omega
      rw [e1] at e
      rw [e2, Nat.one_mul] at em
      rcases Nat.lt_or_ge (p / 2) (x / 2) with q | q
      · have := ih (x / 2) (by omega) (p / 2) (n / 2) x1 p1 q
        omega
      · omega
theorem sub_and (x n : Nat) : sub (x &&& n) n := by
  show (x &&& n) &&& n = x &&& n
  rw [Nat.and_assoc, Nat.and_self]
theorem low_bit {p : Nat} (h : p < 1024) (h0 : 0 < p) : nI p &&& (-(nI p)) = nI (2 ^ lowN p) := by
  have : ∀ p : Nat, p < 1024 → 0 < p → nI p &&& (-(nI p)) = nI (2 ^ lowN p) := by decide +kernel
  exact this p h h0
theorem pw_and {g i : Nat} : (g &&& 2 ^ i = 0) ↔ g.testBit i = false := by
  constructor
  · intro h
    have := Nat.testBit_and g (2 ^ i) i
    rw [h, Nat.zero_testBit, Nat.testBit_two_pow_self, Bool.and_true] at this
    exact this.symm
  · intro h
    apply Nat.eq_of_testBit_eq
    intro j
    rw [Nat.testBit_and, Nat.zero_testBit, Nat.testBit_two_pow]
    by_cases e : i = j
    · subst e; rw [h]; rfl
    · simp [e]
theorem sub_lt {p n ns : Nat} (h : sub p n) (hn : n < 2 ^ ns) : p < 2 ^ ns := Nat.lt_of_le_of_lt (sub_le h) hn
theorem grp_gok {μ : Nat → Int32} (hw : WF μ) {g : Int32} (h : ¬ grpF μ g = 0) : gok μ g := by
  obtain ⟨ns, hns, hm⟩ := hw.2.1
  unfold grpF at h
  split at h
  · rename_i c
    split at h
    · rename_i c2
      rw [hm, sh1' hns] at c2
      obtain ⟨j, hj, e⟩ := nI_of (x := g) (fun z => by
        rw [Int32.lt_iff_toInt_lt] at z c
        rw [Int32.toInt_zero] at z c
        omega)
      have hp := p2_le hns
      rw [e] at c c2
      refine ⟨j, ns, hm, hns, ?_, (nI_ltI hj (by omega)).mp c2, e⟩
      exact (nI_ltI (a := 0) (by decide) hj).mp c
    · exact absurd rfl h
  · exact absurd rfl h
theorem gok_grp {μ : Nat → Int32} {g : Int32} (h : gok μ g) : grpF μ g = 1 := by
  obtain ⟨n, ns, hm, hns, h0, h1, rfl⟩ := h
  have hp := p2_le hns
  unfold grpF
  rw [hm, sh1' hns, if_pos (show (0 : Int32) < nI n from (nI_ltI (a := 0) (by decide) (by omega)).mpr h0), if_pos ((nI_ltI (by omega) (by omega)).mpr h1)]
theorem gok.tb {μ : Nat → Int32} {n ns s : Nat} (hm : μ 1 = nI ns) (hns : ns ≤ 10) (hs : s < ns) : gok μ (nI (2 ^ s)) := ⟨2 ^ s, ns, hm, hns, Nat.two_pow_pos s, Nat.pow_lt_pow_right (by decide) hs, rfl⟩
/-- what a rated group has -/
theorem rsn0 {μ : Nat → Int32} {g : Nat} (hw : WF μ) (hg : gok μ (nI g)) (hg2 : g < 1024) (h : (rsnD μ g).1 = 0) : vok μ (gvF μ g) ∧ zix (gzF μ g) ∧ ¬ μ (274 + 510 * iv (gvF μ g) + 38 + iv (gzF μ g) - 1) = 0 := by
  obtain ⟨n, ns, hm1, hns, h0, h1, e⟩ := hg
  have hp := p2_le hns
  have := (nI_eq (by omega) (by omega)).mp e
  subst this
  unfold rsnD at h
  cases c1 : firF μ 0 1 g with
  | some s => rw [c1] at h; cases h
  | none =>
  rw [c1] at h
  cases c2 : firF μ 0 2 g with
  | some s => rw [c2] at h; cases h
  | none =>
  rw [c2] at h
  by_cases c3 : gvF μ g < 0
  · simp only [if_pos c3] at h; cases h
  simp only [if_neg c3] at h
  cases c4 : firF μ (iv (gvF μ g)) 4 g with
  | some s => rw [c4] at h; cases h
  | none =>
  rw [c4] at h
  cases c5 : firF μ (iv (gvF μ g)) 5 g with
  | some s => rw [c5] at h; cases h
  | none =>
  rw [c5] at h
  by_cases c6 : μ (274 + 510 * iv (gvF μ g) + 38 + iv (gzF μ g) - 1) = 0
  · simp only [if_pos c6] at h; cases h
  have hvk : vok μ (gvF μ g) := by
    rcases vOf_ok hw (d := dayF μ g) with z | z
    · have z' : gvF μ g = -1 := z
      rw [z'] at c3; exact absurd (by decide) c3
    · exact z
  refine ⟨hvk, ?_, c6⟩
  obtain ⟨n, v, hn, h6, hv, e⟩ := hvk
  have ev : iv (gvF μ g) = v := by rw [e]; exact nI_clamp (by omega)
  obtain ⟨z, hz, ez⟩ := zIn_sm hw (v := iv (gvF μ g)) (by omega) (p := μ (14 + 26 * lowN g + 0))
  refine ⟨z, ?_, hz, ez⟩
  rcases Nat.eq_zero_or_pos z with z0 | z0
  · subst z0
    have hls := low_ns hns h0 h1
    have := firFold_none _ _ c4 (lowN g) (Nat.zero_le _) (by rw [hm1, show iv (nI ns) = ns from nI_clamp (by omega)]; omega) (low_tb (by omega) (by omega))
    unfold rsF at this
    rw [if_neg (by decide), if_neg (by decide), if_pos rfl, if_pos (show zIn μ (iv (gvF μ g)) (μ (14 + 26 * lowN g + 0)) = 0 from ez)] at this
    exact absurd this (by decide)
  · exact z0
theorem vok.x {μ : Nat → Int32} {x : Int32} (h : vok μ x) : vix x := by obtain ⟨n, v, _, h6, hv, e⟩ := h; exact ⟨v, by omega, e⟩
/-- the total of a group, -1 if it is refused -/
def ttF (μ : Nat → Int32) (g : Nat) : Int32 := if (rsnD μ g).1 = 0 then totF μ g else -1
/-- what calls leave alone -/
abbrev SC : List Nat := [6, 7, 10, 11, 13, 15, 17, 18, 19, 20, 21, 22, 23, 24, 25, 26, 27, 28, 35, 36, 38, 39]
abbrev SCK : List Nat := [6, 7, 10, 11, 13, 15, 17, 18, 19, 20, 21, 22, 23, 24, 25, 26, 27, 28, 35, 36, 38, 39, 29, 30]
abbrev SQ : List Nat := [2, 5, 6, 7, 8, 9, 10, 11]
def rateC (μ : Nat → Int32) (g : Int32) : Int32 := if grpF μ g = 0 then 1 else if (rsnD μ (iv g)).1 = 0 then 0 else 2
def ratC (μ : Nat → Int32) (g w : Int32) : Int32 := if grpF μ g = 0 then 1 else if zin w 0 9 = 0 then 2 else if (rsnD μ (iv g)).1 = 0 then 0 else 3
/-- a number of a rating -/
def raF (μ : Nat → Int32) (g : Nat) (w : Int32) : Int32 :=
  let v := iv (gvF μ g); let z := iv (gzF μ g); let wt := wtF μ v g; let ac := exAC μ v z wt (pcF μ v g) (lgF μ v g) (hdF μ v g); let br := μ (274 + 510 * v + 47 + 10 * (z - 1) + 2 * chpF μ v z wt)
  if w = 0 then baseF μ v z wt else if w = 1 then ac.1 else if w = 2 then stF μ v g else if w = 3 then fuF μ v z g wt (pcF μ v g) (lgF μ v g) (hdF μ v g) else if w = 4 then wt else if w = 5 then mxF wt br else if w = 6 then br else if w = 7 then ac.2 else if w = 8 then gzF μ g else gvF μ g
/-- whether a set cannot be consolidated -/
def lckF (μ : Nat → Int32) (g : Int32) (m : Nat) : Int32 := if grpF μ g = 0 then 1 else if m < popN (iv g) then 2 else 0
/-- the first member of a set that is refused alone -/
def rfFold (μ : Nat → Int32) (n : Nat) : Nat → Nat → Option Nat
  | 0, _ => none
  | k + 1, s => if n.testBit s = true ∧ ¬ (rsnD μ (2 ^ s)).1 = 0 then some s else rfFold μ n k (s + 1)
def rfF (μ : Nat → Int32) (n : Nat) : Option Nat := rfFold μ n (iv (μ 1)) 0
theorem chp_lt {μ : Nat → Int32} {v z : Nat} {w : Int32} : ∀ (k i b : Nat), i + k ≤ 5 → b < 5 → chpFold μ v z w k i b < 5 := by
  intro k
  induction k with
  | zero => intro i b _ h; exact h
  | succ k ih =>
    intro i b hi h
    refine ih (i + 1) _ (by omega) ?_
    split
    · omega
    · exact h
theorem chpF_lt {μ : Nat → Int32} (hw : WF μ) {v z : Nat} {w : Int32} (hv : v < 6) (h1 : 1 ≤ z) (h9 : z ≤ 9) : chpF μ v z w < 5 := by
  obtain ⟨n, hn, e⟩ := hw.brk hv h1 h9
  unfold chpF
  rw [e, show iv (nI n) = n from nI_clamp (by omega)]
  rcases Nat.eq_zero_or_pos n with h | h
  · subst h; exact chp_lt 0 1 0 (by decide) (by decide)
  · exact chp_lt _ _ _ (by omega) (by decide)

end S_TMP17

section S_TMP17
theorem zin_0 {x lo hi : Int32} : ¬ zin x lo hi = 0 ↔ lo ≤ x ∧ x ≤ hi := by
  unfold zin
  constructor
  · intro h
    split at h
    · exact absurd rfl h
    · split at h
      · exact absurd rfl h
      · rename_i a b; exact ⟨Int32.not_lt.mp a, Int32.not_lt.mp b⟩
  · intro h
    rw [if_neg (Int32.not_lt.mpr h.1), if_neg (Int32.not_lt.mpr h.2)]
    decide
theorem le_toInt {a b : Int32} : a ≤ b ↔ a.toInt ≤ b.toInt := Int32.le_iff_toInt_le
theorem lt_toInt {a b : Int32} : a < b ↔ a.toInt < b.toInt := Int32.lt_iff_toInt_lt
theorem zin_n {x : Int32} {m : Nat} (hm : m < 2 ^ 31) (h : ¬ zin x 0 (nI m) = 0) : ∃ j : Nat, j ≤ m ∧ x = nI j := by
  obtain ⟨h1, h2⟩ := zin_0.mp h
  obtain ⟨j, hj, e⟩ := nI_of (x := x) (Int32.not_lt.mpr h1)
  refine ⟨j, ?_, e⟩
  rw [e] at h2
  exact (nI_leI hj hm).mp h2
theorem zin_m {x : Int32} {n : Nat} (hn : n < 2 ^ 31) (h : ¬ zin x 0 (nI n - 1) = 0) : ∃ j : Nat, j < n ∧ x = nI j := by
  rcases Nat.eq_zero_or_pos n with z | z
  · subst z
    obtain ⟨h1, h2⟩ := zin_0.mp h
    exact absurd (Int32.le_trans h1 h2) (by decide)
  · rw [nI_p1 z] at h
    obtain ⟨j, hj, e⟩ := zin_n (by omega) h
    exact ⟨j, by omega, e⟩
theorem zin_1 {x : Int32} {m : Nat} (hm : m < 2 ^ 31) (h : ¬ zin x 1 (nI m) = 0) : ∃ j : Nat, 1 ≤ j ∧ j ≤ m ∧ x = nI j := by
  obtain ⟨h1, h2⟩ := zin_0.mp h
  obtain ⟨j, hj, e⟩ := nI_of (x := x) (fun z => by
    rw [lt_toInt] at z; rw [le_toInt] at h1
    rw [Int32.toInt_zero] at z
    have : (1 : Int32).toInt = 1 := by decide
    omega)
  rw [e] at h1 h2
  exact ⟨j, (nI_leI (a := 1) (by decide) hj).mp h1, (nI_leI hj hm).mp h2, e⟩
theorem code_p {r : Nat → Int32} {c : Int32} {X Y : (Nat → Int32) → Prop} (hc : ¬ c ≤ 0) (h : Y (va_up r 6 c)) : ∀ r2 : Nat → Int32, r2 = va_up r 6 c → ((r2 6) ≤ 0 → X r2) ∧ (¬ (r2 6) ≤ 0 → Y r2) := fun r2 e => by
  subst e
  exact ⟨fun z => absurd (by rw [va_up_self] at z; exact z) hc, fun _ => h⟩
theorem code_0 {r : Nat → Int32} {X Y : (Nat → Int32) → Prop} (h : X (va_up r 6 0)) : ∀ r2 : Nat → Int32, r2 = va_up r 6 0 → ((r2 6) ≤ 0 → X r2) ∧ (¬ (r2 6) ≤ 0 → Y r2) := fun r2 e => by
  subst e
  exact ⟨fun _ => h, fun z => absurd (by rw [va_up_self]; decide) z⟩
theorem vers_ix {μ : Nat → Int32} (hw : WF μ) {p : Int32} (h : ¬ zin p 0 (μ 0 - 1) = 0) : ∃ v n : Nat, v < n ∧ n ≤ 6 ∧ μ 0 = nI n ∧ p = nI v := by
  obtain ⟨n, h6, e⟩ := hw.1
  rw [e] at h
  obtain ⟨v, hv, ep⟩ := zin_m (by omega) h
  exact ⟨v, n, hv, h6, e, ep⟩
theorem ship_ix {μ : Nat → Int32} (hw : WF μ) {p : Int32} (h : ¬ zin p 0 (μ 1 - 1) = 0) : ∃ v n : Nat, v < n ∧ n ≤ 10 ∧ μ 1 = nI n ∧ p = nI v := by
  obtain ⟨n, h6, e⟩ := hw.2.1
  rw [e] at h
  obtain ⟨v, hv, ep⟩ := zin_m (by omega) h
  exact ⟨v, n, hv, h6, e, ep⟩
def verC (μ : Nat → Int32) (p w : Int32) : Int32 := if zin p 0 (μ 0 - 1) = 0 then 1 else if zin w 0 7 = 0 then 2 else 0
def verA (μ : Nat → Int32) (v : Nat) (w : Int32) : Int32 := if w = 0 then μ (274 + 510 * v) else if w = 1 then μ (274 + 510 * v + 1) else if w = 6 then eSet μ v else if w = 7 then aBr μ v else μ (274 + 510 * v + 146 + iv w - 2)
def shpC (μ : Nat → Int32) (p w : Int32) : Int32 := if zin p 0 (μ 1 - 1) = 0 then 1 else if zin w 0 8 = 0 then 2 else 0
def shpA (μ : Nat → Int32) (s : Nat) (w : Int32) : Int32 := if w = 5 then realF μ s else if w = 6 then dimF μ s 1 else if w = 7 then longF μ s else if w = 8 then μ (14 + 26 * s + 5) else μ (14 + 26 * s + iv w)
def brkC (μ : Nat → Int32) (p z i : Int32) : Int32 := if zin p 0 (μ 0 - 1) = 0 then 1 else if zin z 1 9 = 0 then 1 else if zin i (-1) (μ (274 + 510 * iv p + 38 + iv z - 1) - 1) = 0 then 1 else 0
def brkA (μ : Nat → Int32) (v z : Nat) (i b : Int32) : Int32 := if 0 ≤ i then (if b = 0 then μ (274 + 510 * v + 47 + 10 * (z - 1) + 2 * iv i) else μ (274 + 510 * v + 47 + 10 * (z - 1) + 2 * iv i + 1)) else if b = 0 then μ (274 + 510 * v + 38 + z - 1) else μ (274 + 510 * v + 137 + z - 1)
def accC (μ : Nat → Int32) (p a w : Int32) : Int32 := if zin p 0 (μ 0 - 1) = 0 then 1 else if zin a 0 9 = 0 then 2 else if μ (274 + 510 * iv p + 150 + 36 * iv a) = 0 then 2 else if zin w 0 4 = 0 then 3 else 0
def basC (μ : Nat → Int32) (p z w : Int32) : Int32 := if zin p 0 (μ 0 - 1) = 0 then 1 else if zin z 1 9 = 0 then 1 else if zin w 0 99999 = 0 then 2 else if μ (274 + 510 * iv p + 38 + iv z - 1) = 0 then 3 else 0
def vonC (μ : Nat → Int32) (d : Int32) : Int32 := if zin d 0 999 = 0 then 1 else if vOf μ d < 0 then 2 else 0
def zonC (μ : Nat → Int32) (p pl : Int32) : Int32 := if zin p 0 (μ 0 - 1) = 0 then 1 else if zin pl 0 999 = 0 then 1 else if zIn μ (iv p) pl = 0 then 2 else 0
def auA (μ : Nat → Int32) (c : Int32) : Int32 := if 5 ≤ c then (if c = 5 then μ 3 else posF μ) else accF μ c
def rbFold (μ : Nat → Int32) (sum : Int32) : Nat → Nat → Int32 → Int32 → Int32
  | 0, _, _, p => p
  | k + 1, i, most, p => if μ (4 + 2 * i) ≤ sum ∧ most < μ (4 + 2 * i) then rbFold μ sum k (i + 1) (μ (4 + 2 * i)) (μ (4 + 2 * i + 1)) else rbFold μ sum k (i + 1) most p
def rebF (μ : Nat → Int32) (c : Int32) : Int32 := pctF (accF μ c) (rbFold μ (accF μ c) (iv (μ 2)) 0 (-1) 0)
/-- the paper is in order -/
def PW (r : Nat → Int32) (q : Nat → Nat → Int32) : Prop := ∃ n : Nat, n ≤ 200 ∧ r 40 = nI n ∧ ∀ i, i < n → vc (q 12 i)
/-- the input's length is in order -/
def FW (r : Nat → Int32) : Prop := ∃ n : Nat, n ≤ 80 ∧ r 8 = nI n
def auC (c : Int32) : Int32 := if zin c 0 6 = 0 then 1 else 0
def rbC (c : Int32) : Int32 := if zin c 0 3 = 0 then 1 else 0
def ppC (r : Nat → Int32) (i : Int32) : Int32 := if zin i 0 (r 40 - 1) = 0 then 1 else 0
def imC (r : Nat → Int32) : Int32 := if 0 ≤ r 12 then 0 else 1
theorem vc_n {n : Nat} (h : n < 128) : vc (nI n) := by
  have : ∀ n : Nat, n < 128 → vc (nI n) := by unfold vc; decide +kernel
  exact this n h

end S_TMP17

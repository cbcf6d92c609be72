section S_TMP17
/-- a row is laid on the pile of past ones -/
def psh (P P1 : Nat → Int32) (row : Nat → Int32) (c c1 : Int32) : Prop := ∃ n : Nat, n ≤ 8 ∧ c = nI n ∧ (if n < 8 then c1 = nI (n + 1) ∧ (∀ j k, j < n → k < 3334 → P1 (3334 * j + k) = P (3334 * j + k)) ∧ ∀ k, k < 3334 → P1 (3334 * n + k) = row k else c1 = nI 8 ∧ (∀ j k, j < 7 → k < 3334 → P1 (3334 * j + k) = P (3334 * (j + 1) + k)) ∧ ∀ k, k < 3334 → P1 (3334 * 7 + k) = row k)
def CW8 (r : Nat → Int32) : Prop := ∃ n : Nat, n ≤ 8 ∧ r 5 = nI n
/-- what a call that changes the state leaves: code C, new row F, answer A -/
def stP (r : Nat → Int32) (q : Nat → Nat → Int32) (C : Int32) (F : Nat → Int32) (A v : Int32) (r1 : Nat → Int32) (q1 : Nat → Nat → Int32) : Prop := kR r r1 (5 :: SC) ∧ kQ q q1 [0, 3] ∧ r1 6 = C ∧ (¬ C = 0 → r1 5 = r 5 ∧ q1 = q) ∧ (C = 0 → psh (q 3) (q1 3) (q 0) (r 5) (r1 5) ∧ q1 0 = F ∧ v = A)
theorem stP.bad {r : Nat → Int32} {q : Nat → Nat → Int32} {C c : Int32} {F : Nat → Int32} {A v : Int32} (e : C = c) (hc : ¬ c = 0) : stP r q C F A v (va_up r 6 c) q := ⟨kR.rf.up (by decide) _, kQ.rf, by rw [va_up_self, e], fun _ => ⟨va_up_ne _ _ (by decide), rfl⟩, fun z => absurd (e.symm.trans z) hc⟩
theorem CW8.u6 {r : Nat → Int32} {x : Int32} (h : CW8 r) : CW8 (va_up r 6 x) := by
  obtain ⟨n, hn, e⟩ := h
  exact ⟨n, hn, by rw [va_up_ne _ _ (by decide)]; exact e⟩
/-- what comes behind a keeping of the row -/
theorem stP.ok {r r6 : Nat → Int32} {q q7 q1 : Nat → Nat → Int32} {C : Int32} {F : Nat → Int32} {A v : Int32} (e : C = 0) (h : kR (va_up r 6 0) r6 [5] ∧ kQ q q7 [3] ∧ psh (q 3) (q7 3) (q 0) ((va_up r 6 0) 5) (r6 5)) (hq : kQ q7 q1 [0]) (hF : q1 0 = F) (hv : v = A) : stP r q C F A v r6 q1 := by
  obtain ⟨h1, h2, h3⟩ := h
  rw [va_up_ne _ _ (by decide)] at h3
  have k6 : kR r (va_up r 6 0) (5 :: SC) := kR.rf.up (by decide) _
  refine ⟨k6.tr h1 (fun _ h => h) (by decide), h2.tr hq (by decide) (by decide), ?_, fun z => absurd e z, fun _ => ⟨?_, hF, hv⟩⟩
  · rw [h1 6 (by decide), va_up_self, e]
  · rw [hq 3 (by decide)]; exact h3
def shiC (μ : Nat → Int32) (p d h c : Int32) : Int32 := if zin p 0 999 = 0 then 1 else if zin d 0 999 = 0 then 1 else if zin h 0 255 = 0 then 1 else if zin c 0 3 = 0 then 1 else if μ 1 = 10 then 2 else 0
def zf (μ : Nat → Int32) (k n : Nat) : Nat → Int32 := fun i => if k ≤ i ∧ i < k + n then 0 else μ i
def shiF (μ : Nat → Int32) (p d h c : Int32) : Nat → Int32 := upd (upd (upd (upd (upd (upd (zf μ (14 + 26 * iv (μ 1)) 26) (14 + 26 * iv (μ 1)) p) (14 + 26 * iv (μ 1) + 1) d) (14 + 26 * iv (μ 1) + 2) h) (14 + 26 * iv (μ 1) + 3) c) (14 + 26 * iv (μ 1) + 5) (-1)) 1 (μ 1 + 1)
def pakC (μ : Nat → Int32) (s a b c w : Int32) : Int32 := if zin s 0 (μ 1 - 1) = 0 then 1 else if zin a 1 200 = 0 then 2 else if zin b 1 200 = 0 then 2 else if zin c 1 200 = 0 then 2 else if zin w 1 999 = 0 then 2 else if ¬ psF μ (iv s) = 0 then 3 else if μ (14 + 26 * iv s + 4) = 5 then 3 else 0
def pakF (μ : Nat → Int32) (s : Nat) (a b c w : Int32) : Nat → Int32 := upd (upd (upd (upd (upd μ (14 + 26 * s + 6 + 4 * iv (μ (14 + 26 * s + 4))) a) (14 + 26 * s + 6 + 4 * iv (μ (14 + 26 * s + 4)) + 1) b) (14 + 26 * s + 6 + 4 * iv (μ (14 + 26 * s + 4)) + 2) c) (14 + 26 * s + 6 + 4 * iv (μ (14 + 26 * s + 4)) + 3) w) (14 + 26 * s + 4) (μ (14 + 26 * s + 4) + 1)
def rouC (μ : Nat → Int32) (s p d : Int32) : Int32 := if zin s 0 (μ 1 - 1) = 0 then 1 else if zin p 0 999 = 0 then 2 else if zin d 0 999 = 0 then 2 else if ¬ psF μ (iv s) = 0 then 3 else 0
def rouF (μ : Nat → Int32) (s : Nat) (p d : Int32) : Nat → Int32 := upd (upd μ (14 + 26 * s) p) (14 + 26 * s + 1) d
def hanC (μ : Nat → Int32) (s h : Int32) : Int32 := if zin s 0 (μ 1 - 1) = 0 then 1 else if zin h 0 255 = 0 then 2 else if ¬ psF μ (iv s) = 0 then 3 else 0
/-- the step with a threshold, the number of steps if there is none -/
def stxF (μ : Nat → Int32) (t : Int32) : Nat → Nat → Nat
  | 0, i => i
  | k + 1, i => if μ (4 + 2 * i) = t then i else stxF μ t k (i + 1)
def stx (μ : Nat → Int32) (t : Int32) : Nat := stxF μ t (iv (μ 2)) 0
def rebC (μ : Nat → Int32) (t p : Int32) : Int32 := if t < 0 then 1 else if zin p 0 50 = 0 then 1 else if p = 0 ∧ ¬ stx μ t < iv (μ 2) then 2 else if ¬ stx μ t < iv (μ 2) ∧ iv (μ 2) = 5 then 3 else 0
def rebS (μ : Nat → Int32) (t p : Int32) : Nat → Int32 := if p = 0 then upd (upd (upd μ 2 (μ 2 - 1)) (4 + 2 * stx μ t) (μ (4 + 2 * (iv (μ 2) - 1)))) (4 + 2 * stx μ t + 1) (μ (4 + 2 * (iv (μ 2) - 1) + 1)) else upd (upd (upd μ 2 (if stx μ t < iv (μ 2) then μ 2 else μ 2 + 1)) (4 + 2 * stx μ t) t) (4 + 2 * stx μ t + 1) p
theorem stx_le {μ : Nat → Int32} {t : Int32} : ∀ k i, i ≤ stxF μ t k i ∧ stxF μ t k i ≤ i + k := by
  intro k
  induction k with
  | zero => intro i; exact ⟨Nat.le_refl _, Nat.le_refl _⟩
  | succ k ih =>
    intro i
    rw [stxF]
    split
    · omega
    · have := ih (i + 1); omega
/-- whether a version with this first day is there, from the v-th on -/
def hdF' (μ : Nat → Int32) (d : Int32) : Nat → Nat → Bool
  | 0, _ => false
  | k + 1, v => decide (μ (274 + 510 * v) = d) || hdF' μ d k (v + 1)
def mkC (μ : Nat → Int32) (d f : Int32) : Int32 := if zin d 0 999 = 0 ∨ hdF' μ d (iv (μ 0)) 0 = true then 1 else if ¬ f = -1 ∧ zin f 0 (μ 0 - 1) = 0 then 2 else if μ 0 = 6 then 3 else 0
def cpv (μ : Nat → Int32) (n : Nat) (f : Int32) : Nat → Int32 := fun i => if 274 + 510 * n ≤ i ∧ i < 274 + 510 * n + 510 then (if f < 0 then 0 else μ (274 + 510 * iv f + (i - (274 + 510 * n)))) else μ i
def mkF (μ : Nat → Int32) (d f : Int32) : Nat → Int32 := upd (upd (if f < 0 then upd (upd (cpv μ (iv (μ 0)) f) (274 + 510 * iv (μ 0) + 146) 5000) (274 + 510 * iv (μ 0) + 149) 999 else cpv μ (iv (μ 0)) f) (274 + 510 * iv (μ 0)) d) 0 (μ 0 + 1)
theorem b2i_a1 (a : Bool) : b2i a &&& 1 = b2i a := by cases a <;> rfl
theorem b2i_a0 (a : Bool) : b2i a &&& 0 = b2i false := by cases a <;> rfl

end S_TMP17

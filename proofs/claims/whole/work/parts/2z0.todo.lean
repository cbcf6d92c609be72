section S_TODO
theorem du_3 : nI 3 = (3 : Int32) := rfl
theorem du_5 : nI 5 = (5 : Int32) := rfl
theorem du_9 : nI 9 = (9 : Int32) := rfl
theorem du_12 : nI 12 = (12 : Int32) := rfl
theorem du_33 : nI 33 = (33 : Int32) := rfl
theorem du_37 : nI 37 = (37 : Int32) := rfl
theorem du_38 : nI 38 = (38 : Int32) := rfl
theorem du_42 : nI 42 = (42 : Int32) := rfl
theorem du_45 : nI 45 = (45 : Int32) := rfl
theorem du_50 : nI 50 = (50 : Int32) := rfl
theorem du_58 : nI 58 = (58 : Int32) := rfl
theorem du_63 : nI 63 = (63 : Int32) := rfl
theorem du_97 : nI 97 = (97 : Int32) := rfl
theorem du_98 : nI 98 = (98 : Int32) := rfl
theorem du_99 : nI 99 = (99 : Int32) := rfl
theorem du_100 : nI 100 = (100 : Int32) := rfl
theorem du_102 : nI 102 = (102 : Int32) := rfl
theorem du_109 : nI 109 = (109 : Int32) := rfl
theorem du_114 : nI 114 = (114 : Int32) := rfl
theorem du_115 : nI 115 = (115 : Int32) := rfl
theorem du_122 : nI 122 = (122 : Int32) := rfl
theorem du_124 : nI 124 = (124 : Int32) := rfl
theorem du_999 : nI 999 = (999 : Int32) := rfl
theorem du_1000 : nI 1000 = (1000 : Int32) := rfl
theorem du_9999 : nI 9999 = (9999 : Int32) := rfl
abbrev TS : Type := Bool × Int32 × Int32 × Int32
/-- the tests of a condition behind its first, with their rows; the last row; the place -/
def cnL (b : Nat → Int32) (n : Nat) : Nat → Nat → PS → List (Nat × TS) × Nat × PS
  | 0, row, σ => ([], row, σ)
  | k + 1, row, σ =>
    if σ.2 = true then ([], row, σ)
    else if tkB b n σ 38 = true then ((row, (tsR b n (tkS b n σ 38)).1) :: (cnL b n k row (tsR b n (tkS b n σ 38)).2).1, (cnL b n k row (tsR b n (tkS b n σ 38)).2).2)
    else if tkB b n σ 124 = true then ((row + 1, (tsR b n (tkS b n σ 124)).1) :: (cnL b n k (row + 1) (tsR b n (tkS b n σ 124)).2).1, (cnL b n k (row + 1) (tsR b n (tkS b n σ 124)).2).2)
    else ([], row, σ)
def cnF (b : Nat → Int32) (n : Nat) (σ : PS) : List (Nat × TS) × Nat × PS := ((0, (tsR b n σ).1) :: (cnL b n 80 0 (tsR b n σ).2).1, (cnL b n 80 0 (tsR b n σ).2).2)
/-- the tests stand in a row of numbers from t0 on -/
def tsK (w : Nat → Int32) (t0 : Nat) (l : List (Nat × TS)) : Prop := ∀ j x, l[j]? = some x → w (t0 + j) = tsE (nI x.1) x.2
theorem tsK.nil {w : Nat → Int32} {t0 : Nat} : tsK w t0 [] := fun j x h => by simp at h
theorem tsK.cons {w : Nat → Int32} {t0 : Nat} {x : Nat × TS} {l : List (Nat × TS)} (h : w t0 = tsE (nI x.1) x.2) (h2 : tsK w (t0 + 1) l) : tsK w t0 (x :: l) := fun j y hy => by
  cases j with
  | zero => simp at hy; rw [← hy]; exact h
  | succ j => simp at hy; have := h2 j y hy; rw [← this]; congr 1; omega
theorem cnL_bad {b : Nat → Int32} {n k row : Nat} {σ : PS} (h : σ.2 = true) : cnL b n k row σ = ([], row, σ) := by
  cases k with
  | zero => rfl
  | succ k => rw [cnL, if_pos h]
theorem cnL_no {b : Nat → Int32} {n k row : Nat} {σ : PS} (h1 : tkB b n σ 38 = false) (h2 : tkB b n σ 124 = false) : cnL b n k row σ = ([], row, σ) := by
  cases k with
  | zero => rfl
  | succ k =>
    rw [cnL, h1, h2]
    split
    · rfl
    · rfl
theorem tkB_gd {b : Nat → Int32} {n : Nat} {σ : PS} {c : Int32} (hc : ¬ c = -1) (h : tkB b n σ c = true) : σ.2 = false ∧ σ.1 < n ∧ tkS b n σ c = (σ.1 + 1, σ.2) := by
  have h0 := h
  unfold tkB at h
  rw [Bool.and_eq_true, decide_eq_true_eq] at h
  refine ⟨?_, sg_in hc h.2, by unfold tkS; rw [if_pos h0]⟩
  cases hs : σ.2 with
  | false => rfl
  | true => rw [hs] at h; cases h.1
theorem cnL_and {b : Nat → Int32} {n k row : Nat} {σ : PS} (h : tkB b n σ 38 = true) : cnL b n (k + 1) row σ = ((row, (tsR b n (tkS b n σ 38)).1) :: (cnL b n k row (tsR b n (tkS b n σ 38)).2).1, (cnL b n k row (tsR b n (tkS b n σ 38)).2).2) := by
  rw [cnL, if_neg (by rw [(tkB_gd (by decide) h).1]; decide), if_pos h]
theorem cnL_or {b : Nat → Int32} {n k row : Nat} {σ : PS} (h1 : tkB b n σ 38 = false) (h : tkB b n σ 124 = true) : cnL b n (k + 1) row σ = ((row + 1, (tsR b n (tkS b n σ 124)).1) :: (cnL b n k (row + 1) (tsR b n (tkS b n σ 124)).2).1, (cnL b n k (row + 1) (tsR b n (tkS b n σ 124)).2).2) := by
  rw [cnL, if_neg (by rw [(tkB_gd (by decide) h).1]; decide), h1, if_neg (by decide), if_pos h]
theorem tkS_no {b : Nat → Int32} {n : Nat} {σ : PS} {c : Int32} (h : tkB b n σ c = false) : tkS b n σ c = σ := by
  unfold tkS
  rw [h]; rfl
/-- what a condition's reading leaves -/
def cnQ (t : List (Nat × TS) × Nat × PS) (r : Nat → Int32) (q : Nat → Nat → Int32) (v : Int32) (r1 : Nat → Int32) (q1 : Nat → Nat → Int32) : Prop := kR r r1 [10, 11, 15] ∧ kQ q q1 [6] ∧ psO r1 ∧ pσ r1 = t.2.2 ∧ ((pσ r1).2 = false → (∀ i, i < iv (r 15) → q1 6 i = q 6 i) ∧ tsO r1 ∧ r1 15 = nI (iv (r 15) + t.1.length) ∧ v = nI (t.2.1 + 1) ∧ tsK (q1 6) (iv (r 15)) t.1)
theorem tsO.tk {r r1 : Nat → Int32} (h : tsO r) (hk : r1 15 = r 15) (hle : (pσ r).1 ≤ (pσ r1).1) : tsO r1 := by
  obtain ⟨t, ht, e⟩ := h
  exact ⟨t, Nat.lt_of_lt_of_le ht hle, hk.trans e⟩
/-- a test ahead of what is read already -/
theorem cnQ.cons {b : Nat → Int32} {n row1 : Nat} {σ1 : PS} {t : List (Nat × TS) × Nat × PS} {r r8 r15 : Nat → Int32} {q q16 : Nat → Nat → Int32} (hb : q 4 = b) (hn : iv (r8 8) = n) (h80 : (pσ r8).1 ≤ 80) (h8 : kR r r8 [10]) (hO : tsO r8) (hσ : pσ r8 = σ1) (ht : tsP r8 q (nI row1) r15 q16) {v : Int32} {r1 : Nat → Int32} {q1 : Nat → Nat → Int32} (hgo : (pσ r1).2 = false → (pσ r15).2 = false) (h : cnQ t r15 q16 v r1 q1) : cnQ ((row1, (tsR b n σ1).1) :: t.1, t.2) r q v r1 q1 := by
  obtain ⟨k1, k2, k3, k4, k5⟩ := h
  obtain ⟨a1, a2, a3, a4, a5, a6⟩ := ht
  refine ⟨(h8.mn (by decide)).tr (a1.tr k1 (fun _ h => h) (fun _ h => h)) (fun _ h => h) (fun _ h => h), a2.tr k2 (fun _ h => h) (fun _ h => h), k3, k4, fun z => ?_⟩
  obtain ⟨b1, b2, b3⟩ := a6 (hgo z)
  obtain ⟨c1, c2, c3, c4, c5⟩ := k5 z
  have e15 : r8 15 = r 15 := h8 15 (by decide)
  rw [e15] at b2 b3 a5
  obtain ⟨t0, ht0, et0⟩ := hO
  have ev : iv (r 15) = t0 := by rw [← e15, et0]; exact nI_clamp (by have : iv (r8 10) = (pσ r8).1 := rfl; omega)
  have hlt : iv (r15 15) = iv (r 15) + 1 := by rw [b2]; exact nI_clamp (by have : iv (r8 10) = (pσ r8).1 := rfl; omega)
  rw [hlt] at c1 c3 c5
  refine ⟨fun i hi => (c1 i (by omega)).trans (a5 i hi), c2, by rw [c3, List.length_cons]; congr 1; omega, c4, tsK.cons ?_ c5⟩
  rw [c1 _ (by omega), b3, hb, hn, hσ]
theorem cnL_gd {b : Nat → Int32} {n : Nat} : ∀ (k row : Nat) (σ : PS), (cnL b n k row σ).2.2.2 = false → σ.2 = false := by
  intro k row σ h
  cases hs : σ.2 with
  | false => rfl
  | true => rw [cnL_bad hs] at h; rw [← h, hs]

theorem nd_bad {b : Nat → Int32} {n : Nat} {σ : PS} {c : Int32} (h : σ.2 = true) : ndS b n σ c = σ := by
  have ht : tkB b n σ c = false := by unfold tkB; rw [h]; rfl
  unfold ndS
  rw [tkS_no ht, ht]
  exact Prod.ext rfl h.symm
theorem nb_bad {b : Nat → Int32} {n : Nat} {σ : PS} (h : σ.2 = true) : nbF b n σ = (0, σ) := by
  obtain ⟨a, c⟩ := σ
  dsimp only at h
  subst h
  unfold nbF nbL
  have hd : dgS b n (a, true) 0 9 = (a, true) := by unfold dgS dgB; rfl
  rw [hd]
  have : dgB b n (a, true) 0 9 = false := rfl
  rw [if_neg (by rw [this]; decide)]
  unfold dgV
  rw [if_neg (by rw [this]; decide)]
theorem dix19 : dix 1 9 := ⟨1, 9, by decide, by decide, rfl, rfl⟩
/-- a statement's row of eight is kept outside and at its kind -/
def kS (w w1 : Nat → Int32) (s : Nat) : Prop := ∀ i, i ≤ s ∨ s + 8 ≤ i → w1 i = w i
theorem kS.rf {w : Nat → Int32} {s : Nat} : kS w w s := fun _ _ => rfl
theorem kS.up {w w1 : Nat → Int32} {s i : Nat} (h : kS w w1 s) (h1 : s < i) (h2 : i < s + 8) (x : Int32) : kS w (upd w1 i x) s := fun j hj => by rw [pk_un (by omega)]; exact h j hj
theorem kS.tr {w w1 w2 : Nat → Int32} {s : Nat} (h : kS w w1 s) (h2 : kS w1 w2 s) : kS w w2 s := fun j hj => (h2 j hj).trans (h j hj)
def s8 (p : Int32) : Prop := ∃ s : Nat, s + 8 ≤ 640 ∧ p = nI s
/-- a zone's statement behind its letter -/
def zoR (b : Nat → Int32) (n : Nat) (kd : Int32) (σ : PS) : (Int32 × Int32 × Int32) × PS :=
  if kd = 109 then ((dgV b n σ 1 9, (nbF b n (ndS b n (dgS b n σ 1 9) 58)).1, 0), (nbF b n (ndS b n (dgS b n σ 1 9) 58)).2)
  else ((dgV b n σ 1 9, (nbF b n (ndS b n (dgS b n σ 1 9) 58)).1, (nbF b n (ndS b n (nbF b n (ndS b n (dgS b n σ 1 9) 58)).2 (if kd = 122 then 45 else 42))).1), (nbF b n (ndS b n (nbF b n (ndS b n (dgS b n σ 1 9) 58)).2 (if kd = 122 then 45 else 42))).2)
def zoP (r : Nat → Int32) (q : Nat → Nat → Int32) (s : Nat) (kd : Int32) (r1 : Nat → Int32) (q1 : Nat → Nat → Int32) : Prop := kR r r1 [10, 11] ∧ kQ q q1 [5] ∧ psO r1 ∧ pσ r1 = (zoR (q 4) (iv (r 8)) kd (pσ r)).2 ∧ ((pσ r1).2 = false → kS (q 5) (q1 5) s ∧ q1 5 (s + 1) = (zoR (q 4) (iv (r 8)) kd (pσ r)).1.1 ∧ q1 5 (s + 2) = (zoR (q 4) (iv (r 8)) kd (pσ r)).1.2.1 ∧ (¬ kd = 109 → q1 5 (s + 3) = (zoR (q 4) (iv (r 8)) kd (pσ r)).1.2.2))
theorem bd_of {r : Nat → Int32} (h : vz (r 11)) (c : ¬ r 11 = 0) : (pσ r).2 = true := by
  cases hs : (pσ r).2 with
  | true => rfl
  | false => exact absurd ((pb_of h).mpr hs) c

abbrev STM : Type := (Int32 × Int32 × Int32 × Int32) × (List (Nat × TS) × Nat) × Int32
/-- an accessorial's statement behind its letter: where the number ends -/
def exN (b : Nat → Int32) (n : Nat) (σ : PS) : Int32 × PS := nbF b n (ndS b n (dgS b n σ 0 9) 58)
def exU (b : Nat → Int32) (n : Nat) (σ : PS) : Int32 × PS := if tkB b n σ 37 = true then (2, tkS b n σ 37) else if tkB b n σ 42 = true then (1, tkS b n σ 42) else (0, σ)
def exC (b : Nat → Int32) (n : Nat) (σ : PS) : (List (Nat × TS) × Nat) × PS := if tkB b n σ 63 = true then (((cnF b n (tkS b n σ 63)).1, (cnF b n (tkS b n σ 63)).2.1 + 1), (cnF b n (tkS b n σ 63)).2.2) else (([], 0), σ)
def exX (b : Nat → Int32) (n : Nat) (σ : PS) : Int32 × PS := if tkB b n σ 33 = true then (dgV b n (tkS b n σ 33) 0 9, dgS b n (tkS b n σ 33) 0 9) else (-1, σ)
def exR (b : Nat → Int32) (n : Nat) (σ : PS) : STM × PS :=
  (((97, dgV b n σ 0 9, (exN b n σ).1, (exU b n (exN b n σ).2).1), (exC b n (exU b n (exN b n σ).2).2).1, (exX b n (exC b n (exU b n (exN b n σ).2).2).2).1), (exX b n (exC b n (exU b n (exN b n σ).2).2).2).2)
/-- where an accessorial's condition and exclusion stand -/
def exK (w u : Nat → Int32) (s hi : Nat) (x : STM) : Prop := ∃ t : Nat, t + x.2.1.1.length ≤ hi ∧ w (s + 4) = nI t ∧ w (s + 5) = nI x.2.1.2 ∧ w (s + 6) = nI (t + x.2.1.1.length) ∧ w (s + 7) = x.2.2 ∧ tsK u t x.2.1.1
def exP (r : Nat → Int32) (q : Nat → Nat → Int32) (s : Nat) (r1 : Nat → Int32) (q1 : Nat → Nat → Int32) : Prop := kR r r1 [10, 11, 15] ∧ kQ q q1 [5, 6] ∧ psO r1 ∧ pσ r1 = (exR (q 4) (iv (r 8)) (pσ r)).2 ∧ ((pσ r1).2 = false → kS (q 5) (q1 5) s ∧ (∀ i, i < iv (r 15) → q1 6 i = q 6 i) ∧ tsO r1 ∧ iv (r 15) ≤ iv (r1 15) ∧ q1 5 (s + 1) = (exR (q 4) (iv (r 8)) (pσ r)).1.1.2.1 ∧ q1 5 (s + 2) = (exR (q 4) (iv (r 8)) (pσ r)).1.1.2.2.1 ∧ q1 5 (s + 3) = (exR (q 4) (iv (r 8)) (pσ r)).1.1.2.2.2 ∧ exK (q1 5) (q1 6) s (iv (r1 15)) (exR (q 4) (iv (r 8)) (pσ r)).1)

/-- one statement and the place behind it -/
def stR (b : Nat → Int32) (n : Nat) (σ : PS) : STM × PS :=
  if sg b n σ = 122 ∨ sg b n σ = 98 ∨ sg b n σ = 109 then (((sg b n σ, (zoR b n (sg b n σ) (σ.1 + 1, σ.2)).1), ([], 0), 0), (zoR b n (sg b n σ) (σ.1 + 1, σ.2)).2)
  else if sg b n σ = 100 ∨ sg b n σ = 102 ∨ sg b n σ = 115 ∨ sg b n σ = 99 then (((sg b n σ, (nbF b n (σ.1 + 1, σ.2)).1, 0, 0), ([], 0), 0), (nbF b n (σ.1 + 1, σ.2)).2)
  else if sg b n σ = 97 then exR b n (σ.1 + 1, σ.2)
  else if sg b n σ = 114 then (((114, dgV b n (σ.1 + 1, σ.2) 0 9, 0, 0), ([], 0), 0), dgS b n (σ.1 + 1, σ.2) 0 9)
  else (((0, 0, 0, 0), ([], 0), 0), (σ.1, true))
/-- where a statement stands -/
def stK (w u : Nat → Int32) (s hi : Nat) (x : STM) : Prop := w s = x.1.1 ∧ w (s + 1) = x.1.2.1 ∧ ((x.1.1 = 122 ∨ x.1.1 = 98 ∨ x.1.1 = 109 ∨ x.1.1 = 97) → w (s + 2) = x.1.2.2.1) ∧ ((x.1.1 = 122 ∨ x.1.1 = 98 ∨ x.1.1 = 97) → w (s + 3) = x.1.2.2.2) ∧ (x.1.1 = 97 → exK w u s hi x)
def tsL (r : Nat → Int32) : Prop := ∃ t : Nat, t ≤ iv (r 10) ∧ r 15 = nI t
def smX (r : Nat → Int32) : Prop := ∃ s : Nat, 2 * s ≤ iv (r 10) ∧ r 13 = nI s
def smP (r : Nat → Int32) (q : Nat → Nat → Int32) (r1 : Nat → Int32) (q1 : Nat → Nat → Int32) : Prop := kR r r1 [10, 11, 13, 15] ∧ kQ q q1 [5, 6] ∧ psO r1 ∧ pσ r1 = (stR (q 4) (iv (r 8)) (pσ r)).2 ∧ r1 13 = nI (iv (r 13) + 1) ∧ ((pσ r1).2 = false → (pσ r).1 + 1 ≤ (pσ r1).1 ∧ (∀ i, i < 8 * iv (r 13) → q1 5 i = q 5 i) ∧ (∀ i, i < iv (r 15) → q1 6 i = q 6 i) ∧ tsL r1 ∧ iv (r 15) ≤ iv (r1 15) ∧ stK (q1 5) (q1 6) (8 * iv (r 13)) (iv (r1 15)) (stR (q 4) (iv (r 8)) (pσ r)).1)

def ptB (μ : Nat → Int32) (v : Nat) (x2 x3 : Int32) : Bool := !decide (999 < x2) && (!decide (999 < x3) && (!decide (x3 < x2) && !decide (μ (274 + 510 * v + 1) = 12)))
def ptS (μ : Nat → Int32) (v : Nat) (x1 x2 x3 : Int32) : Nat → Int32 := upd (upd (upd (upd μ (274 + 510 * v + 2 + 3 * iv (μ (274 + 510 * v + 1))) x2) (274 + 510 * v + 2 + 3 * iv (μ (274 + 510 * v + 1)) + 1) x3) (274 + 510 * v + 2 + 3 * iv (μ (274 + 510 * v + 1)) + 2) x1) (274 + 510 * v + 1) (μ (274 + 510 * v + 1) + 1)
/-- the place of a break's weight -/
def bxF (μ : Nat → Int32) (v z : Nat) (w : Int32) : Nat → Nat → Nat
  | 0, i => i
  | k + 1, i => if μ (274 + 510 * v + 47 + 10 * (z - 1) + 2 * i) < w then bxF μ v z w k (i + 1) else i
def bxI (μ : Nat → Int32) (v z : Nat) (w : Int32) : Nat := bxF μ v z w (iv (μ (274 + 510 * v + 38 + z - 1))) 0
def bxB (μ : Nat → Int32) (v z : Nat) (w : Int32) : Bool := decide (bxI μ v z w < iv (μ (274 + 510 * v + 38 + z - 1))) && decide (μ (274 + 510 * v + 47 + 10 * (z - 1) + 2 * bxI μ v z w) = w)
def bkB (μ : Nat → Int32) (v z : Nat) (w p : Int32) : Bool := !decide (99 < p) && (if p = 0 then bxB μ v z w else bxB μ v z w || !decide (μ (274 + 510 * v + 38 + z - 1) = 5))
def bkD (μ : Nat → Int32) (v z i c : Nat) : Nat → Int32 := fun k => if k = 274 + 510 * v + 38 + z - 1 then nI (c - 1) else if 274 + 510 * v + 47 + 10 * (z - 1) + 2 * i ≤ k ∧ k < 274 + 510 * v + 47 + 10 * (z - 1) + 2 * (c - 1) then μ (k + 2) else μ k
def bkU (μ : Nat → Int32) (v z i c : Nat) : Nat → Int32 := fun k => if 274 + 510 * v + 47 + 10 * (z - 1) + 2 * i + 2 ≤ k ∧ k < 274 + 510 * v + 47 + 10 * (z - 1) + 2 * c + 2 then μ (k - 2) else μ k
def bkS (μ : Nat → Int32) (v z : Nat) (w p : Int32) : Nat → Int32 :=
  if p = 0 then bkD μ v z (bxI μ v z w) (iv (μ (274 + 510 * v + 38 + z - 1)))
  else if bxB μ v z w = true then upd (upd μ (274 + 510 * v + 47 + 10 * (z - 1) + 2 * bxI μ v z w) w) (274 + 510 * v + 47 + 10 * (z - 1) + 2 * bxI μ v z w + 1) p
  else upd (upd (upd (bkU μ v z (bxI μ v z w) (iv (μ (274 + 510 * v + 38 + z - 1)))) (274 + 510 * v + 38 + z - 1) (μ (274 + 510 * v + 38 + z - 1) + 1)) (274 + 510 * v + 47 + 10 * (z - 1) + 2 * bxI μ v z w) w) (274 + 510 * v + 47 + 10 * (z - 1) + 2 * bxI μ v z w + 1) p
def seB (x2 x3 : Int32) : Bool := !decide ((if x3 = 1 then (99 : Int32) else if x3 = 2 then 50 else 9999) < x2)
/-- an accessorial's cells, written -/
def seF (μ : Nat → Int32) (v a : Nat) (x2 x3 rows tested : Int32) (tv : Nat → Int32) (excl : Int32) : Nat → Int32 := fun k => if 274 + 510 * v + 150 + 36 * a + 6 ≤ k ∧ k < 274 + 510 * v + 150 + 36 * a + 36 then (if k - (274 + 510 * v + 150 + 36 * a + 6) < iv tested then tv (k - (274 + 510 * v + 150 + 36 * a + 6)) else 0) else (upd (upd (upd (upd (upd (upd μ (274 + 510 * v + 150 + 36 * a) 1) (274 + 510 * v + 150 + 36 * a + 1) x2) (274 + 510 * v + 150 + 36 * a + 2) x3) (274 + 510 * v + 150 + 36 * a + 3) rows) (274 + 510 * v + 150 + 36 * a + 4) tested) (274 + 510 * v + 150 + 36 * a + 5) excl) k
def seW (μ w u : Nat → Int32) (v s : Nat) : Nat → Int32 := seF μ v (iv (w (s + 1))) (w (s + 2)) (w (s + 3)) (w (s + 5)) (w (s + 6) - w (s + 4)) (fun j => u (iv (w (s + 4)) + j)) (w (s + 7))
def seO (w : Nat → Int32) (s : Nat) : Prop := ∃ t k : Nat, t + k ≤ 80 ∧ w (s + 4) = nI t ∧ w (s + 6) = nI (t + k)
def crB (μ : Nat → Int32) (v : Nat) (k x1 x2 x3 : Int32) : Bool :=
  if k = 122 then ptB μ v x2 x3 else if k = 98 then bkB μ v (iv x1) x2 x3 else if k = 109 then decide (¬ zin x2 0 9999 = 0) else if k = 100 then decide (¬ zin x1 1000 9999 = 0) else if k = 102 then decide (¬ zin x1 0 99 = 0) else if k = 115 then decide (¬ zin x1 0 9999 = 0) else if k = 99 then decide (¬ zin x1 0 9999 = 0) else if k = 97 then seB x2 x3 else decide (μ (274 + 510 * v + 150 + 36 * iv x1) = 1)
def crS (μ : Nat → Int32) (v : Nat) (k x1 x2 x3 rows tested : Int32) (tv : Nat → Int32) (excl : Int32) : Nat → Int32 :=
  if k = 122 then ptS μ v x1 x2 x3 else if k = 98 then bkS μ v (iv x1) x2 x3 else if k = 109 then upd μ (274 + 510 * v + 137 + iv x1 - 1) x2 else if k = 100 then upd μ (274 + 510 * v + 146) x1 else if k = 102 then upd μ (274 + 510 * v + 147) x1 else if k = 115 then upd μ (274 + 510 * v + 148) x1 else if k = 99 then upd μ (274 + 510 * v + 149) x1 else if k = 97 then seF μ v (iv x1) x2 x3 rows tested tv excl else zf μ (274 + 510 * v + 150 + 36 * iv x1) 36
/-- a statement that may be carried out -/
def crO (w : Nat → Int32) (s : Nat) : Prop := ((w s = 98 ∨ w s = 109) → zix (w (s + 1))) ∧ (w s = 98 → ∃ n : Nat, n ≤ 9999 ∧ w (s + 3) = nI n) ∧ (w s = 97 → six (w (s + 1)) ∧ seO w s) ∧ ((¬ w s = 122 ∧ ¬ w s = 98 ∧ ¬ w s = 109 ∧ ¬ w s = 100 ∧ ¬ w s = 102 ∧ ¬ w s = 115 ∧ ¬ w s = 99 ∧ ¬ w s = 97) → six (w (s + 1)))



abbrev ws_X11_layPart : List Cond := Cond.code yX11_layPart cX11_layPart 6 none :: W0
abbrev rm_X11_layPart : Room := ({ frames := 0, cells := 0, slots := 0, locals := 0 } : Room)
theorem k_X11_layPart (l : Launch) (D : va_G) (T : Nat → ClassId) (m0 : Nat) (a : Nat → Nat) (p0 : Int32) (r : Nat → Int32) (q : Nat → Nat → Int32) : RMv l yX11_layPart (ws_X11_layPart) rm_X11_layPart D T m0 a [.ref m0, .int p0] r q (fun u => True) := sorry
abbrev ws_X11_findsPair : List Cond := Cond.code yX11_findsPair cX11_findsPair 7 (some .boolean) :: W0
abbrev rm_X11_findsPair : Room := ({ frames := 0, cells := 0, slots := 0, locals := 0 } : Room)
theorem k_X11_findsPair (l : Launch) (D : va_G) (T : Nat → ClassId) (m0 : Nat) (a : Nat → Nat)  (r : Nat → Int32) (q : Nat → Nat → Int32) : RMi l yX11_findsPair (ws_X11_findsPair) rm_X11_findsPair D T m0 a [.ref m0] r q (fun v u => True) := sorry
abbrev ws_X11_put : List Cond := Cond.code yX11_put cX11_put 2 none :: W0
abbrev rm_X11_put : Room := ({ frames := 0, cells := 0, slots := 0, locals := 0 } : Room)
theorem k_X11_put (l : Launch) (D : va_G) (T : Nat → ClassId) (m0 : Nat) (a : Nat → Nat) (p0 : Int32) (r : Nat → Int32) (q : Nat → Nat → Int32) : RMv l yX11_put (ws_X11_put) rm_X11_put D T m0 a [.ref m0, .int p0] r q (fun u => True) := sorry
abbrev ws_X11_puts : List Cond := Cond.code yX11_puts cX11_puts 5 (some .boolean) :: W0
abbrev rm_X11_puts : Room := ({ frames := 1, cells := 0, slots := 0, locals := 20 } : Room)
theorem k_X11_puts (l : Launch) (D : va_G) (T : Nat → ClassId) (m0 : Nat) (a : Nat → Nat) (p0 : Int32) (p1 : Int32) (r : Nat → Int32) (q : Nat → Nat → Int32) (h : WF (q 0) ∧ vix p0 ∧ s8 p1) : RMi l yX11_puts (ws_X11_puts) rm_X11_puts D T m0 a [.ref m0, .int p0, .int p1] r q (fun v u => (v = b2i (ptB (q 0) (iv p0) (q 5 (iv p1 + 2)) (q 5 (iv p1 + 3))) ∧ u.1 = r ∧ kQ q u.2 [0] ∧ (ptB (q 0) (iv p0) (q 5 (iv p1 + 2)) (q 5 (iv p1 + 3)) = true → u.2 0 = ptS (q 0) (iv p0) (q 5 (iv p1 + 1)) (q 5 (iv p1 + 2)) (q 5 (iv p1 + 3))))) := sorry
abbrev ws_X11_writes : List Cond := Cond.code yX11_writes cX11_writes 5 (some .boolean) :: W0
abbrev rm_X11_writes : Room := ({ frames := 1, cells := 0, slots := 0, locals := 22 } : Room)
theorem k_X11_writes (l : Launch) (D : va_G) (T : Nat → ClassId) (m0 : Nat) (a : Nat → Nat) (p0 : Int32) (p1 : Int32) (p2 : Int32) (p3 : Int32) (r : Nat → Int32) (q : Nat → Nat → Int32) (h : ∃ n : Nat, n < 3334 ∧ p0 = nI n) : RMi l yX11_writes (ws_X11_writes) rm_X11_writes D T m0 a [.ref m0, .int p0, .int p1, .int p2, .int p3] r q (fun v u => (v = zin p1 p2 p3 ∧ u.1 = r ∧ u.2 = va_up q 0 (upd (q 0) (iv p0) p1))) := sorry
abbrev ws_X11_putNumber : List Cond := Cond.code yX11_putNumber cX11_putNumber 3 none :: W0
abbrev rm_X11_putNumber : Room := ({ frames := 1, cells := 0, slots := 0, locals := 21 } : Room)
theorem k_X11_putNumber (l : Launch) (D : va_G) (T : Nat → ClassId) (m0 : Nat) (a : Nat → Nat) (p0 : Int32) (r : Nat → Int32) (q : Nat → Nat → Int32) : RMv l yX11_putNumber (ws_X11_putNumber) rm_X11_putNumber D T m0 a [.ref m0, .int p0] r q (fun u => True) := sorry
abbrev ws_X11_setsBreak : List Cond := Cond.code yX11_setsBreak cX11_setsBreak 9 (some .boolean) :: W0
abbrev rm_X11_setsBreak : Room := ({ frames := 2, cells := 0, slots := 0, locals := 42 } : Room)
theorem k_X11_setsBreak (l : Launch) (D : va_G) (T : Nat → ClassId) (m0 : Nat) (a : Nat → Nat) (p0 : Int32) (p1 : Int32) (p2 : Int32) (p3 : Int32) (r : Nat → Int32) (q : Nat → Nat → Int32) (h : WF (q 0) ∧ vix p0 ∧ zix p1 ∧ ∃ n : Nat, n ≤ 9999 ∧ p3 = nI n) : RMi l yX11_setsBreak (ws_X11_setsBreak) rm_X11_setsBreak D T m0 a [.ref m0, .int p0, .int p1, .int p2, .int p3] r q (fun v u => (v = b2i (bkB (q 0) (iv p0) (iv p1) p2 p3) ∧ u.1 = r ∧ kQ q u.2 [0] ∧ (bkB (q 0) (iv p0) (iv p1) p2 p3 = true → u.2 0 = bkS (q 0) (iv p0) (iv p1) p2 p3))) := sorry
abbrev ws_X11_sets : List Cond := Cond.code yX11_sets cX11_sets 7 (some .boolean) :: W0
abbrev rm_X11_sets : Room := ({ frames := 2, cells := 0, slots := 0, locals := 41 } : Room)
theorem k_X11_sets (l : Launch) (D : va_G) (T : Nat → ClassId) (m0 : Nat) (a : Nat → Nat) (p0 : Int32) (p1 : Int32) (r : Nat → Int32) (q : Nat → Nat → Int32) (h : vix p0 ∧ s8 p1 ∧ six (q 5 (iv p1 + 1)) ∧ seO (q 5) (iv p1)) : RMi l yX11_sets (ws_X11_sets) rm_X11_sets D T m0 a [.ref m0, .int p0, .int p1] r q (fun v u => (v = b2i (seB (q 5 (iv p1 + 2)) (q 5 (iv p1 + 3))) ∧ u.1 = r ∧ kQ q u.2 [0] ∧ (seB (q 5 (iv p1 + 2)) (q 5 (iv p1 + 3)) = true → u.2 0 = seW (q 0) (q 5) (q 6) (iv p0) (iv p1)))) := sorry
abbrev ws_X11_removes : List Cond := Cond.code yX11_removes cX11_removes 5 (some .boolean) :: W0
abbrev rm_X11_removes : Room := ({ frames := 2, cells := 0, slots := 0, locals := 41 } : Room)
theorem k_X11_removes (l : Launch) (D : va_G) (T : Nat → ClassId) (m0 : Nat) (a : Nat → Nat) (p0 : Int32) (p1 : Int32) (r : Nat → Int32) (q : Nat → Nat → Int32) (h : vix p0 ∧ six p1) : RMi l yX11_removes (ws_X11_removes) rm_X11_removes D T m0 a [.ref m0, .int p0, .int p1] r q (fun v u => (v = b2i (decide (q 0 (274 + 510 * iv p0 + 150 + 36 * iv p1) = 1)) ∧ u.1 = r ∧ u.2 = va_up q 0 (zf (q 0) (274 + 510 * iv p0 + 150 + 36 * iv p1) 36))) := sorry
abbrev ws_X11_putTest : List Cond := Cond.code yX11_putTest cX11_putTest 4 none :: W0
abbrev rm_X11_putTest : Room := ({ frames := 2, cells := 0, slots := 0, locals := 43 } : Room)
theorem k_X11_putTest (l : Launch) (D : va_G) (T : Nat → ClassId) (m0 : Nat) (a : Nat → Nat) (p0 : Int32) (r : Nat → Int32) (q : Nat → Nat → Int32) : RMv l yX11_putTest (ws_X11_putTest) rm_X11_putTest D T m0 a [.ref m0, .int p0] r q (fun u => True) := sorry
abbrev ws_X11_readZone : List Cond := Cond.code yX11_readZone cX11_readZone 3 none :: W0
abbrev rm_X11_readZone : Room := ({ frames := 3, cells := 0, slots := 0, locals := 66 } : Room)
theorem k_X11_readZone (l : Launch) (D : va_G) (T : Nat → ClassId) (m0 : Nat) (a : Nat → Nat) (p0 : Int32) (p1 : Int32) (r : Nat → Int32) (q : Nat → Nat → Int32) (h : psO r ∧ s8 p0 ∧ (p1 = 122 ∨ p1 = 98 ∨ p1 = 109)) : RMv l yX11_readZone (ws_X11_readZone) rm_X11_readZone D T m0 a [.ref m0, .int p0, .int p1] r q (fun u => (zoP r q (iv p0) p1 u.1 u.2)) := sorry
abbrev ws_X11_carries : List Cond := Cond.code yX11_carries cX11_carries 3 (some .boolean) :: W0
abbrev rm_X11_carries : Room := ({ frames := 3, cells := 0, slots := 0, locals := 70 } : Room)
theorem k_X11_carries (l : Launch) (D : va_G) (T : Nat → ClassId) (m0 : Nat) (a : Nat → Nat) (p0 : Int32) (p1 : Int32) (r : Nat → Int32) (q : Nat → Nat → Int32) (h : WF (q 0) ∧ vix p0 ∧ s8 p1 ∧ crO (q 5) (iv p1)) : RMi l yX11_carries (ws_X11_carries) rm_X11_carries D T m0 a [.ref m0, .int p0, .int p1] r q (fun v u => (v = b2i (crB (q 0) (iv p0) (q 5 (iv p1)) (q 5 (iv p1 + 1)) (q 5 (iv p1 + 2)) (q 5 (iv p1 + 3))) ∧ u.1 = r ∧ kQ q u.2 [0] ∧ (crB (q 0) (iv p0) (q 5 (iv p1)) (q 5 (iv p1 + 1)) (q 5 (iv p1 + 2)) (q 5 (iv p1 + 3)) = true → u.2 0 = crS (q 0) (iv p0) (q 5 (iv p1)) (q 5 (iv p1 + 1)) (q 5 (iv p1 + 2)) (q 5 (iv p1 + 3)) (q 5 (iv p1 + 5)) (q 5 (iv p1 + 6) - q 5 (iv p1 + 4)) (fun j => q 6 (iv (q 5 (iv p1 + 4)) + j)) (q 5 (iv p1 + 7))))) := sorry
abbrev ws_X11_write : List Cond := Cond.code yX11_write cX11_write 7 (some .int) :: W0
abbrev rm_X11_write : Room := ({ frames := 3, cells := 0, slots := 0, locals := 66 } : Room)
theorem k_X11_write (l : Launch) (D : va_G) (T : Nat → ClassId) (m0 : Nat) (a : Nat → Nat) (p0 : Int32) (p1 : Int32) (r : Nat → Int32) (q : Nat → Nat → Int32) : RMi l yX11_write (ws_X11_write) rm_X11_write D T m0 a [.ref m0, .int p0, .int p1] r q (fun v u => True) := sorry
abbrev ws_X11_readCondition : List Cond := Cond.code yX11_readCondition cX11_readCondition 5 (some .int) :: W0
abbrev rm_X11_readCondition : Room := ({ frames := 4, cells := 0, slots := 0, locals := 91 } : Room)
theorem k_X11_readCondition (l : Launch) (D : va_G) (T : Nat → ClassId) (m0 : Nat) (a : Nat → Nat)  (r : Nat → Int32) (q : Nat → Nat → Int32) (h : psO r ∧ tsO r) : RMi l yX11_readCondition (ws_X11_readCondition) rm_X11_readCondition D T m0 a [.ref m0] r q (fun v u => (cnQ (cnF (q 4) (iv (r 8)) (pσ r)) r q v u.1 u.2)) := sorry
abbrev ws_X11_readExtra : List Cond := Cond.code yX11_readExtra cX11_readExtra 2 none :: W0
abbrev rm_X11_readExtra : Room := ({ frames := 5, cells := 0, slots := 0, locals := 115 } : Room)
theorem k_X11_readExtra (l : Launch) (D : va_G) (T : Nat → ClassId) (m0 : Nat) (a : Nat → Nat) (p0 : Int32) (r : Nat → Int32) (q : Nat → Nat → Int32) (h : psO r ∧ tsO r ∧ s8 p0) : RMv l yX11_readExtra (ws_X11_readExtra) rm_X11_readExtra D T m0 a [.ref m0, .int p0] r q (fun u => (exP r q (iv p0) u.1 u.2)) := sorry
abbrev ws_X11_readStatement : List Cond := Cond.code yX11_readStatement cX11_readStatement 3 none :: W0
abbrev rm_X11_readStatement : Room := ({ frames := 6, cells := 0, slots := 0, locals := 136 } : Room)
theorem k_X11_readStatement (l : Launch) (D : va_G) (T : Nat → ClassId) (m0 : Nat) (a : Nat → Nat)  (r : Nat → Int32) (q : Nat → Nat → Int32) (h : psO r ∧ (pσ r).2 = false ∧ tsL r ∧ smX r) : RMv l yX11_readStatement (ws_X11_readStatement) rm_X11_readStatement D T m0 a [.ref m0] r q (fun u => (smP r q u.1 u.2)) := sorry
abbrev ws_X11_shares : List Cond := Cond.code yX11_shares cX11_shares 8 none :: W0
abbrev rm_X11_shares : Room := ({ frames := 6, cells := 0, slots := 0, locals := 139 } : Room)
theorem k_X11_shares (l : Launch) (D : va_G) (T : Nat → ClassId) (m0 : Nat) (a : Nat → Nat) (p0 : Int32) (r : Nat → Int32) (q : Nat → Nat → Int32) : RMv l yX11_shares (ws_X11_shares) rm_X11_shares D T m0 a [.ref m0, .int p0] r q (fun u => True) := sorry
abbrev ws_X11_amend : List Cond := Cond.code yX11_amend cX11_amend 6 (some .int) :: W0
abbrev rm_X11_amend : Room := ({ frames := 7, cells := 0, slots := 0, locals := 158 } : Room)
theorem k_X11_amend (l : Launch) (D : va_G) (T : Nat → ClassId) (m0 : Nat) (a : Nat → Nat) (p0 : Int32) (r : Nat → Int32) (q : Nat → Nat → Int32) : RMi l yX11_amend (ws_X11_amend) rm_X11_amend D T m0 a [.ref m0, .int p0] r q (fun v u => True) := sorry
abbrev ws_X11_layBest : List Cond := Cond.code yX11_layBest cX11_layBest 3 none :: W0
abbrev rm_X11_layBest : Room := ({ frames := 7, cells := 0, slots := 0, locals := 161 } : Room)
theorem k_X11_layBest (l : Launch) (D : va_G) (T : Nat → ClassId) (m0 : Nat) (a : Nat → Nat) (p0 : Int32) (r : Nat → Int32) (q : Nat → Nat → Int32) : RMv l yX11_layBest (ws_X11_layBest) rm_X11_layBest D T m0 a [.ref m0, .int p0] r q (fun u => True) := sorry
abbrev ws_X11_layMerged : List Cond := Cond.code yX11_layMerged cX11_layMerged 3 none :: W0
abbrev rm_X11_layMerged : Room := ({ frames := 7, cells := 0, slots := 0, locals := 161 } : Room)
theorem k_X11_layMerged (l : Launch) (D : va_G) (T : Nat → ClassId) (m0 : Nat) (a : Nat → Nat) (p0 : Int32) (r : Nat → Int32) (q : Nat → Nat → Int32) : RMv l yX11_layMerged (ws_X11_layMerged) rm_X11_layMerged D T m0 a [.ref m0, .int p0] r q (fun u => True) := sorry
abbrev ws_X11_consolidate : List Cond := Cond.code yX11_consolidate cX11_consolidate 2 (some .int) :: W0
abbrev rm_X11_consolidate : Room := ({ frames := 8, cells := 0, slots := 0, locals := 183 } : Room)
theorem k_X11_consolidate (l : Launch) (D : va_G) (T : Nat → ClassId) (m0 : Nat) (a : Nat → Nat) (p0 : Int32) (r : Nat → Int32) (q : Nat → Nat → Int32) : RMi l yX11_consolidate (ws_X11_consolidate) rm_X11_consolidate D T m0 a [.ref m0, .int p0] r q (fun v u => True) := sorry
abbrev ws_X11_group : List Cond := Cond.code yX11_group cX11_group 5 (some .int) :: W0
abbrev rm_X11_group : Room := ({ frames := 8, cells := 0, slots := 0, locals := 183 } : Room)
theorem k_X11_group (l : Launch) (D : va_G) (T : Nat → ClassId) (m0 : Nat) (a : Nat → Nat) (p0 : Int32) (p1 : Int32) (r : Nat → Int32) (q : Nat → Nat → Int32) : RMi l yX11_group (ws_X11_group) rm_X11_group D T m0 a [.ref m0, .int p0, .int p1] r q (fun v u => True) := sorry
abbrev ws_X11_searched : List Cond := Cond.code yX11_searched cX11_searched 2 (some .int) :: W0
abbrev rm_X11_searched : Room := ({ frames := 8, cells := 0, slots := 0, locals := 183 } : Room)
theorem k_X11_searched (l : Launch) (D : va_G) (T : Nat → ClassId) (m0 : Nat) (a : Nat → Nat) (p0 : Int32) (r : Nat → Int32) (q : Nat → Nat → Int32) : RMi l yX11_searched (ws_X11_searched) rm_X11_searched D T m0 a [.ref m0, .int p0] r q (fun v u => True) := sorry
abbrev ws_X11_merged : List Cond := Cond.code yX11_merged cX11_merged 6 (some .int) :: W0
abbrev rm_X11_merged : Room := ({ frames := 8, cells := 0, slots := 0, locals := 183 } : Room)
theorem k_X11_merged (l : Launch) (D : va_G) (T : Nat → ClassId) (m0 : Nat) (a : Nat → Nat) (p0 : Int32) (p1 : Int32) (r : Nat → Int32) (q : Nat → Nat → Int32) : RMi l yX11_merged (ws_X11_merged) rm_X11_merged D T m0 a [.ref m0, .int p0, .int p1] r q (fun v u => True) := sorry
abbrev ws_X11_post : List Cond := Cond.code yX11_post cX11_post 3 (some .int) :: W0
abbrev rm_X11_post : Room := ({ frames := 8, cells := 0, slots := 0, locals := 183 } : Room)
theorem k_X11_post (l : Launch) (D : va_G) (T : Nat → ClassId) (m0 : Nat) (a : Nat → Nat) (p0 : Int32) (r : Nat → Int32) (q : Nat → Nat → Int32) : RMi l yX11_post (ws_X11_post) rm_X11_post D T m0 a [.ref m0, .int p0] r q (fun v u => True) := sorry
end S_TODO

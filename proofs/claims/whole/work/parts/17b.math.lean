section S_TMP17
/-- the int fields are kept but for those that are listed -/
def kR (r r1 : Nat → Int32) (L : List Nat) : Prop := ∀ i, i ∉ L → r1 i = r i
def kQ (q q1 : Nat → Nat → Int32) (L : List Nat) : Prop := ∀ j, j ∉ L → q1 j = q j
theorem kR.rf {r : Nat → Int32} {L : List Nat} : kR r r L := fun _ _ => rfl
theorem kQ.rf {q : Nat → Nat → Int32} {L : List Nat} : kQ q q L := fun _ _ => rfl
theorem kR.up {r r1 : Nat → Int32} {L : List Nat} (h : kR r r1 L) {k : Nat} (hk : k ∈ L) (x : Int32) : kR r (va_up r1 k x) L := fun i hi => (va_up_ne _ _ (fun e => hi (by rw [e]; exact hk))).trans (h i hi)
theorem kQ.up {q q1 : Nat → Nat → Int32} {L : List Nat} (h : kQ q q1 L) {k : Nat} (hk : k ∈ L) (x : Nat → Int32) : kQ q (va_up q1 k x) L := fun i hi => (va_up_ne _ _ (fun e => hi (by rw [e]; exact hk))).trans (h i hi)
theorem kR.tr {r r1 r2 : Nat → Int32} {L L1 L2 : List Nat} (h : kR r r1 L1) (h2 : kR r1 r2 L2) (s1 : ∀ i ∈ L1, i ∈ L) (s2 : ∀ i ∈ L2, i ∈ L) : kR r r2 L := fun i hi => (h2 i (fun e => hi (s2 i e))).trans (h i (fun e => hi (s1 i e)))
theorem kQ.tr {q q1 q2 : Nat → Nat → Int32} {L L1 L2 : List Nat} (h : kQ q q1 L1) (h2 : kQ q1 q2 L2) (s1 : ∀ i ∈ L1, i ∈ L) (s2 : ∀ i ∈ L2, i ∈ L) : kQ q q2 L := fun i hi => (h2 i (fun e => hi (s2 i e))).trans (h i (fun e => hi (s1 i e)))
theorem kR.mn {r r1 : Nat → Int32} {L L1 : List Nat} (h : kR r r1 L1) (s1 : ∀ i ∈ L1, i ∈ L) : kR r r1 L := fun i hi => h i (fun e => hi (s1 i e))
theorem kQ.mn {q q1 : Nat → Nat → Int32} {L L1 : List Nat} (h : kQ q q1 L1) (s1 : ∀ i ∈ L1, i ∈ L) : kQ q q1 L := fun i hi => h i (fun e => hi (s1 i e))
/-- a group of shipments that are there -/
def gok (μ : Nat → Int32) (g : Int32) : Prop := ∃ n ns : Nat, μ 1 = nI ns ∧ ns ≤ 10 ∧ 0 < n ∧ n < 2 ^ ns ∧ g = nI n
/-- a version that is there -/
def vok (μ : Nat → Int32) (x : Int32) : Prop := ∃ n v : Nat, μ 0 = nI n ∧ n ≤ 6 ∧ v < n ∧ x = nI v
theorem low_tb {n : Nat} (hn : n < 1024) (h0 : n ≠ 0) : n.testBit (lowN n) = true := by
  have h : ∀ n : Nat, n < 1024 → n ≠ 0 → n.testBit (lowN n) = true := by decide +kernel
  exact h n hn h0
theorem p2_le {ns : Nat} (h : ns ≤ 10) : 2 ^ ns ≤ 1024 := Nat.pow_le_pow_right (n := 2) (by decide) h
theorem low_ns {n ns : Nat} (hns : ns ≤ 10) (h0 : 0 < n) (h : n < 2 ^ ns) : lowN n < ns := by
  have h1 := p2_le hns
  have ht := low_tb (n := n) (by omega) (by omega)
  rcases Nat.lt_or_ge (lowN n) ns with q | q
  · exact q
  · have := Nat.testBit_lt_two_pow (Nat.lt_of_lt_of_le h (Nat.pow_le_pow_right (n := 2) (by decide) q))
    rw [this] at ht; cases ht
theorem gok.gix {μ : Nat → Int32} {g : Int32} (h : gok μ g) : gix g ∧ ¬ g = 0 := by
  obtain ⟨n, ns, h1, h2, h3, h4, rfl⟩ := h
  have := p2_le h2
  exact ⟨⟨n, by omega, rfl⟩, nI_ne0 h3 (by omega)⟩
theorem firFold_none {μ : Nat → Int32} {gv rs g : Nat} : ∀ (k s : Nat), firFold μ gv rs g k s = none → ∀ t, s ≤ t → t < s + k → g.testBit t = true → rsF μ gv rs g t = 0 := by
  intro k
  induction k with
  | zero => intro s _ t h1 h2; omega
  | succ k ih =>
    intro s h t h1 h2 ht
    rw [firFold] at h
    split at h
    · cases h
    · rename_i c
      rcases Nat.lt_or_ge s t with q | q
      · exact ih (s + 1) h t (by omega) (by omega) ht
      · have : t = s := by omega
        subst this
        exact Decidable.by_contra (fun z => c ⟨ht, z⟩)
theorem firFold_some {μ : Nat → Int32} {gv rs g t : Nat} : ∀ (k s : Nat), firFold μ gv rs g k s = some t → s ≤ t ∧ t < s + k := by
  intro k
  induction k with
  | zero => intro s h; cases h
  | succ k ih =>
    intro s h
    rw [firFold] at h
    split at h
    · cases h; omega
    · have := ih (s + 1) h; omega
theorem rsF_gv {μ : Nat → Int32} {a b rs g s : Nat} (h4 : rs ≠ 4) (h5 : rs ≠ 5) : rsF μ a rs g s = rsF μ b rs g s := by
  unfold rsF; simp [h4, h5]
theorem firF_gv {μ : Nat → Int32} {a b rs g : Nat} (h4 : rs ≠ 4) (h5 : rs ≠ 5) : firF μ a rs g = firF μ b rs g := by
  have : ∀ k s, firFold μ a rs g k s = firFold μ b rs g k s := by
    intro k
    induction k with
    | zero => intro s; rfl
    | succ k ih => intro s; rw [firFold, firFold, rsF_gv h4 h5, ih]
  exact this _ _
theorem zFold_sm {μ : Nat → Int32} (hw : WF μ) {v : Nat} (hv : v < 6) {p : Int32} : ∀ (k i : Nat) (z : Int32), i + k ≤ 12 → (∃ n, n ≤ 9 ∧ z = nI n) → ∃ n, n ≤ 9 ∧ zFold μ v p k i z = nI n := by
  intro k
  induction k with
  | zero => intro i z _ h; exact h
  | succ k ih =>
    intro i z hi h
    refine ih (i + 1) _ (by omega) ?_
    split
    · exact h
    · exact (hw.v hv).2.2.1 i (by omega)
theorem zIn_sm {μ : Nat → Int32} (hw : WF μ) {v : Nat} (hv : v < 6) {p : Int32} : ∃ n, n ≤ 9 ∧ zIn μ v p = nI n := by
  obtain ⟨n0, h0, hm⟩ := hw.rng hv
  unfold zIn
  rw [hm, show iv (nI n0) = n0 from nI_clamp (by omega)]
  exact zFold_sm hw hv n0 0 0 (by omega) ⟨0, by decide, rfl⟩
theorem vFold_ok {μ : Nat → Int32} {d : Int32} {n : Nat} : ∀ (k v : Nat) (b : Int32), v + k = n → (b = -1 ∨ ∃ j, j < n ∧ b = nI j) → (vFold μ d k v b = -1 ∨ ∃ j, j < n ∧ vFold μ d k v b = nI j) := by
  intro k
  induction k with
  | zero => intro v b _ h; exact h
  | succ k ih =>
    intro v b hv h
    refine ih (v + 1) _ (by omega) ?_
    split
    · exact Or.inr ⟨v, by omega, rfl⟩
    · exact h
theorem vOf_ok {μ : Nat → Int32} (hw : WF μ) {d : Int32} : vOf μ d = -1 ∨ vok μ (vOf μ d) := by
  obtain ⟨n, h6, hm⟩ := hw.1
  rcases vFold_ok (μ := μ) (d := d) (n := n) n 0 (-1) (by omega) (Or.inl rfl) with h | ⟨j, hj, h⟩
  · left; unfold vOf; rw [hm, show iv (nI n) = n from nI_clamp (by omega)]; exact h
  · right; exact ⟨n, j, hm, h6, hj, by unfold vOf; rw [hm, show iv (nI n) = n from nI_clamp (by omega)]; exact h⟩
/-- the weights of a group: real, dimensional, pieces, longest side, handlings -/
def gwF (μ : Nat → Int32) (g : Nat) (d : Int32) : Nat → Nat → Int32 → Int32 → Int32 → Int32 → Int32 → Int32 × Int32 × Int32 × Int32 × Int32
  | 0, _, a, b, c, e, h => (a, b, c, e, h)
  | k + 1, s, a, b, c, e, h => if g.testBit s = true then gwF μ g d k (s + 1) (a + realF μ s) (b + dimF μ s d) (c + μ (14 + 26 * s + 4)) (mxF e (longF μ s)) (h ||| μ (14 + 26 * s + 2)) else gwF μ g d k (s + 1) a b c e h
def gwt (μ : Nat → Int32) (v g : Nat) : Int32 × Int32 × Int32 × Int32 × Int32 := gwF μ g (μ (274 + 510 * v + 146)) (iv (μ 1)) 0 0 0 0 0 0
def wtF (μ : Nat → Int32) (v g : Nat) : Int32 := mxF (gwt μ v g).1 (gwt μ v g).2.1
def pcF (μ : Nat → Int32) (v g : Nat) : Int32 := (gwt μ v g).2.2.1
def lgF (μ : Nat → Int32) (v g : Nat) : Int32 := (gwt μ v g).2.2.2.1
def hdF (μ : Nat → Int32) (v g : Nat) : Int32 := (gwt μ v g).2.2.2.2
def dayF (μ : Nat → Int32) (g : Nat) : Int32 := μ (14 + 26 * lowN g + 1)
/-- the version by which a group is rated -/
def gvF (μ : Nat → Int32) (g : Nat) : Int32 := vOf μ (dayF μ g)
/-- its zone -/
def gzF (μ : Nat → Int32) (g : Nat) : Int32 := zIn μ (iv (gvF μ g)) (μ (14 + 26 * lowN g + 0))
/-- the reason and its detail -/
def rsnD (μ : Nat → Int32) (g : Nat) : Nat × Int32 :=
  match firF μ 0 1 g with
  | some s => (1, nI s)
  | none => match firF μ 0 2 g with
    | some s => (2, nI s)
    | none => if gvF μ g < 0 then (3, dayF μ g) else match firF μ (iv (gvF μ g)) 4 g with
      | some s => (4, nI s)
      | none => match firF μ (iv (gvF μ g)) 5 g with
        | some s => (5, nI s)
        | none => if μ (274 + 510 * iv (gvF μ g) + 38 + iv (gzF μ g) - 1) = 0 then (6, gzF μ g) else if 1 < popN g ∧ μ (274 + 510 * iv (gvF μ g) + 149) < wtF μ (iv (gvF μ g)) g then (7, wtF μ (iv (gvF μ g)) g) else match firF μ 0 8 g with
          | some s => (8, nI s)
          | none => (0, 0)
theorem rsnD_8 {μ : Nat → Int32} {g : Nat} : (rsnD μ g).1 ≤ 8 := by
  unfold rsnD
  repeat' split
  all_goals exact Nat.le_of_ble_eq_true rfl
def b2i (b : Bool) : Int32 := if b then 1 else 0
theorem b2i_vz (b : Bool) : vz (b2i b) := by cases b; exact vz0; exact vz1
theorem b2i_and (a b : Bool) : b2i a &&& b2i b = b2i (a && b) := by cases a <;> cases b <;> rfl
theorem b2i_or (a b : Bool) : b2i a ||| b2i b = b2i (a || b) := by cases a <;> cases b <;> rfl
theorem b2i_0 (a : Bool) : b2i a = 0 ↔ a = false := by cases a <;> decide
/-- a test, for weight, pieces, longest side, handlings, zone -/
def tb (w p l h z : Int32) (n : Nat) : Bool := (if n / 30000 % 5 = 0 then decide (¬ hasF h (nI (n % 10000)) = 0) else if n / 10000 % 3 = 0 then decide ((if n / 30000 % 5 = 1 then w else if n / 30000 % 5 = 2 then p else if n / 30000 % 5 = 3 then l else z) < nI (n % 10000)) else if n / 10000 % 3 = 1 then decide (nI (n % 10000) < (if n / 30000 % 5 = 1 then w else if n / 30000 % 5 = 2 then p else if n / 30000 % 5 = 3 then l else z)) else decide ((if n / 30000 % 5 = 1 then w else if n / 30000 % 5 = 2 then p else if n / 30000 % 5 = 3 then l else z) = nI (n % 10000))) != decide (n / 150000 % 2 = 1)
/-- whether the tests of a row hold, from the j-th on -/
def allB (μ : Nat → Int32) (e : Nat) (w p l h z : Int32) (row : Nat) : Nat → Nat → Bool
  | 0, _ => true
  | k + 1, j => (!(decide (iv (μ (e + 6 + j)) / 300000 = row)) || tb w p l h z (iv (μ (e + 6 + j)))) && allB μ e w p l h z row k (j + 1)
def anyB (μ : Nat → Int32) (e : Nat) (w p l h z : Int32) : Nat → Nat → Bool
  | 0, _ => false
  | k + 1, row => allB μ e w p l h z row (iv (μ (e + 4))) 0 || anyB μ e w p l h z k (row + 1)
/-- whether the condition of the accessorial at e holds -/
def hldB (μ : Nat → Int32) (e : Nat) (w p l h z : Int32) : Bool := decide (iv (μ (e + 3)) = 0) || anyB μ e w p l h z (iv (μ (e + 3))) 0
def tix (t : Int32) : Prop := ∃ n : Nat, n ≤ 9999999 ∧ t = nI n
def eix (e : Int32) : Prop := ∃ v a : Nat, v < 6 ∧ a < 10 ∧ e = nI (274 + 510 * v + 150 + 36 * a)
/-- the accessorials that count: amounts and set -/
def exF (μ : Nat → Int32) (v : Nat) (w p l h z b : Int32) : Nat → Nat → Int32 → Int32 → Int32 → Int32 × Int32
  | 0, _, _, m, c => (m, c)
  | k + 1, a, o, m, c => if μ (274 + 510 * v + 150 + 36 * a) = 1 ∧ hasF o (nI a) = 0 ∧ hldB μ (274 + 510 * v + 150 + 36 * a) w p l h z = true then exF μ v w p l h z b k (a + 1) (o ||| (if nI a < μ (274 + 510 * v + 150 + 36 * a + 5) then (1 : Int32) <<< (μ (274 + 510 * v + 150 + 36 * a + 5) &&& 31) else 0)) (m + (if μ (274 + 510 * v + 150 + 36 * a + 2) = 0 then μ (274 + 510 * v + 150 + 36 * a + 1) else if μ (274 + 510 * v + 150 + 36 * a + 2) = 1 then μ (274 + 510 * v + 150 + 36 * a + 1) * w else pctF b (μ (274 + 510 * v + 150 + 36 * a + 1)))) (c ||| (1 : Int32) <<< (nI a &&& 31)) else exF μ v w p l h z b k (a + 1) o m c
def exAC (μ : Nat → Int32) (v z : Nat) (w p l h : Int32) : Int32 × Int32 := exF μ v w p l h (nI z) (baseF μ v z w) 10 0 0 0 0
def stF (μ : Nat → Int32) (v g : Nat) : Int32 := μ (274 + 510 * v + 148) * (nI (popN g) - 1)
def fuF (μ : Nat → Int32) (v z g : Nat) (w p l h : Int32) : Int32 := pctF (baseF μ v z w + (exAC μ v z w p l h).1 + stF μ v g) (μ (274 + 510 * v + 147))
def toF (μ : Nat → Int32) (v z g : Nat) (w p l h : Int32) : Int32 := baseF μ v z w + (exAC μ v z w p l h).1 + stF μ v g + fuF μ v z g w p l h
/-- the total of a group -/
def totF (μ : Nat → Int32) (g : Nat) : Int32 := toF μ (iv (gvF μ g)) (iv (gzF μ g)) g (wtF μ (iv (gvF μ g)) g) (pcF μ (iv (gvF μ g)) g) (lgF μ (iv (gvF μ g)) g) (hdF μ (iv (gvF μ g)) g)

end S_TMP17

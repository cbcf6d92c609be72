section S_CAA
/-- ascending -/
def asc (L : List Nat) (m : Nat) : Prop := ∀ i j, i < j → j < m → gl L i < gl L j
/-- the best one: least total, then fewest, then least number -/
def bst (V : Nat → Prop) (f c : Nat → Int32) (x : X3) : Prop := ∃ g, V g ∧ x = (f g, c g, nI g) ∧ ∀ h, V h → f g < f h ∨ (f g = f h ∧ (c g < c h ∨ (c g = c h ∧ g ≤ h)))
/-- a group that may come first: of the reference, of the class -/
def Vv (T : Nat → Int32) (p g : Nat) : Prop := sub g p ∧ g.testBit (lowN p) = true ∧ 0 ≤ T g
def Vc (T : Nat → Int32) (w g : Nat) : Prop := sub g w ∧ g.testBit (lowN w) = true ∧ ¬ T g = -1
theorem mem_asc {g : Nat} : ∀ k s, (∀ i, i < (memL g k s).length → s ≤ gl (memL g k s) i) ∧ asc (memL g k s) (memL g k s).length := by
  intro k
  induction k with
  | zero => intro s; exact ⟨fun i hi => absurd hi (Nat.not_lt_zero i), fun i j _ hj => absurd hj (Nat.not_lt_zero j)⟩
  | succ k ih =>
    intro s
    obtain ⟨h1, h2⟩ := ih (s + 1)
    rw [memL]
    by_cases c : g.testBit s = true
    · rw [if_pos c]
      refine ⟨fun i hi => ?_, fun i j hij hj => ?_⟩
      · cases i with
        | zero => exact Nat.le_refl _
        | succ i =>
          rw [gl_c]
          have := h1 i (by rw [List.length_cons] at hi; omega)
          omega
      · cases j with
        | zero => omega
        | succ j =>
          rw [List.length_cons] at hj
          rw [gl_c]
          cases i with
          | zero => rw [gl_0]; have := h1 j (by omega); omega
          | succ i => rw [gl_c]; exact h2 i j (by omega) (by omega)
    · rw [if_neg c]
      exact ⟨fun i hi => by have := h1 i hi; omega, h2⟩
theorem asc.in {L : List Nat} {k i j : Nat} (ha : asc L k) (hi : i < k) (hj : j < k) (e : gl L i = gl L j) : i = j := by
  rcases Nat.lt_trichotomy i j with h | h | h
  · have := ha i j h hj; omega
  · exact h
  · have := ha j i h hi; omega
theorem p2_or {k p : Nat} (h1 : 2 ^ k ≤ p) (h2 : p < 2 ^ (k + 1)) : (p - 2 ^ k) ||| 2 ^ k = p := by
  rw [pow_or (by rw [Nat.pow_succ] at h2; omega)]
  omega
theorem tb_lt {p k i : Nat} (hp : p < 2 ^ k) (h : p.testBit i = true) : i < k := by
  rcases Nat.lt_or_ge i k with q | q
  · exact q
  · rw [Nat.testBit_lt_two_pow (Nat.lt_of_lt_of_le hp (Nat.pow_le_pow_right (by decide) q))] at h
    exact absurd h (by decide)
theorem spr_tb {L : List Nat} : ∀ k p, p < 2 ^ k → ∀ j, (spr L k p).testBit j = true ↔ ∃ i, i < k ∧ gl L i = j ∧ p.testBit i = true := by
  intro k
  induction k with
  | zero =>
    intro p hp j
    rw [spr, Nat.zero_testBit]
    exact ⟨fun h => absurd h (by decide), fun ⟨i, hi, _⟩ => absurd hi (Nat.not_lt_zero i)⟩
  | succ k ih =>
    intro p hp j
    rw [spr]
    by_cases c : 2 ^ k ≤ p
    · have hr : p - 2 ^ k < 2 ^ k := by rw [Nat.pow_succ] at hp; omega
      have hb : ∀ i, p.testBit i = ((p - 2 ^ k).testBit i || decide (k = i)) := fun i => by
        have e := congrArg (fun z => Nat.testBit z i) (p2_or c hp)
        rw [Nat.testBit_or, Nat.testBit_two_pow] at e
        exact e.symm
      rw [if_pos c, Nat.testBit_or, Bool.or_eq_true, Nat.testBit_two_pow, decide_eq_true_eq, ih _ hr j]
      constructor
      · rintro (⟨i, h1, h2, h3⟩ | h)
        · exact ⟨i, by omega, h2, by rw [hb, h3]; rfl⟩
        · exact ⟨k, by omega, h, by rw [hb, decide_eq_true rfl, Bool.or_true]⟩
      · rintro ⟨i, h1, h2, h3⟩
        by_cases e : i = k
        · right; rw [← e]; exact h2
        · left
          refine ⟨i, by omega, h2, ?_⟩
          rw [hb, decide_eq_false (fun q => e q.symm), Bool.or_false] at h3
          exact h3
    · rw [if_neg c, ih p (by omega) j]
      constructor
      · rintro ⟨i, h1, h2⟩; exact ⟨i, by omega, h2⟩
      · rintro ⟨i, h1, h2, h3⟩
        exact ⟨i, tb_lt (by omega) h3, h2, h3⟩
theorem spr_mono {L : List Nat} : ∀ k, asc L k → ∀ p q, p < q → q < 2 ^ k → spr L k p < spr L k q := by
  intro k
  induction k with
  | zero => intro _ p q h1 h2; rw [Nat.pow_zero] at h2; omega
  | succ k ih =>
    intro ha p q h1 h2
    have ha' : asc L k := fun i j q1 q2 => ha i j q1 (by omega)
    have hb : ∀ r, r < 2 ^ k → spr L k r < 2 ^ gl L k := fun r hr => (spr_ok k (fun i hi => ha i k hi (by omega)) r hr).1
    rw [Nat.pow_succ] at h2
    have e : ∀ r, spr L (k + 1) r = if 2 ^ k ≤ r then spr L k (r - 2 ^ k) ||| 2 ^ gl L k else spr L k r := fun r => by rw [spr]
    rw [e, e]
    by_cases c : 2 ^ k ≤ p
    · rw [if_pos c, if_pos (by omega), pow_or (hb _ (by omega)), pow_or (hb _ (by omega))]
      have := ih ha' (p - 2 ^ k) (q - 2 ^ k) (by omega) (by omega)
      omega
    · rw [if_neg c]
      by_cases d : 2 ^ k ≤ q
      · rw [if_pos d, pow_or (hb _ (by omega))]
        have := hb p (by omega)
        omega
      · rw [if_neg d]; exact ih ha' p q h1 (by omega)
theorem spr_le {L : List Nat} {k p q : Nat} (ha : asc L k) (h : p ≤ q) (hq : q < 2 ^ k) : spr L k p ≤ spr L k q := by
  rcases Nat.lt_or_ge p q with c | c
  · exact Nat.le_of_lt (spr_mono k ha p q c hq)
  · rw [show p = q by omega]; exact Nat.le_refl _
theorem spr_inj {L : List Nat} {k p q : Nat} (ha : asc L k) (hp : p < 2 ^ k) (hq : q < 2 ^ k) (h : spr L k p = spr L k q) : p = q := by
  rcases Nat.lt_trichotomy p q with c | c | c
  · have := spr_mono k ha p q c hq; omega
  · exact c
  · have := spr_mono k ha q p c hp; omega
theorem spr_sur {L : List Nat} : ∀ k, ∀ h : Nat, (∀ j, h.testBit j = true → ∃ i, i < k ∧ gl L i = j) → ∃ p, p < 2 ^ k ∧ spr L k p = h := by
  intro k
  induction k with
  | zero =>
    intro h hh
    refine ⟨0, by rw [Nat.pow_zero]; omega, ?_⟩
    rw [spr]
    apply Nat.eq_of_testBit_eq
    intro j
    rw [Nat.zero_testBit]
    cases e : h.testBit j with
    | false => rfl
    | true => obtain ⟨i, hi, _⟩ := hh j e; omega
  | succ k ih =>
    intro h hh
    by_cases c : h.testBit (gl L k) = true
    · have hd : ∀ j, (dif h (2 ^ gl L k)).testBit j = true → ∃ i, i < k ∧ gl L i = j := fun j hj => by
        rw [dif_tb, Bool.and_eq_true, Nat.testBit_two_pow] at hj
        obtain ⟨i, hi, ei⟩ := hh j hj.1
        have : i ≠ k := fun q => by
          have h2 := hj.2
          rw [← ei, q, decide_eq_true rfl] at h2
          exact absurd h2 (by decide)
        exact ⟨i, by omega, ei⟩
      obtain ⟨p, hp, e⟩ := ih _ hd
      refine ⟨p + 2 ^ k, by rw [Nat.pow_succ]; omega, ?_⟩
      rw [spr, if_pos (by omega), Nat.add_sub_cancel, e]
      apply Nat.eq_of_testBit_eq
      intro j
      rw [Nat.testBit_or, dif_tb, Nat.testBit_two_pow]
      by_cases g : gl L k = j
      · rw [← g, c, decide_eq_true rfl]; rfl
      · rw [decide_eq_false g]; cases h.testBit j <;> rfl
    · obtain ⟨p, hp, e⟩ := ih h (fun j hj => by
        obtain ⟨i, hi, ei⟩ := hh j hj
        have : i ≠ k := fun q => c (by rw [← q, ei]; exact hj)
        exact ⟨i, by omega, ei⟩)
      refine ⟨p, by rw [Nat.pow_succ]; omega, ?_⟩
      rw [spr, if_neg (by omega)]
      exact e
theorem spr_sub {L : List Nat} {k p q : Nat} (ha : asc L k) (hp : p < 2 ^ k) (hq : q < 2 ^ k) : sub p q ↔ sub (spr L k p) (spr L k q) := by
  rw [sub_tb, sub_tb]
  constructor
  · intro h j hj
    obtain ⟨i, h1, h2, h3⟩ := (spr_tb k p hp j).mp hj
    exact (spr_tb k q hq j).mpr ⟨i, h1, h2, h i h3⟩
  · intro h i hi
    have hk := tb_lt hp hi
    obtain ⟨i', h1, h2, h3⟩ := (spr_tb k q hq _).mp (h _ ((spr_tb k p hp _).mpr ⟨i, hk, rfl, hi⟩))
    rw [← ha.in h1 hk h2]
    exact h3
theorem spr_bit {L : List Nat} {k p i : Nat} (ha : asc L k) (hp : p < 2 ^ k) (hi : i < k) : (spr L k p).testBit (gl L i) = p.testBit i := by
  rw [Bool.eq_iff_iff, spr_tb k p hp]
  constructor
  · rintro ⟨j, h1, h2, h3⟩
    rw [← ha.in h1 hi h2]; exact h3
  · intro h; exact ⟨i, hi, rfl, h⟩
theorem spr_dif {L : List Nat} {k p q : Nat} (ha : asc L k) (hp : p < 2 ^ k) (hq : q < 2 ^ k) : spr L k (dif p q) = dif (spr L k p) (spr L k q) := by
  have hd : dif p q < 2 ^ k := Nat.lt_of_le_of_lt (sub_le (sub_dif p q)) hp
  apply Nat.eq_of_testBit_eq
  intro j
  rw [dif_tb, Bool.eq_iff_iff, spr_tb k _ hd, Bool.and_eq_true]
  constructor
  · rintro ⟨i, h1, h2, h3⟩
    rw [dif_tb, Bool.and_eq_true] at h3
    subst h2
    rw [spr_bit ha hp h1, spr_bit ha hq h1]
    exact h3
  · rintro ⟨h1, h2⟩
    obtain ⟨i, h3, h4, h5⟩ := (spr_tb k p hp j).mp h1
    subst h4
    refine ⟨i, h3, rfl, ?_⟩
    rw [dif_tb, Bool.and_eq_true]
    rw [spr_bit ha hq h3] at h2
    exact ⟨h5, h2⟩
theorem spr_or {L : List Nat} {k p q : Nat} (hp : p < 2 ^ k) (hq : q < 2 ^ k) : spr L k (p ||| q) = spr L k p ||| spr L k q := by
  apply Nat.eq_of_testBit_eq
  intro j
  rw [Nat.testBit_or, Bool.eq_iff_iff, spr_tb k _ (Nat.or_lt_two_pow hp hq), Bool.or_eq_true, spr_tb k p hp, spr_tb k q hq]
  constructor
  · rintro ⟨i, h1, h2, h3⟩
    rw [Nat.testBit_or, Bool.or_eq_true] at h3
    rcases h3 with h3 | h3
    · exact Or.inl ⟨i, h1, h2, h3⟩
    · exact Or.inr ⟨i, h1, h2, h3⟩
  · rintro (⟨i, h1, h2, h3⟩ | ⟨i, h1, h2, h3⟩)
    · exact ⟨i, h1, h2, by rw [Nat.testBit_or, h3]; rfl⟩
    · exact ⟨i, h1, h2, by rw [Nat.testBit_or, h3, Bool.or_true]⟩
theorem low_mn : ∀ n : Nat, n < 1024 → ∀ j : Nat, j < 10 → n.testBit j = true → lowN n ≤ j := by decide +kernel
theorem spr_low {L : List Nat} {k w : Nat} (ha : asc L k) (h8 : k ≤ 8) (hL : ∀ i, i < k → gl L i < 10) (h0 : 0 < w) (hw : w < 2 ^ k) : lowN (spr L k w) = gl L (lowN w) := by
  have h256 : 2 ^ k ≤ 256 := Nat.pow_le_pow_right (n := 2) (by decide) h8
  obtain ⟨s1, s2⟩ := spr_ok k hL w hw
  have t1 := low_tb' (show w < 1024 by omega) h0
  have k1 := tb_lt hw t1
  have g1 := hL _ k1
  have a1 := low_mn _ s1 _ g1 (by rw [spr_bit ha hw k1]; exact t1)
  obtain ⟨i, h1, h2, h3⟩ := (spr_tb k w hw _).mp (low_tb' s1 (s2 h0))
  have a2 := low_mn w (by omega) i (by omega) h3
  rcases Nat.lt_or_ge (lowN w) i with q | q
  · have := ha _ _ q h1; omega
  · rw [← h2, show i = lowN w by omega]
theorem dif_sb : ∀ w : Nat, w < 256 → ∀ a : Nat, a < 256 → a &&& w = a → w - a = w ^^^ (w &&& a) := by decide +kernel
theorem dif_s {w a : Nat} (hw : w < 256) (h : sub a w) : w - a = dif w a := dif_sb w hw a (Nat.lt_of_le_of_lt (sub_le h) hw) h
theorem bst.uq {V : Nat → Prop} {f c : Nat → Int32} {x y : X3} (h : bst V f c x) (h2 : bst V f c y) : x = y := by
  obtain ⟨g, v, e, m⟩ := h
  obtain ⟨g', v', e', m'⟩ := h2
  have a1 := m g' v'
  have a2 := m' g v
  simp only [Int32.lt_iff_toInt_lt, ← Int32.toInt_inj] at a1 a2
  have : g = g' := by omega
  subst this
  rw [e, e']
theorem bst.tr {V V' : Nat → Prop} {f f' c c' : Nat → Int32} {u : Nat → Nat} {x : X3} (h : bst V' f' c' x) (hv : ∀ g, V' g → V (u g)) (hs : ∀ h, V h → ∃ g, V' g ∧ u g = h) (hf : ∀ g, V' g → f' g = f (u g) ∧ c' g = c (u g)) (hm : ∀ g g', V' g → V' g' → g ≤ g' → u g ≤ u g') : ∃ g, V' g ∧ x = (f' g, c' g, nI g) ∧ bst V f c (f (u g), c (u g), nI (u g)) := by
  obtain ⟨g, v, e, m⟩ := h
  refine ⟨g, v, e, u g, hv g v, rfl, fun h hh => ?_⟩
  obtain ⟨g', v', e'⟩ := hs h hh
  subst e'
  obtain ⟨f1, c1⟩ := hf g v
  obtain ⟨f2, c2⟩ := hf g' v'
  rw [← f1, ← c1, ← f2, ← c2]
  rcases m g' v' with a | ⟨a, b | ⟨b, d⟩⟩
  · exact Or.inl a
  · exact Or.inr ⟨a, Or.inl b⟩
  · exact Or.inr ⟨a, Or.inr ⟨b, hm g g' v v' d⟩⟩
theorem lp_bs {T B C : Nat → Int32} {p : Nat} (nn : ∀ g, Vv T p g → 0 ≤ T g + B (dif p g)) : ∀ (m k : Nat) (x : X3), ((x.1 = -1 ∧ ∀ h, Vv T p h → k ≤ h) ∨ bst (fun g => Vv T p g ∧ g < k) (fun g => T g + B (dif p g)) (fun g => 1 + C (dif p g)) x) → (((lpF T B C p m k x).1 = -1 ∧ ∀ h, Vv T p h → k + m ≤ h) ∨ bst (fun g => Vv T p g ∧ g < k + m) (fun g => T g + B (dif p g)) (fun g => 1 + C (dif p g)) (lpF T B C p m k x)) := by
  intro m
  induction m with
  | zero => intro k x h; rw [lpF, Nat.add_zero]; exact h
  | succ m ih =>
    intro k x h
    rw [lpF, show k + (m + 1) = k + 1 + m by omega]
    refine ih (k + 1) _ ?_
    unfold lpS
    by_cases v : Vv T p k
    · rw [if_pos (show k &&& p = k ∧ k.testBit (lowN p) = true ∧ 0 ≤ T k from v)]
      rcases h with ⟨h1, h2⟩ | ⟨g, ⟨v1, v2⟩, e, hm⟩
      · rw [if_pos (Or.inl (by rw [h1]; decide))]
        refine Or.inr ⟨k, ⟨v, by omega⟩, rfl, fun h ⟨q1, q2⟩ => ?_⟩
        have : h = k := by have := h2 h q1; omega
        subst this
        exact Or.inr ⟨rfl, Or.inr ⟨rfl, Nat.le_refl _⟩⟩
      · right
        have n0 := nn g v1
        subst e
        dsimp only at hm ⊢
        by_cases cc : T k + B (dif p k) < T g + B (dif p g) ∨ (T k + B (dif p k) = T g + B (dif p g) ∧ 1 + C (dif p k) < 1 + C (dif p g))
        · rw [if_pos (Or.inr cc)]
          refine ⟨k, ⟨v, by omega⟩, rfl, fun h ⟨q1, q2⟩ => ?_⟩
          by_cases q : h = k
          · subst q; exact Or.inr ⟨rfl, Or.inr ⟨rfl, Nat.le_refl _⟩⟩
          · have := hm h ⟨q1, by omega⟩
            simp only [Int32.lt_iff_toInt_lt, ← Int32.toInt_inj] at this cc ⊢
            omega
        · rw [if_neg (fun q => by
            rcases q with q | q
            · exact absurd q (Int32.not_lt.mpr n0)
            · exact cc q)]
          refine ⟨g, ⟨v1, by omega⟩, rfl, fun h ⟨q1, q2⟩ => ?_⟩
          by_cases q : h = k
          · subst q
            simp only [Int32.lt_iff_toInt_lt, ← Int32.toInt_inj] at cc ⊢
            omega
          · exact hm h ⟨q1, by omega⟩
    · rw [if_neg (show ¬ (k &&& p = k ∧ k.testBit (lowN p) = true ∧ 0 ≤ T k) from v)]
      have nk : ∀ h, Vv T p h → h ≠ k := fun h q e => v (by rw [← e]; exact q)
      rcases h with ⟨h1, h2⟩ | ⟨g, ⟨v1, v2⟩, e, hm⟩
      · refine Or.inl ⟨h1, fun h q => ?_⟩
        have := h2 h q
        have := nk h q
        omega
      · exact Or.inr ⟨g, ⟨v1, by omega⟩, e, fun h ⟨q1, q2⟩ => hm h ⟨q1, by have := nk h q1; omega⟩⟩
theorem dpX_bs {T : Nat → Int32} {u : T3} {p : Nat} (hp : p < 1024) (h0 : 0 < p) (h1 : 0 ≤ T (2 ^ lowN p)) (nn : ∀ g, Vv T p g → 0 ≤ T g + u.1 (dif p g)) : bst (Vv T p) (fun g => T g + u.1 (dif p g)) (fun g => 1 + u.2.1 (dif p g)) (dpX T u p) := by
  have hv : Vv T p (2 ^ lowN p) := ⟨sub_tb.mpr fun i hi => by
    rw [Nat.testBit_two_pow] at hi
    rw [← of_decide_eq_true hi]
    exact low_tb' hp h0, Nat.testBit_two_pow_self, h1⟩
  have gp : ∀ g, Vv T p g → 1 ≤ g := fun g v => by
    rcases Nat.eq_zero_or_pos g with q | q
    · have := v.2.1
      rw [q, Nat.zero_testBit] at this
      exact absurd this (by decide)
    · exact q
  rcases lp_bs (T := T) (B := u.1) (C := u.2.1) nn p 1 (-1, u.2.1 p, u.2.2 p) (Or.inl ⟨rfl, gp⟩) with ⟨_, q⟩ | ⟨g, ⟨v1, v2⟩, e, hm⟩
  · have a := q _ hv
    have b := sub_le hv.1
    omega
  · exact ⟨g, v1, e, fun h q => hm h ⟨q, by have := sub_le q.1; omega⟩⟩
/-- the class's subsets one by one -/
def enL (ot : Nat) : Nat → Nat → List Nat
  | 0, _ => []
  | k + 1, s => s :: enL ot k ((s + 4294967296 - ot) &&& ot)
def flL (ot : Nat) : Nat → Nat → List Nat
  | 0, _ => []
  | k + 1, t => if t &&& ot = t then t :: flL ot k (t + 1) else flL ot k (t + 1)
theorem en_fl : ∀ ot : Nat, ot < 256 → enL ot (2 ^ popN ot) 0 = flL ot 256 0 := by decide +kernel
def gfF (T B C : Nat → Int32) (w lo ot : Nat) : Nat → Nat → X3 → X3
  | 0, _, x => x
  | k + 1, t, x => gfF T B C w lo ot k (t + 1) (if t &&& ot = t then ffS T B C w (lo ||| t) x else x)
theorem ff_en {T B C : Nat → Int32} {w lo ot : Nat} : ∀ (k s : Nat) (x : X3), ffF T B C w lo ot k s x = (enL ot k s).foldl (fun x s => ffS T B C w (lo ||| s) x) x := by
  intro k
  induction k with
  | zero => intro s x; rfl
  | succ k ih => intro s x; rw [ffF, ih, enL, List.foldl_cons]
theorem gf_fl {T B C : Nat → Int32} {w lo ot : Nat} : ∀ (k t : Nat) (x : X3), gfF T B C w lo ot k t x = (flL ot k t).foldl (fun x s => ffS T B C w (lo ||| s) x) x := by
  intro k
  induction k with
  | zero => intro s x; rfl
  | succ k ih =>
    intro t x
    rw [gfF, ih, flL]
    by_cases c : t &&& ot = t
    · rw [if_pos c, if_pos c, List.foldl_cons]
    · rw [if_neg c, if_neg c]
theorem ffX_g {T B C : Nat → Int32} {w : Nat} (hw : w < 256) : ffX T B C w = gfF T B C w (2 ^ lowN w) (w - 2 ^ lowN w) 256 0 (B w, C w, 0) := by
  unfold ffX
  rw [ff_en, en_fl _ (Nat.lt_of_le_of_lt (Nat.sub_le _ _) hw), gf_fl]
theorem nI_n0 {g : Nat} (h : 0 < g) (h2 : g < 2 ^ 31) : ¬ nI g = 0 := fun e => by
  have := (nI_eq (b := 0) h2 (by decide)).mp e
  omega
theorem gf_bs {T B C : Nat → Int32} {w : Nat} (hw : w < 256) (h0 : 0 < w) : ∀ (m k : Nat) (x : X3), k + m ≤ 256 → ((x.2.2 = 0 ∧ ∀ h, Vc T w h → 2 ^ lowN w + k ≤ h) ∨ bst (fun g => Vc T w g ∧ g < 2 ^ lowN w + k) (fun g => T g + B (w - g)) (fun g => C (w - g) + 1) x) → (((gfF T B C w (2 ^ lowN w) (w - 2 ^ lowN w) m k x).2.2 = 0 ∧ ∀ h, Vc T w h → 2 ^ lowN w + (k + m) ≤ h) ∨ bst (fun g => Vc T w g ∧ g < 2 ^ lowN w + (k + m)) (fun g => T g + B (w - g)) (fun g => C (w - g) + 1) (gfF T B C w (2 ^ lowN w) (w - 2 ^ lowN w) m k x)) := by
  have hl := low_tb' (show w < 1024 by omega) h0
  have hlw : sub (2 ^ lowN w) w := sub_tb.mpr fun i hi => by
    rw [Nat.testBit_two_pow] at hi
    rw [← of_decide_eq_true hi]
    exact hl
  have e_ot := dif_s hw hlw
  have l8 := low_le hw h0
  have lp : 0 < 2 ^ lowN w := Nat.two_pow_pos _
  -- a group and what it holds beside the lowest
  have back : ∀ h, sub h w → h.testBit (lowN w) = true → 2 ^ lowN w ≤ h ∧ (h - 2 ^ lowN w) &&& (w - 2 ^ lowN w) = h - 2 ^ lowN w := fun h q1 q2 => by
    have hh : h < 256 := Nat.lt_of_le_of_lt (sub_le q1) hw
    have s2 : sub (2 ^ lowN w) h := sub_tb.mpr fun i hi => by
      rw [Nat.testBit_two_pow] at hi
      rw [← of_decide_eq_true hi]
      exact q2
    refine ⟨sub_le s2, ?_⟩
    rw [e_ot, dif_s hh s2]
    exact sub_tb.mpr fun i hi => by
      rw [dif_tb, Bool.and_eq_true] at hi ⊢
      exact ⟨sub_tb.mp q1 i hi.1, hi.2⟩
  have forth : ∀ t, t &&& (w - 2 ^ lowN w) = t → 2 ^ lowN w ||| t = 2 ^ lowN w + t ∧ sub (2 ^ lowN w ||| t) w ∧ (2 ^ lowN w ||| t).testBit (lowN w) = true := fun t ht => by
    rw [e_ot] at ht
    have ht9 : sub t (dif w (2 ^ lowN w)) := ht
    have b1 : sub (2 ^ lowN w ||| t) w := sub_tb.mpr fun i hi => by
      rw [Nat.testBit_or, Bool.or_eq_true] at hi
      rcases hi with hi | hi
      · exact sub_tb.mp hlw i hi
      · exact sub_tb.mp (sub_dif _ _) i (sub_tb.mp ht9 i hi)
    have b2 : (2 ^ lowN w ||| t).testBit (lowN w) = true := by rw [Nat.testBit_or, Nat.testBit_two_pow_self, Bool.true_or]
    have hh : 2 ^ lowN w ||| t < 256 := Nat.lt_of_le_of_lt (sub_le b1) hw
    have s2 : sub (2 ^ lowN w) (2 ^ lowN w ||| t) := sub_tb.mpr fun i hi => by rw [Nat.testBit_or, hi]; rfl
    have e3 : (2 ^ lowN w ||| t) - 2 ^ lowN w = t := by
      rw [dif_s hh s2]
      apply Nat.eq_of_testBit_eq
      intro i
      rw [dif_tb, Nat.testBit_or]
      cases e : (2 ^ lowN w).testBit i with
      | false => cases t.testBit i <;> rfl
      | true =>
        cases e2 : t.testBit i with
        | false => rfl
        | true =>
          have := sub_tb.mp ht9 i e2
          rw [dif_tb, e, Bool.and_eq_true] at this
          exact absurd this.2 (by decide)
    have := sub_le s2
    exact ⟨by omega, b1, b2⟩
  intro m
  induction m with
  | zero => intro k x _ h; rw [gfF, Nat.add_zero]; exact h
  | succ m ih =>
    intro k x hk h
    rw [gfF, show k + (m + 1) = k + 1 + m by omega]
    refine ih (k + 1) _ (by omega) ?_
    by_cases c : k &&& (w - 2 ^ lowN w) = k
    · rw [if_pos c]
      obtain ⟨f1, f2, f3⟩ := forth k c
      unfold ffS
      rw [f1] at f2 f3 ⊢
      have g256 : 2 ^ lowN w + k < 256 := Nat.lt_of_le_of_lt (sub_le f2) hw
      by_cases c2 : T (2 ^ lowN w + k) = -1
      · rw [if_pos c2]
        have nk : ∀ h, Vc T w h → h ≠ 2 ^ lowN w + k := fun h q e => q.2.2 (by rw [e]; exact c2)
        rcases h with ⟨h1, h2⟩ | ⟨g, ⟨v1, v2⟩, e, hm⟩
        · refine Or.inl ⟨h1, fun h q => ?_⟩
          have := h2 h q
          have := nk h q
          omega
        · exact Or.inr ⟨g, ⟨v1, by omega⟩, e, fun h ⟨q1, q2⟩ => hm h ⟨q1, by have := nk h q1; omega⟩⟩
      · rw [if_neg c2]
        have v : Vc T w (2 ^ lowN w + k) := ⟨f2, f3, c2⟩
        right
        rcases h with ⟨h1, h2⟩ | ⟨g, ⟨v1, v2⟩, e, hm⟩
        · rw [if_pos (Or.inl h1)]
          refine ⟨2 ^ lowN w + k, ⟨v, by omega⟩, rfl, fun h ⟨q1, q2⟩ => ?_⟩
          have : h = 2 ^ lowN w + k := by have := h2 h q1; omega
          subst this
          exact Or.inr ⟨rfl, Or.inr ⟨rfl, Nat.le_refl _⟩⟩
        · have gpos := (back g v1.1 v1.2.1).1
          subst e
          dsimp only at hm ⊢
          by_cases cc : T (2 ^ lowN w + k) + B (w - (2 ^ lowN w + k)) < T g + B (w - g) ∨ (T (2 ^ lowN w + k) + B (w - (2 ^ lowN w + k)) = T g + B (w - g) ∧ C (w - (2 ^ lowN w + k)) + 1 < C (w - g) + 1)
          · rw [if_pos (Or.inr cc)]
            refine ⟨2 ^ lowN w + k, ⟨v, by omega⟩, rfl, fun h ⟨q1, q2⟩ => ?_⟩
            by_cases q : h = 2 ^ lowN w + k
            · subst q; exact Or.inr ⟨rfl, Or.inr ⟨rfl, Nat.le_refl _⟩⟩
            · have := hm h ⟨q1, by omega⟩
              simp only [Int32.lt_iff_toInt_lt, ← Int32.toInt_inj] at this cc ⊢
              omega
          · rw [if_neg (fun q => by
              rcases q with q | q
              · exact nI_n0 (by omega) (by omega) q
              · exact cc q)]
            refine ⟨g, ⟨v1, by omega⟩, rfl, fun h ⟨q1, q2⟩ => ?_⟩
            by_cases q : h = 2 ^ lowN w + k
            · subst q
              simp only [Int32.lt_iff_toInt_lt, ← Int32.toInt_inj] at cc ⊢
              omega
            · exact hm h ⟨q1, by omega⟩
    · rw [if_neg c]
      have nk : ∀ h, Vc T w h → h ≠ 2 ^ lowN w + k := fun h q e => by
        have b := (back h q.1 q.2.1).2
        rw [e, Nat.add_sub_cancel_left] at b
        exact c b
      rcases h with ⟨h1, h2⟩ | ⟨g, ⟨v1, v2⟩, e, hm⟩
      · refine Or.inl ⟨h1, fun h q => ?_⟩
        have := h2 h q
        have := nk h q
        omega
      · exact Or.inr ⟨g, ⟨v1, by omega⟩, e, fun h ⟨q1, q2⟩ => hm h ⟨q1, by have := nk h q1; omega⟩⟩
theorem ffX_bs {T B C : Nat → Int32} {w : Nat} (hw : w < 256) (h0 : 0 < w) (h1 : ¬ T (2 ^ lowN w) = -1) : bst (Vc T w) (fun g => T g + B (w - g)) (fun g => C (w - g) + 1) (ffX T B C w) := by
  have hl := low_tb' (show w < 1024 by omega) h0
  have hlw : sub (2 ^ lowN w) w := sub_tb.mpr fun i hi => by
    rw [Nat.testBit_two_pow] at hi
    rw [← of_decide_eq_true hi]
    exact hl
  have hv : Vc T w (2 ^ lowN w) := ⟨hlw, Nat.testBit_two_pow_self, h1⟩
  have lp : 0 < 2 ^ lowN w := Nat.two_pow_pos _
  have ge : ∀ h, Vc T w h → 2 ^ lowN w ≤ h := fun h q => sub_le (sub_tb.mpr fun i hi => by
    rw [Nat.testBit_two_pow] at hi
    rw [← of_decide_eq_true hi]
    exact q.2.1)
  rw [ffX_g hw]
  rcases gf_bs (B := B) (C := C) (T := T) hw h0 256 0 (B w, C w, 0) (by omega) (Or.inl ⟨rfl, fun h q => by have := ge h q; omega⟩) with ⟨_, q⟩ | ⟨g, ⟨v1, v2⟩, e, hm⟩
  · have a := q _ hv
    have b := sub_le hlw
    omega
  · exact ⟨g, v1, e, fun h q => hm h ⟨q, by have := sub_le q.1; omega⟩⟩

end S_CAA

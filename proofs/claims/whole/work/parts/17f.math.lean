section S_TMP17
abbrev PS : Type := Nat × Bool
/-- the reader's place and whether it has failed -/
def pσ (r : Nat → Int32) : PS := (iv (r 10), decide (¬ r 11 = 0))
def psO (r : Nat → Int32) : Prop := (∃ n : Nat, n ≤ 80 ∧ r 8 = nI n) ∧ (∃ h : Nat, h ≤ iv (r 8) ∧ r 10 = nI h) ∧ vz (r 11)
/-- the sign at the place, -1 behind the end -/
def sg (b : Nat → Int32) (n : Nat) (σ : PS) : Int32 := if σ.1 < n then b σ.1 else -1
def tkB (b : Nat → Int32) (n : Nat) (σ : PS) (c : Int32) : Bool := !σ.2 && decide (sg b n σ = c)
def tkS (b : Nat → Int32) (n : Nat) (σ : PS) (c : Int32) : PS := if tkB b n σ c then (σ.1 + 1, σ.2) else σ
def ndS (b : Nat → Int32) (n : Nat) (σ : PS) (c : Int32) : PS := ((tkS b n σ c).1, !tkB b n σ c)
def dgB (b : Nat → Int32) (n : Nat) (σ : PS) (lo hi : Int32) : Bool := !σ.2 && decide (¬ zin (sg b n σ) (48 + lo) (48 + hi) = 0)
def dgV (b : Nat → Int32) (n : Nat) (σ : PS) (lo hi : Int32) : Int32 := if dgB b n σ lo hi then b σ.1 - 48 else 0
def dgS (b : Nat → Int32) (n : Nat) (σ : PS) (lo hi : Int32) : PS := if dgB b n σ lo hi then (σ.1 + 1, σ.2) else (σ.1, true)
def nbL (b : Nat → Int32) (n : Nat) : Nat → Int32 → PS → Int32 × PS
  | 0, v, σ => (v, σ)
  | k + 1, v, σ => if dgB b n σ 0 9 then nbL b n k (10 * v + dgV b n σ 0 9) (dgS b n σ 0 9) else (v, σ)
def nbF (b : Nat → Int32) (n : Nat) (σ : PS) : Int32 × PS := nbL b n 3 (dgV b n σ 0 9) (dgS b n σ 0 9)
/-- the numbers of a reader that it may have -/
def dix (lo hi : Int32) : Prop := ∃ a c : Nat, a ≤ c ∧ c ≤ 9 ∧ lo = nI a ∧ hi = nI c
theorem sg_in {b : Nat → Int32} {n : Nat} {σ : PS} {c : Int32} (hc : ¬ c = -1) (h : sg b n σ = c) : σ.1 < n := by
  unfold sg at h
  split at h
  · assumption
  · exact absurd h.symm hc
theorem dgB_in {b : Nat → Int32} {n : Nat} {σ : PS} {lo hi : Int32} (hd : dix lo hi) (h : dgB b n σ lo hi = true) : σ.2 = false ∧ σ.1 < n ∧ ∃ a c d : Nat, lo = nI a ∧ hi = nI c ∧ a ≤ d ∧ d ≤ c ∧ c ≤ 9 ∧ dgV b n σ lo hi = nI d ∧ b σ.1 = nI (48 + d) := by
  obtain ⟨a, c, hac, hc9, rfl, rfl⟩ := hd
  have h0 := h
  unfold dgB at h
  rw [Bool.and_eq_true, decide_eq_true_eq] at h
  obtain ⟨h1, h2⟩ := h
  have hb : σ.2 = false := by cases hs : σ.2 with
    | false => rfl
    | true => rw [hs] at h1; cases h1
  obtain ⟨z1, z2⟩ := zin_0.mp h2
  have e1 : (48 : Int32) + nI a = nI (48 + a) := nI_add 48 a
  have e2 : (48 : Int32) + nI c = nI (48 + c) := nI_add 48 c
  rw [e1] at z1
  rw [e2] at z2
  have hlt : σ.1 < n := by
    rcases Nat.lt_or_ge σ.1 n with q | q
    · exact q
    · unfold sg at z1
      rw [if_neg (by omega)] at z1
      exact absurd (Int32.le_trans (nI_pos' (n := 48 + a) (by omega)) z1) (by decide)
  have es : sg b n σ = b σ.1 := if_pos hlt
  rw [es] at z1 z2
  obtain ⟨j, hj, ej⟩ := nI_of (x := b σ.1) (fun z => by
    have := Int32.lt_of_le_of_lt z1 z
    exact absurd this (Int32.not_lt.mpr (nI_pos' (by omega))))
  rw [ej] at z1 z2
  have y1 := (nI_leI (by omega) hj).mp z1
  have y2 := (nI_leI hj (by omega)).mp z2
  refine ⟨hb, hlt, a, c, j - 48, rfl, rfl, by omega, by omega, hc9, ?_, ?_⟩
  · unfold dgV
    rw [if_pos h0, ej]
    exact pk_sub (b := 48) (by omega)
  · rw [ej]; congr 1; omega
theorem dgS_le {b : Nat → Int32} {n : Nat} {σ : PS} {lo hi : Int32} (hd : dix lo hi) (h : σ.1 ≤ n) : (dgS b n σ lo hi).1 ≤ n ∧ σ.1 ≤ (dgS b n σ lo hi).1 := by
  unfold dgS
  split
  · rename_i c
    have := (dgB_in hd c).2.1
    exact ⟨this, Nat.le_succ _⟩
  · exact ⟨h, Nat.le_refl _⟩
theorem dix09 : dix 0 9 := ⟨0, 9, by decide, by decide, rfl, rfl⟩
theorem nbL_ok {b : Nat → Int32} {n : Nat} : ∀ (k : Nat) (v : Int32) (σ : PS) (B : Nat), (∃ m, m ≤ B ∧ v = nI m) → σ.1 ≤ n → (nbL b n k v σ).2.1 ≤ n ∧ σ.1 ≤ (nbL b n k v σ).2.1 ∧ ((nbL b n k v σ).2.2 = σ.2) ∧ ∃ m, m ≤ (B + 1) * 10 ^ k - 1 ∧ (nbL b n k v σ).1 = nI m := by
  intro k
  induction k with
  | zero =>
    intro v σ B hv h
    obtain ⟨m, hm, e⟩ := hv
    exact ⟨h, Nat.le_refl _, rfl, m, by omega, e⟩
  | succ k ih =>
    intro v σ B hv h
    obtain ⟨m, hm, e⟩ := hv
    rw [nbL]
    split
    · rename_i c
      obtain ⟨hb, hlt, a, c', d, e1, e2, h1, h2, h3, e3, e4⟩ := dgB_in dix09 c
      have hS : dgS b n σ 0 9 = (σ.1 + 1, σ.2) := by unfold dgS; rw [if_pos c]
      obtain ⟨g1, g2, g3, m', hm', em'⟩ := ih (10 * v + dgV b n σ 0 9) (dgS b n σ 0 9) (10 * B + 9) ⟨10 * m + d, by omega, by rw [e3, e]; exact (congrArg (· + nI d) (pk_mul 10 m)).trans (nI_add _ _)⟩ (by rw [hS]; exact hlt)
      rw [hS] at g1 g2 g3 em' ⊢
      refine ⟨g1, Nat.le_trans (Nat.le_succ _) g2, g3, m', ?_, em'⟩
      have : (10 * B + 9 + 1) * 10 ^ k = (B + 1) * 10 ^ (k + 1) := by rw [Nat.pow_succ, show 10 * B + 9 + 1 = (B + 1) * 10 by omega, Nat.mul_assoc, Nat.mul_comm 10]
      omega
    · refine ⟨h, Nat.le_refl _, rfl, m, ?_, e⟩
      have : B + 1 ≤ (B + 1) * 10 ^ (k + 1) := Nat.le_mul_of_pos_right _ (Nat.pow_pos (by decide))
      omega
theorem dgV_ok {b : Nat → Int32} {n : Nat} {σ : PS} {lo hi : Int32} (hd : dix lo hi) : ∃ m, m ≤ 9 ∧ dgV b n σ lo hi = nI m := by
  by_cases c : dgB b n σ lo hi = true
  · obtain ⟨_, _, a, c', d, _, _, h1, h2, h3, e3, _⟩ := dgB_in hd c
    exact ⟨d, by omega, e3⟩
  · exact ⟨0, by decide, by unfold dgV; rw [if_neg c]; rfl⟩
theorem nbF_ok {b : Nat → Int32} {n : Nat} {σ : PS} (h : σ.1 ≤ n) : (nbF b n σ).2.1 ≤ n ∧ σ.1 ≤ (nbF b n σ).2.1 ∧ ∃ m, m ≤ 9999 ∧ (nbF b n σ).1 = nI m := by
  have h1 := dgS_le (b := b) dix09 h
  obtain ⟨g1, g2, _, m, hm, em⟩ := nbL_ok (b := b) 3 (dgV b n σ 0 9) (dgS b n σ 0 9) 9 (dgV_ok dix09) h1.1
  exact ⟨g1, Nat.le_trans h1.2 g2, m, by omega, em⟩
/-- reading a test: minus, kind, comparison, number -/
def tsR (b : Nat → Int32) (n : Nat) (σ : PS) : (Bool × Int32 × Int32 × Int32) × PS :=
  let σ1 := tkS b n σ 45
  let kd := if σ1.2 then -1 else kindF (sg b n σ1)
  if 0 ≤ kd then
    if kd = 0 then ((tkB b n σ 45, kd, 2, dgV b n (σ1.1 + 1, σ1.2) 0 7), dgS b n (σ1.1 + 1, σ1.2) 0 7)
    else if 0 ≤ compF (sg b n (σ1.1 + 1, σ1.2)) then ((tkB b n σ 45, kd, compF (sg b n (σ1.1 + 1, σ1.2)), (nbF b n (σ1.1 + 2, σ1.2)).1), (nbF b n (σ1.1 + 2, σ1.2)).2)
    else ((tkB b n σ 45, kd, 0, (nbF b n (σ1.1 + 1, true)).1), (nbF b n (σ1.1 + 1, true)).2)
  else ((tkB b n σ 45, 0, 0, 0), (σ1.1, true))
/-- a test as the reference writes it -/
def tsE (row : Int32) (t : Bool × Int32 × Int32 × Int32) : Int32 := ((((row * 2 + b2i t.1) * 5 + t.2.1) * 3) + (if 0 < t.2.2.1 then t.2.2.1 else 0)) * 10000 + t.2.2.2
theorem kindF_in {c : Int32} (h : 0 ≤ kindF c) : ¬ c = -1 := by
  intro e; subst e; revert h; decide
theorem compF_in {c : Int32} (h : 0 ≤ compF c) : ¬ c = -1 := by
  intro e; subst e; revert h; decide
theorem kindF_v (c : Int32) : kindF c = -1 ∨ ∃ k, k ≤ 4 ∧ kindF c = nI k := by
  unfold kindF
  split
  · exact Or.inr ⟨0, by decide, rfl⟩
  split
  · exact Or.inr ⟨1, by decide, rfl⟩
  split
  · exact Or.inr ⟨2, by decide, rfl⟩
  split
  · exact Or.inr ⟨3, by decide, rfl⟩
  split
  · exact Or.inr ⟨4, by decide, rfl⟩
  · exact Or.inl rfl
theorem compF_v (c : Int32) : compF c = -1 ∨ ∃ k, k ≤ 2 ∧ compF c = nI k := by
  unfold compF
  split
  · exact Or.inr ⟨0, by decide, rfl⟩
  split
  · exact Or.inr ⟨1, by decide, rfl⟩
  split
  · exact Or.inr ⟨2, by decide, rfl⟩
  · exact Or.inl rfl
theorem tkS_le {b : Nat → Int32} {n : Nat} {σ : PS} {c : Int32} (hc : ¬ c = -1) (h : σ.1 ≤ n) : (tkS b n σ c).1 ≤ n ∧ σ.1 ≤ (tkS b n σ c).1 ∧ (tkS b n σ c).2 = σ.2 := by
  unfold tkS
  split
  · rename_i t
    unfold tkB at t
    rw [Bool.and_eq_true, decide_eq_true_eq] at t
    have := sg_in hc t.2
    exact ⟨this, Nat.le_succ _, rfl⟩
  · exact ⟨h, Nat.le_refl _, rfl⟩
theorem sg_lt {b : Nat → Int32} {n : Nat} {σ : PS} (h : ¬ sg b n σ = -1) : σ.1 < n := by
  rcases Nat.lt_or_ge σ.1 n with q | q
  · exact q
  · exact absurd (by unfold sg; rw [if_neg (by omega)]) h
theorem tsR_ok {b : Nat → Int32} {n : Nat} {σ : PS} (h : σ.1 ≤ n) : (tsR b n σ).2.1 ≤ n ∧ σ.1 ≤ (tsR b n σ).2.1 ∧ ((tsR b n σ).2.2 = false → σ.1 + 2 ≤ (tsR b n σ).2.1) := by
  have h1 := tkS_le (b := b) (c := 45) (by decide) h
  unfold tsR
  dsimp only
  generalize hkd : (if (tkS b n σ 45).2 = true then (-1 : Int32) else kindF (sg b n (tkS b n σ 45))) = kd
  by_cases c : 0 ≤ kd
  · rw [if_pos c]
    have c1 : ¬ (tkS b n σ 45).2 = true ∧ 0 ≤ kindF (sg b n (tkS b n σ 45)) := by
      by_cases d : (tkS b n σ 45).2 = true
      · rw [if_pos d] at hkd; rw [← hkd] at c; exact absurd c (by decide)
      · rw [if_neg d] at hkd; rw [← hkd] at c; exact ⟨d, c⟩
    have hlt := sg_lt (kindF_in c1.2)
    by_cases c2 : kd = 0
    · rw [if_pos c2]
      have h2 := dgS_le (b := b) (n := n) (σ := ((tkS b n σ 45).1 + 1, (tkS b n σ 45).2)) (lo := 0) (hi := 7) ⟨0, 7, by decide, by decide, rfl, rfl⟩ hlt
      have h3 := h2.2
      dsimp only at h3 ⊢
      refine ⟨h2.1, by omega, fun z => ?_⟩
      unfold dgS at z ⊢
      split at z
      · rename_i t; rw [if_pos t]; dsimp only; omega
      · cases z
    · rw [if_neg c2]
      by_cases d : 0 ≤ compF (sg b n ((tkS b n σ 45).1 + 1, (tkS b n σ 45).2))
      · rw [if_pos d]
        have hlt2 := sg_lt (compF_in d)
        dsimp only at hlt2
        have h2 := nbF_ok (b := b) (n := n) (σ := ((tkS b n σ 45).1 + 2, (tkS b n σ 45).2)) (by dsimp only; omega)
        have h3 := h2.2.1
        dsimp only at h3 ⊢
        exact ⟨h2.1, by omega, fun _ => by omega⟩
      · rw [if_neg d]
        have h2 := nbF_ok (b := b) (n := n) (σ := ((tkS b n σ 45).1 + 1, true)) (by dsimp only; omega)
        have h3 := h2.2.1
        dsimp only at h3 ⊢
        refine ⟨h2.1, by omega, fun z => ?_⟩
        exfalso
        have hb := (nbL_ok (b := b) (n := n) 3 (dgV b n ((tkS b n σ 45).1 + 1, true) 0 9) (dgS b n ((tkS b n σ 45).1 + 1, true) 0 9) 9 (dgV_ok dix09) (dgS_le dix09 (by dsimp only; omega)).1).2.2.1
        have hd : (dgS b n ((tkS b n σ 45).1 + 1, true) 0 9).2 = true := by unfold dgS dgB; rfl
        rw [hd] at hb
        unfold nbF at z
        rw [hb] at z
        cases z
  · rw [if_neg c]
    exact ⟨h1.1, h1.2.1, fun z => by cases z⟩
/-- the number of tests so far is less than the place -/
def tsO (r : Nat → Int32) : Prop := ∃ t : Nat, t < iv (r 10) ∧ r 15 = nI t
def row80 (x : Int32) : Prop := ∃ m : Nat, m < 80 ∧ x = nI m
def tsP (r : Nat → Int32) (q : Nat → Nat → Int32) (row : Int32) (r1 : Nat → Int32) (q1 : Nat → Nat → Int32) : Prop := kR r r1 [10, 11, 15] ∧ kQ q q1 [6] ∧ psO r1 ∧ pσ r1 = (tsR (q 4) (iv (r 8)) (pσ r)).2 ∧ (∀ i, i < iv (r 15) → q1 6 i = q 6 i) ∧ ((pσ r1).2 = false → tsO r1 ∧ r1 15 = nI (iv (r 15) + 1) ∧ q1 6 (iv (r 15)) = tsE row (tsR (q 4) (iv (r 8)) (pσ r)).1)
theorem pb_of {r : Nat → Int32} (h : vz (r 11)) : (r 11 = 0 ↔ (pσ r).2 = false) := by
  unfold pσ
  rcases h with e | e <;> rw [e] <;> simp
theorem psO_10 {r r6 : Nat → Int32} (hp : psO r) (hl : (pσ r).1 < iv (r 8)) (e : r6 = va_up r 10 (nI ((pσ r).1 + 1))) : psO r6 ∧ pσ r6 = ((pσ r).1 + 1, (pσ r).2) := by
  obtain ⟨⟨n, hn, e8⟩, ⟨h, hh, e10⟩, hb⟩ := hp
  have en : iv (r 8) = n := by rw [e8]; exact nI_clamp (by omega)
  rw [en] at hl
  have f8 : r6 8 = nI n := by rw [e, va_up_ne _ _ (by decide)]; exact e8
  have f10 : r6 10 = nI ((pσ r).1 + 1) := by rw [e, va_up_self]
  have f11 : r6 11 = r 11 := by rw [e, va_up_ne _ _ (by decide)]
  refine ⟨⟨⟨n, hn, f8⟩, ⟨(pσ r).1 + 1, ?_, f10⟩, by rw [f11]; exact hb⟩, ?_⟩
  · rw [f8, show iv (nI n) = n from nI_clamp (by omega)]; omega
  · have g1 : (pσ r6).1 = (pσ r).1 + 1 := by show iv (r6 10) = _; rw [f10]; exact nI_clamp (by omega)
    have g2 : (pσ r6).2 = (pσ r).2 := by unfold pσ; rw [f11]
    exact Prod.ext g1 g2
theorem psO_11 {r r5 : Nat → Int32} {x : Int32} (h : psO r) (hx : vz x) (e : r5 = va_up r 11 x) : psO r5 ∧ pσ r5 = ((pσ r).1, decide (¬ x = 0)) := by
  obtain ⟨⟨n, hn, e8⟩, ⟨h, hh, e10⟩, hb⟩ := h
  subst e
  refine ⟨⟨⟨n, hn, by rw [va_up_ne _ _ (by decide)]; exact e8⟩, ⟨h, by rw [va_up_ne _ _ (by decide)]; exact hh, by rw [va_up_ne _ _ (by decide)]; exact e10⟩, by rw [va_up_self]; exact hx⟩, ?_⟩
  unfold pσ
  rw [va_up_ne _ _ (by decide), va_up_self]
theorem sgn_sg {r : Nat → Int32} {q : Nat → Nat → Int32} (h : psO r) : sgnF r q = sg (q 4) (iv (r 8)) (pσ r) ∧ (r 10 < r 8 → vp_in (r 10) 80) := by
  obtain ⟨⟨n, hn, e8⟩, ⟨h, hh, e10⟩, hb⟩ := h
  have en : iv (r 8) = n := by rw [e8]; exact nI_clamp (by omega)
  rw [en] at hh
  have eh : (pσ r).1 = h := by unfold pσ; rw [e10]; exact nI_clamp (by omega)
  refine ⟨?_, fun z => ?_⟩
  · unfold sg sgnF; rw [eh, e10, e8]; simp (disch := omega) only [nI_ltI, nI_clamp]
  · rw [e10]; rw [e10, e8, nI_ltI (by omega) (by omega)] at z; simp (disch := omega) only [li_2, li_3, li_4, li_5, li_6, li_7, li_8, li_9, li_10, li_12, li_14, li_20, li_26, li_30, li_31, li_36, li_38, li_47, li_48, li_50, li_57, li_58, li_80, li_98, li_99, li_100, li_102, li_104, li_105, li_108, li_109, li_110, li_114, li_115, li_119, li_122, li_137, li_146, li_147, li_148, li_149, li_150, li_200, li_255, li_256, li_274, li_510, li_512, li_640, li_999, li_1000, li_1024, li_3334, li_5000, li_9999, li_10000, li_23338, li_26672, li_30000, li_99999, li_150000, li_300000, pk_mul, nI_add, pk_sub, nI_clamp, nI_1, nI_p1, nI_a0, nI_0a, nI_m0, nI_m1, cl_0, cl_1, z01, z11, nI_leI, nI_ltI, nI_eq, nz_lt0, nz_le, nz_eq0, nz_pos, nz_le0, nz_eq1, nz_lt1, nz_ge1, nz_le1, nz_gt1, nz_vp, nz_vp0, nz_vp1, six_nI, vix_nI, bix_nI, pix_nI, fix_nI, gix_nI, rix_nI, zix_nI, pix_0, pix_1, bix_0, fix_0, fix_1, rix_1, true_and, and_true]; omega
theorem ps_1 {r : Nat → Int32} (h : psO r) : (pσ r).1 ≤ iv (r 8) ∧ iv (r 8) ≤ 80 ∧ r 10 = nI (pσ r).1 := by
  obtain ⟨⟨n, hn, e8⟩, ⟨h, hh, e10⟩, hb⟩ := h
  have en : iv (r 8) = n := by rw [e8]; exact nI_clamp (by omega)
  rw [en] at hh ⊢
  have eh : (pσ r).1 = h := by unfold pσ; rw [e10]; exact nI_clamp (by omega)
  rw [eh]
  exact ⟨hh, hn, e10⟩
theorem num_bad {b : Nat → Int32} {n : Nat} {h : Nat} : (nbF b n (h, true)).2 = (h, true) := by
  unfold nbF nbL
  have hd : dgS b n (h, true) 0 9 = (h, true) := by unfold dgS dgB; rfl
  rw [hd]
  have : dgB b n (h, true) 0 9 = false := rfl
  rw [if_neg (by rw [this]; decide)]

end S_TMP17

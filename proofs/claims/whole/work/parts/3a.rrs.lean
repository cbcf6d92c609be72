section S_RRS
/-- a test as a number -/
def tsN (y : Nat × TS) : Nat := iv (tsE (nI y.1) y.2)
def tsW (t : TS) : Prop := ∃ kd by_ v : Nat, t.2.1 = nI kd ∧ t.2.2.1 = nI by_ ∧ t.2.2.2 = nI v ∧ kd ≤ 4 ∧ by_ ≤ 2 ∧ v ≤ 9999
def txL : List (Nat × TS) → Nat
  | [] => 0
  | y :: l => 1 + (teL (tsN y)).length + txL l
/-- a statement that has been read well -/
def stW (x : STM) : Prop := (x.1.1 = 122 ∧ zix x.1.2.1 ∧ bn x.1.2.2.1 9999 ∧ bn x.1.2.2.2 9999) ∨ (x.1.1 = 98 ∧ zix x.1.2.1 ∧ bn x.1.2.2.1 9999 ∧ bn x.1.2.2.2 9999) ∨ (x.1.1 = 109 ∧ zix x.1.2.1 ∧ bn x.1.2.2.1 9999) ∨ ((x.1.1 = 100 ∨ x.1.1 = 102 ∨ x.1.1 = 115 ∨ x.1.1 = 99) ∧ bn x.1.2.1 9999) ∨ (x.1.1 = 97 ∧ six x.1.2.1 ∧ bn x.1.2.2.1 9999 ∧ bn x.1.2.2.2 2 ∧ x.2.1.1.length ≤ 30 ∧ x.2.1.2 ≤ 30 ∧ (∀ y, y ∈ x.2.1.1 → y.1 < x.2.1.2 ∧ tsW y.2) ∧ txL x.2.1.1 ≤ 80 ∧ (x.2.2 = -1 ∨ bn x.2.2 9)) ∨ (x.1.1 = 114 ∧ six x.1.2.1)
def amL (b : Nat → Int32) (n : Nat) : Nat → PS → List STM × PS
  | 0, σ => ([], σ)
  | k + 1, σ => if tkB b n (stR b n σ).2 59 = true then ((stR b n σ).1 :: (amL b n k (tkS b n (stR b n σ).2 59)).1, (amL b n k (tkS b n (stR b n σ).2 59)).2) else ([(stR b n σ).1], (stR b n σ).2)
def amF (b : Nat → Int32) (n : Nat) : List STM × PS := amL b n 81 (0, false)
def crBx (μ : Nat → Int32) (v : Nat) (x : STM) : Bool := crB μ v x.1.1 x.1.2.1 x.1.2.2.1 x.1.2.2.2
def tvF (l : List (Nat × TS)) : Nat → Int32 := fun j => match l[j]? with | some y => tsE (nI y.1) y.2 | none => 0
def crSx (μ : Nat → Int32) (v : Nat) (x : STM) : Nat → Int32 := crS μ v x.1.1 x.1.2.1 x.1.2.2.1 x.1.2.2.2 (nI x.2.1.2) (nI x.2.1.1.length) (tvF x.2.1.1) x.2.2
/-- all statements, one after the other: the first that is impossible, the row -/
def amG (v : Nat) : List STM → Nat → (Nat → Int32) → Option Nat × (Nat → Int32)
  | [], _, μ => (none, μ)
  | x :: l, i, μ => if crBx μ v x = true then amG v l (i + 1) (crSx μ v x) else (some i, μ)
def amP (r : Nat → Int32) (q : Nat → Nat → Int32) (p v : Int32) (r1 : Nat → Int32) (q1 : Nat → Nat → Int32) : Prop := kR r r1 (5 :: 8 :: 12 :: SC) ∧ kQ q q1 [0, 2, 3, 5, 6] ∧ r1 8 = 0 ∧ (zin p 0 (q 0 0 - 1) = 0 → r1 6 = 1 ∧ r1 5 = r 5 ∧ r1 12 = r 12 ∧ q1 0 = q 0 ∧ q1 3 = q 3) ∧ (¬ zin p 0 (q 0 0 - 1) = 0 → ((amF (q 4) (iv (r 8))).2.2 = true ∨ (amF (q 4) (iv (r 8))).2.1 < iv (r 8)) → r1 6 = 0 ∧ v = (-100) - nI (amF (q 4) (iv (r 8))).2.1 ∧ r1 5 = r 5 ∧ r1 12 = r 12 ∧ q1 0 = q 0 ∧ q1 3 = q 3) ∧ (¬ zin p 0 (q 0 0 - 1) = 0 → (amF (q 4) (iv (r 8))).2.2 = false → iv (r 8) ≤ (amF (q 4) (iv (r 8))).2.1 → (∀ i, (amG (iv p) (amF (q 4) (iv (r 8))).1 0 (q 0)).1 = some i → r1 6 = 2 ∧ r1 12 = nI i ∧ r1 5 = r 5 ∧ (∀ k, k < 3334 → q1 0 k = q 0 k) ∧ q1 3 = q 3) ∧ ((amG (iv p) (amF (q 4) (iv (r 8))).1 0 (q 0)).1 = none → r1 6 = 0 ∧ r1 12 = r 12 ∧ v = nI (amF (q 4) (iv (r 8))).1.length ∧ q1 0 = (amG (iv p) (amF (q 4) (iv (r 8))).1 0 (q 0)).2 ∧ psh (q 3) (q1 3) (q 0) (r 5) (r1 5)))
theorem nuL_lt {m c : Nat} (h : m < 10 ^ c) (h1 : 1 ≤ c) : (nuL m).length ≤ c := by
  unfold nuL
  rw [dgL_len]
  rcases Nat.lt_or_ge c 4 with q9 | q9
  · rcases (by omega : c = 1 ∨ c = 2 ∨ c = 3) with e | e | e
    · subst e; rw [if_pos (by omega)]; omega
    · subst e
      have : m < 100 := h
      split
      · omega
      · omega
    · subst e
      have : m < 1000 := h
      split
      · omega
      split
      · omega
      · omega
  · split
    · omega
    split
    · omega
    split
    · omega
    · omega
theorem dg_ok {b : Nat → Int32} {n : Nat} {σ : PS} {a c : Nat} (hac : a ≤ c) (hc : c ≤ 9) (h : (dgS b n σ (nI a) (nI c)).2 = false) : ∃ d, a ≤ d ∧ d ≤ c ∧ dgV b n σ (nI a) (nI c) = nI d ∧ (dgS b n σ (nI a) (nI c)).1 = σ.1 + 1 ∧ σ.1 < n := by
  by_cases hB : dgB b n σ (nI a) (nI c) = true
  · obtain ⟨h1, h2, a', c', d, e1, e2, g1, g2, g3, g4, g5⟩ := dgB_in ⟨a, c, hac, hc, rfl, rfl⟩ hB
    have ea : a = a' := (nI_eq (by omega) (by omega)).mp e1
    have ec : c = c' := (nI_eq (by omega) (by omega)).mp e2
    refine ⟨d, by omega, by omega, g4, ?_, h2⟩
    unfold dgS
    rw [if_pos hB]
  · unfold dgS at h
    rw [if_neg hB] at h
    cases h
theorem nbL_c {b : Nat → Int32} {n : Nat} : ∀ (k : Nat) (v : Int32) (σ : PS) (m c : Nat), v = nI m → m < 10 ^ c → ∃ j m', j ≤ k ∧ (nbL b n k v σ).2.1 = σ.1 + j ∧ (nbL b n k v σ).1 = nI m' ∧ m' < 10 ^ (c + j) := by
  intro k
  induction k with
  | zero => intro v σ m c hv hm; exact ⟨0, m, Nat.le_refl _, rfl, hv, hm⟩
  | succ k ih =>
    intro v σ m c hv hm
    rw [nbL]
    by_cases hB : dgB b n σ 0 9 = true
    · rw [if_pos hB]
      obtain ⟨h1, h2, a', c', d, e1, e2, g1, g2, g3, g4, g5⟩ := dgB_in dix09 hB
      have hS : dgS b n σ 0 9 = (σ.1 + 1, σ.2) := by unfold dgS; rw [if_pos hB]
      have ev : 10 * v + dgV b n σ 0 9 = nI (10 * m + d) := by rw [g4, hv]; exact (congrArg (· + nI d) (pk_mul 10 m)).trans (nI_add _ _)
      obtain ⟨j, m', hj, a1, a2, a3⟩ := ih (10 * v + dgV b n σ 0 9) (dgS b n σ 0 9) (10 * m + d) (c + 1) ev (by rw [Nat.pow_succ]; omega)
      rw [hS] at a1 a2 ⊢
      exact ⟨j + 1, m', by omega, by rw [a1]; dsimp only; omega, a2, by rw [show c + (j + 1) = c + 1 + j by omega]; exact a3⟩
    · rw [if_neg hB]
      exact ⟨0, m, Nat.zero_le _, rfl, hv, hm⟩
theorem nb_bd {b : Nat → Int32} {n : Nat} {σ : PS} (hl : σ.1 ≤ n) (h : (nbF b n σ).2.2 = false) : ∃ m, m ≤ 9999 ∧ (nbF b n σ).1 = nI m ∧ σ.1 + (nuL m).length ≤ (nbF b n σ).2.1 := by
  have hD : (dgS b n σ 0 9).2 = false := by
    have := (nbL_ok (b := b) (n := n) 3 (dgV b n σ 0 9) (dgS b n σ 0 9) 9 (dgV_ok dix09) (dgS_le dix09 hl).1).2.2.1
    unfold nbF at h
    rw [this] at h
    exact h
  obtain ⟨d, hd0, hd, e1, e2, e3⟩ := dg_ok (a := 0) (c := 9) (by decide) (by decide) hD
  obtain ⟨j, m', hj, a1, a2, a3⟩ := nbL_c (b := b) (n := n) 3 (dgV b n σ 0 9) (dgS b n σ 0 9) d 1 e1 (by omega)
  have e2' : (dgS b n σ 0 9).1 = σ.1 + 1 := e2
  obtain ⟨m, hm, em⟩ := (nbF_ok (b := b) hl).2.2
  have emm : m = m' := by
    have hp : 10 ^ (1 + j) ≤ 10 ^ 4 := Nat.pow_le_pow_right (by decide) (by omega)
    have := em.symm.trans a2
    exact (nI_eq (by omega) (by omega)).mp this
  subst emm
  refine ⟨m, hm, em, ?_⟩
  have := nuL_lt a3 (by omega)
  show σ.1 + _ ≤ (nbL b n 3 (dgV b n σ 0 9) (dgS b n σ 0 9)).2.1
  rw [a1, e2']
  omega
theorem tsE_n {row : Nat} {t : TS} {kd by_ v : Nat} (h1 : t.2.1 = nI kd) (h2 : t.2.2.1 = nI by_) (h3 : t.2.2.2 = nI v) (hk : kd ≤ 4) (hb : by_ ≤ 2) (hv : v ≤ 9999) (hr : row ≤ 30) : tsE (nI row) t = nI (((((row * 2 + (if t.1 = true then 1 else 0)) * 5 + kd) * 3) + by_) * 10000 + v) := by
  unfold tsE
  have e1 : b2i t.1 = nI (if t.1 = true then 1 else 0) := by cases t.1 <;> rfl
  have e2 : (if 0 < t.2.2.1 then t.2.2.1 else 0) = nI by_ := by
    rw [h2]
    split
    · rfl
    · rename_i c
      rw [nz_pos (by omega)] at c
      rw [show by_ = 0 by omega]; rfl
  rw [e1, e2, h1, h3, show (2 : Int32) = nI 2 from rfl, show (5 : Int32) = nI 5 from rfl, show (3 : Int32) = nI 3 from rfl, show (10000 : Int32) = nI 10000 from rfl]
  simp only [pk_mul, nI_add]
theorem teL_n {N mi kd by_ v row : Nat} (hN : N = ((((row * 2 + mi) * 5 + kd) * 3) + by_) * 10000 + v) (hm : mi ≤ 1) (hk : kd ≤ 4) (hb : by_ ≤ 2) (hv : v ≤ 9999) : (teL N).length = mi + 1 + (if 0 < kd then 1 else 0) + (nuL v).length := by
  have e1 : N / 150000 % 2 = mi := by omega
  have e2 : N / 30000 % 5 = kd := by omega
  have e4 : N % 10000 = v := by omega
  unfold teL
  rw [e1, e2, e4, List.length_append, List.length_cons, List.length_append]
  have a1 : (if mi = 1 then ([45] : List Int32) else []).length = mi := by
    rcases (by omega : mi = 0 ∨ mi = 1) with e | e
    · subst e; rfl
    · subst e; rfl
  rw [a1]
  split
  · rw [List.length_singleton]; omega
  · rw [List.length_nil]; omega
theorem ts_ok {b : Nat → Int32} {n : Nat} {σ : PS} (h : σ.1 ≤ n) (hg : (tsR b n σ).2.2 = false) : tsW (tsR b n σ).1 ∧ ∀ row, row ≤ 30 → σ.1 + (teL (tsN (row, (tsR b n σ).1))).length ≤ (tsR b n σ).2.1 := by
  have h1 := tkS_le (b := b) (c := 45) (by decide) h
  obtain ⟨mi, emi, hm⟩ : ∃ mi : Nat, (if tkB b n σ 45 = true then 1 else 0) = mi ∧ mi ≤ 1 := ⟨_, rfl, by split <;> omega⟩
  have hmi : (tkS b n σ 45).1 = σ.1 + mi := by
    rw [← emi]
    unfold tkS
    split
    · rfl
    · rfl
  -- from the numbers to the claim
  have fin : ∀ (kd by_ v : Nat) (t : TS) (pl : Nat), t = (tkB b n σ 45, nI kd, nI by_, nI v) → kd ≤ 4 → by_ ≤ 2 → v ≤ 9999 → σ.1 + mi + 1 + (if 0 < kd then 1 else 0) + (nuL v).length ≤ pl → tsW t ∧ ∀ row, row ≤ 30 → σ.1 + (teL (tsN (row, t))).length ≤ pl := by
    intro kd by_ v t pl ht hk hb hv hpl
    subst ht
    refine ⟨⟨kd, by_, v, rfl, rfl, rfl, hk, hb, hv⟩, fun row hr => ?_⟩
    have e9 : tsN (row, (tkB b n σ 45, nI kd, nI by_, nI v)) = ((((row * 2 + mi) * 5 + kd) * 3) + by_) * 10000 + v := by
      unfold tsN
      rw [tsE_n (t := (tkB b n σ 45, nI kd, nI by_, nI v)) rfl rfl rfl hk hb hv hr]
      dsimp only
      rw [emi]
      exact nI_clamp (by omega)
    rw [teL_n e9 hm hk hb hv]
    omega
  unfold tsR at hg ⊢
  dsimp only at hg ⊢
  generalize hkd : (if (tkS b n σ 45).2 = true then (-1 : Int32) else kindF (sg b n (tkS b n σ 45))) = kd at hg ⊢
  by_cases c : 0 ≤ kd
  · rw [if_pos c] at hg ⊢
    have c1 : ¬ (tkS b n σ 45).2 = true ∧ 0 ≤ kindF (sg b n (tkS b n σ 45)) := by
      by_cases d : (tkS b n σ 45).2 = true
      · rw [if_pos d] at hkd; rw [← hkd] at c; exact absurd c (by decide)
      · rw [if_neg d] at hkd; rw [← hkd] at c; exact ⟨d, c⟩
    have hlt := sg_lt (kindF_in c1.2)
    obtain ⟨k, hk, ek⟩ : ∃ k, k ≤ 4 ∧ kd = nI k := by
      rw [if_neg c1.1] at hkd
      rcases kindF_v (sg b n (tkS b n σ 45)) with z | ⟨k, hk, z⟩
      · rw [z] at hkd; rw [← hkd] at c; exact absurd c (by decide)
      · exact ⟨k, hk, by rw [← hkd]; exact z⟩
    by_cases c2 : kd = 0
    · rw [if_pos c2] at hg ⊢
      have k0 : k = 0 := by rw [ek, nz_eq0 (by omega)] at c2; exact c2
      obtain ⟨d, hd0, hd, e1, e2, e3⟩ := dg_ok (b := b) (n := n) (σ := ((tkS b n σ 45).1 + 1, (tkS b n σ 45).2)) (a := 0) (c := 7) (by decide) (by decide) hg
      dsimp only at e2
      have e1' : dgV b n ((tkS b n σ 45).1 + 1, (tkS b n σ 45).2) 0 7 = nI d := e1
      have e2' : (dgS b n ((tkS b n σ 45).1 + 1, (tkS b n σ 45).2) 0 7).1 = (tkS b n σ 45).1 + 1 + 1 := e2
      refine fin k 2 d _ _ (by rw [ek, e1']; rfl) hk (by decide) (by omega) ?_
      have hn := nuL_lt (m := d) (c := 1) (by omega) (by decide)
      rw [e2', k0, if_neg (show ¬ (0 < 0) by decide)]
      omega
    · rw [if_neg c2] at hg ⊢
      have k0 : 0 < k := by rw [ek, nz_eq0 (by omega)] at c2; omega
      by_cases d : 0 ≤ compF (sg b n ((tkS b n σ 45).1 + 1, (tkS b n σ 45).2))
      · rw [if_pos d] at hg ⊢
        have hlt2 := sg_lt (compF_in d)
        dsimp only at hlt2
        obtain ⟨cb, hcb, ecb⟩ : ∃ k, k ≤ 2 ∧ compF (sg b n ((tkS b n σ 45).1 + 1, (tkS b n σ 45).2)) = nI k := by
          rcases compF_v (sg b n ((tkS b n σ 45).1 + 1, (tkS b n σ 45).2)) with z | z
          · rw [z] at d; exact absurd d (by decide)
          · exact z
        obtain ⟨m, hm, em, hml⟩ := nb_bd (b := b) (n := n) (σ := ((tkS b n σ 45).1 + 2, (tkS b n σ 45).2)) (by dsimp only; omega) hg
        dsimp only at hml
        refine fin k cb m _ _ (by rw [ek, ecb, em]) hk hcb hm ?_
        rw [if_pos k0]
        have h9 : (nbF b n ((tkS b n σ 45).1 + 2, (tkS b n σ 45).2)).2.1 = (nbF b n ((tkS b n σ 45).1 + 2, (tkS b n σ 45).2)).snd.fst := rfl
        (try dsimp only)
        generalize (nbF b n ((tkS b n σ 45).1 + 2, (tkS b n σ 45).2)).2.1 = pl at *
        omega
      · rw [if_neg d] at hg
        exfalso
        have := num_bad (b := b) (n := n) (h := (tkS b n σ 45).1 + 1)
        rw [this] at hg
        cases hg
  · rw [if_neg c] at hg
    cases hg
theorem cn_ok {b : Nat → Int32} {n : Nat} : ∀ (k row : Nat) (σ : PS), σ.1 ≤ n → (cnL b n k row σ).2.2.2 = false → row ≤ (cnL b n k row σ).2.1 ∧ (cnL b n k row σ).2.1 ≤ row + (cnL b n k row σ).1.length ∧ (∀ y, y ∈ (cnL b n k row σ).1 → row ≤ y.1 ∧ y.1 ≤ (cnL b n k row σ).2.1 ∧ tsW y.2) ∧ σ.1 + 3 * (cnL b n k row σ).1.length ≤ (cnL b n k row σ).2.2.1 := by
  intro k
  induction k with
  | zero => intro row σ h hg; exact ⟨Nat.le_refl _, Nat.le_refl _, fun y hy => by simp [cnL] at hy, Nat.le_refl _⟩
  | succ k ih =>
    intro row σ h hg
    have gen : ∀ (c : Int32) (row1 : Nat), ¬ c = -1 → tkB b n σ c = true → row ≤ row1 → row1 ≤ row + 1 → (cnL b n (k + 1) row σ = ((row1, (tsR b n (tkS b n σ c)).1) :: (cnL b n k row1 (tsR b n (tkS b n σ c)).2).1, (cnL b n k row1 (tsR b n (tkS b n σ c)).2).2)) → row ≤ (cnL b n (k + 1) row σ).2.1 ∧ (cnL b n (k + 1) row σ).2.1 ≤ row + (cnL b n (k + 1) row σ).1.length ∧ (∀ y, y ∈ (cnL b n (k + 1) row σ).1 → row ≤ y.1 ∧ y.1 ≤ (cnL b n (k + 1) row σ).2.1 ∧ tsW y.2) ∧ σ.1 + 3 * (cnL b n (k + 1) row σ).1.length ≤ (cnL b n (k + 1) row σ).2.2.1 := by
      intro c row1 hc ht hr hr1 he
      rw [he] at hg ⊢
      dsimp only at hg ⊢
      obtain ⟨t1, t2, t3⟩ := tkB_gd hc ht
      have hgT := cnL_gd k row1 _ hg
      have hT := tsR_ok (b := b) (n := n) (σ := tkS b n σ c) (by rw [t3]; exact t2)
      obtain ⟨a1, a2, a3, a4⟩ := ih row1 (tsR b n (tkS b n σ c)).2 hT.1 hg
      have hW := ts_ok (b := b) (n := n) (σ := tkS b n σ c) (by rw [t3]; exact t2) hgT
      have h2 := hT.2.2 hgT
      rw [t3] at h2
      dsimp only at h2
      rw [t3] at a1 a2 a3 a4 ⊢
      refine ⟨by omega, by rw [List.length_cons]; omega, fun y hy => ?_, by rw [List.length_cons]; omega⟩
      rcases List.mem_cons.mp hy with e | e
      · subst e
        rw [t3] at hW
        exact ⟨hr, a1, hW.1⟩
      · have := a3 y e
        exact ⟨by omega, this.2⟩
    by_cases c0 : σ.2 = true
    · rw [cnL_bad c0] at hg ⊢
      exact ⟨Nat.le_refl _, Nat.le_refl _, fun y hy => by simp at hy, Nat.le_refl _⟩
    · by_cases c1 : tkB b n σ 38 = true
      · exact gen 38 row (by decide) c1 (Nat.le_refl _) (by omega) (cnL_and c1)
      · have c1' : tkB b n σ 38 = false := by cases h9 : tkB b n σ 38 with | true => exact absurd h9 c1 | false => rfl
        by_cases c2 : tkB b n σ 124 = true
        · exact gen 124 (row + 1) (by decide) c2 (by omega) (Nat.le_refl _) (cnL_or c1' c2)
        · have c2' : tkB b n σ 124 = false := by cases h9 : tkB b n σ 124 with | true => exact absurd h9 c2 | false => rfl
          rw [cnL_no c1' c2'] at hg ⊢
          exact ⟨Nat.le_refl _, Nat.le_refl _, fun y hy => by simp at hy, Nat.le_refl _⟩
/-- the length of the text of the tests -/
theorem cn_tx {b : Nat → Int32} {n : Nat} : ∀ (k row : Nat) (σ : PS), σ.1 ≤ n → (cnL b n k row σ).2.2.2 = false → (cnL b n k row σ).2.1 ≤ 30 → σ.1 + txL (cnL b n k row σ).1 ≤ (cnL b n k row σ).2.2.1 := by
  intro k
  induction k with
  | zero => intro row σ h hg _; exact Nat.le_refl _
  | succ k ih =>
    intro row σ h hg hr
    have gen : ∀ (c : Int32) (row1 : Nat), ¬ c = -1 → tkB b n σ c = true → (cnL b n (k + 1) row σ = ((row1, (tsR b n (tkS b n σ c)).1) :: (cnL b n k row1 (tsR b n (tkS b n σ c)).2).1, (cnL b n k row1 (tsR b n (tkS b n σ c)).2).2)) → σ.1 + txL (cnL b n (k + 1) row σ).1 ≤ (cnL b n (k + 1) row σ).2.2.1 := by
      intro c row1 hc ht he
      rw [he] at hg hr ⊢
      dsimp only at hg hr ⊢
      obtain ⟨t1, t2, t3⟩ := tkB_gd hc ht
      have hgT := cnL_gd k row1 _ hg
      have hT := tsR_ok (b := b) (n := n) (σ := tkS b n σ c) (by rw [t3]; exact t2)
      have h1 := cn_ok k row1 (tsR b n (tkS b n σ c)).2 hT.1 hg
      have h2 := ih row1 (tsR b n (tkS b n σ c)).2 hT.1 hg hr
      have hW := (ts_ok (b := b) (n := n) (σ := tkS b n σ c) (by rw [t3]; exact t2) hgT).2 row1 (by omega)
      have e3 : (tkS b n σ c).1 = σ.1 + 1 := by rw [t3]
      rw [txL]
      omega
    by_cases c0 : σ.2 = true
    · rw [cnL_bad c0]; exact Nat.le_refl _
    · by_cases c1 : tkB b n σ 38 = true
      · exact gen 38 row (by decide) c1 (cnL_and c1)
      · have c1' : tkB b n σ 38 = false := by cases h9 : tkB b n σ 38 with | true => exact absurd h9 c1 | false => rfl
        by_cases c2 : tkB b n σ 124 = true
        · exact gen 124 (row + 1) (by decide) c2 (cnL_or c1' c2)
        · have c2' : tkB b n σ 124 = false := by cases h9 : tkB b n σ 124 with | true => exact absurd h9 c2 | false => rfl
          rw [cnL_no c1' c2']; exact Nat.le_refl _
theorem zo_gd {b : Nat → Int32} {n : Nat} {kd : Int32} {σ : PS} (h : σ.1 ≤ n) (hg : (zoR b n kd σ).2.2 = false) : zix (zoR b n kd σ).1.1 ∧ bn (zoR b n kd σ).1.2.1 9999 ∧ bn (zoR b n kd σ).1.2.2 9999 := by
  have h1 := dgS_le (b := b) dix19 h
  have h2 := tkS_le (b := b) (c := 58) (by decide) h1.1
  have h3 := nbF_ok (b := b) (σ := ndS b n (dgS b n σ 1 9) 58) h2.1
  have hb : ∀ τ : PS, τ.1 ≤ n → bn (nbF b n τ).1 9999 := fun τ hτ => (nbF_ok (b := b) hτ).2.2
  have gN : ∀ τ : PS, (nbF b n τ).2.2 = false → τ.2 = false := fun τ hτ => by
    cases hs : τ.2 with
    | false => rfl
    | true => rw [nb_bad hs] at hτ; rw [hs] at hτ; cases hτ
  have gD : ∀ (τ : PS) (c : Int32), (ndS b n τ c).2 = false → τ.2 = false := fun τ c hτ => by
    cases hs : τ.2 with
    | false => rfl
    | true => rw [nd_bad hs] at hτ; rw [hs] at hτ; cases hτ
  have key : (nbF b n (ndS b n (dgS b n σ 1 9) 58)).2.2 = false → zix (dgV b n σ 1 9) := fun z9 => by
    obtain ⟨d, d1, d2, d3, _⟩ := dg_ok (b := b) (n := n) (σ := σ) (a := 1) (c := 9) (by decide) (by decide) (gD _ _ (gN _ z9))
    exact ⟨d, d1, d2, d3⟩
  unfold zoR at hg ⊢
  split
  · rename_i c
    rw [if_pos c] at hg
    exact ⟨key hg, hb _ h2.1, bn.z⟩
  · rename_i c
    rw [if_neg c] at hg
    have h4 := tkS_le (b := b) (c := if kd = 122 then 45 else 42) (by split <;> decide) h3.1
    exact ⟨key (gD _ _ (gN _ hg)), hb _ h2.1, hb _ h4.1⟩
theorem st_gd {b : Nat → Int32} {n : Nat} {σ : PS} (h80 : n ≤ 80) (h : σ.1 ≤ n) (hg : (stR b n σ).2.2 = false) : stW (stR b n σ).1 := by
  have gN : ∀ τ : PS, (nbF b n τ).2.2 = false → τ.2 = false := fun τ hτ => by
    cases hs : τ.2 with
    | false => rfl
    | true => rw [nb_bad hs] at hτ; rw [hs] at hτ; cases hτ
  have gD : ∀ (τ : PS) (c : Int32), (ndS b n τ c).2 = false → τ.2 = false := fun τ c hτ => by
    cases hs : τ.2 with
    | false => rfl
    | true => rw [nd_bad hs] at hτ; rw [hs] at hτ; cases hτ
  have hlt : ∀ m : Int32, sg b n σ = m → ¬ m = -1 → σ.1 + 1 ≤ n := fun m hm hc => sg_in hc hm
  unfold stR at hg ⊢
  split
  · rename_i c
    rw [if_pos c] at hg
    have hl : σ.1 + 1 ≤ n := by rcases c with c | c | c <;> exact hlt _ c (by decide)
    obtain ⟨a1, a2, a3⟩ := zo_gd (σ := (σ.1 + 1, σ.2)) hl hg
    rcases c with c | c | c
    · exact Or.inl ⟨c, a1, a2, a3⟩
    · exact Or.inr (Or.inl ⟨c, a1, a2, a3⟩)
    · exact Or.inr (Or.inr (Or.inl ⟨c, a1, a2⟩))
  rename_i c1
  rw [if_neg c1] at hg
  split
  · rename_i c
    rw [if_pos c] at hg
    have hl : σ.1 + 1 ≤ n := by rcases c with c | c | c | c <;> exact hlt _ c (by decide)
    exact Or.inr (Or.inr (Or.inr (Or.inl ⟨c, (nbF_ok (b := b) (σ := (σ.1 + 1, σ.2)) hl).2.2⟩)))
  rename_i c2
  rw [if_neg c2] at hg
  split
  · rename_i c
    rw [if_pos c] at hg
    have hl : σ.1 + 1 ≤ n := hlt _ c (by decide)
    generalize hτ : (σ.1 + 1, σ.2) = τ at hg ⊢
    have hτl : τ.1 ≤ n := by rw [← hτ]; exact hl
    have hg4 : (exX b n (exC b n (exU b n (exN b n τ).2).2).2).2.2 = false := hg
    have hg3 := exX_gd hg4
    have hg2 := exC_gd hg3
    rw [exU_bd] at hg2
    have hgd := gD _ _ (gN _ hg2)
    have h1 := dgS_le (b := b) dix09 hτl
    have h2 := tkS_le (b := b) (c := 58) (by decide) h1.1
    have h3 := nbF_ok (b := b) (σ := ndS b n (dgS b n τ 0 9) 58) h2.1
    have hU : (exU b n (exN b n τ).2).2.1 ≤ n := by
      unfold exU
      split
      · exact (tkS_le (b := b) (c := 37) (by decide) h3.1).1
      split
      · exact (tkS_le (b := b) (c := 42) (by decide) h3.1).1
      · exact h3.1
    obtain ⟨d, _, d2, d3, _⟩ := dg_ok (b := b) (n := n) (σ := τ) (a := 0) (c := 9) (by decide) (by decide) hgd
    refine Or.inr (Or.inr (Or.inr (Or.inr (Or.inl ⟨rfl, ⟨d, by omega, d3⟩, h3.2.2, ?_, ?_⟩))))
    · show bn (exU b n (exN b n τ).2).1 2
      unfold exU
      split
      · exact ⟨2, by decide, rfl⟩
      split
      · exact ⟨1, by decide, rfl⟩
      · exact bn.z
    · have hX : (exX b n (exC b n (exU b n (exN b n τ).2).2).2).1 = -1 ∨ bn (exX b n (exC b n (exU b n (exN b n τ).2).2).2).1 9 := by
        unfold exX
        split
        · exact Or.inr (dgV_ok dix09)
        · exact Or.inl rfl
      have hC : (exC b n (exU b n (exN b n τ).2).2).1.1.length ≤ 30 ∧ (exC b n (exU b n (exN b n τ).2).2).1.2 ≤ 30 ∧ (∀ y, y ∈ (exC b n (exU b n (exN b n τ).2).2).1.1 → y.1 < (exC b n (exU b n (exN b n τ).2).2).1.2 ∧ tsW y.2) ∧ txL (exC b n (exU b n (exN b n τ).2).2).1.1 ≤ 80 := by
        generalize (exU b n (exN b n τ).2).2 = υ at hU hg3 ⊢
        unfold exC at hg3 ⊢
        by_cases c : tkB b n υ 63 = true
        · rw [if_pos c] at hg3 ⊢
          dsimp only at hg3 ⊢
          obtain ⟨t1, t2, t3⟩ := tkB_gd (by decide) c
          have hυ : (tkS b n υ 63).1 ≤ n := by rw [t3]; exact t2
          have hT := tsR_ok (b := b) hυ
          unfold cnF at hg3 ⊢
          dsimp only at hg3 ⊢
          have hgT := cnL_gd 80 0 _ hg3
          have hW := ts_ok (b := b) hυ hgT
          have h2 := hT.2.2 hgT
          obtain ⟨a1, a2, a3, a4⟩ := cn_ok 80 0 (tsR b n (tkS b n υ 63)).2 hT.1 hg3
          have hle := (cnL_le (b := b) 80 0 (tsR b n (tkS b n υ 63)).2 hT.1).1
          have hr : (cnL b n 80 0 (tsR b n (tkS b n υ 63)).2).2.1 ≤ 29 := by omega
          have a5 := cn_tx 80 0 (tsR b n (tkS b n υ 63)).2 hT.1 hg3 (by omega)
          have a6 := hW.2 0 (by omega)
          refine ⟨by rw [List.length_cons]; omega, by omega, fun y hy => ?_, ?_⟩
          · rcases List.mem_cons.mp hy with e | e
            · subst e; exact ⟨Nat.succ_pos _, hW.1⟩
            · have := a3 y e; exact ⟨by omega, this.2.2⟩
          · rw [txL]
            have e3 : (tkS b n υ 63).1 = υ.1 + 1 := by rw [t3]
            omega
        · rw [if_neg c]
          exact ⟨Nat.zero_le _, Nat.zero_le _, fun y hy => by simp at hy, Nat.zero_le _⟩
      exact ⟨hC.1, hC.2.1, hC.2.2.1, hC.2.2.2, hX⟩
  rename_i c3
  rw [if_neg c3] at hg
  split
  · rename_i c
    rw [if_pos c] at hg
    obtain ⟨d, _, d2, d3, _⟩ := dg_ok (b := b) (n := n) (σ := (σ.1 + 1, σ.2)) (a := 0) (c := 9) (by decide) (by decide) hg
    exact Or.inr (Or.inr (Or.inr (Or.inr (Or.inr ⟨rfl, ⟨d, by omega, d3⟩⟩))))
  · rename_i c
    rw [if_neg c] at hg
    cases hg

end S_RRS

section S_DRAFT
theorem nuL_lt {m c : Nat} (h : m < 10 ^ c) (h1 : 1 ≤ c) : (nuL m).length ≤ c := by
  unfold nuL
  rw [dgL_len]
  rcases Nat.lt_or_ge c 4 with q9 | q9
  · rcases (by omega : c = 1 ∨ c = 2 ∨ c = 3) with e | e | e
    · subst e; rw [if_pos (by omega)]; omega
    · subst e
      have : m < 100 := h
      split
      · omega
      · omega
    · subst e
      have : m < 1000 := h
      split
      · omega
      split
      · omega
      · omega
  · split
    · omega
    split
    · omega
    split
    · omega
    · omega
theorem dg_ok {b : Nat → Int32} {n : Nat} {σ : PS} {a c : Nat} (hac : a ≤ c) (hc : c ≤ 9) (h : (dgS b n σ (nI a) (nI c)).2 = false) : ∃ d, a ≤ d ∧ d ≤ c ∧ dgV b n σ (nI a) (nI c) = nI d ∧ (dgS b n σ (nI a) (nI c)).1 = σ.1 + 1 ∧ σ.1 < n := by
  by_cases hB : dgB b n σ (nI a) (nI c) = true
  · obtain ⟨h1, h2, a', c', d, e1, e2, g1, g2, g3, g4, g5⟩ := dgB_in ⟨a, c, hac, hc, rfl, rfl⟩ hB
    have ea : a = a' := (nI_eq (by omega) (by omega)).mp e1
    have ec : c = c' := (nI_eq (by omega) (by omega)).mp e2
    refine ⟨d, by omega, by omega, g4, ?_, h2⟩
    unfold dgS
    rw [if_pos hB]
  · unfold dgS at h
    rw [if_neg hB] at h
    cases h
theorem nbL_c {b : Nat → Int32} {n : Nat} : ∀ (k : Nat) (v : Int32) (σ : PS) (m c : Nat), v = nI m → m < 10 ^ c → ∃ j m', j ≤ k ∧ (nbL b n k v σ).2.1 = σ.1 + j ∧ (nbL b n k v σ).1 = nI m' ∧ m' < 10 ^ (c + j) := by
  intro k
  induction k with
  | zero => intro v σ m c hv hm; exact ⟨0, m, Nat.le_refl _, rfl, hv, hm⟩
  | succ k ih =>
    intro v σ m c hv hm
    rw [nbL]
    by_cases hB : dgB b n σ 0 9 = true
    · rw [if_pos hB]
      obtain ⟨h1, h2, a', c', d, e1, e2, g1, g2, g3, g4, g5⟩ := dgB_in dix09 hB
      have hS : dgS b n σ 0 9 = (σ.1 + 1, σ.2) := by unfold dgS; rw [if_pos hB]
      have ev : 10 * v + dgV b n σ 0 9 = nI (10 * m + d) := by rw [g4, hv]; exact (congrArg (· + nI d) (pk_mul 10 m)).trans (nI_add _ _)
      obtain ⟨j, m', hj, a1, a2, a3⟩ := ih (10 * v + dgV b n σ 0 9) (dgS b n σ 0 9) (10 * m + d) (c + 1) ev (by rw [Nat.pow_succ]; omega)
      rw [hS] at a1 a2 ⊢
      exact ⟨j + 1, m', by omega, by rw [a1]; dsimp only; omega, a2, by rw [show c + (j + 1) = c + 1 + j by omega]; exact a3⟩
    · rw [if_neg hB]
      exact ⟨0, m, Nat.zero_le _, rfl, hv, hm⟩
theorem nb_bd {b : Nat → Int32} {n : Nat} {σ : PS} (hl : σ.1 ≤ n) (h : (nbF b n σ).2.2 = false) : ∃ m, m ≤ 9999 ∧ (nbF b n σ).1 = nI m ∧ σ.1 + (nuL m).length ≤ (nbF b n σ).2.1 := by
  have hD : (dgS b n σ 0 9).2 = false := by
    have := (nbL_ok (b := b) (n := n) 3 (dgV b n σ 0 9) (dgS b n σ 0 9) 9 (dgV_ok dix09) (dgS_le dix09 hl).1).2.2.1
    unfold nbF at h
    rw [this] at h
    exact h
  obtain ⟨d, hd0, hd, e1, e2, e3⟩ := dg_ok (a := 0) (c := 9) (by decide) (by decide) hD
  obtain ⟨j, m', hj, a1, a2, a3⟩ := nbL_c (b := b) (n := n) 3 (dgV b n σ 0 9) (dgS b n σ 0 9) d 1 e1 (by omega)
  have e2' : (dgS b n σ 0 9).1 = σ.1 + 1 := e2
  obtain ⟨m, hm, em⟩ := (nbF_ok (b := b) hl).2.2
  have emm : m = m' := by
    have hp : 10 ^ (1 + j) ≤ 10 ^ 4 := Nat.pow_le_pow_right (by decide) (by omega)
    have := em.symm.trans a2
    exact (nI_eq (by omega) (by omega)).mp this
  subst emm
  refine ⟨m, hm, em, ?_⟩
  have := nuL_lt a3 (by omega)
  show σ.1 + _ ≤ (nbL b n 3 (dgV b n σ 0 9) (dgS b n σ 0 9)).2.1
  rw [a1, e2']
  omega
theorem tsE_n {row : Nat} {t : TS} {kd by_ v : Nat} (h1 : t.2.1 = nI kd) (h2 : t.2.2.1 = nI by_) (h3 : t.2.2.2 = nI v) (hk : kd ≤ 4) (hb : by_ ≤ 2) (hv : v ≤ 9999) (hr : row ≤ 30) : tsE (nI row) t = nI (((((row * 2 + (if t.1 = true then 1 else 0)) * 5 + kd) * 3) + by_) * 10000 + v) := by
  unfold tsE
  have e1 : b2i t.1 = nI (if t.1 = true then 1 else 0) := by cases t.1 <;> rfl
  have e2 : (if 0 < t.2.2.1 then t.2.2.1 else 0) = nI by_ := by
    rw [h2]
    split
    · rfl
    · rename_i c
      rw [nz_pos (by omega)] at c
      rw [show by_ = 0 by omega]; rfl
  rw [e1, e2, h1, h3, show (2 : Int32) = nI 2 from rfl, show (5 : Int32) = nI 5 from rfl, show (3 : Int32) = nI 3 from rfl, show (10000 : Int32) = nI 10000 from rfl]
  simp only [pk_mul, nI_add]
theorem teL_n {N mi kd by_ v row : Nat} (hN : N = ((((row * 2 + mi) * 5 + kd) * 3) + by_) * 10000 + v) (hm : mi ≤ 1) (hk : kd ≤ 4) (hb : by_ ≤ 2) (hv : v ≤ 9999) : (teL N).length = mi + 1 + (if 0 < kd then 1 else 0) + (nuL v).length := by
  have e1 : N / 150000 % 2 = mi := by omega
  have e2 : N / 30000 % 5 = kd := by omega
  have e4 : N % 10000 = v := by omega
  unfold teL
  rw [e1, e2, e4, List.length_append, List.length_cons, List.length_append]
  have a1 : (if mi = 1 then ([45] : List Int32) else []).length = mi := by
    rcases (by omega : mi = 0 ∨ mi = 1) with e | e
    · subst e; rfl
    · subst e; rfl
  rw [a1]
  split
  · rw [List.length_singleton]; omega
  · rw [List.length_nil]; omega
theorem ts_ok {b : Nat → Int32} {n : Nat} {σ : PS} (h : σ.1 ≤ n) (hg : (tsR b n σ).2.2 = false) : tsW (tsR b n σ).1 ∧ ∀ row, row ≤ 30 → σ.1 + (teL (tsN (row, (tsR b n σ).1))).length ≤ (tsR b n σ).2.1 := by
  have h1 := tkS_le (b := b) (c := 45) (by decide) h
  obtain ⟨mi, emi, hm⟩ : ∃ mi : Nat, (if tkB b n σ 45 = true then 1 else 0) = mi ∧ mi ≤ 1 := ⟨_, rfl, by split <;> omega⟩
  have hmi : (tkS b n σ 45).1 = σ.1 + mi := by
    rw [← emi]
    unfold tkS
    split
    · rfl
    · rfl
  -- from the numbers to the claim
  have fin : ∀ (kd by_ v : Nat) (t : TS) (pl : Nat), t = (tkB b n σ 45, nI kd, nI by_, nI v) → kd ≤ 4 → by_ ≤ 2 → v ≤ 9999 → σ.1 + mi + 1 + (if 0 < kd then 1 else 0) + (nuL v).length ≤ pl → tsW t ∧ ∀ row, row ≤ 30 → σ.1 + (teL (tsN (row, t))).length ≤ pl := by
    intro kd by_ v t pl ht hk hb hv hpl
    subst ht
    refine ⟨⟨kd, by_, v, rfl, rfl, rfl, hk, hb, hv⟩, fun row hr => ?_⟩
    have e9 : tsN (row, (tkB b n σ 45, nI kd, nI by_, nI v)) = ((((row * 2 + mi) * 5 + kd) * 3) + by_) * 10000 + v := by
      unfold tsN
      rw [tsE_n (t := (tkB b n σ 45, nI kd, nI by_, nI v)) rfl rfl rfl hk hb hv hr]
      dsimp only
      rw [emi]
      exact nI_clamp (by omega)
    rw [teL_n e9 hm hk hb hv]
    omega
  unfold tsR at hg ⊢
  dsimp only at hg ⊢
  generalize hkd : (if (tkS b n σ 45).2 = true then (-1 : Int32) else kindF (sg b n (tkS b n σ 45))) = kd at hg ⊢
  by_cases c : 0 ≤ kd
  · rw [if_pos c] at hg ⊢
    have c1 : ¬ (tkS b n σ 45).2 = true ∧ 0 ≤ kindF (sg b n (tkS b n σ 45)) := by
      by_cases d : (tkS b n σ 45).2 = true
      · rw [if_pos d] at hkd; rw [← hkd] at c; exact absurd c (by decide)
      · rw [if_neg d] at hkd; rw [← hkd] at c; exact ⟨d, c⟩
    have hlt := sg_lt (kindF_in c1.2)
    obtain ⟨k, hk, ek⟩ : ∃ k, k ≤ 4 ∧ kd = nI k := by
      rw [if_neg c1.1] at hkd
      rcases kindF_v (sg b n (tkS b n σ 45)) with z | ⟨k, hk, z⟩
      · rw [z] at hkd; rw [← hkd] at c; exact absurd c (by decide)
      · exact ⟨k, hk, by rw [← hkd]; exact z⟩
    by_cases c2 : kd = 0
    · rw [if_pos c2] at hg ⊢
      have k0 : k = 0 := by rw [ek, nz_eq0 (by omega)] at c2; exact c2
      obtain ⟨d, hd0, hd, e1, e2, e3⟩ := dg_ok (b := b) (n := n) (σ := ((tkS b n σ 45).1 + 1, (tkS b n σ 45).2)) (a := 0) (c := 7) (by decide) (by decide) hg
      dsimp only at e2
      have e1' : dgV b n ((tkS b n σ 45).1 + 1, (tkS b n σ 45).2) 0 7 = nI d := e1
      have e2' : (dgS b n ((tkS b n σ 45).1 + 1, (tkS b n σ 45).2) 0 7).1 = (tkS b n σ 45).1 + 1 + 1 := e2
      refine fin k 2 d _ _ (by rw [ek, e1']; rfl) hk (by decide) (by omega) ?_
      have hn := nuL_lt (m := d) (c := 1) (by omega) (by decide)
      rw [e2', k0, if_neg (show ¬ (0 < 0) by decide)]
      omega
    · rw [if_neg c2] at hg ⊢
      have k0 : 0 < k := by rw [ek, nz_eq0 (by omega)] at c2; omega
      by_cases d : 0 ≤ compF (sg b n ((tkS b n σ 45).1 + 1, (tkS b n σ 45).2))
      · rw [if_pos d] at hg ⊢
        have hlt2 := sg_lt (compF_in d)
        dsimp only at hlt2
        obtain ⟨cb, hcb, ecb⟩ : ∃ k, k ≤ 2 ∧ compF (sg b n ((tkS b n σ 45).1 + 1, (tkS b n σ 45).2)) = nI k := by
          rcases compF_v (sg b n ((tkS b n σ 45).1 + 1, (tkS b n σ 45).2)) with z | z
          · rw [z] at d; exact absurd d (by decide)
          · exact z
        obtain ⟨m, hm, em, hml⟩ := nb_bd (b := b) (n := n) (σ := ((tkS b n σ 45).1 + 2, (tkS b n σ 45).2)) (by dsimp only; omega) hg
        dsimp only at hml
        refine fin k cb m _ _ (by rw [ek, ecb, em]) hk hcb hm ?_
        rw [if_pos k0]
        have h9 : (nbF b n ((tkS b n σ 45).1 + 2, (tkS b n σ 45).2)).2.1 = (nbF b n ((tkS b n σ 45).1 + 2, (tkS b n σ 45).2)).snd.fst := rfl
        (try dsimp only)
        generalize (nbF b n ((tkS b n σ 45).1 + 2, (tkS b n σ 45).2)).2.1 = pl at *
        omega
      · rw [if_neg d] at hg
        exfalso
        have := num_bad (b := b) (n := n) (h := (tkS b n σ 45).1 + 1)
        rw [this] at hg
        cases hg
  · rw [if_neg c] at hg
    cases hg
theorem cn_ok {b : Nat → Int32} {n : Nat} : ∀ (k row : Nat) (σ : PS), σ.1 ≤ n → (cnL b n k row σ).2.2.2 = false → row ≤ (cnL b n k row σ).2.1 ∧ (cnL b n k row σ).2.1 ≤ row + (cnL b n k row σ).1.length ∧ (∀ y, y ∈ (cnL b n k row σ).1 → row ≤ y.1 ∧ y.1 ≤ (cnL b n k row σ).2.1 ∧ tsW y.2) ∧ σ.1 + 3 * (cnL b n k row σ).1.length ≤ (cnL b n k row σ).2.2.1 := by
  intro k
  induction k with
  | zero => intro row σ h hg; exact ⟨Nat.le_refl _, Nat.le_refl _, fun y hy => by simp [cnL] at hy, Nat.le_refl _⟩
  | succ k ih =>
    intro row σ h hg
    have gen : ∀ (c : Int32) (row1 : Nat), ¬ c = -1 → tkB b n σ c = true → row ≤ row1 → row1 ≤ row + 1 → (cnL b n (k + 1) row σ = ((row1, (tsR b n (tkS b n σ c)).1) :: (cnL b n k row1 (tsR b n (tkS b n σ c)).2).1, (cnL b n k row1 (tsR b n (tkS b n σ c)).2).2)) → row ≤ (cnL b n (k + 1) row σ).2.1 ∧ (cnL b n (k + 1) row σ).2.1 ≤ row + (cnL b n (k + 1) row σ).1.length ∧ (∀ y, y ∈ (cnL b n (k + 1) row σ).1 → row ≤ y.1 ∧ y.1 ≤ (cnL b n (k + 1) row σ).2.1 ∧ tsW y.2) ∧ σ.1 + 3 * (cnL b n (k + 1) row σ).1.length ≤ (cnL b n (k + 1) row σ).2.2.1 := by
      intro c row1 hc ht hr hr1 he
      rw [he] at hg ⊢
      dsimp only at hg ⊢
      obtain ⟨t1, t2, t3⟩ := tkB_gd hc ht
      have hgT := cnL_gd k row1 _ hg
      have hT := tsR_ok (b := b) (n := n) (σ := tkS b n σ c) (by rw [t3]; exact t2)
      obtain ⟨a1, a2, a3, a4⟩ := ih row1 (tsR b n (tkS b n σ c)).2 hT.1 hg
      have hW := ts_ok (b := b) (n := n) (σ := tkS b n σ c) (by rw [t3]; exact t2) hgT
      have h2 := hT.2.2 hgT
      rw [t3] at h2
      dsimp only at h2
      rw [t3] at a1 a2 a3 a4 ⊢
      refine ⟨by omega, by rw [List.length_cons]; omega, fun y hy => ?_, by rw [List.length_cons]; omega⟩
      rcases List.mem_cons.mp hy with e | e
      · subst e
        rw [t3] at hW
        exact ⟨hr, a1, hW.1⟩
      · have := a3 y e
        exact ⟨by omega, this.2⟩
    by_cases c0 : σ.2 = true
    · rw [cnL_bad c0] at hg ⊢
      exact ⟨Nat.le_refl _, Nat.le_refl _, fun y hy => by simp at hy, Nat.le_refl _⟩
    · by_cases c1 : tkB b n σ 38 = true
      · exact gen 38 row (by decide) c1 (Nat.le_refl _) (by omega) (cnL_and c1)
      · have c1' : tkB b n σ 38 = false := by cases h9 : tkB b n σ 38 with | true => exact absurd h9 c1 | false => rfl
        by_cases c2 : tkB b n σ 124 = true
        · exact gen 124 (row + 1) (by decide) c2 (by omega) (Nat.le_refl _) (cnL_or c1' c2)
        · have c2' : tkB b n σ 124 = false := by cases h9 : tkB b n σ 124 with | true => exact absurd h9 c2 | false => rfl
          rw [cnL_no c1' c2'] at hg ⊢
          exact ⟨Nat.le_refl _, Nat.le_refl _, fun y hy => by simp at hy, Nat.le_refl _⟩
/-- the length of the text of the tests -/
theorem cn_tx {b : Nat → Int32} {n : Nat} : ∀ (k row : Nat) (σ : PS), σ.1 ≤ n → (cnL b n k row σ).2.2.2 = false → (cnL b n k row σ).2.1 ≤ 30 → σ.1 + txL (cnL b n k row σ).1 ≤ (cnL b n k row σ).2.2.1 := by
  intro k
  induction k with
  | zero => intro row σ h hg _; exact Nat.le_refl _
  | succ k ih =>
    intro row σ h hg hr
    have gen : ∀ (c : Int32) (row1 : Nat), ¬ c = -1 → tkB b n σ c = true → (cnL b n (k + 1) row σ = ((row1, (tsR b n (tkS b n σ c)).1) :: (cnL b n k row1 (tsR b n (tkS b n σ c)).2).1, (cnL b n k row1 (tsR b n (tkS b n σ c)).2).2)) → σ.1 + txL (cnL b n (k + 1) row σ).1 ≤ (cnL b n (k + 1) row σ).2.2.1 := by
      intro c row1 hc ht he
      rw [he] at hg hr ⊢
      dsimp only at hg hr ⊢
      obtain ⟨t1, t2, t3⟩ := tkB_gd hc ht
      have hgT := cnL_gd k row1 _ hg
      have hT := tsR_ok (b := b) (n := n) (σ := tkS b n σ c) (by rw [t3]; exact t2)
      have h1 := cn_ok k row1 (tsR b n (tkS b n σ c)).2 hT.1 hg
      have h2 := ih row1 (tsR b n (tkS b n σ c)).2 hT.1 hg hr
      have hW := (ts_ok (b := b) (n := n) (σ := tkS b n σ c) (by rw [t3]; exact t2) hgT).2 row1 (by omega)
      have e3 : (tkS b n σ c).1 = σ.1 + 1 := by rw [t3]
      rw [txL]
      omega
    by_cases c0 : σ.2 = true
    · rw [cnL_bad c0]; exact Nat.le_refl _
    · by_cases c1 : tkB b n σ 38 = true
      · exact gen 38 row (by decide) c1 (cnL_and c1)
      · have c1' : tkB b n σ 38 = false := by cases h9 : tkB b n σ 38 with | true => exact absurd h9 c1 | false => rfl
        by_cases c2 : tkB b n σ 124 = true
        · exact gen 124 (row + 1) (by decide) c2 (cnL_or c1' c2)
        · have c2' : tkB b n σ 124 = false := by cases h9 : tkB b n σ 124 with | true => exact absurd h9 c2 | false => rfl
          rw [cnL_no c1' c2']; exact Nat.le_refl _
theorem zo_gd {b : Nat → Int32} {n : Nat} {kd : Int32} {σ : PS} (h : σ.1 ≤ n) (hg : (zoR b n kd σ).2.2 = false) : zix (zoR b n kd σ).1.1 ∧ bn (zoR b n kd σ).1.2.1 9999 ∧ bn (zoR b n kd σ).1.2.2 9999 := by
  have h1 := dgS_le (b := b) dix19 h
  have h2 := tkS_le (b := b) (c := 58) (by decide) h1.1
  have h3 := nbF_ok (b := b) (σ := ndS b n (dgS b n σ 1 9) 58) h2.1
  have hb : ∀ τ : PS, τ.1 ≤ n → bn (nbF b n τ).1 9999 := fun τ hτ => (nbF_ok (b := b) hτ).2.2
  have gN : ∀ τ : PS, (nbF b n τ).2.2 = false → τ.2 = false := fun τ hτ => by
    cases hs : τ.2 with
    | false => rfl
    | true => rw [nb_bad hs] at hτ; rw [hs] at hτ; cases hτ
  have gD : ∀ (τ : PS) (c : Int32), (ndS b n τ c).2 = false → τ.2 = false := fun τ c hτ => by
    cases hs : τ.2 with
    | false => rfl
    | true => rw [nd_bad hs] at hτ; rw [hs] at hτ; cases hτ
  have key : (nbF b n (ndS b n (dgS b n σ 1 9) 58)).2.2 = false → zix (dgV b n σ 1 9) := fun z9 => by
    obtain ⟨d, d1, d2, d3, _⟩ := dg_ok (b := b) (n := n) (σ := σ) (a := 1) (c := 9) (by decide) (by decide) (gD _ _ (gN _ z9))
    exact ⟨d, d1, d2, d3⟩
  unfold zoR at hg ⊢
  split
  · rename_i c
    rw [if_pos c] at hg
    exact ⟨key hg, hb _ h2.1, bn.z⟩
  · rename_i c
    rw [if_neg c] at hg
    have h4 := tkS_le (b := b) (c := if kd = 122 then 45 else 42) (by split <;> decide) h3.1
    exact ⟨key (gD _ _ (gN _ hg)), hb _ h2.1, hb _ h4.1⟩
theorem st_gd {b : Nat → Int32} {n : Nat} {σ : PS} (h80 : n ≤ 80) (h : σ.1 ≤ n) (hg : (stR b n σ).2.2 = false) : stW (stR b n σ).1 := by
  have gN : ∀ τ : PS, (nbF b n τ).2.2 = false → τ.2 = false := fun τ hτ => by
    cases hs : τ.2 with
    | false => rfl
    | true => rw [nb_bad hs] at hτ; rw [hs] at hτ; cases hτ
  have gD : ∀ (τ : PS) (c : Int32), (ndS b n τ c).2 = false → τ.2 = false := fun τ c hτ => by
    cases hs : τ.2 with
    | false => rfl
    | true => rw [nd_bad hs] at hτ; rw [hs] at hτ; cases hτ
  have hlt : ∀ m : Int32, sg b n σ = m → ¬ m = -1 → σ.1 + 1 ≤ n := fun m hm hc => sg_in hc hm
  unfold stR at hg ⊢
  split
  · rename_i c
    rw [if_pos c] at hg
    have hl : σ.1 + 1 ≤ n := by rcases c with c | c | c <;> exact hlt _ c (by decide)
    obtain ⟨a1, a2, a3⟩ := zo_gd (σ := (σ.1 + 1, σ.2)) hl hg
    rcases c with c | c | c
    · exact Or.inl ⟨c, a1, a2, a3⟩
    · exact Or.inr (Or.inl ⟨c, a1, a2, a3⟩)
    · exact Or.inr (Or.inr (Or.inl ⟨c, a1, a2⟩))
  rename_i c1
  rw [if_neg c1] at hg
  split
  · rename_i c
    rw [if_pos c] at hg
    have hl : σ.1 + 1 ≤ n := by rcases c with c | c | c | c <;> exact hlt _ c (by decide)
    exact Or.inr (Or.inr (Or.inr (Or.inl ⟨c, (nbF_ok (b := b) (σ := (σ.1 + 1, σ.2)) hl).2.2⟩)))
  rename_i c2
  rw [if_neg c2] at hg
  split
  · rename_i c
    rw [if_pos c] at hg
    have hl : σ.1 + 1 ≤ n := hlt _ c (by decide)
    generalize hτ : (σ.1 + 1, σ.2) = τ at hg ⊢
    have hτl : τ.1 ≤ n := by rw [← hτ]; exact hl
    have hg4 : (exX b n (exC b n (exU b n (exN b n τ).2).2).2).2.2 = false := hg
    have hg3 := exX_gd hg4
    have hg2 := exC_gd hg3
    rw [exU_bd] at hg2
    have hgd := gD _ _ (gN _ hg2)
    have h1 := dgS_le (b := b) dix09 hτl
    have h2 := tkS_le (b := b) (c := 58) (by decide) h1.1
    have h3 := nbF_ok (b := b) (σ := ndS b n (dgS b n τ 0 9) 58) h2.1
    have hU : (exU b n (exN b n τ).2).2.1 ≤ n := by
      unfold exU
      split
      · exact (tkS_le (b := b) (c := 37) (by decide) h3.1).1
      split
      · exact (tkS_le (b := b) (c := 42) (by decide) h3.1).1
      · exact h3.1
    obtain ⟨d, _, d2, d3, _⟩ := dg_ok (b := b) (n := n) (σ := τ) (a := 0) (c := 9) (by decide) (by decide) hgd
    refine Or.inr (Or.inr (Or.inr (Or.inr (Or.inl ⟨rfl, ⟨d, by omega, d3⟩, h3.2.2, ?_, ?_⟩))))
    · show bn (exU b n (exN b n τ).2).1 2
      unfold exU
      split
      · exact ⟨2, by decide, rfl⟩
      split
      · exact ⟨1, by decide, rfl⟩
      · exact bn.z
    · have hX : (exX b n (exC b n (exU b n (exN b n τ).2).2).2).1 = -1 ∨ bn (exX b n (exC b n (exU b n (exN b n τ).2).2).2).1 9 := by
        unfold exX
        split
        · exact Or.inr (dgV_ok dix09)
        · exact Or.inl rfl
      have hC : (exC b n (exU b n (exN b n τ).2).2).1.1.length ≤ 30 ∧ (exC b n (exU b n (exN b n τ).2).2).1.2 ≤ 30 ∧ (∀ y, y ∈ (exC b n (exU b n (exN b n τ).2).2).1.1 → y.1 < (exC b n (exU b n (exN b n τ).2).2).1.2 ∧ tsW y.2) ∧ txL (exC b n (exU b n (exN b n τ).2).2).1.1 ≤ 80 := by
        generalize (exU b n (exN b n τ).2).2 = υ at hU hg3 ⊢
        unfold exC at hg3 ⊢
        by_cases c : tkB b n υ 63 = true
        · rw [if_pos c] at hg3 ⊢
          dsimp only at hg3 ⊢
          obtain ⟨t1, t2, t3⟩ := tkB_gd (by decide) c
          have hυ : (tkS b n υ 63).1 ≤ n := by rw [t3]; exact t2
          have hT := tsR_ok (b := b) hυ
          unfold cnF at hg3 ⊢
          dsimp only at hg3 ⊢
          have hgT := cnL_gd 80 0 _ hg3
          have hW := ts_ok (b := b) hυ hgT
          have h2 := hT.2.2 hgT
          obtain ⟨a1, a2, a3, a4⟩ := cn_ok 80 0 (tsR b n (tkS b n υ 63)).2 hT.1 hg3
          have hle := (cnL_le (b := b) 80 0 (tsR b n (tkS b n υ 63)).2 hT.1).1
          have hr : (cnL b n 80 0 (tsR b n (tkS b n υ 63)).2).2.1 ≤ 29 := by omega
          have a5 := cn_tx 80 0 (tsR b n (tkS b n υ 63)).2 hT.1 hg3 (by omega)
          have a6 := hW.2 0 (by omega)
          refine ⟨by rw [List.length_cons]; omega, by omega, fun y hy => ?_, ?_⟩
          · rcases List.mem_cons.mp hy with e | e
            · subst e; exact ⟨Nat.succ_pos _, hW.1⟩
            · have := a3 y e; exact ⟨by omega, this.2.2⟩
          · rw [txL]
            have e3 : (tkS b n υ 63).1 = υ.1 + 1 := by rw [t3]
            omega
        · rw [if_neg c]
          exact ⟨Nat.zero_le _, Nat.zero_le _, fun y hy => by simp at hy, Nat.zero_le _⟩
      exact ⟨hC.1, hC.2.1, hC.2.2.1, hC.2.2.2, hX⟩
  rename_i c3
  rw [if_neg c3] at hg
  split
  · rename_i c
    rw [if_pos c] at hg
    obtain ⟨d, _, d2, d3, _⟩ := dg_ok (b := b) (n := n) (σ := (σ.1 + 1, σ.2)) (a := 0) (c := 9) (by decide) (by decide) hg
    exact Or.inr (Or.inr (Or.inr (Or.inr (Or.inr ⟨rfl, ⟨d, by omega, d3⟩⟩))))
  · rename_i c
    rw [if_neg c] at hg
    cases hg

theorem lp_ok {T B C : Nat → Int32} {p : Nat} (hp : p < 1024) (h0 : 0 < p) (h1 : 0 ≤ T (2 ^ lowN p)) : ∀ (m g : Nat) (x : X3), g + m = p + 1 → 0 < g → ((∃ g', 0 < g' ∧ sub g' p ∧ g'.testBit (lowN p) = true ∧ 0 ≤ T g' ∧ x = (T g' + B (dif p g'), 1 + C (dif p g'), nI g')) ∨ (x.1 = -1 ∧ g ≤ 2 ^ lowN p)) → ∃ g', 0 < g' ∧ sub g' p ∧ g'.testBit (lowN p) = true ∧ 0 ≤ T g' ∧ lpF T B C p m g x = (T g' + B (dif p g'), 1 + C (dif p g'), nI g') := by
  have hl := low_tb' hp h0
  have hs : sub (2 ^ lowN p) p := sub_tb.mpr fun i hi => by
    rw [Nat.testBit_two_pow] at hi
    rw [← of_decide_eq_true hi]
    exact hl
  have hle := sub_le hs
  intro m
  induction m with
  | zero =>
    intro g x hg hg0 h
    rcases h with h | ⟨_, h⟩
    · exact h
    · omega
  | succ m ih =>
    intro g x hg hg0 h
    rw [lpF]
    refine ih (g + 1) _ (by omega) (by omega) ?_
    by_cases hv : g &&& p = g ∧ g.testBit (lowN p) = true ∧ 0 ≤ T g
    · left
      unfold lpS
      rw [if_pos hv]
      split
      · exact ⟨g, hg0, hv.1, hv.2.1, hv.2.2, rfl⟩
      · rename_i c
        rcases h with h | ⟨hx, _⟩
        · exact h
        · exact absurd (Or.inl (by rw [hx]; decide)) c
    · have eS : lpS T B C p g x = x := by unfold lpS; rw [if_neg hv]
      rw [eS]
      rcases h with h | ⟨hx, hg2⟩
      · exact Or.inl h
      · refine Or.inr ⟨hx, ?_⟩
        rcases Nat.lt_or_ge g (2 ^ lowN p) with q9 | q9
        · exact q9
        · have e : g = 2 ^ lowN p := by omega
          subst e
          exact absurd ⟨hs, by rw [Nat.testBit_two_pow]; exact decide_eq_true rfl, h1⟩ hv
theorem dp_ok {T : Nat → Int32} {n : Nat} (hn : n < 1024) (h1 : ∀ s, n.testBit s = true → 0 ≤ T (2 ^ s)) (t : T3) : ∀ k p, p ≤ k → 0 < p → sub p n → dpQ T (dpK T n t k) p := by
  intro k
  induction k with
  | zero => intro p hp h0; omega
  | succ k ih =>
    intro p hp h0 hs
    rw [dpK]
    by_cases c : (k + 1) &&& n = k + 1
    · rw [if_pos c]
      have hk : k + 1 < 1024 := Nat.lt_of_le_of_lt (sub_le c) hn
      have hlow := low_tb' hk (by omega)
      unfold dpQ dpU
      dsimp only
      by_cases e : p = k + 1
      · subst e
        obtain ⟨g, g0, g1, g2, g3, g4⟩ := lp_ok (T := T) (B := (dpK T n t k).1) (C := (dpK T n t k).2.1) hk (by omega) (h1 _ (sub_tb.mp c _ hlow)) (k + 1) 1 (-1, (dpK T n t k).2.1 (k + 1), (dpK T n t k).2.2 (k + 1)) (by omega) (by decide) (Or.inr ⟨rfl, Nat.two_pow_pos _⟩)
        have hd : dif (k + 1) g < k + 1 := dif_lt hlow g2
        have eX : dpX T (dpK T n t k) (k + 1) = (T g + (dpK T n t k).1 (dif (k + 1) g), 1 + (dpK T n t k).2.1 (dif (k + 1) g), nI g) := g4
        refine ⟨g, g0, g1, g2, g3, ?_, ?_, ?_⟩
        · rw [pk_us, pk_un (by omega), eX]
        · rw [pk_us, pk_un (by omega), eX]
        · rw [pk_us, eX]
      · obtain ⟨g, g0, g1, g2, g3, g4, g5, g6⟩ := ih p (by omega) h0 hs
        have hd : dif p g ≤ p := sub_le (sub_dif p g)
        refine ⟨g, g0, g1, g2, g3, ?_, ?_, ?_⟩
        · rw [pk_un e, pk_un (by omega)]; exact g4
        · rw [pk_un e, pk_un (by omega)]; exact g5
        · rw [pk_un e]; exact g6
    · rw [if_neg c]
      have e : p ≠ k + 1 := fun e => c (by rw [← e]; exact hs)
      exact ih p (by omega) h0 hs
theorem dp_0 {T : Nat → Int32} {n : Nat} {t : T3} : ∀ k, (dpK T n t k).1 0 = 0 ∧ (dpK T n t k).2.1 0 = 0 := by
  intro k
  induction k with
  | zero => rw [dpK]; dsimp only; exact ⟨pk_us, pk_us⟩
  | succ k ih =>
    rw [dpK]
    split
    · unfold dpU
      dsimp only
      rw [pk_un (by omega), pk_un (by omega)]
      exact ih
    · exact ih
theorem cnt_ok {T : Nat → Int32} {n : Nat} {t : T3} (h : ∀ p, 0 < p → sub p n → dpQ T t p) (hn : n < 1024) (h0 : t.2.1 0 = 0) : ∀ B p, p < B → sub p n → ∃ c, c ≤ p ∧ t.2.1 p = nI c ∧ (0 < p → 0 < c) := by
  intro B
  induction B with
  | zero => intro p hp; omega
  | succ B ih =>
    intro p hp hs
    rcases Nat.eq_zero_or_pos p with e | e
    · subst e; exact ⟨0, Nat.le_refl _, h0, fun z9 => absurd z9 (by decide)⟩
    · obtain ⟨g, g0, g1, g2, g3, g4, g5, g6⟩ := h p e hs
      have hp1 : p < 1024 := Nat.lt_of_le_of_lt (sub_le hs) hn
      have hd : dif p g < p := dif_lt (low_tb' hp1 e) g2
      obtain ⟨c, hc, ec, _⟩ := ih (dif p g) (by omega) (sub_tr (sub_dif p g) hs)
      refine ⟨c + 1, by omega, ?_, fun _ => by omega⟩
      rw [g5, ec, show (1 : Int32) = nI 1 from rfl, nI_add, Nat.add_comm]
theorem lck_0 {μ : Nat → Int32} (hw : WF μ) {g : Int32} {m : Nat} (h : lckF μ g m = 0) : gok μ g := by
  unfold lckF at h
  split at h
  · cases h
  · rename_i c; exact grp_gok hw c
theorem lck_v {μ : Nat → Int32} {g : Int32} {m : Nat} : lckF μ g m = 0 ∨ lckF μ g m = 1 ∨ lckF μ g m = 2 := by
  unfold lckF
  split
  · exact Or.inr (Or.inl rfl)
  split
  · exact Or.inr (Or.inr rfl)
  · exact Or.inl rfl
theorem lck_p {μ : Nat → Int32} {g : Int32} {m : Nat} : (lckF μ g m ≤ 0 ↔ lckF μ g m = 0) := by
  rcases lck_v (μ := μ) (g := g) (m := m) with h | h | h <;> rw [h] <;> decide
theorem gok.n {μ : Nat → Int32} {g : Int32} (h : gok μ g) : ∃ n, n < 1024 ∧ 0 < n ∧ g = nI n ∧ iv g = n := by
  obtain ⟨n, ns, hns, hns10, h0, hlt, e⟩ := h
  have hn : n < 1024 := Nat.lt_of_lt_of_le hlt (p2_le hns10)
  exact ⟨n, hn, h0, e, by rw [e]; exact nI_clamp (by omega)⟩
theorem kd_X11_consolidate (l : Launch) (D : va_G) (T : Nat → ClassId) (m0 : Nat) (a : Nat → Nat) (p0 : Int32) (r : Nat → Int32) (q : Nat → Nat → Int32) (h : WF (q 0)) : RMi l yX11_consolidate (ws_X11_consolidate) rm_X11_consolidate D T m0 a [.ref m0, .int p0] r q (fun v u => (kQ q u.2 [7, 8, 9, 10] ∧ kR r u.1 SCK ∧ u.1 6 = conC (q 0) p0 8 ∧ (conC (q 0) p0 8 = 0 → v = (dpZ (ttF (q 0)) (iv p0)).1 (iv p0)) ∧ u.1 29 = (if conC (q 0) p0 8 = 3 then rfR (q 0) (iv p0) else r 29) ∧ u.1 30 = (if conC (q 0) p0 8 = 3 then rfT (q 0) (iv p0) else r 30))) := c_X11_consolidate l D T m0 a p0 r q _ <|
  (by
    have hw := h
    unfold wp_X11_consolidate
    refine ⟨⟨hw, ⟨8, by decide, rfl⟩⟩, fun v1 r2 q3 hh => ?_⟩
    obtain ⟨a1, a2, a3⟩ := hh
    subst a3
    rw [show iv 8 = 8 from rfl] at a1
    have k2 : kR r r2 SCK := by rw [a2]; exact kR.rf.up (by decide) _
    refine fun r5 e5 => ?_
    have k5 : kR r r5 SCK := by rw [e5]; exact k2.up (by decide) _
    have s5 : r5 6 = lckF (q3 0) p0 8 := by rw [e5, va_up_self, a1]
    have s29 : r5 29 = r 29 := by rw [e5, va_up_ne _ _ (by decide), a2, va_up_ne _ _ (by decide)]
    have s30 : r5 30 = r 30 := by rw [e5, va_up_ne _ _ (by decide), a2, va_up_ne _ _ (by decide)]
    rw [s5, lck_p]
    refine ⟨fun c => ?_, fun c => ?_⟩
    · have hg := lck_0 hw c
      obtain ⟨n, hn, h0, en, ien⟩ := hg.n
      refine ⟨⟨hw, hg⟩, fun v7 r8 q9 hh => ?_⟩
      obtain ⟨b1, b2, b3, b4⟩ := hh
      subst b1
      have k8 : kR r r8 SCK := k5.tr b2 (fun _ h => h) (by decide)
      cases hr : rfF (q9 0) (iv p0) with
      | none =>
        rw [hr] at b3
        have hC : conC (q9 0) p0 8 = 0 := by unfold conC; rw [if_pos c, hr]
        have hsg : sgO (q9 0) (iv p0) := by rw [ien] at hr ⊢; exact sgO_of hw (by rw [← en]; exact hg) hn hr
        refine ⟨fun _ => ⟨⟨hw, hg, hsg⟩, fun r13 q14 hl => ?_⟩, fun z9 => absurd b3 z9⟩
        obtain ⟨l1, l2, l3, l4⟩ := hl
        rw [en, nz_vp (by omega) (by decide), nI_clamp (n := n) (by omega)]
        rw [ien] at l3 l4
        rw [en] at hC
        have k13 : kR r r13 SCK := k8.tr l2 (fun _ h => h) (by decide)
        refine ⟨by omega, l1, k13, ?_, fun _ => ?_, ?_, ?_⟩
        · dsimp only; rw [hC, l2 6 (by decide), b2 6 (by decide), s5, c]
        · (try dsimp only); rw [show iv (nI n) = n from nI_clamp (by omega)]; exact (l4 n (sub_rf n)).1
        · dsimp only; rw [hC, if_neg (by decide), l2 29 (by decide), b2 29 (by decide), s29]
        · dsimp only; rw [hC, if_neg (by decide), l2 30 (by decide), b2 30 (by decide), s30]
      | some s =>
        rw [hr] at b3
        have hC : conC (q9 0) p0 8 = 3 := by unfold conC; rw [if_pos c, hr]
        refine ⟨fun z9 => absurd (show (1 : Int32) = 0 from b3.symm.trans z9) (by decide), fun _ v16 r17 q18 hk => ?_⟩
        obtain ⟨d1, d2, d3⟩ := hk
        subst d2
        obtain ⟨f1, f2⟩ := b4 s hr
        refine ⟨kQ.rf, by dsimp only; rw [d3]; exact ((k8.up (by decide) _).up (by decide) _).up (by decide) _, ?_, fun z9 => absurd (hC.symm.trans z9) (by decide), ?_, ?_⟩
        · dsimp only; rw [hC, d3, va_up_self]
        · dsimp only
          rw [hC, if_pos rfl, d3, va_up_ne _ _ (by decide), va_up_ne _ _ (by decide), va_up_self, f1]
          unfold rfR; rw [hr]
        · dsimp only
          rw [hC, if_pos rfl, d3, va_up_ne _ _ (by decide), va_up_self, f2]
          unfold rfT; rw [hr]
    · have hC : conC (q3 0) p0 8 = lckF (q3 0) p0 8 := by unfold conC; rw [if_neg c]
      have h3 : ¬ conC (q3 0) p0 8 = 3 := by
        rw [hC]
        rcases lck_v (μ := q3 0) (g := p0) (m := 8) with z9 | z9 | z9 <;> rw [z9] <;> decide
      refine ⟨kQ.rf, k5, ?_, fun z9 => absurd (hC.symm.trans z9) c, ?_, ?_⟩
      · dsimp only; rw [hC, s5]
      · dsimp only; rw [if_neg h3, s29]
      · dsimp only; rw [if_neg h3, s30])
theorem kd_X11_searched (l : Launch) (D : va_G) (T : Nat → ClassId) (m0 : Nat) (a : Nat → Nat) (p0 : Int32) (r : Nat → Int32) (q : Nat → Nat → Int32) (h : WF (q 0)) : RMi l yX11_searched (ws_X11_searched) rm_X11_searched D T m0 a [.ref m0, .int p0] r q (fun v u => (kQ q u.2 [7, 8, 9, 10] ∧ kR r u.1 SC ∧ u.1 6 = conC (q 0) p0 6 ∧ (conC (q 0) p0 6 = 0 → v = (dpZ (ttF (q 0)) (iv p0)).1 (iv p0)))) := c_X11_searched l D T m0 a p0 r q _ <|
  (by
    have hw := h
    unfold wp_X11_searched
    refine ⟨⟨hw, ⟨6, by decide, rfl⟩⟩, fun v1 r2 q3 hh => ?_⟩
    obtain ⟨a1, a2, a3⟩ := hh
    subst a3
    rw [show iv 6 = 6 from rfl] at a1
    have k2 : kR r r2 SC := by rw [a2]; exact kR.rf.up (by decide) _
    refine fun r5 e5 => ?_
    have k5 : kR r r5 SC := by rw [e5]; exact k2.up (by decide) _
    have s5 : r5 6 = lckF (q3 0) p0 6 := by rw [e5, va_up_self, a1]
    rw [s5, lck_p]
    refine ⟨fun c => ⟨fun z9 => absurd z9 c, fun _ => ?_⟩, fun c => ?_⟩
    · have hC : conC (q3 0) p0 6 = lckF (q3 0) p0 6 := by unfold conC; rw [if_neg c]
      refine ⟨kQ.rf, k5, ?_, fun z9 => absurd (hC.symm.trans z9) c⟩
      dsimp only; rw [hC, s5]
    · have hg := lck_0 hw c
      obtain ⟨n, hn, h0, en, ien⟩ := hg.n
      refine ⟨⟨hw, hg⟩, fun v7 r8 q9 hh => ?_⟩
      obtain ⟨b1, b2, b3, b4⟩ := hh
      subst b1
      have k8 : kR r r8 SC := k5.tr b2 (fun _ h => h) (by decide)
      have s8 : r8 6 = 0 := by rw [b2 6 (by decide), s5, c]
      cases hr : rfF (q9 0) (iv p0) with
      | none =>
        rw [hr] at b3
        have hC : conC (q9 0) p0 6 = 0 := by unfold conC; rw [if_pos c, hr]
        have hsg : sgO (q9 0) (iv p0) := by rw [ien] at hr ⊢; exact sgO_of hw (by rw [← en]; exact hg) hn hr
        refine ⟨fun _ => ⟨fun _ => ⟨⟨hw, hg, hsg⟩, fun r13 q14 hl => ?_⟩, fun z9 => absurd (by rw [s8]; decide) z9⟩, fun z9 => absurd b3 z9⟩
        obtain ⟨l1, l2, l3, l4⟩ := hl
        rw [en, nz_vp (by omega) (by decide), nI_clamp (n := n) (by omega)]
        rw [ien] at l3 l4
        rw [en] at hC
        have k13 : kR r r13 SC := k8.tr l2 (fun _ h => h) (by decide)
        refine ⟨by omega, l1, k13, ?_, fun _ => ?_⟩
        · dsimp only; rw [hC, l2 6 (by decide), s8]
        · (try dsimp only); rw [show iv (nI n) = n from nI_clamp (by omega)]; exact (l4 n (sub_rf n)).1
      | some s =>
        rw [hr] at b3
        have hC : conC (q9 0) p0 6 = 3 := by unfold conC; rw [if_pos c, hr]
        refine ⟨fun z9 => absurd (show (1 : Int32) = 0 from b3.symm.trans z9) (by decide), fun _ r22 e22 => ⟨fun z9 => absurd z9 (by rw [e22, va_up_self]; decide), fun _ => ⟨kQ.rf, by dsimp only; rw [e22]; exact k8.up (by decide) _, ?_, fun z9 => absurd (hC.symm.trans z9) (by decide)⟩⟩⟩
        dsimp only; rw [hC, e22, va_up_self])
theorem rl_gr {P : Int32 → RST → Prop} {r : Nat → Int32} {q : Nat → Nat → Int32} {T : Nat → Int32} {t : T3} {n c i : Nat} (hn : n < 1024) (hQ : ∀ p, 0 < p → sub p n → dpQ T t p) (h0 : t.2.1 0 = 0) (hq : ∀ p, sub p n → 0 < p → q 10 p = t.2.2 p) (hi : i < c) (hc : c ≤ 1024) (hP : P (t.2.2 (gpL t.2.2 i n)) (r, q)) : ∀ (k j left fuel : Nat), j + k = i → k < fuel → sub left n → t.2.1 left = nI (c - j) → gpL t.2.2 k left = gpL t.2.2 i n → wp_X11_group_84 P fuel (nI i) (nI left) (nI j) r q := by
  have pos : ∀ left j : Nat, j ≤ i → t.2.1 left = nI (c - j) → 0 < left := fun left j hj hl => by
    rcases Nat.eq_zero_or_pos left with e | e
    · subst e
      rw [h0] at hl
      have := (nI_eq (a := 0) (b := c - j) (by decide) (by omega)).mp hl
      omega
    · exact e
  intro k
  induction k with
  | zero =>
    intro j left fuel hj hf hs hl hg
    have hp := pos left j (by omega) hl
    have hlt : left < 1024 := Nat.lt_of_le_of_lt (sub_le hs) hn
    obtain ⟨f, rfl⟩ : ∃ f, fuel = f + 1 := ⟨fuel - 1, by omega⟩; rw [wp_X11_group_84]; unfold wb_X11_group_84; dsimp only
    rw [nI_leI (by omega) (by omega), nz_vp (by omega) (by decide), nI_clamp (n := left) (by omega)]
    refine ⟨fun _ => ⟨hlt, ?_⟩, fun z9 => absurd (by omega) z9⟩
    rw [hq left hs hp]
    have : left = gpL t.2.2 i n := hg
    rw [this]
    exact hP
  | succ k ih =>
    intro j left fuel hj hf hs hl hg
    have hp := pos left j (by omega) hl
    have hlt : left < 1024 := Nat.lt_of_le_of_lt (sub_le hs) hn
    obtain ⟨g, g0, g1, g2, g3, g4, g5, g6⟩ := hQ left hp hs
    have hgl := sub_le g1
    obtain ⟨f, rfl⟩ : ∃ f, fuel = f + 1 := ⟨fuel - 1, by omega⟩; rw [wp_X11_group_84]; unfold wb_X11_group_84; dsimp only
    rw [nI_leI (by omega) (by omega), nz_vp (by omega) (by decide), nI_clamp (n := left) (by omega)]
    refine ⟨fun z9 => absurd z9 (by omega), fun _ => ⟨hlt, fun v17 e17 v18 e18 => ?_⟩⟩
    rw [hq left hs hp, g6, nI_dif] at e17
    rw [nI_1] at e18
    subst e17 e18
    refine ih (j + 1) (dif left g) f (by omega) (by omega) (sub_tr (sub_dif left g) hs) ?_ ?_
    · have hdl := sub_le (sub_dif left g)
      obtain ⟨c', hc', ec', _⟩ := cnt_ok hQ hn h0 1024 (dif left g) (Nat.lt_of_le_of_lt (sub_le (sub_dif left g)) hlt) (sub_tr (sub_dif left g) hs)
      rw [hl, ec', show (1 : Int32) = nI 1 from rfl, nI_add] at g5
      have := (nI_eq (a := c - j) (b := 1 + c') (by omega) (by omega)).mp g5
      rw [ec']
      congr 1
      omega
    · rw [gpL, g6, show iv (nI g) = g from nI_clamp (by omega)] at hg
      exact hg
theorem kd_X11_group (l : Launch) (D : va_G) (T : Nat → ClassId) (m0 : Nat) (a : Nat → Nat) (p0 : Int32) (p1 : Int32) (r : Nat → Int32) (q : Nat → Nat → Int32) (h : WF (q 0)) : RMi l yX11_group (ws_X11_group) rm_X11_group D T m0 a [.ref m0, .int p0, .int p1] r q (fun v u => (kQ q u.2 [7, 8, 9, 10] ∧ kR r u.1 SC ∧ u.1 6 = grC (q 0) p0 p1 ∧ (grC (q 0) p0 p1 = 0 → v = grA (q 0) (iv p0) p1))) := c_X11_group l D T m0 a p0 p1 r q _ <|
  (by
    have hw := h
    unfold wp_X11_group
    refine ⟨⟨hw, ⟨8, by decide, rfl⟩⟩, fun v1 r2 q3 hh => ?_⟩
    obtain ⟨a1, a2, a3⟩ := hh
    subst a3
    rw [show iv 8 = 8 from rfl] at a1
    have k2 : kR r r2 SC := by rw [a2]; exact kR.rf.up (by decide) _
    refine fun r5 e5 => ?_
    have k5 : kR r r5 SC := by rw [e5]; exact k2.up (by decide) _
    have s5 : r5 6 = lckF (q3 0) p0 8 := by rw [e5, va_up_self, a1]
    -- a code
    have bad : ∀ (r6 : Nat → Int32) (c : Int32), kR r r6 SC → r6 6 = c → conC (q3 0) p0 8 = c → ¬ c ≤ 0 → wp_X11_group_31 (fun v u => kQ q3 u.2 [7, 8, 9, 10] ∧ kR r u.1 SC ∧ u.1 6 = grC (q3 0) p0 p1 ∧ (grC (q3 0) p0 p1 = 0 → v = grA (q3 0) (iv p0) p1)) p0 p1 r6 q3 := by
      intro r6 c k6 s6 hC hc
      have hc0 : ¬ conC (q3 0) p0 8 = 0 := fun z9 => hc (by rw [← hC, z9]; decide)
      have hG : grC (q3 0) p0 p1 = c := by unfold grC; rw [if_neg hc0, hC]
      unfold wp_X11_group_31
      refine ⟨fun z9 => absurd (by rw [← s6]; exact z9) hc, fun _ => ⟨kQ.rf, k6, by dsimp only; rw [hG, s6], fun z9 => ?_⟩⟩
      rw [hG] at z9
      exact absurd (by rw [z9]; decide) hc
    rw [s5]
    refine ⟨fun c => bad r5 _ k5 s5 (by unfold conC; rw [if_neg c]) (by rw [lck_p]; exact c), fun c => ?_⟩
    have hg := lck_0 hw c
    obtain ⟨n, hn, h0, en, ien⟩ := hg.n
    refine ⟨⟨hw, hg⟩, fun v7 r8 q9 hh => ?_⟩
    obtain ⟨b1, b2, b3, b4⟩ := hh
    subst b1
    have k8 : kR r r8 SC := k5.tr b2 (fun _ h => h) (by decide)
    have s8 : r8 6 = 0 := by rw [b2 6 (by decide), s5, c]
    cases hr : rfF (q9 0) (iv p0) with
    | some s =>
      rw [hr] at b3
      have hC : conC (q9 0) p0 8 = 3 := by unfold conC; rw [if_pos c, hr]
      refine ⟨fun z9 => absurd (show (1 : Int32) = 0 from b3.symm.trans z9) (by decide), fun _ r29 e29 => bad r29 3 (by rw [e29]; exact k8.up (by decide) _) (by rw [e29, va_up_self]) hC (by decide)⟩
    | none =>
      rw [hr] at b3
      have hC : conC (q9 0) p0 8 = 0 := by unfold conC; rw [if_pos c, hr]
      have hsg : sgO (q9 0) (iv p0) := by rw [ien] at hr ⊢; exact sgO_of hw (by rw [← en]; exact hg) hn hr
      refine ⟨fun _ => ?_, fun z9 => absurd b3 z9⟩
      unfold wp_X11_group_31
      refine ⟨fun _ => ⟨⟨hw, hg, hsg⟩, fun r9 q10 hl => ?_⟩, fun z9 => absurd (by rw [s8]; decide) z9⟩
      obtain ⟨l1, l2, l3, l4⟩ := hl
      subst en
      rw [ien] at l3 l4 hsg
      have k9 : kR r r9 SC := k8.tr l2 (fun _ h => h) (by decide)
      have s9 : r9 6 = 0 := by rw [l2 6 (by decide), s8]
      have hmany := (l4 n (sub_rf n)).2.1
      have hQ : ∀ p, 0 < p → sub p n → dpQ (ttF (q9 0)) (dpZ (ttF (q9 0)) n) p := fun p hp hs => dp_ok hn hsg _ n p (sub_le hs) hp hs
      have hz0 : (dpZ (ttF (q9 0)) n).2.1 0 = 0 := (dp_0 n).2
      obtain ⟨cn, hcn, ecn, hcn0⟩ := cnt_ok hQ hn hz0 1024 n hn (sub_rf n)
      rw [nz_vp (by omega) (by decide), nI_clamp (n := n) (by omega), hmany]
      refine ⟨fun c1 => ⟨hn, fun c2 => ?_, fun c2 v20 r21 q22 hk => ?_⟩, fun c1 => ⟨hn, l1, k9, ?_, fun _ => ?_⟩⟩
      · have hG : grC (q9 0) (nI n) p1 = 0 := by unfold grC; rw [if_pos hC, if_neg c1, ien, if_neg c2]
        rw [ecn] at c2
        obtain ⟨i, hi, ei⟩ := zin_m (by omega) c2
        subst ei
        refine ⟨3000, rl_gr (T := ttF (q9 0)) (t := dpZ (ttF (q9 0)) n) (n := n) (c := cn) (i := i) hn hQ hz0 (fun p hs hp => (l4 p hs).2.2 hp) hi (by omega) ?_ i 0 n 3000 (by omega) (by omega) (sub_rf n) ecn rfl⟩
        refine ⟨l1, k9, by dsimp only; rw [hG, s9], fun _ => ?_⟩
        unfold grA
        rw [if_neg c1, ien, show iv (nI i) = i from nI_clamp (by omega)]
      · obtain ⟨d1, d2, d3⟩ := hk
        subst d3
        have hG : grC (q9 0) (nI n) p1 = 4 := by unfold grC; rw [if_pos hC, if_neg c1, ien, if_pos c2]
        refine ⟨l1, by dsimp only; rw [d2]; exact k9.up (by decide) _, by dsimp only; rw [hG, d2, va_up_self], fun z9 => absurd (hG.symm.trans z9) (by decide)⟩
      · (try dsimp only)
        unfold grC
        rw [if_pos hC, if_pos c1, s9]
      · (try dsimp only)
        unfold grA
        rw [if_pos c1, ien])

end S_DRAFT

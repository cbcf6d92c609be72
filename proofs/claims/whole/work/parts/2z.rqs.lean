section S_RQS
/-- a small number -/
def bn (x : Int32) (B : Nat) : Prop := ∃ n : Nat, n ≤ B ∧ x = nI n
theorem bn.mn {x : Int32} {A B : Nat} (h : bn x A) (hb : A ≤ B) : bn x B := by
  obtain ⟨n, hn, e⟩ := h
  exact ⟨n, by omega, e⟩
theorem bn.z {B : Nat} : bn 0 B := ⟨0, Nat.zero_le _, rfl⟩
theorem bn.add {x y : Int32} {A B : Nat} (h : bn x A) (h2 : bn y B) : bn (x + y) (A + B) := by
  obtain ⟨n, hn, rfl⟩ := h
  obtain ⟨m, hm, rfl⟩ := h2
  exact ⟨n + m, by omega, nI_add n m⟩
theorem bn.mul {x y : Int32} {A B : Nat} (h : bn x A) (h2 : bn y B) : bn (x * y) (A * B) := by
  obtain ⟨n, hn, rfl⟩ := h
  obtain ⟨m, hm, rfl⟩ := h2
  exact ⟨n * m, Nat.mul_le_mul hn hm, pk_mul n m⟩
theorem bn.mx {x y : Int32} {A : Nat} (h : bn x A) (h2 : bn y A) : bn (mxF x y) A := by
  unfold mxF
  split
  · exact h2
  · exact h
theorem pct_n {a p : Nat} (ha : a < 2 ^ 31) (hp : p ≤ 100) : pctF (nI a) (nI p) = nI ((a * p + 50) / 100) := by
  have hap : a * p ≤ a * 100 := Nat.mul_le_mul_left a hp
  have hI : ((a * p : Nat) : Int) = (a : Int) * (p : Int) := Int.natCast_mul a p
  have hq : (a * p + 50) / 100 < 2 ^ 31 := by omega
  have e1 : (Int32.toInt64 (nI a) * Int32.toInt64 (nI p)).toInt = ((a * p : Nat) : Int) := by
    rw [Int64.toInt_mul, Int32.toInt_toInt64, Int32.toInt_toInt64, nI_toInt ha, nI_toInt (by omega), ← hI]
    exact Int.bmod_eq_of_le (by omega) (by omega)
  have e2 : (Int32.toInt64 (nI a) * Int32.toInt64 (nI p) + 50).toInt = ((a * p : Nat) : Int) + 50 := by
    rw [Int64.toInt_add, e1, show (50 : Int64).toInt = 50 from by decide]
    exact Int.bmod_eq_of_le (by omega) (by omega)
  have e3 : ((Int32.toInt64 (nI a) * Int32.toInt64 (nI p) + 50) / 100).toInt = (((a * p + 50) / 100 : Nat) : Int) := by
    rw [Int64.toInt_div_of_ne_right _ _ (by decide), e2, show (100 : Int64).toInt = 100 from by decide, Int.tdiv_eq_ediv_of_nonneg (by omega)]
    omega
  unfold pctF
  apply Int32.toInt_inj.mp
  rw [Int64.toInt_toInt32, e3, nI_toInt hq]
  exact Int.bmod_eq_of_le (by omega) (by omega)
theorem bn.pct {x p : Int32} {A : Nat} (h : bn x A) (h2 : bn p 100) (hA : A < 2 ^ 31) : bn (pctF x p) A := by
  obtain ⟨n, hn, rfl⟩ := h
  obtain ⟨m, hm, rfl⟩ := h2
  have : n * m ≤ n * 100 := Nat.mul_le_mul_left n hm
  exact ⟨_, by omega, pct_n (by omega) hm⟩
theorem realF_bn {μ : Nat → Int32} (hw : WF μ) {s : Nat} (hs : s < 10) : bn (realF μ s) 4995 := by
  obtain ⟨c, hc, ec⟩ := hw.pcs hs
  have : ∀ k p n B, p + k ≤ 5 → bn n B → bn (realFold μ s k p n) (B + 999 * k) := by
    intro k
    induction k with
    | zero => intro p n B _ h; exact h
    | succ k ih =>
      intro p n B hp h
      have := ((hw.s hs).2.2.2.2.1 p (by omega)).2
      exact (ih (p + 1) _ _ (by omega) (h.add this)).mn (by omega)
  unfold realF
  rw [ec, show iv (nI c) = c from nI_clamp (by omega)]
  exact (this c 0 0 0 (by omega) bn.z).mn (by omega)
theorem volF_bn {μ : Nat → Int32} (hw : WF μ) {s p : Nat} (hs : s < 10) (hp : p < 5) : bn (volF μ s p) 8000000 := by
  have h := ((hw.s hs).2.2.2.2.1 p hp).1
  have h0 := h 0 (by decide)
  have h1 := h 1 (by decide)
  have h2 := h 2 (by decide)
  exact (bn.mul (bn.mul (A := 200) (B := 200) h0 h1) (B := 200) h2).mn (by decide)
theorem dimF_bn {μ : Nat → Int32} (hw : WF μ) {s d : Nat} (hs : s < 10) (hd : 1000 ≤ d) (hd2 : d ≤ 9999) : bn (dimF μ s (nI d)) 40005 := by
  obtain ⟨c, hc, ec⟩ := hw.pcs hs
  have : ∀ k p n B, p + k ≤ 5 → bn n B → bn (dimFold μ s (nI d) k p n) (B + 8001 * k) := by
    intro k
    induction k with
    | zero => intro p n B _ h; exact h
    | succ k ih =>
      intro p n B hp h
      obtain ⟨v, hv, ev⟩ := volF_bn hw hs (p := p) (by omega)
      have e9 : (volF μ s p + nI d - 1) / nI d = nI ((v + d - 1) / d) := by
        rw [ev, nI_add, nI_p1 (by omega), pk_div (by omega) (by omega) (by omega)]
      have l9 : (v + d - 1) / d < 8002 := (Nat.div_lt_iff_lt_mul (by omega)).mpr (by omega)
      have := ih (p + 1) (n + (volF μ s p + nI d - 1) / nI d) (B + 8001) (by omega) (h.add (by rw [e9]; exact ⟨_, by omega, rfl⟩))
      exact this.mn (by omega)
  unfold dimF
  rw [ec, show iv (nI c) = c from nI_clamp (by omega)]
  exact (this c 0 0 0 (by omega) bn.z).mn (by omega)
theorem pop_ge {g : Nat} : ∀ k s c, c ≤ popFold g k s c := by
  intro k
  induction k with
  | zero => intro s c; exact Nat.le_refl _
  | succ k ih =>
    intro s c
    rw [popFold]
    split
    · have := ih (s + 1) (c + 1); omega
    · exact ih (s + 1) c
theorem pop_add {g : Nat} : ∀ k j s c, popFold g (k + j) s c = popFold g j (s + k) (popFold g k s c) := by
  intro k
  induction k with
  | zero => intro j s c; rw [Nat.zero_add]; rfl
  | succ k ih =>
    intro j s c
    rw [show k + 1 + j = (k + j) + 1 by omega, popFold, popFold, ih, show s + 1 + k = s + (k + 1) by omega]
theorem pop_ns {g ns : Nat} (h : ns ≤ 10) : popFold g ns 0 0 ≤ popN g := by
  unfold popN
  have := pop_add (g := g) ns (10 - ns) 0 0
  rw [show ns + (10 - ns) = 10 by omega] at this
  rw [this]
  exact pop_ge _ _ _
theorem pop_1 {g : Nat} (h : g < 1024) (h0 : 0 < g) : 1 ≤ popN g ∧ popN g ≤ 10 := by
  have : ∀ g : Nat, g < 1024 → 0 < g → 1 ≤ popN g ∧ popN g ≤ 10 := by decide +kernel
  exact this g h h0
theorem gw_bn {μ : Nat → Int32} (hw : WF μ) {g d : Nat} (hd : 1000 ≤ d) (hd2 : d ≤ 9999) : ∀ (k s c : Nat) (a b e f h : Int32), s + k ≤ 10 → bn a (40005 * c) → bn b (40005 * c) → bn (gwF μ g (nI d) k s a b e f h).1 (40005 * popFold g k s c) ∧ bn (gwF μ g (nI d) k s a b e f h).2.1 (40005 * popFold g k s c) := by
  intro k
  induction k with
  | zero => intro s c a b e f h _ h1 h2; exact ⟨h1, h2⟩
  | succ k ih =>
    intro s c a b e f h hs h1 h2
    rw [gwF, popFold]
    split
    · exact ih (s + 1) (c + 1) _ _ _ _ _ (by omega) ((h1.add ((realF_bn hw (by omega)).mn (by decide : 4995 ≤ 40005))).mn (by omega)) ((h2.add (dimF_bn hw (by omega) hd hd2)).mn (by omega))
    · exact ih (s + 1) c _ _ _ _ _ (by omega) h1 h2
theorem wt_bn {μ : Nat → Int32} (hw : WF μ) {v g : Nat} {x : Int32} (hv : vok μ x) (hx : x = nI v) (h6 : v < 6) : bn (wtF μ v g) (40005 * popN g) := by
  obtain ⟨n, j, hn, hn6, hj, e⟩ := hv
  have ej : j = v := by rw [hx] at e; exact ((nI_eq (by omega) (by omega)).mp e).symm
  subst ej
  obtain ⟨d, hd1, hd2, ed⟩ := hw.div hn hn6 hj
  obtain ⟨ns, hns, ens⟩ := hw.2.1
  have h := gw_bn hw hd1 hd2 (g := g) ns 0 0 0 0 0 0 0 (by omega) bn.z bn.z
  have hp := pop_ns (g := g) hns
  unfold wtF gwt
  rw [ed, ens, show iv (nI ns) = ns from nI_clamp (by omega)]
  exact bn.mx (h.1.mn (Nat.mul_le_mul_left _ hp)) (h.2.mn (Nat.mul_le_mul_left _ hp))
theorem base_bn {μ : Nat → Int32} (hw : WF μ) {v z : Nat} {w : Int32} {W : Nat} (hv : v < 6) (h1 : 1 ≤ z) (h9 : z ≤ 9) (hW : bn w W) (hW9 : 9999 ≤ W) : bn (baseF μ v z w) (99 * W) := by
  have hz := (hw.v hv).2.1 z h1 h9
  have hb := hz.2.2 (chpF μ v z w) (chpF_lt hw hv h1 h9)
  have ha : bn (amtF μ v z (chpF μ v z w) w) (99 * W) := by
    unfold amtF
    refine (bn.mul (A := W) (B := 99) ?_ hb.2).mn (by omega)
    split
    · exact bn.mn (A := 9999) hb.1 hW9
    · exact hW
  unfold baseF
  split
  · exact bn.mn (A := 9999) hz.2.1 (by omega)
  · exact ha
theorem ex_bn {μ : Nat → Int32} (hw : WF μ) {v : Nat} {w p l h z b : Int32} {W : Nat} (hv : v < 6) (hW : bn w W) (hb : bn b (99 * W)) (hW9 : 9999 ≤ W) (hW2 : 99 * W < 2 ^ 31) : ∀ (k a : Nat) (o m c : Int32) (A : Nat), a + k ≤ 10 → bn m A → bn (exF μ v w p l h z b k a o m c).1 (A + 99 * W * k) := by
  intro k
  induction k with
  | zero => intro a o m c A _ h; exact h
  | succ k ih =>
    intro a o m c A ha hm
    rw [exF]
    split
    · obtain ⟨hA1, hA2, hA3, hA4, hA5, hA6, hA7, hA8, hA9⟩ := hw.acc hv (a := a) (by omega)
      have e9 : 99 * W * (k + 1) = 99 * W + 99 * W * k := by rw [Nat.mul_succ, Nat.add_comm]
      rw [e9, ← Nat.add_assoc]
      refine ih (a + 1) _ _ _ _ (by omega) (hm.add ?_)
      split
      · exact bn.mn (A := 9999) hA2 (by omega)
      split
      · rename_i c9
        exact bn.mul (A := 99) (hA8 c9) hW
      · obtain ⟨kd, hkd, ekd⟩ := hA3
        rename_i c1 c2
        have hk2 : μ (274 + 510 * v + 150 + 36 * a + 2) = 2 := by
          rw [ekd] at c1 c2 ⊢
          rcases (by omega : kd = 0 ∨ kd = 1 ∨ kd = 2) with h | h | h
          · subst h; exact absurd rfl c1
          · subst h; exact absurd rfl c2
          · subst h; rfl
        exact hb.pct (bn.mn (A := 50) (hA9 hk2) (by decide)) hW2
    · exact (ih (a + 1) o m c A (by omega) hm).mn (by rw [Nat.mul_succ]; omega)
theorem tot_bn {μ : Nat → Int32} (hw : WF μ) {g : Nat} (hg : gok μ (nI g)) (hg2 : g < 1024) (h0 : (rsnD μ g).1 = 0) : bn (totF μ g) (100000000 * popN g) := by
  obtain ⟨hvk, ⟨z, hz1, hz9, ez⟩, hbr⟩ := rsn0 hw hg hg2 h0
  obtain ⟨v, hv, ev⟩ := hvk.x
  have iev : iv (gvF μ g) = v := by rw [ev]; exact nI_clamp (by omega)
  have iez : iv (gzF μ g) = z := by rw [ez]; exact nI_clamp (by omega)
  have hg0 : 0 < g := by
    rcases Nat.eq_zero_or_pos g with q9 | q9
    · subst q9; exact absurd rfl hg.gix.2
    · exact q9
  obtain ⟨hp1, hp10⟩ := pop_1 hg2 hg0
  unfold totF
  rw [iev, iez]
  have hW := wt_bn hw (g := g) hvk ev hv
  have hB := base_bn hw hv hz1 hz9 hW (by omega)
  have hE := ex_bn hw (p := pcF μ v g) (l := lgF μ v g) (h := hdF μ v g) (z := nI z) hv hW hB (by omega) (by omega) 10 0 0 0 0 0 (by omega) bn.z
  have hS : bn (stF μ v g) (9999 * popN g) := by
    unfold stF
    rw [nI_p1 hp1]
    exact (bn.mul (A := 9999) (B := popN g - 1) (hw.v hv).2.2.2.2.2.1 ⟨_, Nat.le_refl _, rfl⟩).mn (Nat.mul_le_mul_left _ (Nat.sub_le _ _))
  have hF : bn (μ (274 + 510 * v + 147)) 100 := bn.mn (A := 99) (hw.v hv).2.2.2.2.1 (by decide)
  have h3 := (hB.add hE).add hS
  unfold toF fuF exAC
  refine (h3.add (h3.pct hF (by omega))).mn (by omega)
theorem rf_none {μ : Nat → Int32} {n : Nat} : ∀ k s, rfFold μ n k s = none → ∀ t, s ≤ t → t < s + k → n.testBit t = true → (rsnD μ (2 ^ t)).1 = 0 := by
  intro k
  induction k with
  | zero => intro s _ t h1 h2; omega
  | succ k ih =>
    intro s h t h1 h2 ht
    rw [rfFold] at h
    split at h
    · cases h
    · rename_i c
      rcases Nat.eq_or_lt_of_le h1 with e | e
      · subst e
        rcases Nat.eq_zero_or_pos (rsnD μ (2 ^ s)).1 with q9 | q9
        · exact q9
        · exact absurd ⟨ht, by omega⟩ c
      · exact ih (s + 1) h t (by omega) (by omega) ht
theorem tt_bn {μ : Nat → Int32} (hw : WF μ) {g : Nat} (hg : gok μ (nI g)) (hg2 : g < 1024) : ttF μ g = -1 ∨ bn (ttF μ g) (100000000 * popN g) := by
  unfold ttF
  split
  · rename_i c; exact Or.inr (tot_bn hw hg hg2 c)
  · exact Or.inl rfl
theorem sgO_of {μ : Nat → Int32} (hw : WF μ) {n : Nat} (hg : gok μ (nI n)) (hn : n < 1024) (h : rfF μ n = none) : sgO μ n := by
  intro s hs
  obtain ⟨m, ns, hns, hns10, h0, hlt, e⟩ := hg
  have em : m = n := ((nI_eq (by omega) (by have := p2_le hns10; omega)).mp e).symm
  subst em
  have hsn : s < ns := by
    rcases Nat.lt_or_ge s ns with q9 | q9
    · exact q9
    · have : m < 2 ^ s := Nat.lt_of_lt_of_le hlt (Nat.pow_le_pow_right (by decide) q9)
      rw [Nat.testBit_lt_two_pow this] at hs
      cases hs
  have h1 : (rsnD μ (2 ^ s)).1 = 0 := by
    unfold rfF at h
    rw [hns, show iv (nI ns) = ns from nI_clamp (by omega)] at h
    exact rf_none ns 0 h s (Nat.zero_le _) (by omega) hs
  have h2s : 2 ^ s < 1024 := Nat.lt_of_lt_of_le (Nat.pow_lt_pow_right (by decide) hsn) (p2_le hns10)
  obtain ⟨t, ht, et⟩ := tot_bn hw (gok.tb (n := 0) hns hns10 hsn) h2s h1
  unfold ttF
  rw [if_pos h1, et]
  have := (pop_1 h2s (Nat.two_pow_pos s)).2
  exact nI_pos' (by omega)

end S_RQS

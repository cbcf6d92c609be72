section S_DRAFT
theorem apP.tr {r r1 r2 : Nat → Int32} {q q1 q2 : Nat → Nat → Int32} {l1 l2 : List Int32} (h : apP r q l1 r1 q1) (h2 : apP r1 q1 l2 r2 q2) {B : Nat} (hn : pa40 r B) (hB : B + l1.length < 2 ^ 31) : apP r q (l1 ++ l2) r2 q2 := by
  obtain ⟨n, hnB, e⟩ := hn
  obtain ⟨a1, a2, a3, a4, a5⟩ := h
  obtain ⟨b1, b2, b3, b4, b5⟩ := h2
  have en : iv (r 40) = n := by rw [e]; exact nI_clamp (by omega)
  rw [en] at a3 a4 a5
  have en1 : iv (r1 40) = n + l1.length := by rw [a3]; exact nI_clamp (by omega)
  rw [en1] at b3 b4 b5
  refine ⟨a1.tr b1 (fun _ h => h) (fun _ h => h), a2.tr b2 (fun _ h => h) (fun _ h => h), by rw [en, b3, List.length_append]; congr 1; omega, fun i hi => ?_, fun j x hx => ?_⟩
  · rw [en] at hi
    rw [b4 i (by omega), a4 i hi]
  · rw [en]
    rcases Nat.lt_or_ge j l1.length with hj | hj
    · rw [List.getElem?_append_left hj] at hx
      rw [b4 _ (by omega)]
      exact a5 j x hx
    · rw [List.getElem?_append_right hj] at hx
      have := b5 _ x hx
      rw [← this]
      congr 1
      omega
theorem apP.p40 {r r1 : Nat → Int32} {q q1 : Nat → Nat → Int32} {l : List Int32} (h : apP r q l r1 q1) {B : Nat} (hn : pa40 r B) (hB : B < 2 ^ 31) : pa40 r1 (B + l.length) := by
  obtain ⟨n, hnB, e⟩ := hn
  have en : iv (r 40) = n := by rw [e]; exact nI_clamp (by omega)
  exact ⟨n + l.length, by omega, by rw [h.2.2.1, en]⟩
theorem apP.nil {r : Nat → Int32} {q : Nat → Nat → Int32} {B : Nat} (hp : pa40 r B) (hB : B < 2 ^ 31) : apP r q [] r q := by
  obtain ⟨n, hn, e⟩ := hp
  exact ⟨kR.rf, kQ.rf, by rw [e, show iv (nI n) = n from nI_clamp (by omega)]; rfl, fun _ _ => rfl, fun j x hx => by simp at hx⟩
theorem pa40.mn {r : Nat → Int32} {B C : Nat} (h : pa40 r B) (hc : B ≤ C) : pa40 r C := by
  obtain ⟨n, hnB, e⟩ := h
  exact ⟨n, by omega, e⟩
theorem dgL_len : ∀ k v : Nat, (dgL k v).length = k + 1 := by
  intro k v
  induction k with
  | zero => rfl
  | succ k ih => rw [dgL, List.length_cons, ih]
theorem nuL_len (n : Nat) : (nuL n).length ≤ 4 ∧ 1 ≤ (nuL n).length := by
  unfold nuL
  rw [dgL_len]
  split
  · omega
  split
  · omega
  split
  · omega
  · omega
theorem c16 {c : Nat} (h : c < 128) : (Int32.toUInt32 (nI c) % 65536).toInt32 = nI c := by
  have : ∀ c : Nat, c < 128 → (Int32.toUInt32 (nI c) % 65536).toInt32 = nI c := by decide +kernel
  exact this c h
theorem nar_c {c : Nat} (h : c < 128) : vp_nar .char (nI c) = nI c := by
  have : ∀ c : Nat, c < 128 → vp_nar .char (nI c) = nI c := by decide +kernel
  exact this c h
theorem kd_X11_put (l : Launch) (D : va_G) (T : Nat → ClassId) (m0 : Nat) (a : Nat → Nat) (p0 : Int32) (r : Nat → Int32) (q : Nat → Nat → Int32) (h : pa40 r 199 ∧ ∃ c : Nat, c < 128 ∧ p0 = nI c) : RMv l yX11_put (ws_X11_put) rm_X11_put D T m0 a [.ref m0, .int p0] r q (fun u => (apP r q [p0] u.1 u.2)) := c_X11_put l D T m0 a p0 r q _ <|
  (by
    obtain ⟨⟨n, hn, e⟩, ⟨c, hc, ec⟩⟩ := h
    have en : iv (r 40) = n := by rw [e]; exact nI_clamp (by omega)
    unfold wp_X11_put
    rw [e, nz_vp (by omega) (by decide), nI_1, ec, nar_c hc, nI_clamp (n := n) (by omega)]
    refine ⟨by omega, fun q2 e2 r3 e3 => ⟨by dsimp only; rw [e3]; exact kR.rf.up (by decide) _, by dsimp only; rw [e2]; exact kQ.rf.up (by decide) _, by dsimp only; rw [e3, va_up_self, en]; rfl, fun i hi => ?_, fun j x hx => ?_⟩⟩
    · rw [en] at hi
      dsimp only
      rw [e2, va_up_self, pk_un (by omega)]
    · dsimp only
      rw [en, e2, va_up_self]
      cases j with
      | zero => simp at hx; rw [Nat.add_zero, pk_us]; exact hx
      | succ j => simp at hx)
theorem rl_pn {P : RST → Prop} {v : Nat} (hv : v ≤ 9999) : ∀ (k fuel : Nat) (r : Nat → Int32) (q : Nat → Nat → Int32), k ≤ 3 → k + 1 < fuel → pa40 r (200 - (k + 1)) → (∀ r1 q1, apP r q (dgL k v) r1 q1 → P (r1, q1)) → wp_X11_putNumber_22 P fuel (nI v) (nI (10 ^ k)) r q := by
  intro k
  induction k with
  | zero =>
    intro fuel r q hk hf hp hP
    obtain ⟨f, rfl⟩ : ∃ f, fuel = f + 2 := ⟨fuel - 2, by omega⟩
    rw [wp_X11_putNumber_22]; unfold wb_X11_putNumber_22; dsimp only
    have d1 : nI v / nI (10 ^ 0) = nI v := by rw [show nI (10 ^ 0) = nI 1 from rfl, pk_div (by omega) (by decide) (by decide), Nat.div_one]
    have d2 : nI v - nI v / 10 * 10 = nI (v % 10) := pk_rem (d := 10) (by omega) (by decide) (by decide)
    rw [d1, d2, show (48 : Int32) + nI (v % 10) = nI (48 + v % 10) from nI_add 48 _]
    have hm : v % 10 < 10 := Nat.mod_lt _ (by decide)
    refine ⟨fun c => absurd c (by decide), fun _ => ⟨by decide, ⟨?_, ⟨48 + v % 10, by omega, ?_⟩⟩, fun r11 q12 h11 v13 e13 => ?_⟩⟩
    · obtain ⟨n, hn, e⟩ := hp; exact ⟨n, by omega, e⟩
    · exact c16 (by omega)
    · rw [c16 (by omega)] at h11
      rw [show v13 = 0 by rw [e13]; decide, wp_X11_putNumber_22]; unfold wb_X11_putNumber_22; dsimp only
      exact ⟨fun _ => hP r11 q12 h11, fun c => absurd (by decide) c⟩
  | succ k ih =>
    intro fuel r q hk hf hp hP
    obtain ⟨f, rfl⟩ : ∃ f, fuel = f + 1 := ⟨fuel - 1, by omega⟩; rw [wp_X11_putNumber_22]; unfold wb_X11_putNumber_22; dsimp only
    have hpw : 10 ^ (k + 1) ≤ 1000 := Nat.le_trans (Nat.pow_le_pow_right (n := 10) (by decide) hk) (by decide)
    have hp0 : 0 < 10 ^ (k + 1) := Nat.pow_pos (by decide)
    have d1 : nI v / nI (10 ^ (k + 1)) = nI (v / 10 ^ (k + 1)) := pk_div (by omega) hp0 (by omega)
    have hdv : v / 10 ^ (k + 1) ≤ v := Nat.div_le_self _ _
    have d2 : nI (v / 10 ^ (k + 1)) - nI (v / 10 ^ (k + 1)) / 10 * 10 = nI (v / 10 ^ (k + 1) % 10) := pk_rem (d := 10) (by omega) (by decide) (by decide)
    have hm : v / 10 ^ (k + 1) % 10 < 10 := Nat.mod_lt _ (by decide)
    rw [d1, d2, show (48 : Int32) + nI (v / 10 ^ (k + 1) % 10) = nI (48 + v / 10 ^ (k + 1) % 10) from nI_add 48 _]
    have d3 : nI (10 ^ (k + 1)) / 10 = nI (10 ^ k) := by
      rw [show (10 : Int32) = nI 10 from rfl, pk_div (by omega) (by decide) (by decide), Nat.pow_succ, Nat.mul_div_cancel _ (by decide)]
    refine ⟨fun c => ?_, fun _ => ⟨fun c => ?_, ⟨?_, ⟨48 + v / 10 ^ (k + 1) % 10, by omega, ?_⟩⟩, fun r11 q12 h11 v13 e13 => ?_⟩⟩
    · rw [nz_le0 (by omega)] at c; omega
    · rw [nz_eq0 (by omega)] at c; omega
    · obtain ⟨n, hn, e⟩ := hp; exact ⟨n, by omega, e⟩
    · exact c16 (by omega)
    · rw [c16 (by omega)] at h11
      rw [e13, d3]
      have hp1 : pa40 r11 (200 - (k + 1)) := (h11.p40 hp (by omega)).mn (by show 200 - (k + 1 + 1) + 1 ≤ _; omega)
      refine ih f r11 q12 (by omega) (by omega) hp1 (fun r1 q1 h1 => hP r1 q1 ?_)
      have := h11.tr h1 hp (by show 200 - (k + 1 + 1) + 1 < _; omega)
      exact this
theorem kd_X11_putNumber (l : Launch) (D : va_G) (T : Nat → ClassId) (m0 : Nat) (a : Nat → Nat) (p0 : Int32) (r : Nat → Int32) (q : Nat → Nat → Int32) (h : pa40 r 196 ∧ ∃ c : Nat, c ≤ 9999 ∧ p0 = nI c) : RMv l yX11_putNumber (ws_X11_putNumber) rm_X11_putNumber D T m0 a [.ref m0, .int p0] r q (fun u => (apP r q (nuL (iv p0)) u.1 u.2)) := c_X11_putNumber l D T m0 a p0 r q _ <|
  (by
    obtain ⟨hp, ⟨c, hc, ec⟩⟩ := h
    subst ec
    have ic : iv (nI c) = c := nI_clamp (by omega)
    rw [ic]
    unfold wp_X11_putNumber
    have fin : ∀ k, k ≤ 3 → k = (if c < 10 then 0 else if c < 100 then 1 else if c < 1000 then 2 else 3) → ∃ k14 : Nat, wp_X11_putNumber_22 (fun u => apP r q (nuL c) u.1 u.2) k14 (nI c) (nI (10 ^ k)) r q := fun k hk he => ⟨10, rl_pn hc k 10 r q hk (by omega) (hp.mn (by omega)) (fun r1 q1 h1 => by unfold nuL; rw [← he]; exact h1)⟩
    refine ⟨10, ?_⟩
    rw [wp_X11_putNumber_4]; unfold wb_X11_putNumber_4; dsimp only
    refine ⟨fun z9 => absurd z9 (by decide), fun _ => ⟨fun z9 => ?_, fun z9 v3 e3 => ?_⟩⟩
    · have := (nI_leI (a := 1000) (by decide) (by omega)).mp z9
      exact fin 3 (by omega) (by rw [if_neg (by omega), if_neg (by omega), if_neg (by omega)])
    have y3 : ¬ 1000 ≤ c := fun w9 => z9 ((nI_leI (a := 1000) (by decide) (by omega)).mpr w9)
    rw [show v3 = 100 by rw [e3]; decide, wp_X11_putNumber_4]; unfold wb_X11_putNumber_4; dsimp only
    refine ⟨fun z9 => absurd z9 (by decide), fun _ => ⟨fun z9 => ?_, fun z9 v4 e4 => ?_⟩⟩
    · have := (nI_leI (a := 100) (by decide) (by omega)).mp z9
      exact fin 2 (by omega) (by rw [if_neg (by omega), if_neg (by omega), if_pos (by omega)])
    have y2 : ¬ 100 ≤ c := fun w9 => z9 ((nI_leI (a := 100) (by decide) (by omega)).mpr w9)
    rw [show v4 = 10 by rw [e4]; decide, wp_X11_putNumber_4]; unfold wb_X11_putNumber_4; dsimp only
    refine ⟨fun z9 => absurd z9 (by decide), fun _ => ⟨fun z9 => ?_, fun z9 v5 e5 => ?_⟩⟩
    · have := (nI_leI (a := 10) (by decide) (by omega)).mp z9
      exact fin 1 (by omega) (by rw [if_neg (by omega), if_pos (by omega)])
    have y1 : ¬ 10 ≤ c := fun w9 => z9 ((nI_leI (a := 10) (by decide) (by omega)).mpr w9)
    rw [show v5 = 1 by rw [e5]; decide, wp_X11_putNumber_4]; unfold wb_X11_putNumber_4; dsimp only
    exact ⟨fun _ => fin 0 (by omega) (by rw [if_pos (by omega)]), fun z9 => absurd (by decide) z9⟩)

theorem letF_c (k : Nat) : ∃ c : Nat, c < 128 ∧ letF (nI k) = nI c := by
  unfold letF
  split
  · exact ⟨104, by decide, rfl⟩
  split
  · exact ⟨119, by decide, rfl⟩
  split
  · exact ⟨110, by decide, rfl⟩
  split
  · exact ⟨108, by decide, rfl⟩
  · exact ⟨122, by decide, rfl⟩
theorem w_pt33 {P : RST → Prop} {r : Nat → Int32} {q : Nat → Nat → Int32} {n : Nat} (hn : n ≤ 9999999) (hp : pa40 r 191) (hP : ∀ r1 q1, apP r q (letF (nI (n / 30000 % 5)) :: ((if 0 < n / 30000 % 5 then [if n / 10000 % 3 = 0 then (60 : Int32) else if n / 10000 % 3 = 1 then 62 else 61] else []) ++ nuL (n % 10000))) r1 q1 → P (r1, q1)) : wp_X11_putTest_33 P (nI n) (nI (n / 30000 % 5)) (nI (n / 10000 % 3)) r q := by
  have e1 : nI n - nI n / 10000 * 10000 = nI (n % 10000) := pk_rem (d := 10000) (by omega) (by decide) (by decide)
  have b1 : n % 10000 < 10000 := Nat.mod_lt _ (by decide)
  have b2 : n / 10000 % 3 < 3 := Nat.mod_lt _ (by decide)
  have b3 : n / 30000 % 5 < 5 := Nat.mod_lt _ (by decide)
  generalize hk : n / 30000 % 5 = kd at *
  generalize hy : n / 10000 % 3 = by_ at *
  unfold wp_X11_putTest_33
  rw [e1, show iv (nI (n % 10000)) = n % 10000 from nI_clamp (by omega)]
  refine ⟨⟨hp.mn (by decide), letF_c kd⟩, fun r5 q6 h5 => ?_⟩
  have p5 : pa40 r5 192 := h5.p40 hp (by decide)
  -- the comparison and the number
  have two : ∀ ch : Int32, 0 < kd → ch = (if by_ = 0 then (60 : Int32) else if by_ = 1 then 62 else 61) → (∃ c : Nat, c < 128 ∧ ch = nI c) → ((pa40 r5 199 ∧ ∃ c : Nat, c < 128 ∧ ch = nI c) ∧ (∀ (r16 : Nat → Int32) (q17 : Nat → Nat → Int32), (apP r5 q6 [ch] r16 q17) → ((pa40 r16 196 ∧ ∃ c : Nat, c ≤ 9999 ∧ nI (n % 10000) = nI c) ∧ (∀ (r20 : Nat → Int32) (q21 : Nat → Nat → Int32), (apP r16 q17 (nuL (n % 10000)) r20 q21) → (P (r20, q21)))))) := by
    intro ch h0 hch hc
    refine ⟨⟨p5.mn (by decide), hc⟩, fun r16 q17 h16 => ⟨⟨(h16.p40 p5 (by decide)).mn (by show 192 + 1 ≤ 196; decide), ⟨n % 10000, by omega, rfl⟩⟩, fun r20 q21 h20 => hP _ _ ?_⟩⟩
    rw [if_pos h0, ← hch]
    have a1 := h16.tr h20 p5 (by show 192 + 1 < _; decide)
    have a2 := h5.tr a1 hp (by show 191 + 1 < _; decide)
    exact a2
  refine ⟨fun z9 => ?_, fun z9 => ⟨fun z8 => ⟨fun z7 => ?_, fun z7 => ?_⟩, fun z8 => ?_⟩⟩
  · rw [nz_le0 (by omega)] at z9
    refine ⟨⟨p5.mn (by decide), ⟨n % 10000, by omega, rfl⟩⟩, fun r20 q21 h20 => hP _ _ ?_⟩
    rw [if_neg (by omega)]
    exact h5.tr h20 hp (by show 191 + 1 < _; decide)
  · rw [nz_le0 (by omega)] at z9
    rw [nz_eq0 (by omega)] at z8
    rw [nz_eq1 (by omega)] at z7
    exact two 61 (by omega) (by rw [if_neg z8, if_neg z7]) ⟨61, by decide, rfl⟩
  · rw [nz_le0 (by omega)] at z9
    rw [nz_eq0 (by omega)] at z8
    rw [nz_eq1 (by omega)] at z7
    exact two 62 (by omega) (by rw [if_neg z8, if_pos z7]) ⟨62, by decide, rfl⟩
  · rw [nz_le0 (by omega)] at z9
    rw [nz_eq0 (by omega)] at z8
    exact two 60 (by omega) (by rw [if_pos z8]) ⟨60, by decide, rfl⟩
theorem kd_X11_putTest (l : Launch) (D : va_G) (T : Nat → ClassId) (m0 : Nat) (a : Nat → Nat) (p0 : Int32) (r : Nat → Int32) (q : Nat → Nat → Int32) (h : pa40 r 190 ∧ tix p0) : RMv l yX11_putTest (ws_X11_putTest) rm_X11_putTest D T m0 a [.ref m0, .int p0] r q (fun u => (apP r q (teL (iv p0)) u.1 u.2)) := c_X11_putTest l D T m0 a p0 r q _ <|
  (by
    obtain ⟨hp, n, hn, rfl⟩ := h
    have e2 : nI n / 10000 - nI n / 10000 / 3 * 3 = nI (n / 10000 % 3) := by
      rw [show nI n / 10000 = nI (n / 10000) from pk_div (d := 10000) (by omega) (by decide) (by decide)]
      exact pk_rem (d := 3) (nI_tix (by omega) _) (by decide) (by decide)
    have e3 : nI n / 30000 - nI n / 30000 / 5 * 5 = nI (n / 30000 % 5) := by
      rw [show nI n / 30000 = nI (n / 30000) from pk_div (d := 30000) (by omega) (by decide) (by decide)]
      exact pk_rem (d := 5) (nI_tix (by omega) _) (by decide) (by decide)
    have e4 : nI n / 150000 - nI n / 150000 / 2 * 2 = nI (n / 150000 % 2) := by
      rw [show nI n / 150000 = nI (n / 150000) from pk_div (d := 150000) (by omega) (by decide) (by decide)]
      exact pk_rem (d := 2) (nI_tix (by omega) _) (by decide) (by decide)
    have b4 : n / 150000 % 2 < 2 := Nat.mod_lt _ (by decide)
    have ic : iv (nI n) = n := nI_clamp (by omega)
    rw [ic]
    unfold wp_X11_putTest
    rw [e2, e3, e4, nz_eq1 (by omega)]
    refine fun v1 h1 v2 h2 => ?_
    subst h1 h2
    refine ⟨fun z9 => ?_, fun z9 => ⟨⟨hp.mn (by decide), ⟨45, by decide, rfl⟩⟩, fun r40 q41 h40 => ?_⟩⟩
    · refine w_pt33 hn (hp.mn (by decide)) (fun r1 q1 h1 => ?_)
      unfold teL
      rw [if_neg z9]
      exact h1
    · have p40 : pa40 r40 191 := h40.p40 hp (by decide)
      refine w_pt33 hn p40 (fun r1 q1 h1 => ?_)
      unfold teL
      rw [if_pos z9]
      exact h40.tr h1 hp (by show 190 + 1 < _; decide))
theorem paT_len {μ : Nat → Int32} {e : Nat} : ∀ k j, (paT μ e k j).length ≤ 10 * k := by
  intro k
  induction k with
  | zero => intro j; exact Nat.le_refl _
  | succ k ih =>
    intro j
    rw [paT, List.length_cons, List.length_append]
    have := ih (j + 1)
    have h2 : (teL (iv (μ (e + 6 + j)))).length ≤ 9 := by
      unfold teL
      have := (nuL_len (iv (μ (e + 6 + j)) % 10000)).1
      rw [List.length_append, List.length_cons, List.length_append]
      have a1 : (if iv (μ (e + 6 + j)) / 150000 % 2 = 1 then ([45] : List Int32) else []).length ≤ 1 := by split <;> decide
      have a2 : ∀ x : Int32, (if 0 < iv (μ (e + 6 + j)) / 30000 % 5 then [x] else []).length ≤ 1 := fun x => by split; exact Nat.le_refl _; exact Nat.zero_le _
      have := a2 (if iv (μ (e + 6 + j)) / 10000 % 3 = 0 then (60 : Int32) else if iv (μ (e + 6 + j)) / 10000 % 3 = 1 then 62 else 61)
      omega
    omega
/-- the tests and what stands behind them -/
theorem rl_wr {P : Int32 → RST → Prop} {q0 : Nat → Nat → Int32} {v a c : Nat} (hw : WF (q0 0)) (hv : v < 6) (ha : a < 10) (ec : q0 0 (274 + 510 * v + 150 + 36 * a + 4) = nI c) (hc : c ≤ 30) : ∀ (k j fuel : Nat) (r : Nat → Int32) (q : Nat → Nat → Int32), j + k = c → k < fuel → q 0 = q0 0 → pa40 r (100 - (paT (q0 0) (274 + 510 * v + 150 + 36 * a) k j).length) → (paT (q0 0) (274 + 510 * v + 150 + 36 * a) k j).length ≤ 80 → (∀ r1 q1, apP r q (paT (q0 0) (274 + 510 * v + 150 + 36 * a) k j ++ (if q0 0 (274 + 510 * v + 150 + 36 * a + 5) < 0 then [] else 33 :: nuL (iv (q0 0 (274 + 510 * v + 150 + 36 * a + 5))))) r1 q1 → P (r1 40) (r1, q1)) → wp_X11_write_130 P fuel (nI (274 + 510 * v + 150 + 36 * a)) (nI j) r q := by
  obtain ⟨hA1, hA2, hA3, hA4, hA5, hA6, hA7, hA8, hA9⟩ := hw.acc hv ha
  intro k
  induction k with
  | zero =>
    intro j fuel r q hj hf hq hp hl hP
    obtain ⟨f, rfl⟩ : ∃ f, fuel = f + 1 := ⟨fuel - 1, by omega⟩; rw [wp_X11_write_130]; unfold wb_X11_write_130; dsimp only
    simp (disch := omega) only [li_2, li_3, li_4, li_5, li_6, li_7, li_8, li_9, li_10, li_12, li_14, li_20, li_26, li_30, li_31, li_36, li_38, li_47, li_48, li_50, li_57, li_58, li_80, li_98, li_99, li_100, li_102, li_104, li_105, li_108, li_109, li_110, li_114, li_115, li_119, li_122, li_137, li_146, li_147, li_148, li_149, li_150, li_200, li_255, li_256, li_274, li_510, li_512, li_640, li_999, li_1000, li_1024, li_3334, li_5000, li_9999, li_10000, li_23338, li_26672, li_30000, li_99999, li_150000, li_300000, pk_mul, nI_add, pk_sub, nI_clamp, nI_1, nI_p1, nI_a0, nI_0a, nI_m0, nI_m1, cl_0, cl_1, z01, z11, nI_leI, nI_ltI, nI_eq, nz_lt0, nz_le, nz_eq0, nz_pos, nz_le0, nz_eq1, nz_lt1, nz_ge1, nz_le1, nz_gt1, nz_vp, nz_vp0, nz_vp1, six_nI, vix_nI, bix_nI, pix_nI, fix_nI, gix_nI, rix_nI, zix_nI, pix_0, pix_1, bix_0, fix_0, fix_1, rix_1, true_and, and_true]
    rw [hq, ec]
    simp (disch := omega) only [li_2, li_3, li_4, li_5, li_6, li_7, li_8, li_9, li_10, li_12, li_14, li_20, li_26, li_30, li_31, li_36, li_38, li_47, li_48, li_50, li_57, li_58, li_80, li_98, li_99, li_100, li_102, li_104, li_105, li_108, li_109, li_110, li_114, li_115, li_119, li_122, li_137, li_146, li_147, li_148, li_149, li_150, li_200, li_255, li_256, li_274, li_510, li_512, li_640, li_999, li_1000, li_1024, li_3334, li_5000, li_9999, li_10000, li_23338, li_26672, li_30000, li_99999, li_150000, li_300000, pk_mul, nI_add, pk_sub, nI_clamp, nI_1, nI_p1, nI_a0, nI_0a, nI_m0, nI_m1, cl_0, cl_1, z01, z11, nI_leI, nI_ltI, nI_eq, nz_lt0, nz_le, nz_eq0, nz_pos, nz_le0, nz_eq1, nz_lt1, nz_ge1, nz_le1, nz_gt1, nz_vp, nz_vp0, nz_vp1, six_nI, vix_nI, bix_nI, pix_nI, fix_nI, gix_nI, rix_nI, zix_nI, pix_0, pix_1, bix_0, fix_0, fix_1, rix_1, true_and, and_true]
    refine ⟨by omega, fun _ => ⟨by omega, fun z9 => ?_, fun z9 => ⟨⟨hp.mn (by omega), ⟨33, by decide, rfl⟩⟩, fun r31 q32 h31 => ?_⟩⟩, fun z9 => absurd (by omega) z9⟩
    · refine hP r q ?_
      rw [if_pos z9]
      exact apP.nil hp (by omega)
    · have e32 : q32 0 = q0 0 := (h31.2.1 0 (by decide)).trans hq
      have p31 : pa40 r31 101 := (h31.p40 hp (by omega)).mn (by show 100 - 0 + 1 ≤ 101; omega)
      rw [e32]
      have hx : ∃ m : Nat, m ≤ 9 ∧ q0 0 (274 + 510 * v + 150 + 36 * a + 5) = nI m := by
        rcases hA6 with h | ⟨m, hm, e⟩
        · rw [h] at z9; exact absurd (by decide) z9
        · exact ⟨m, hm, e⟩
      obtain ⟨m, hm, em⟩ := hx
      refine ⟨by omega, ⟨p31.mn (by decide), ⟨m, by omega, em⟩⟩, fun r36 q37 h36 => hP _ _ ?_⟩
      rw [if_neg z9]
      exact h31.tr h36 hp (by show 100 - 0 + 1 < _; omega)
  | succ k ih =>
    intro j fuel r q hj hf hq hp hl hP
    obtain ⟨f, rfl⟩ : ∃ f, fuel = f + 1 := ⟨fuel - 1, by omega⟩; rw [wp_X11_write_130]; unfold wb_X11_write_130; dsimp only
    obtain ⟨t, ht, et⟩ := hA7 j (by omega)
    simp (disch := omega) only [li_2, li_3, li_4, li_5, li_6, li_7, li_8, li_9, li_10, li_12, li_14, li_20, li_26, li_30, li_31, li_36, li_38, li_47, li_48, li_50, li_57, li_58, li_80, li_98, li_99, li_100, li_102, li_104, li_105, li_108, li_109, li_110, li_114, li_115, li_119, li_122, li_137, li_146, li_147, li_148, li_149, li_150, li_200, li_255, li_256, li_274, li_510, li_512, li_640, li_999, li_1000, li_1024, li_3334, li_5000, li_9999, li_10000, li_23338, li_26672, li_30000, li_99999, li_150000, li_300000, pk_mul, nI_add, pk_sub, nI_clamp, nI_1, nI_p1, nI_a0, nI_0a, nI_m0, nI_m1, cl_0, cl_1, z01, z11, nI_leI, nI_ltI, nI_eq, nz_lt0, nz_le, nz_eq0, nz_pos, nz_le0, nz_eq1, nz_lt1, nz_ge1, nz_le1, nz_gt1, nz_vp, nz_vp0, nz_vp1, six_nI, vix_nI, bix_nI, pix_nI, fix_nI, gix_nI, rix_nI, zix_nI, pix_0, pix_1, bix_0, fix_0, fix_1, rix_1, true_and, and_true]
    rw [hq, ec, et]
    simp (disch := omega) only [li_2, li_3, li_4, li_5, li_6, li_7, li_8, li_9, li_10, li_12, li_14, li_20, li_26, li_30, li_31, li_36, li_38, li_47, li_48, li_50, li_57, li_58, li_80, li_98, li_99, li_100, li_102, li_104, li_105, li_108, li_109, li_110, li_114, li_115, li_119, li_122, li_137, li_146, li_147, li_148, li_149, li_150, li_200, li_255, li_256, li_274, li_510, li_512, li_640, li_999, li_1000, li_1024, li_3334, li_5000, li_9999, li_10000, li_23338, li_26672, li_30000, li_99999, li_150000, li_300000, pk_mul, nI_add, pk_sub, nI_clamp, nI_1, nI_p1, nI_a0, nI_0a, nI_m0, nI_m1, cl_0, cl_1, z01, z11, nI_leI, nI_ltI, nI_eq, nz_lt0, nz_le, nz_eq0, nz_pos, nz_le0, nz_eq1, nz_lt1, nz_ge1, nz_le1, nz_gt1, nz_vp, nz_vp0, nz_vp1, six_nI, vix_nI, bix_nI, pix_nI, fix_nI, gix_nI, rix_nI, zix_nI, pix_0, pix_1, bix_0, fix_0, fix_1, rix_1, true_and, and_true]
    rw [paT, List.length_cons, List.length_append] at hl
    have it : iv (q0 0 (274 + 510 * v + 150 + 36 * a + 6 + j)) = t := by rw [et]; exact nI_clamp (by omega)
    -- one test behind its sign
    have go : ∀ ch : Int32, (∃ c : Nat, c < 128 ∧ ch = nI c) → ch = (if j = 0 then (63 : Int32) else if iv (q0 0 (274 + 510 * v + 150 + 36 * a + 6 + j - 1)) / 300000 = iv (q0 0 (274 + 510 * v + 150 + 36 * a + 6 + j)) / 300000 then 38 else 124) → ((pa40 r 199 ∧ ∃ c : Nat, c < 128 ∧ ch = nI c) ∧ (∀ (r54 : Nat → Int32) (q55 : Nat → Nat → Int32), (apP r q [ch] r54 q55) → ((pa40 r54 190 ∧ tix (nI t)) ∧ (∀ (r58 : Nat → Int32) (q59 : Nat → Nat → Int32), (apP r54 q55 (teL (iv (nI t))) r58 q59) → (∀ v61 : Int32, v61 = nI j + 1 → (wp_X11_write_130 P f (nI (274 + 510 * v + 150 + 36 * a)) v61 r58 q59)))))) := by
      intro ch hcc hch
      refine ⟨⟨hp.mn (by omega), hcc⟩, fun r54 q55 h54 => ?_⟩
      have p54 := h54.p40 hp (by omega)
      refine ⟨⟨p54.mn (by show 100 - _ + 1 ≤ 190; omega), ⟨t, by omega, rfl⟩⟩, fun r58 q59 h58 v61 e61 => ?_⟩
      rw [nI_1] at e61
      subst e61
      rw [show iv (nI t) = t from nI_clamp (by omega)] at h58
      have hl2 : (paT (q0 0) (274 + 510 * v + 150 + 36 * a) (k + 1) j).length = 1 + ((teL t).length + (paT (q0 0) (274 + 510 * v + 150 + 36 * a) k (j + 1)).length) := by rw [paT, List.length_cons, List.length_append, it]; omega
      rw [it] at hl
      have h1 := h54.tr h58 hp (by show 100 - _ + 1 < _; omega)
      refine ih (j + 1) f r58 q59 (by omega) (by omega) ((h1.2.1 0 (by decide)).trans hq) ((h1.p40 hp (by omega)).mn ?_) (by omega) (fun r1 q1 h2 => hP r1 q1 ?_)
      · rw [hl2, List.length_append, show [ch].length = 1 from rfl]; omega
      · have h3 := h1.tr h2 hp (by rw [List.length_append, show [ch].length = 1 from rfl]; omega)
        rw [it] at hch
        rw [paT, it, ← hch]
        simpa only [List.append_assoc, List.cons_append, List.nil_append] using h3
    refine ⟨by omega, fun z9 => absurd z9 (by omega), fun _ => ⟨by omega, fun v40 e40 => ?_⟩⟩
    subst e40
    have w194 : ∀ s0 : Int32, (¬ j = 0 → (s0 = 0 → ¬ iv (q0 0 (274 + 510 * v + 150 + 36 * a + 6 + j - 1)) / 300000 = iv (q0 0 (274 + 510 * v + 150 + 36 * a + 6 + j)) / 300000) ∧ (¬ s0 = 0 → iv (q0 0 (274 + 510 * v + 150 + 36 * a + 6 + j - 1)) / 300000 = iv (q0 0 (274 + 510 * v + 150 + 36 * a + 6 + j)) / 300000)) → wp_X11_write_194 (fun (y71 : Int32) (y72 : Int32) (r73 : Nat → Int32) (q74 : Nat → Nat → Int32) => wp_X11_write_130 P f y71 y72 r73 q74) P (nI (274 + 510 * v + 150 + 36 * a)) (nI j) (nI t) s0 r q := by
      intro s0 hs
      unfold wp_X11_write_194
      rw [nz_eq0 (by omega)]
      refine ⟨fun z9 => ⟨fun z8 => ?_, fun z8 => ?_⟩, fun z9 => ?_⟩
      · exact go 124 ⟨124, by decide, rfl⟩ (by rw [if_neg z9, if_neg ((hs z9).1 z8)])
      · exact go 38 ⟨38, by decide, rfl⟩ (by rw [if_neg z9, if_pos ((hs z9).2 z8)])
      · exact go 63 ⟨63, by decide, rfl⟩ (by rw [if_pos z9])
    refine ⟨fun z9 => w194 0 (fun z8 => absurd (by omega) z8), fun z9 => ⟨by omega, ?_⟩⟩
    obtain ⟨t1, ht1, et1⟩ := hA7 (j - 1) (by omega)
    have ej : 274 + 510 * v + 150 + 36 * a + 6 + (j - 1) = 274 + 510 * v + 150 + 36 * a + 6 + j - 1 := by omega
    rw [ej] at et1
    have it1 : iv (q0 0 (274 + 510 * v + 150 + 36 * a + 6 + j - 1)) = t1 := by rw [et1]; exact nI_clamp (by omega)
    rw [et1]
    have hD : ∀ x : Nat, x ≤ 9999999 → nI x / nI 300000 = nI (x / 300000) := fun x hx => pk_div (by omega) (by decide) (by decide)
    have hb : ∀ x : Nat, x ≤ 9999999 → x / 300000 < 2 ^ 31 := fun x hx => Nat.lt_of_le_of_lt (Nat.div_le_self _ _) (by omega)
    rw [hD t1 ht1, hD t ht, nI_eq (hb t1 ht1) (hb t ht)]
    refine ⟨fun z8 => w194 0 (fun _ => ⟨fun _ => by rw [it1, it]; exact z8, fun z7 => absurd rfl z7⟩), fun z8 => w194 1 (fun _ => ⟨fun z7 => absurd z7 (by decide), fun _ => by rw [it1, it]; exact z8⟩)⟩
theorem kd_X11_write (l : Launch) (D : va_G) (T : Nat → ClassId) (m0 : Nat) (a : Nat → Nat) (p0 : Int32) (p1 : Int32) (r : Nat → Int32) (q : Nat → Nat → Int32) (h : WF (q 0) ∧ WFP (q 0)) : RMi l yX11_write (ws_X11_write) rm_X11_write D T m0 a [.ref m0, .int p0, .int p1] r q (fun v u => (kR r u.1 (40 :: SC) ∧ kQ q u.2 [12] ∧ u.1 6 = wrC (q 0) p0 p1 ∧ (¬ wrC (q 0) p0 p1 = 0 → u.1 40 = r 40 ∧ u.2 = q) ∧ (wrC (q 0) p0 p1 = 0 → v = u.1 40 ∧ u.1 40 = nI (paF (q 0) (274 + 510 * iv p0 + 150 + 36 * iv p1) (iv p1)).length ∧ ∀ j x, (paF (q 0) (274 + 510 * iv p0 + 150 + 36 * iv p1) (iv p1))[j]? = some x → u.2 12 j = x))) := c_X11_write l D T m0 a p0 p1 r q _ <|
  (by
    obtain ⟨hw, hwp⟩ := h
    unfold wp_X11_write
    have bad : ∀ c : Int32, ¬ c ≤ 0 → wrC (q 0) p0 p1 = c → wp_X11_write_41 (fun v u => kR r u.1 (40 :: SC) ∧ kQ q u.2 [12] ∧ u.1 6 = wrC (q 0) p0 p1 ∧ (¬ wrC (q 0) p0 p1 = 0 → u.1 40 = r 40 ∧ u.2 = q) ∧ (wrC (q 0) p0 p1 = 0 → v = u.1 40 ∧ u.1 40 = nI (paF (q 0) (274 + 510 * iv p0 + 150 + 36 * iv p1) (iv p1)).length ∧ ∀ j x, (paF (q 0) (274 + 510 * iv p0 + 150 + 36 * iv p1) (iv p1))[j]? = some x → u.2 12 j = x)) p0 p1 c r q := by
      intro c hc he
      unfold wp_X11_write_41
      refine code_p hc ⟨kR.rf.up (by decide) _, kQ.rf, ?_, fun _ => ⟨by dsimp only; exact va_up_ne _ _ (by decide), rfl⟩, fun z9 => ?_⟩
      · dsimp only
        rw [va_up_self, he]
      · rw [he] at z9; rw [z9] at hc; exact absurd (by decide) hc
    refine ⟨fun z9 => ⟨fun z8 => bad 2 (by decide) (by unfold wrC; rw [if_neg z9, if_pos z8]), fun z8 => ?_⟩, fun z9 => bad 1 (by decide) (by unfold wrC; rw [if_pos z9])⟩
    obtain ⟨v, n, hv, hn6, e0, rfl⟩ := vers_ix hw z9
    obtain ⟨a, ha, rfl⟩ := zin_n (m := 9) (by decide) z8
    have ev : iv (nI v) = v := nI_clamp (by omega)
    have ea : iv (nI a) = a := nI_clamp (by omega)
    have hpa : vp_in (274 + 510 * nI v + 150 + 36 * nI a) 3334 = (274 + 510 * v + 150 + 36 * a < 3334) := by simp (disch := omega) only [li_2, li_3, li_4, li_5, li_6, li_7, li_8, li_9, li_10, li_12, li_14, li_20, li_26, li_30, li_31, li_36, li_38, li_47, li_48, li_50, li_57, li_58, li_80, li_98, li_99, li_100, li_102, li_104, li_105, li_108, li_109, li_110, li_114, li_115, li_119, li_122, li_137, li_146, li_147, li_148, li_149, li_150, li_200, li_255, li_256, li_274, li_510, li_512, li_640, li_999, li_1000, li_1024, li_3334, li_5000, li_9999, li_10000, li_23338, li_26672, li_30000, li_99999, li_150000, li_300000, pk_mul, nI_add, pk_sub, nI_clamp, nI_1, nI_p1, nI_a0, nI_0a, nI_m0, nI_m1, cl_0, cl_1, z01, z11, nI_leI, nI_ltI, nI_eq, nz_lt0, nz_le, nz_eq0, nz_pos, nz_le0, nz_eq1, nz_lt1, nz_ge1, nz_le1, nz_gt1, nz_vp, nz_vp0, nz_vp1, six_nI, vix_nI, bix_nI, pix_nI, fix_nI, gix_nI, rix_nI, zix_nI, pix_0, pix_1, bix_0, fix_0, fix_1, rix_1, true_and, and_true]
    have hia : Int32.toNatClampNeg (274 + 510 * nI v + 150 + 36 * nI a) = 274 + 510 * v + 150 + 36 * a := by simp (disch := omega) only [li_2, li_3, li_4, li_5, li_6, li_7, li_8, li_9, li_10, li_12, li_14, li_20, li_26, li_30, li_31, li_36, li_38, li_47, li_48, li_50, li_57, li_58, li_80, li_98, li_99, li_100, li_102, li_104, li_105, li_108, li_109, li_110, li_114, li_115, li_119, li_122, li_137, li_146, li_147, li_148, li_149, li_150, li_200, li_255, li_256, li_274, li_510, li_512, li_640, li_999, li_1000, li_1024, li_3334, li_5000, li_9999, li_10000, li_23338, li_26672, li_30000, li_99999, li_150000, li_300000, pk_mul, nI_add, pk_sub, nI_clamp, nI_1, nI_p1, nI_a0, nI_0a, nI_m0, nI_m1, cl_0, cl_1, z01, z11, nI_leI, nI_ltI, nI_eq, nz_lt0, nz_le, nz_eq0, nz_pos, nz_le0, nz_eq1, nz_lt1, nz_ge1, nz_le1, nz_gt1, nz_vp, nz_vp0, nz_vp1, six_nI, vix_nI, bix_nI, pix_nI, fix_nI, gix_nI, rix_nI, zix_nI, pix_0, pix_1, bix_0, fix_0, fix_1, rix_1, true_and, and_true]
    rw [hpa, hia]
    refine ⟨by omega, fun z7 => ?_, fun z7 => bad 2 (by decide) (by unfold wrC; rw [if_neg z9, if_neg z8, ev, ea, if_pos z7])⟩
    have hC : wrC (q 0) (nI v) (nI a) = 0 := by unfold wrC; rw [if_neg z9, if_neg z8, ev, ea, if_neg z7]
    rw [ev, ea]
    obtain ⟨hA1, ⟨num, hnum, enum⟩, ⟨kd, hkd, ekd⟩, hA4, ⟨c, hc, ec⟩, hA6, hA7, hA8, hA9⟩ := hw.acc (v := v) (a := a) (by omega) (by omega)
    have ic : iv (q 0 (274 + 510 * v + 150 + 36 * a + 4)) = c := by rw [ec]; exact nI_clamp (by omega)
    have inum : iv (q 0 (274 + 510 * v + 150 + 36 * a + 1)) = num := by rw [enum]; exact nI_clamp (by omega)
    have hlen := hwp v (by omega) a (by omega)
    rw [ic] at hlen
    unfold wp_X11_write_41
    refine code_0 ?_
    intro v5 e5
    have e5' : v5 = nI (274 + 510 * v + 150 + 36 * a) := by rw [e5]; simp (disch := omega) only [li_2, li_3, li_4, li_5, li_6, li_7, li_8, li_9, li_10, li_12, li_14, li_20, li_26, li_30, li_31, li_36, li_38, li_47, li_48, li_50, li_57, li_58, li_80, li_98, li_99, li_100, li_102, li_104, li_105, li_108, li_109, li_110, li_114, li_115, li_119, li_122, li_137, li_146, li_147, li_148, li_149, li_150, li_200, li_255, li_256, li_274, li_510, li_512, li_640, li_999, li_1000, li_1024, li_3334, li_5000, li_9999, li_10000, li_23338, li_26672, li_30000, li_99999, li_150000, li_300000, pk_mul, nI_add, pk_sub, nI_clamp, nI_1, nI_p1, nI_a0, nI_0a, nI_m0, nI_m1, cl_0, cl_1, z01, z11]
    clear e5
    subst e5'
    intro r6 e6
    have p6 : pa40 r6 0 := ⟨0, Nat.le_refl _, by rw [e6, va_up_self]; rfl⟩
    have i6 : iv (r6 40) = 0 := by rw [e6, va_up_self]; rfl
    have k6 : kR r r6 (40 :: SC) := by rw [e6]; exact (kR.rf.up (by decide) _).up (by decide) _
    refine ⟨⟨p6.mn (by decide), ⟨97, by decide, rfl⟩⟩, fun r8 q9 h8 => ?_⟩
    have p8 : pa40 r8 1 := h8.p40 p6 (by decide)
    refine ⟨⟨p8.mn (by decide), ⟨a, by omega, rfl⟩⟩, fun r12 q13 h12 => ?_⟩
    rw [show iv (nI a) = a from ea] at h12
    have la := nuL_len a
    have h12' := h8.tr h12 p6 (by show 0 + 1 < _; decide)
    have p12 : pa40 r12 5 := (h12'.p40 p6 (by decide)).mn (by rw [List.length_append, show ([97] : List Int32).length = 1 from rfl]; omega)
    refine ⟨⟨p12.mn (by decide), ⟨58, by decide, rfl⟩⟩, fun r16 q17 h16 => ?_⟩
    have p16 : pa40 r16 6 := h16.p40 p12 (by decide)
    have h16' := h12'.tr h16 p6 (by rw [List.length_append, show ([97] : List Int32).length = 1 from rfl]; omega)
    have q17e : q17 0 = q 0 := h16'.2.1 0 (by decide)
    simp (disch := omega) only [li_2, li_3, li_4, li_5, li_6, li_7, li_8, li_9, li_10, li_12, li_14, li_20, li_26, li_30, li_31, li_36, li_38, li_47, li_48, li_50, li_57, li_58, li_80, li_98, li_99, li_100, li_102, li_104, li_105, li_108, li_109, li_110, li_114, li_115, li_119, li_122, li_137, li_146, li_147, li_148, li_149, li_150, li_200, li_255, li_256, li_274, li_510, li_512, li_640, li_999, li_1000, li_1024, li_3334, li_5000, li_9999, li_10000, li_23338, li_26672, li_30000, li_99999, li_150000, li_300000, pk_mul, nI_add, pk_sub, nI_clamp, nI_1, nI_p1, nI_a0, nI_0a, nI_m0, nI_m1, cl_0, cl_1, z01, z11, nI_leI, nI_ltI, nI_eq, nz_lt0, nz_le, nz_eq0, nz_pos, nz_le0, nz_eq1, nz_lt1, nz_ge1, nz_le1, nz_gt1, nz_vp, nz_vp0, nz_vp1, six_nI, vix_nI, bix_nI, pix_nI, fix_nI, gix_nI, rix_nI, zix_nI, pix_0, pix_1, bix_0, fix_0, fix_1, rix_1, true_and, and_true]
    rw [q17e, enum, show iv (nI num) = num from nI_clamp (by omega)]
    refine ⟨by omega, ⟨p16.mn (by decide), ⟨num, by omega, rfl⟩⟩, fun r21 q22 h21 => ?_⟩
    have ln := nuL_len num
    have p21 : pa40 r21 10 := (h21.p40 p16 (by decide)).mn (by omega)
    have h21' := h16'.tr h21 p6 (by simp only [List.length_append, List.length_cons, List.length_nil]; omega)
    have q22e : q22 0 = q 0 := h21'.2.1 0 (by decide)
    -- what is left
    have rest : ∀ (KL : List Int32) (r1 : Nat → Int32) (q1 : Nat → Nat → Int32), KL = (if q 0 (274 + 510 * v + 150 + 36 * a + 2) = 0 then [] else [if q 0 (274 + 510 * v + 150 + 36 * a + 2) = 1 then (42 : Int32) else 37]) → KL.length ≤ 1 → apP r21 q22 KL r1 q1 → ∃ k85 : Nat, wp_X11_write_130 (fun vr u => kR r u.1 (40 :: SC) ∧ kQ q u.2 [12] ∧ u.1 6 = wrC (q 0) (nI v) (nI a) ∧ (¬ wrC (q 0) (nI v) (nI a) = 0 → u.1 40 = r 40 ∧ u.2 = q) ∧ (wrC (q 0) (nI v) (nI a) = 0 → vr = u.1 40 ∧ u.1 40 = nI (paF (q 0) (274 + 510 * v + 150 + 36 * a) a).length ∧ ∀ j x, (paF (q 0) (274 + 510 * v + 150 + 36 * a) a)[j]? = some x → u.2 12 j = x)) k85 (nI (274 + 510 * v + 150 + 36 * a)) 0 r1 q1 := by
      intro KL r1 q1 hKL hK1 h1
      refine ⟨100, rl_wr (q0 := q) hw (by omega) (by omega) ec hc c 0 100 r1 q1 (by omega) (by omega) ((h1.2.1 0 (by decide)).trans q22e) ?_ hlen (fun r2 q2 h2 => ?_)⟩
      · exact (h1.p40 p21 (by decide)).mn (by omega)
      · have h1' := h21'.tr h1 p6 (by simp only [List.length_append, List.length_cons, List.length_nil]; omega)
        have h2' := h1'.tr h2 p6 (by simp only [List.length_append, List.length_cons, List.length_nil]; omega)
        have e9 : ((((([97] ++ nuL a) ++ [58]) ++ nuL num) ++ KL) ++ (paT (q 0) (274 + 510 * v + 150 + 36 * a) c 0 ++ (if q 0 (274 + 510 * v + 150 + 36 * a + 5) < 0 then [] else 33 :: nuL (iv (q 0 (274 + 510 * v + 150 + 36 * a + 5)))))) = paF (q 0) (274 + 510 * v + 150 + 36 * a) a := by
          unfold paF
          rw [inum, ic, hKL]
          simp only [List.append_assoc, List.cons_append, List.nil_append]
        rw [e9] at h2'
        obtain ⟨a1, a2, a3, a4, a5⟩ := h2'
        rw [i6, Nat.zero_add] at a3
        refine ⟨k6.tr a1 (fun _ h => h) (by decide), a2, ?_, fun z6 => absurd hC z6, fun _ => ⟨rfl, a3, fun j x hx => ?_⟩⟩
        · dsimp only; rw [hC, a1 6 (by decide), e6, va_up_ne _ _ (by decide), va_up_self]
        · have := a5 j x hx
          rw [i6, Nat.zero_add] at this
          exact this
    rw [q22e, ekd]
    refine ⟨by omega, fun z6 => rest [] r21 q22 ?_ (by decide) (apP.nil p21 (by decide)), fun z6 => ⟨by omega, fun z5 => ⟨⟨p21.mn (by decide), ⟨37, by decide, rfl⟩⟩, fun r89 q90 h89 => rest [37] r89 q90 ?_ (by decide) h89⟩, fun z5 => ⟨⟨p21.mn (by decide), ⟨42, by decide, rfl⟩⟩, fun r94 q95 h94 => rest [42] r94 q95 ?_ (by decide) h94⟩⟩⟩
    · rw [nz_le0 (by omega)] at z6
      rw [ekd, if_pos (show nI kd = 0 by rw [show kd = 0 by omega]; rfl)]
    · rw [nz_le0 (by omega)] at z6
      rw [ekd, if_neg (fun z4 => z6 (by rw [nz_eq0 (by omega)] at z4; omega)), if_neg z5]
    · rw [ekd, z5]; rfl)

theorem up_up {f : Nat → Int32} {k : Nat} {x y : Int32} : upd (upd f k x) k y = upd f k y := by
  funext j
  by_cases e : j = k
  · subst e; rw [pk_us, pk_us]
  · rw [pk_un e, pk_un e, pk_un e]
theorem up_id {f : Nat → Int32} {k : Nat} : upd f k (f k) = f := by
  funext j
  by_cases e : j = k
  · subst e; rw [pk_us]
  · rw [pk_un e]
theorem low_tb' {p : Nat} (h : p < 1024) (h0 : 0 < p) : p.testBit (lowN p) = true := low_tb h (by omega)
theorem lp_eq {T T' B B' C C' : Nat → Int32} {p : Nat} (hp : p < 1024) (h0 : 0 < p) (hT : ∀ g, 0 < g → sub g p → T g = T' g) (hB : ∀ d, d < p → sub d p → B d = B' d ∧ C d = C' d) (h1 : 0 ≤ T (2 ^ lowN p)) : ∀ (m g : Nat) (x y : X3), g + m = p + 1 → 0 < g → (x = y ∨ (x.1 = -1 ∧ y.1 = -1 ∧ g ≤ 2 ^ lowN p)) → lpF T B C p m g x = lpF T' B' C' p m g y := by
  have hl := low_tb' hp h0
  have hs : sub (2 ^ lowN p) p := sub_tb.mpr fun i hi => by
    rw [Nat.testBit_two_pow] at hi
    rw [← of_decide_eq_true hi]
    exact hl
  have hle := sub_le hs
  intro m
  induction m with
  | zero =>
    intro g x y hg hg0 h
    rcases h with h | ⟨_, _, h⟩
    · rw [h]; rfl
    · omega
  | succ m ih =>
    intro g x y hg hg0 h
    rw [lpF, lpF]
    refine ih (g + 1) _ _ (by omega) (by omega) ?_
    by_cases hv : g &&& p = g ∧ g.testBit (lowN p) = true ∧ 0 ≤ T g
    · have eT := hT g hg0 hv.1
      have hd : dif p g < p := dif_lt hl hv.2.1
      obtain ⟨eB, eC⟩ := hB (dif p g) hd (sub_dif p g)
      left
      have hv' : g &&& p = g ∧ g.testBit (lowN p) = true ∧ 0 ≤ T' g := by rw [← eT]; exact hv
      unfold lpS
      rw [if_pos hv, if_pos hv', ← eT, ← eB, ← eC]
      rcases h with h | ⟨hx, hy, _⟩
      · rw [h]
      · rw [if_pos (Or.inl (by rw [hx]; decide)), if_pos (Or.inl (by rw [hy]; decide))]
    · have eS : lpS T B C p g x = x := by unfold lpS; rw [if_neg hv]
      have eS' : lpS T' B' C' p g y = y := by
        unfold lpS
        rw [if_neg]
        rintro ⟨w1, w2, w3⟩
        exact hv ⟨w1, w2, by rw [hT g hg0 w1]; exact w3⟩
      rw [eS, eS']
      rcases h with h | ⟨hx, hy, hg2⟩
      · exact Or.inl h
      · refine Or.inr ⟨hx, hy, ?_⟩
        rcases Nat.lt_or_ge g (2 ^ lowN p) with q9 | q9
        · exact q9
        · have e : g = 2 ^ lowN p := by omega
          subst e
          exact absurd ⟨hs, by rw [Nat.testBit_two_pow]; exact decide_eq_true rfl, h1⟩ hv
theorem dp_eq {T T' : Nat → Int32} {n : Nat} (hn : n < 1024) (hT : ∀ g, 0 < g → sub g n → T g = T' g) (h1 : ∀ s, n.testBit s = true → 0 ≤ T (2 ^ s)) (t t' : T3) : ∀ k p, p ≤ k → sub p n → (dpK T n t k).1 p = (dpK T' n t' k).1 p ∧ (dpK T n t k).2.1 p = (dpK T' n t' k).2.1 p ∧ (0 < p → (dpK T n t k).2.2 p = (dpK T' n t' k).2.2 p) := by
  intro k
  induction k with
  | zero =>
    intro p hp hs
    have e : p = 0 := by omega
    subst e
    refine ⟨?_, ?_, fun z9 => absurd z9 (by decide)⟩
    · rw [dpK, dpK]; dsimp only; exact pk_us.trans pk_us.symm
    · rw [dpK, dpK]; dsimp only; exact pk_us.trans pk_us.symm
  | succ k ih =>
    intro p hp hs
    rw [dpK, dpK]
    by_cases c : (k + 1) &&& n = k + 1
    · rw [if_pos c, if_pos c]
      unfold dpU
      dsimp only
      have hk : k + 1 < 1024 := Nat.lt_of_le_of_lt (sub_le c) hn
      have hlow := low_tb' hk (by omega)
      have hX : dpX T (dpK T n t k) (k + 1) = dpX T' (dpK T' n t' k) (k + 1) := by
        unfold dpX
        refine lp_eq hk (by omega) (fun g hg hgs => hT g hg (sub_tr hgs c)) (fun d hd hds => ?_) (h1 _ (sub_tb.mp c _ hlow)) (k + 1) 1 _ _ (by omega) (by decide) (Or.inr ⟨rfl, rfl, Nat.two_pow_pos _⟩)
        have := ih d (by omega) (sub_tr hds c)
        exact ⟨this.1, this.2.1⟩
      rw [hX]
      by_cases e : p = k + 1
      · subst e
        exact ⟨pk_us.trans pk_us.symm, pk_us.trans pk_us.symm, fun _ => pk_us.trans pk_us.symm⟩
      · rw [pk_un e, pk_un e, pk_un e, pk_un e, pk_un e, pk_un e]
        exact ih p (by omega) hs
    · rw [if_neg c, if_neg c]
      have e : p ≠ k + 1 := fun e => c (by rw [← e]; exact hs)
      exact ih p (by omega) hs
theorem rl_lp {P : RST → Prop} {r : Nat → Int32} {T B C F : Nat → Int32} {p : Nat} (hp : p < 1024) (h0 : 0 < p) : ∀ (m g fuel : Nat) (x : X3) (q : Nat → Nat → Int32), g + m = p + 1 → m < fuel → 0 < g → q 7 = T → q 8 = upd B p x.1 → q 9 = upd C p x.2.1 → q 10 = upd F p x.2.2 → (∀ q1, kQ q q1 [8, 9, 10] → q1 8 = upd B p (lpF T B C p m g x).1 → q1 9 = upd C p (lpF T B C p m g x).2.1 → q1 10 = upd F p (lpF T B C p m g x).2.2 → P (r, q1)) → wp_X11_layPart_14 P fuel (nI p) (nI (2 ^ lowN p)) (nI g) r q := by
  intro m
  induction m with
  | zero =>
    intro g fuel x q hg hf hg0 h7 h8 h9 h10 hP
    obtain ⟨f, rfl⟩ : ∃ f, fuel = f + 1 := ⟨fuel - 1, by omega⟩; rw [wp_X11_layPart_14]; unfold wb_X11_layPart_14; dsimp only
    rw [nI_ltI (by omega) (by omega)]
    exact ⟨fun _ => hP q kQ.rf h8 h9 h10, fun z9 => absurd (by omega) z9⟩
  | succ m ih =>
    intro g fuel x q hg hf hg0 h7 h8 h9 h10 hP
    have hlow := low_tb' hp h0
    have hlw : 2 ^ lowN p ≤ p := by
      have hs : sub (2 ^ lowN p) p := sub_tb.mpr fun i hi => by
        rw [Nat.testBit_two_pow] at hi
        rw [← of_decide_eq_true hi]
        exact hlow
      exact sub_le hs
    rw [lpF] at hP
    obtain ⟨f, rfl⟩ : ∃ f, fuel = f + 1 := ⟨fuel - 1, by omega⟩; rw [wp_X11_layPart_14]; unfold wb_X11_layPart_14; dsimp only
    rw [nI_ltI (by omega) (by omega), nI_dif, nI_dif, nI_and]
    have hgp : g &&& 2 ^ lowN p < 2 ^ 31 := Nat.lt_of_le_of_lt Nat.and_le_left (by omega)
    have hdg : dif g p < 2 ^ 31 := Nat.lt_of_le_of_lt (sub_le (sub_dif g p)) (by omega)
    have hdp : dif p g ≤ p := sub_le (sub_dif p g)
    rw [nz_eq0 hdg, nz_eq0 hgp, dif_0, pw_and, nz_vp (by omega) (by decide), nz_vp (by omega) (by decide), nz_vp (by omega) (by decide), nI_clamp (n := g) (by omega), nI_clamp (n := p) (by omega), nI_clamp (n := dif p g) (by omega), nI_1]
    -- the next group, nothing taken
    have next : lpS T B C p g x = x → ∀ v : Int32, v = nI (g + 1) → wp_X11_layPart_14 P f (nI p) (nI (2 ^ lowN p)) v r q := fun hx v e => by
      subst e
      rw [hx] at hP
      exact ih (g + 1) f x q (by omega) (by omega) (by omega) h7 h8 h9 h10 hP
    refine ⟨fun z9 => absurd z9 (by omega), fun _ => ⟨fun c1 => next (by unfold lpS; rw [if_neg (fun w9 => c1 w9.1)]), fun c1 => ⟨fun c2 => next (by unfold lpS; rw [if_neg (fun w9 => by rw [c2] at w9; exact absurd w9.2.1 (by decide))]), fun c2 => ⟨by omega, fun c3 => next (by unfold lpS; rw [if_neg (fun w9 => by rw [h7] at c3; exact absurd c3 (Int32.not_lt.mpr w9.2.2))]), fun c3 => ⟨by omega, by omega, fun v14 e14 => ⟨by omega, fun v16 e16 => ⟨by omega, ?_⟩⟩⟩⟩⟩⟩⟩
    have ct : g.testBit (lowN p) = true := by
      cases h : g.testBit (lowN p) with
      | true => rfl
      | false => exact absurd h c2
    rw [h7] at c3
    have hval : g &&& p = g ∧ g.testBit (lowN p) = true ∧ 0 ≤ T g := ⟨c1, ct, Int32.not_lt.mp c3⟩
    have hd : dif p g < p := dif_lt hlow ct
    have ed8 : q 8 (dif p g) = B (dif p g) := by rw [h8, pk_un (by omega)]
    have ed9 : q 9 (dif p g) = C (dif p g) := by rw [h9, pk_un (by omega)]
    rw [h7, ed8] at e14
    rw [ed9] at e16
    have ex8 : q 8 p = x.1 := by rw [h8, pk_us]
    have ex9 : q 9 p = x.2.1 := by rw [h9, pk_us]
    rw [ex8, ex9]
    have hS : lpS T B C p g x = if x.1 < 0 ∨ v14 < x.1 ∨ (v14 = x.1 ∧ v16 < x.2.1) then (v14, v16, nI g) else x := by
      unfold lpS
      rw [if_pos hval, ← e14, ← e16]
    -- it is taken
    have take : (x.1 < 0 ∨ v14 < x.1 ∨ (v14 = x.1 ∧ v16 < x.2.1)) → (∀ q20 : Nat → Nat → Int32, q20 = va_up q 8 (upd (q 8) p v14) → (p < 1024 ∧ (∀ q22 : Nat → Nat → Int32, q22 = va_up q20 9 (upd (q20 9) p v16) → (p < 1024 ∧ (∀ q24 : Nat → Nat → Int32, q24 = va_up q22 10 (upd (q22 10) p (nI g)) → (∀ v25 : Int32, v25 = nI (g + 1) → (wp_X11_layPart_14 P f (nI p) (nI (2 ^ lowN p)) v25 r q24))))))) := by
      intro hc q20 e20
      refine ⟨by omega, fun q22 e22 => ⟨by omega, fun q24 e24 v25 e25 => ?_⟩⟩
      subst e25
      have k24 : kQ q q24 [8, 9, 10] := by rw [e24, e22, e20]; exact ((kQ.rf.up (by decide) _).up (by decide) _).up (by decide) _
      rw [if_pos hc] at hS
      rw [hS] at hP
      refine ih (g + 1) f (v14, v16, nI g) q24 (by omega) (by omega) (by omega) ((k24 7 (by decide)).trans h7) ?_ ?_ ?_ (fun q1 g1 g2 g3 g4 => hP q1 (k24.tr g1 (fun _ h => h) (fun _ h => h)) g2 g3 g4)
      · rw [e24, va_up_ne _ _ (by decide), e22, va_up_ne _ _ (by decide), e20, va_up_self, h8, up_up]
      · rw [e24, va_up_ne _ _ (by decide), e22, va_up_self, e20, va_up_ne _ _ (by decide), h9, up_up]
      · rw [e24, va_up_self, e22, va_up_ne _ _ (by decide), e20, va_up_ne _ _ (by decide), h10, up_up]
    refine ⟨fun c4 => ⟨by omega, take (Or.inl c4)⟩, fun c4 => ⟨by omega, fun c5 => ⟨by omega, take (Or.inr (Or.inl c5))⟩, fun c5 => ⟨by omega, fun c6 => next ?_, fun c6 => ⟨by omega, fun c7 => next ?_, fun c7 => ⟨by omega, take (Or.inr (Or.inr ⟨c6, Int32.not_le.mp c7⟩))⟩⟩⟩⟩⟩
    · rw [hS, if_neg]
      rintro (w9 | w9 | w9)
      · exact c4 w9
      · exact c5 w9
      · exact c6 w9.1
    · rw [hS, if_neg]
      rintro (w9 | w9 | w9)
      · exact c4 w9
      · exact c5 w9
      · exact absurd w9.2 (Int32.not_lt.mpr c7)
theorem kd_X11_layPart (l : Launch) (D : va_G) (T : Nat → ClassId) (m0 : Nat) (a : Nat → Nat) (p0 : Int32) (r : Nat → Int32) (q : Nat → Nat → Int32) (h : ∃ p : Nat, p < 1024 ∧ 0 < p ∧ p0 = nI p) : RMv l yX11_layPart (ws_X11_layPart) rm_X11_layPart D T m0 a [.ref m0, .int p0] r q (fun u => (u.1 = r ∧ kQ q u.2 [8, 9, 10] ∧ u.2 8 = upd (q 8) (iv p0) (dpX (q 7) (q 8, q 9, q 10) (iv p0)).1 ∧ u.2 9 = upd (q 9) (iv p0) (dpX (q 7) (q 8, q 9, q 10) (iv p0)).2.1 ∧ u.2 10 = upd (q 10) (iv p0) (dpX (q 7) (q 8, q 9, q 10) (iv p0)).2.2)) := c_X11_layPart l D T m0 a p0 r q _ <|
  (by
    obtain ⟨p, hp, h0, rfl⟩ := h
    have ip : iv (nI p) = p := nI_clamp (by omega)
    rw [ip]
    unfold wp_X11_layPart
    intro v1 e1
    rw [low_bit hp h0] at e1
    subst e1
    rw [nz_vp (by omega) (by decide), nI_clamp (n := p) (by omega)]
    refine ⟨hp, fun q3 e3 => ⟨2000, ?_⟩⟩
    refine rl_lp (T := q 7) (B := q 8) (C := q 9) (F := q 10) hp h0 p 1 2000 (-1, q 9 p, q 10 p) q3 (by omega) (by omega) (by decide) ?_ ?_ ?_ ?_ (fun q1 g1 g2 g3 g4 => ?_)
    · rw [e3, va_up_ne _ _ (by decide)]
    · rw [e3, va_up_self]
    · rw [e3, va_up_ne _ _ (by decide)]; exact up_id.symm
    · rw [e3, va_up_ne _ _ (by decide)]; exact up_id.symm
    · have k3 : kQ q q3 [8, 9, 10] := by rw [e3]; exact kQ.rf.up (by decide) _
      exact ⟨rfl, k3.tr g1 (fun _ h => h) (fun _ h => h), g2, g3, g4⟩)
theorem rl_lb {P : RST → Prop} {r : Nat → Int32} {T : Nat → Int32} {n : Nat} {t : T3} (hn : n < 1024) (h0 : 0 < n) : ∀ (m k fuel : Nat) (q : Nat → Nat → Int32), k + m = n → m < fuel → q 7 = T → q 8 = (dpK T n t k).1 → q 9 = (dpK T n t k).2.1 → q 10 = (dpK T n t k).2.2 → (∀ q1, kQ q q1 [8, 9, 10] → q1 8 = (dpK T n t n).1 → q1 9 = (dpK T n t n).2.1 → q1 10 = (dpK T n t n).2.2 → P (r, q1)) → wp_X11_layBest_21 P fuel (nI n) (nI (k + 1)) r q := by
  intro m
  induction m with
  | zero =>
    intro k fuel q hk hf h7 h8 h9 h10 hP
    have e : k = n := by omega
    subst e
    obtain ⟨f, rfl⟩ : ∃ f, fuel = f + 1 := ⟨fuel - 1, by omega⟩; rw [wp_X11_layBest_21]; unfold wb_X11_layBest_21; dsimp only
    rw [nI_ltI (by omega) (by omega)]
    exact ⟨fun _ => hP q kQ.rf h8 h9 h10, fun z9 => absurd (by omega) z9⟩
  | succ m ih =>
    intro k fuel q hk hf h7 h8 h9 h10 hP
    obtain ⟨f, rfl⟩ : ∃ f, fuel = f + 1 := ⟨fuel - 1, by omega⟩; rw [wp_X11_layBest_21]; unfold wb_X11_layBest_21; dsimp only
    rw [nI_ltI (by omega) (by omega), nI_dif, nz_eq0 (Nat.lt_of_le_of_lt (sub_le (sub_dif (k + 1) n)) (by omega)), dif_0, nI_1]
    refine ⟨fun z9 => absurd z9 (by omega), fun _ => ⟨fun c1 v11 e11 => ?_, fun c1 => ⟨⟨k + 1, by omega, by omega, rfl⟩, fun r13 q14 hh v15 e15 => ?_⟩⟩⟩
    · subst e11
      have e : dpK T n t (k + 1) = dpK T n t k := by rw [dpK, if_neg (show ¬ ((k + 1) &&& n = k + 1) from c1)]
      rw [← e] at h8 h9 h10
      exact ih (k + 1) f q (by omega) (by omega) h7 h8 h9 h10 hP
    · subst e15
      obtain ⟨a1, a2, a3, a4, a5⟩ := hh
      subst a1
      have ik : iv (nI (k + 1)) = k + 1 := nI_clamp (by omega)
      rw [ik, h7, h8, h9, h10] at a3 a4 a5
      have e : dpK T n t (k + 1) = dpU T (dpK T n t k) (k + 1) := by rw [dpK, if_pos (show (k + 1) &&& n = k + 1 from c1)]
      exact ih (k + 1) f q14 (by omega) (by omega) ((a2 7 (by decide)).trans h7) (by rw [e]; exact a3) (by rw [e]; exact a4) (by rw [e]; exact a5) (fun q1 g1 g2 g3 g4 => hP q1 (a2.tr g1 (fun _ h => h) (fun _ h => h)) g2 g3 g4)
theorem kd_X11_layBest (l : Launch) (D : va_G) (T : Nat → ClassId) (m0 : Nat) (a : Nat → Nat) (p0 : Int32) (r : Nat → Int32) (q : Nat → Nat → Int32) (h : WF (q 0) ∧ gok (q 0) p0 ∧ sgO (q 0) (iv p0)) : RMv l yX11_layBest (ws_X11_layBest) rm_X11_layBest D T m0 a [.ref m0, .int p0] r q (fun u => (lbP r q (iv p0) u.1 u.2)) := c_X11_layBest l D T m0 a p0 r q _ <|
  (by
    obtain ⟨hw, ⟨n, ns, hns, hns10, h0, hlt, rfl⟩, hsg⟩ := h
    have hn : n < 1024 := Nat.lt_of_lt_of_le hlt (p2_le hns10)
    have en : iv (nI n) = n := nI_clamp (by omega)
    rw [en] at hsg
    rw [en]
    unfold wp_X11_layBest
    refine ⟨⟨hw, n, ns, hns, hns10, h0, hlt, rfl⟩, fun r2 q3 hh => ?_⟩
    obtain ⟨a1, a2, a3⟩ := hh
    rw [en] at a3
    rw [cl_0, nz_vp0 (by decide)]
    refine ⟨by decide, fun q6 e6 => ⟨by decide, fun q8 e8 => ⟨2000, ?_⟩⟩⟩
    have k8 : kQ q3 q8 [8, 9, 10] := by rw [e8, e6]; exact (kQ.rf.up (by decide) _).up (by decide) _
    refine rl_lb (T := q3 7) (t := (q3 8, q3 9, q3 10)) hn h0 n 0 2000 q8 (by omega) (by omega) (k8 7 (by decide)) ?_ ?_ ?_ (fun q1 g1 g2 g3 g4 => ?_)
    · rw [e8, va_up_ne _ _ (by decide), e6, va_up_self]; rfl
    · rw [e8, va_up_self, e6, va_up_ne _ _ (by decide)]; rfl
    · rw [e8, va_up_ne _ _ (by decide), e6, va_up_ne _ _ (by decide)]; rfl
    · have k1 := k8.tr g1 (L := [8, 9, 10]) (fun _ h => h) (fun _ h => h)
      refine ⟨a1.tr k1 (by decide) (by decide), a2, fun p hp hs => by dsimp only; rw [show q1 7 = q3 7 from k1 7 (by decide)]; exact a3 p hp hs, fun p hs => ?_⟩
      dsimp only
      rw [g2, g3, g4]
      exact dp_eq hn (fun g hg hgs => a3 g hg hgs) (fun s hs => by rw [a3 _ (Nat.two_pow_pos s) (sub_tb.mpr fun i hi => by rw [Nat.testBit_two_pow] at hi; rw [← of_decide_eq_true hi]; exact hs)]; exact hsg s hs) _ _ n p (sub_le hs) hs)

/-- a small number -/
def bn (x : Int32) (B : Nat) : Prop := ∃ n : Nat, n ≤ B ∧ x = nI n
theorem bn.mn {x : Int32} {A B : Nat} (h : bn x A) (hb : A ≤ B) : bn x B := by
  obtain ⟨n, hn, e⟩ := h
  exact ⟨n, by omega, e⟩
theorem bn.z {B : Nat} : bn 0 B := ⟨0, Nat.zero_le _, rfl⟩
theorem bn.add {x y : Int32} {A B : Nat} (h : bn x A) (h2 : bn y B) : bn (x + y) (A + B) := by
  obtain ⟨n, hn, rfl⟩ := h
  obtain ⟨m, hm, rfl⟩ := h2
  exact ⟨n + m, by omega, nI_add n m⟩
theorem bn.mul {x y : Int32} {A B : Nat} (h : bn x A) (h2 : bn y B) : bn (x * y) (A * B) := by
  obtain ⟨n, hn, rfl⟩ := h
  obtain ⟨m, hm, rfl⟩ := h2
  exact ⟨n * m, Nat.mul_le_mul hn hm, pk_mul n m⟩
theorem bn.mx {x y : Int32} {A : Nat} (h : bn x A) (h2 : bn y A) : bn (mxF x y) A := by
  unfold mxF
  split
  · exact h2
  · exact h
theorem pct_n {a p : Nat} (ha : a < 2 ^ 31) (hp : p ≤ 100) : pctF (nI a) (nI p) = nI ((a * p + 50) / 100) := by
  have hap : a * p ≤ a * 100 := Nat.mul_le_mul_left a hp
  have hI : ((a * p : Nat) : Int) = (a : Int) * (p : Int) := Int.natCast_mul a p
  have hq : (a * p + 50) / 100 < 2 ^ 31 := by omega
  have e1 : (Int32.toInt64 (nI a) * Int32.toInt64 (nI p)).toInt = ((a * p : Nat) : Int) := by
    rw [Int64.toInt_mul, Int32.toInt_toInt64, Int32.toInt_toInt64, nI_toInt ha, nI_toInt (by omega), ← hI]
    exact Int.bmod_eq_of_le (by omega) (by omega)
  have e2 : (Int32.toInt64 (nI a) * Int32.toInt64 (nI p) + 50).toInt = ((a * p : Nat) : Int) + 50 := by
    rw [Int64.toInt_add, e1, show (50 : Int64).toInt = 50 from by decide]
    exact Int.bmod_eq_of_le (by omega) (by omega)
  have e3 : ((Int32.toInt64 (nI a) * Int32.toInt64 (nI p) + 50) / 100).toInt = (((a * p + 50) / 100 : Nat) : Int) := by
    rw [Int64.toInt_div_of_ne_right _ _ (by decide), e2, show (100 : Int64).toInt = 100 from by decide, Int.tdiv_eq_ediv_of_nonneg (by omega)]
    omega
  unfold pctF
  apply Int32.toInt_inj.mp
  rw [Int64.toInt_toInt32, e3, nI_toInt hq]
  exact Int.bmod_eq_of_le (by omega) (by omega)
theorem bn.pct {x p : Int32} {A : Nat} (h : bn x A) (h2 : bn p 100) (hA : A < 2 ^ 31) : bn (pctF x p) A := by
  obtain ⟨n, hn, rfl⟩ := h
  obtain ⟨m, hm, rfl⟩ := h2
  have : n * m ≤ n * 100 := Nat.mul_le_mul_left n hm
  exact ⟨_, by omega, pct_n (by omega) hm⟩
theorem realF_bn {μ : Nat → Int32} (hw : WF μ) {s : Nat} (hs : s < 10) : bn (realF μ s) 4995 := by
  obtain ⟨c, hc, ec⟩ := hw.pcs hs
  have : ∀ k p n B, p + k ≤ 5 → bn n B → bn (realFold μ s k p n) (B + 999 * k) := by
    intro k
    induction k with
    | zero => intro p n B _ h; exact h
    | succ k ih =>
      intro p n B hp h
      have := ((hw.s hs).2.2.2.2.1 p (by omega)).2
      exact (ih (p + 1) _ _ (by omega) (h.add this)).mn (by omega)
  unfold realF
  rw [ec, show iv (nI c) = c from nI_clamp (by omega)]
  exact (this c 0 0 0 (by omega) bn.z).mn (by omega)
theorem volF_bn {μ : Nat → Int32} (hw : WF μ) {s p : Nat} (hs : s < 10) (hp : p < 5) : bn (volF μ s p) 8000000 := by
  have h := ((hw.s hs).2.2.2.2.1 p hp).1
  have h0 := h 0 (by decide)
  have h1 := h 1 (by decide)
  have h2 := h 2 (by decide)
  exact (bn.mul (bn.mul (A := 200) (B := 200) h0 h1) (B := 200) h2).mn (by decide)
theorem dimF_bn {μ : Nat → Int32} (hw : WF μ) {s d : Nat} (hs : s < 10) (hd : 1000 ≤ d) (hd2 : d ≤ 9999) : bn (dimF μ s (nI d)) 40005 := by
  obtain ⟨c, hc, ec⟩ := hw.pcs hs
  have : ∀ k p n B, p + k ≤ 5 → bn n B → bn (dimFold μ s (nI d) k p n) (B + 8001 * k) := by
    intro k
    induction k with
    | zero => intro p n B _ h; exact h
    | succ k ih =>
      intro p n B hp h
      obtain ⟨v, hv, ev⟩ := volF_bn hw hs (p := p) (by omega)
      have e9 : (volF μ s p + nI d - 1) / nI d = nI ((v + d - 1) / d) := by
        rw [ev, nI_add, nI_p1 (by omega), pk_div (by omega) (by omega) (by omega)]
      have l9 : (v + d - 1) / d < 8002 := (Nat.div_lt_iff_lt_mul (by omega)).mpr (by omega)
      have := ih (p + 1) (n + (volF μ s p + nI d - 1) / nI d) (B + 8001) (by omega) (h.add (by rw [e9]; exact ⟨_, by omega, rfl⟩))
      exact this.mn (by omega)
  unfold dimF
  rw [ec, show iv (nI c) = c from nI_clamp (by omega)]
  exact (this c 0 0 0 (by omega) bn.z).mn (by omega)
theorem pop_ge {g : Nat} : ∀ k s c, c ≤ popFold g k s c := by
  intro k
  induction k with
  | zero => intro s c; exact Nat.le_refl _
  | succ k ih =>
    intro s c
    rw [popFold]
    split
    · have := ih (s + 1) (c + 1); omega
    · exact ih (s + 1) c
theorem pop_add {g : Nat} : ∀ k j s c, popFold g (k + j) s c = popFold g j (s + k) (popFold g k s c) := by
  intro k
  induction k with
  | zero => intro j s c; rw [Nat.zero_add]; rfl
  | succ k ih =>
    intro j s c
    rw [show k + 1 + j = (k + j) + 1 by omega, popFold, popFold, ih, show s + 1 + k = s + (k + 1) by omega]
theorem pop_ns {g ns : Nat} (h : ns ≤ 10) : popFold g ns 0 0 ≤ popN g := by
  unfold popN
  have := pop_add (g := g) ns (10 - ns) 0 0
  rw [show ns + (10 - ns) = 10 by omega] at this
  rw [this]
  exact pop_ge _ _ _
theorem pop_1 {g : Nat} (h : g < 1024) (h0 : 0 < g) : 1 ≤ popN g ∧ popN g ≤ 10 := by
  have : ∀ g : Nat, g < 1024 → 0 < g → 1 ≤ popN g ∧ popN g ≤ 10 := by decide +kernel
  exact this g h h0
theorem gw_bn {μ : Nat → Int32} (hw : WF μ) {g d : Nat} (hd : 1000 ≤ d) (hd2 : d ≤ 9999) : ∀ (k s c : Nat) (a b e f h : Int32), s + k ≤ 10 → bn a (40005 * c) → bn b (40005 * c) → bn (gwF μ g (nI d) k s a b e f h).1 (40005 * popFold g k s c) ∧ bn (gwF μ g (nI d) k s a b e f h).2.1 (40005 * popFold g k s c) := by
  intro k
  induction k with
  | zero => intro s c a b e f h _ h1 h2; exact ⟨h1, h2⟩
  | succ k ih =>
    intro s c a b e f h hs h1 h2
    rw [gwF, popFold]
    split
    · exact ih (s + 1) (c + 1) _ _ _ _ _ (by omega) ((h1.add ((realF_bn hw (by omega)).mn (by decide : 4995 ≤ 40005))).mn (by omega)) ((h2.add (dimF_bn hw (by omega) hd hd2)).mn (by omega))
    · exact ih (s + 1) c _ _ _ _ _ (by omega) h1 h2
theorem wt_bn {μ : Nat → Int32} (hw : WF μ) {v g : Nat} {x : Int32} (hv : vok μ x) (hx : x = nI v) (h6 : v < 6) : bn (wtF μ v g) (40005 * popN g) := by
  obtain ⟨n, j, hn, hn6, hj, e⟩ := hv
  have ej : j = v := by rw [hx] at e; exact ((nI_eq (by omega) (by omega)).mp e).symm
  subst ej
  obtain ⟨d, hd1, hd2, ed⟩ := hw.div hn hn6 hj
  obtain ⟨ns, hns, ens⟩ := hw.2.1
  have h := gw_bn hw hd1 hd2 (g := g) ns 0 0 0 0 0 0 0 (by omega) bn.z bn.z
  have hp := pop_ns (g := g) hns
  unfold wtF gwt
  rw [ed, ens, show iv (nI ns) = ns from nI_clamp (by omega)]
  exact bn.mx (h.1.mn (Nat.mul_le_mul_left _ hp)) (h.2.mn (Nat.mul_le_mul_left _ hp))
theorem base_bn {μ : Nat → Int32} (hw : WF μ) {v z : Nat} {w : Int32} {W : Nat} (hv : v < 6) (h1 : 1 ≤ z) (h9 : z ≤ 9) (hW : bn w W) (hW9 : 9999 ≤ W) : bn (baseF μ v z w) (99 * W) := by
  have hz := (hw.v hv).2.1 z h1 h9
  have hb := hz.2.2 (chpF μ v z w) (chpF_lt hw hv h1 h9)
  have ha : bn (amtF μ v z (chpF μ v z w) w) (99 * W) := by
    unfold amtF
    refine (bn.mul (A := W) (B := 99) ?_ hb.2).mn (by omega)
    split
    · exact bn.mn (A := 9999) hb.1 hW9
    · exact hW
  unfold baseF
  split
  · exact bn.mn (A := 9999) hz.2.1 (by omega)
  · exact ha
theorem ex_bn {μ : Nat → Int32} (hw : WF μ) {v : Nat} {w p l h z b : Int32} {W : Nat} (hv : v < 6) (hW : bn w W) (hb : bn b (99 * W)) (hW9 : 9999 ≤ W) (hW2 : 99 * W < 2 ^ 31) : ∀ (k a : Nat) (o m c : Int32) (A : Nat), a + k ≤ 10 → bn m A → bn (exF μ v w p l h z b k a o m c).1 (A + 99 * W * k) := by
  intro k
  induction k with
  | zero => intro a o m c A _ h; exact h
  | succ k ih =>
    intro a o m c A ha hm
    rw [exF]
    split
    · obtain ⟨hA1, hA2, hA3, hA4, hA5, hA6, hA7, hA8, hA9⟩ := hw.acc hv (a := a) (by omega)
      have e9 : 99 * W * (k + 1) = 99 * W + 99 * W * k := by rw [Nat.mul_succ, Nat.add_comm]
      rw [e9, ← Nat.add_assoc]
      refine ih (a + 1) _ _ _ _ (by omega) (hm.add ?_)
      split
      · exact bn.mn (A := 9999) hA2 (by omega)
      split
      · rename_i c9
        exact bn.mul (A := 99) (hA8 c9) hW
      · obtain ⟨kd, hkd, ekd⟩ := hA3
        rename_i c1 c2
        have hk2 : μ (274 + 510 * v + 150 + 36 * a + 2) = 2 := by
          rw [ekd] at c1 c2 ⊢
          rcases (by omega : kd = 0 ∨ kd = 1 ∨ kd = 2) with h | h | h
          · subst h; exact absurd rfl c1
          · subst h; exact absurd rfl c2
          · subst h; rfl
        exact hb.pct (bn.mn (A := 50) (hA9 hk2) (by decide)) hW2
    · exact (ih (a + 1) o m c A (by omega) hm).mn (by rw [Nat.mul_succ]; omega)
theorem tot_bn {μ : Nat → Int32} (hw : WF μ) {g : Nat} (hg : gok μ (nI g)) (hg2 : g < 1024) (h0 : (rsnD μ g).1 = 0) : bn (totF μ g) (100000000 * popN g) := by
  obtain ⟨hvk, ⟨z, hz1, hz9, ez⟩, hbr⟩ := rsn0 hw hg hg2 h0
  obtain ⟨v, hv, ev⟩ := hvk.x
  have iev : iv (gvF μ g) = v := by rw [ev]; exact nI_clamp (by omega)
  have iez : iv (gzF μ g) = z := by rw [ez]; exact nI_clamp (by omega)
  have hg0 : 0 < g := by
    rcases Nat.eq_zero_or_pos g with q9 | q9
    · subst q9; exact absurd rfl hg.gix.2
    · exact q9
  obtain ⟨hp1, hp10⟩ := pop_1 hg2 hg0
  unfold totF
  rw [iev, iez]
  have hW := wt_bn hw (g := g) hvk ev hv
  have hB := base_bn hw hv hz1 hz9 hW (by omega)
  have hE := ex_bn hw (p := pcF μ v g) (l := lgF μ v g) (h := hdF μ v g) (z := nI z) hv hW hB (by omega) (by omega) 10 0 0 0 0 0 (by omega) bn.z
  have hS : bn (stF μ v g) (9999 * popN g) := by
    unfold stF
    rw [nI_p1 hp1]
    exact (bn.mul (A := 9999) (B := popN g - 1) (hw.v hv).2.2.2.2.2.1 ⟨_, Nat.le_refl _, rfl⟩).mn (Nat.mul_le_mul_left _ (Nat.sub_le _ _))
  have hF : bn (μ (274 + 510 * v + 147)) 100 := bn.mn (A := 99) (hw.v hv).2.2.2.2.1 (by decide)
  have h3 := (hB.add hE).add hS
  unfold toF fuF exAC
  refine (h3.add (h3.pct hF (by omega))).mn (by omega)
theorem rf_none {μ : Nat → Int32} {n : Nat} : ∀ k s, rfFold μ n k s = none → ∀ t, s ≤ t → t < s + k → n.testBit t = true → (rsnD μ (2 ^ t)).1 = 0 := by
  intro k
  induction k with
  | zero => intro s _ t h1 h2; omega
  | succ k ih =>
    intro s h t h1 h2 ht
    rw [rfFold] at h
    split at h
    · cases h
    · rename_i c
      rcases Nat.eq_or_lt_of_le h1 with e | e
      · subst e
        rcases Nat.eq_zero_or_pos (rsnD μ (2 ^ s)).1 with q9 | q9
        · exact q9
        · exact absurd ⟨ht, by omega⟩ c
      · exact ih (s + 1) h t (by omega) (by omega) ht
theorem tt_bn {μ : Nat → Int32} (hw : WF μ) {g : Nat} (hg : gok μ (nI g)) (hg2 : g < 1024) : ttF μ g = -1 ∨ bn (ttF μ g) (100000000 * popN g) := by
  unfold ttF
  split
  · rename_i c; exact Or.inr (tot_bn hw hg hg2 c)
  · exact Or.inl rfl
theorem sgO_of {μ : Nat → Int32} (hw : WF μ) {n : Nat} (hg : gok μ (nI n)) (hn : n < 1024) (h : rfF μ n = none) : sgO μ n := by
  intro s hs
  obtain ⟨m, ns, hns, hns10, h0, hlt, e⟩ := hg
  have em : m = n := ((nI_eq (by omega) (by have := p2_le hns10; omega)).mp e).symm
  subst em
  have hsn : s < ns := by
    rcases Nat.lt_or_ge s ns with q9 | q9
    · exact q9
    · have : m < 2 ^ s := Nat.lt_of_lt_of_le hlt (Nat.pow_le_pow_right (by decide) q9)
      rw [Nat.testBit_lt_two_pow this] at hs
      cases hs
  have h1 : (rsnD μ (2 ^ s)).1 = 0 := by
    unfold rfF at h
    rw [hns, show iv (nI ns) = ns from nI_clamp (by omega)] at h
    exact rf_none ns 0 h s (Nat.zero_le _) (by omega) hs
  have h2s : 2 ^ s < 1024 := Nat.lt_of_lt_of_le (Nat.pow_lt_pow_right (by decide) hsn) (p2_le hns10)
  obtain ⟨t, ht, et⟩ := tot_bn hw (gok.tb (n := 0) hns hns10 hsn) h2s h1
  unfold ttF
  rw [if_pos h1, et]
  have := (pop_1 h2s (Nat.two_pow_pos s)).2
  exact nI_pos' (by omega)

end S_DRAFT

section S_DRAFT
theorem rl_cond {P : Int32 → RST → Prop} {b : Nat → Int32} {n : Nat} : ∀ (k row fuel : Nat) (more : Int32) (r : Nat → Int32) (q : Nat → Nat → Int32), q 4 = b → iv (r 8) = n → n ≤ (pσ r).1 + k → k + 1 < fuel → psO r → ((pσ r).2 = false → tsO r) → row + k < 2 ^ 20 → more = (if (pσ r).2 = true then 0 else 1) → (∀ v r1 q1, cnQ (cnL b n k row (pσ r)) r q v r1 q1 → P v (r1, q1)) → wp_X11_readCondition_20 P fuel (nI row) more r q := by
  intro k
  induction k with
  | zero =>
    intro row fuel more r q hb hn hle hf hp hO hrow hm hP
    have t1 : ∀ c : Int32, ¬ c = -1 → tkB b n (pσ r) c = false := fun c hc => by
      cases h : tkB b n (pσ r) c with
      | false => rfl
      | true => have := (tkB_gd hc h).2.1; omega
    obtain ⟨f, rfl⟩ : ∃ f, fuel = f + 1 := ⟨fuel - 1, by omega⟩; rw [wp_X11_readCondition_20]; unfold wb_X11_readCondition_20; dsimp only
    have fin : ∀ r1 : Nat → Int32, kR r r1 [10] → psO r1 → pσ r1 = pσ r → P (nI row + 1) (r1, q) := fun r1 h1 h2 h3 => hP _ _ _ ⟨h1.mn (by decide), kQ.rf, h2, by rw [h3]; rfl, fun z => ⟨fun _ _ => rfl, (hO (by rw [← h3]; exact z)).tk (h1 15 (by decide)) (by rw [h3]; exact Nat.le_refl _), by rw [h1 15 (by decide)]; obtain ⟨t0, ht0, et0⟩ := hO (by rw [← h3]; exact z); rw [et0]; have : iv (r 10) = (pσ r).1 := rfl; have := ps_1 hp; rw [show iv (nI t0) = t0 from nI_clamp (by omega)]; rfl, nI_1 _, tsK.nil⟩⟩
    refine ⟨fun c => fin r kR.rf hp rfl, fun c => ?_⟩
    have hg : (pσ r).2 = false := by
      cases hs : (pσ r).2 with
      | false => rfl
      | true => rw [hm, hs] at c; exact absurd rfl c
    refine ⟨⟨hp, by decide⟩, fun v7 r8 q9 hh => ?_⟩
    obtain ⟨a1, a2, a3, a4, a5⟩ := hh
    subst a2
    rw [hb, hn, t1 38 (by decide)] at a1
    rw [hb, hn, tkS_no (t1 38 (by decide))] at a5
    refine ⟨fun z => absurd a1 z, fun _ => ⟨⟨a4, by decide⟩, fun v29 r30 q31 hh => ?_⟩⟩
    obtain ⟨d1, d2, d3, d4, d5⟩ := hh
    subst d2
    rw [hb, a3 8 (by decide), hn, a5, t1 124 (by decide)] at d1
    rw [hb, a3 8 (by decide), hn, a5, tkS_no (t1 124 (by decide))] at d5
    refine ⟨fun _ => ?_, fun z => absurd d1 z⟩
    unfold wp_X11_readCondition_62
    intro v12 e12
    refine ⟨fun z => absurd a1 z, fun _ => ⟨fun _ => ?_, fun z => absurd rfl z⟩⟩
    obtain ⟨f, rfl⟩ : ∃ g, f = g + 1 := ⟨f - 1, by omega⟩
    rw [wp_X11_readCondition_20]; unfold wb_X11_readCondition_20; dsimp only
    rw [e12, Int32.add_zero]
    exact ⟨fun _ => fin r30 (a3.tr d3 (fun _ h => h) (fun _ h => h)) d4 d5, fun z => absurd rfl z⟩
  | succ k ih =>
    intro row fuel more r q hb hn hle hf hp hO hrow hm hP
    obtain ⟨p1, p2, p3⟩ := ps_1 hp
    obtain ⟨f, rfl⟩ : ∃ f, fuel = f + 1 := ⟨fuel - 1, by omega⟩; rw [wp_X11_readCondition_20]; unfold wb_X11_readCondition_20; dsimp only
    have fin : (cnL b n (k + 1) row (pσ r) = ([], row, pσ r)) → ∀ r1 : Nat → Int32, kR r r1 [10] → psO r1 → pσ r1 = pσ r → P (nI row + 1) (r1, q) := fun hc r1 h1 h2 h3 => hP _ _ _ (by
      rw [hc]
      exact ⟨h1.mn (by decide), kQ.rf, h2, h3, fun z => ⟨fun _ _ => rfl, (hO (by rw [← h3]; exact z)).tk (h1 15 (by decide)) (by rw [h3]; exact Nat.le_refl _), by rw [h1 15 (by decide)]; obtain ⟨t0, ht0, et0⟩ := hO (by rw [← h3]; exact z); rw [et0]; have : iv (r 10) = (pσ r).1 := rfl; rw [show iv (nI t0) = t0 from nI_clamp (by omega)]; rfl, nI_1 _, tsK.nil⟩⟩)
    refine ⟨fun c => fin (cnL_bad (by
      cases hs : (pσ r).2 with
      | true => rfl
      | false => rw [hm, hs] at c; exact absurd c (by decide))) r kR.rf hp rfl, fun c => ?_⟩
    have hg : (pσ r).2 = false := by
      cases hs : (pσ r).2 with
      | false => rfl
      | true => rw [hm, hs] at c; exact absurd rfl c
    -- a test behind a sign
    have go : ∀ (row1 : Nat) (r8 : Nat → Int32) (c : Int32), ¬ c = -1 → tkB b n (pσ r) c = true → kR r r8 [10] → psO r8 → pσ r8 = tkS b n (pσ r) c → row1 + k < 2 ^ 20 → (cnL b n (k + 1) row (pσ r) = ((row1, (tsR b n (tkS b n (pσ r) c)).1) :: (cnL b n k row1 (tsR b n (tkS b n (pσ r) c)).2).1, (cnL b n k row1 (tsR b n (tkS b n (pσ r) c)).2).2)) → (psO r8 ∧ tsO r8) ∧ (∀ (r15 : Nat → Int32) (q16 : Nat → Nat → Int32), (tsP r8 q (nI row1) r15 q16) → ((¬ (r15 11) = 0 → (wp_X11_readCondition_20 P f (nI row1) 0 r15 q16)) ∧ ((r15 11) = 0 → (wp_X11_readCondition_20 P f (nI row1) 1 r15 q16)))) := by
      intro row1 r8 c hc ht h8 hp8 hσ hr1 hcn
      obtain ⟨g1, g2, g3⟩ := tkB_gd hc ht
      have e88 : iv (r8 8) = n := by rw [h8 8 (by decide)]; exact hn
      have h1 : (pσ r8).1 = (pσ r).1 + 1 := by rw [hσ, g3]
      have hO8 : tsO r8 := (hO hg).tk (h8 15 (by decide)) (by omega)
      refine ⟨⟨hp8, hO8⟩, fun r15 q16 hts => ?_⟩
      have hts0 := hts
      obtain ⟨a1, a2, a3, a4, a5, a6⟩ := hts
      have hok := tsR_ok (b := q 4) (n := iv (r8 8)) (σ := pσ r8) (ps_1 hp8).1
      rw [hb, e88] at a4
      rw [hb, e88] at hok
      have e15 : iv (r15 8) = n := by rw [a1 8 (by decide)]; exact e88
      have mb := pb_of a3.2.2
      have all : wp_X11_readCondition_20 P f (nI row1) (if (pσ r15).2 = true then 0 else 1) r15 q16 := by
        refine ih row1 f _ r15 q16 (by rw [a2 4 (by decide)]; exact hb) e15 (by rw [a4]; omega) (by omega) a3 (fun z => (a6 z).1) (by omega) rfl (fun v r1 q1 hq => hP v r1 q1 ?_)
        have hgo : (pσ r1).2 = false → (pσ r15).2 = false := fun zz => cnL_gd k row1 _ (by rw [← hq.2.2.2.1]; exact zz)
        have w9 := cnQ.cons (t := cnL b n k row1 (pσ r15)) hb e88 (by have := ps_1 hp8; omega) h8 hO8 rfl hts0 hgo hq
        rw [hcn, ← hσ, ← a4]
        exact w9
      refine ⟨fun z => ?_, fun z => ?_⟩
      · have : (pσ r15).2 = true := by
          cases hs : (pσ r15).2 with
          | true => rfl
          | false => exact absurd (mb.mpr hs) z
        rw [this] at all
        exact all
      · rw [mb.mp z] at all
        exact all
    refine ⟨⟨hp, by decide⟩, fun v7 r8 q9 hh => ?_⟩
    obtain ⟨a1, a2, a3, a4, a5⟩ := hh
    subst a2
    rw [hb, hn] at a1 a5
    refine ⟨fun z => ?_, fun z => ?_⟩
    · have t38 : tkB b n (pσ r) 38 = true := by
        cases h : tkB b n (pσ r) 38 with
        | true => rfl
        | false => rw [h] at a1; exact absurd a1 z
      unfold wp_X11_readCondition_62
      intro v12 e12
      rw [Int32.add_zero] at e12
      subst e12
      exact ⟨fun _ => go row r8 38 (by decide) t38 a3 a4 a5 (by omega) (cnL_and t38), fun y => absurd y z⟩
    · have t38 : tkB b n (pσ r) 38 = false := (b2i_0 _).mp (a1.symm.trans z)
      rw [tkS_no t38] at a5
      refine ⟨⟨a4, by decide⟩, fun v29 r30 q31 hh => ?_⟩
      obtain ⟨d1, d2, d3, d4, d5⟩ := hh
      subst d2
      rw [hb, a3 8 (by decide), hn, a5] at d1 d5
      have k30 : kR r r30 [10] := a3.tr d3 (fun _ h => h) (fun _ h => h)
      refine ⟨fun y => ?_, fun y => ?_⟩
      · have t124 : tkB b n (pσ r) 124 = false := (b2i_0 _).mp (d1.symm.trans y)
        rw [tkS_no t124] at d5
        unfold wp_X11_readCondition_62
        intro v12 e12
        refine ⟨fun x => absurd z x, fun _ => ⟨fun _ => ?_, fun x => absurd rfl x⟩⟩
        obtain ⟨f, rfl⟩ : ∃ g, f = g + 1 := ⟨f - 1, by omega⟩
        rw [wp_X11_readCondition_20]; unfold wb_X11_readCondition_20; dsimp only
        rw [e12, Int32.add_zero]
        exact ⟨fun _ => fin (cnL_no t38 t124) r30 k30 d4 d5, fun x => absurd rfl x⟩
      · have t124 : tkB b n (pσ r) 124 = true := by
          cases h : tkB b n (pσ r) 124 with
          | true => rfl
          | false => rw [h] at d1; exact absurd d1 y
        unfold wp_X11_readCondition_62
        intro v12 e12
        rw [nI_1] at e12
        subst e12
        exact ⟨fun x => absurd z x, fun _ => ⟨fun x => absurd x (by decide), fun _ => go (row + 1) r30 124 (by decide) t124 k30 d4 d5 (by omega) (cnL_or t38 t124)⟩⟩
theorem kd_X11_readCondition (l : Launch) (D : va_G) (T : Nat → ClassId) (m0 : Nat) (a : Nat → Nat)  (r : Nat → Int32) (q : Nat → Nat → Int32) (h : psO r ∧ tsO r) : RMi l yX11_readCondition (ws_X11_readCondition) rm_X11_readCondition D T m0 a [.ref m0] r q (fun v u => (cnQ (cnF (q 4) (iv (r 8)) (pσ r)) r q v u.1 u.2)) := c_X11_readCondition l D T m0 a  r q _ <|
  (by
    obtain ⟨hp, hO⟩ := h
    obtain ⟨p1, p2, p3⟩ := ps_1 hp
    unfold wp_X11_readCondition
    refine ⟨⟨hp, hO⟩, fun r2 q3 hts => ?_⟩
    have hts0 := hts
    obtain ⟨a1, a2, a3, a4, a5, a6⟩ := hts
    have mb := pb_of a3.2.2
    have e8 : iv (r2 8) = iv (r 8) := by rw [a1 8 (by decide)]
    have all : wp_X11_readCondition_20 (fun v u => cnQ (cnF (q 4) (iv (r 8)) (pσ r)) r q v u.1 u.2) 100 0 (if (pσ r2).2 = true then 0 else 1) r2 q3 := by
      refine rl_cond (n := iv (r 8)) 80 0 100 _ r2 q3 (a2 4 (by decide)) e8 (by omega) (by omega) a3 (fun z => (a6 z).1) (by omega) rfl (fun v r1 q1 hq => ?_)
      unfold cnF
      rw [← a4]
      have hgo : (pσ r1).2 = false → (pσ r2).2 = false := fun zz => cnL_gd 80 0 _ (by rw [← hq.2.2.2.1]; exact zz)
      exact cnQ.cons (t := cnL (q 4) (iv (r 8)) 80 0 (pσ r2)) rfl rfl (by omega) kR.rf hO rfl hts0 hgo hq
    refine ⟨fun z => ⟨100, ?_⟩, fun z => ⟨100, ?_⟩⟩
    · have : (pσ r2).2 = true := by
        cases hs : (pσ r2).2 with
        | true => rfl
        | false => exact absurd (mb.mpr hs) z
      rw [this] at all
      exact all
    · rw [mb.mp z] at all
      exact all)

theorem w_zo50 {P : RST → Prop} {r0 r : Nat → Int32} {q0 q : Nat → Nat → Int32} {s : Nat} {kd v : Int32} (hs : s + 8 ≤ 640) (hkd : kd = 122 ∨ kd = 98 ∨ kd = 109) (hP : ∀ r1 q1, zoP r0 q0 s kd r1 q1 → P (r1, q1)) (hk : kR r0 r [10, 11]) (hq : kQ q0 q [5]) (hp : psO r) (hσ : pσ r = (nbF (q0 4) (iv (r0 8)) (ndS (q0 4) (iv (r0 8)) (dgS (q0 4) (iv (r0 8)) (pσ r0) 1 9) 58)).2) (hG : (pσ r).2 = false → kS (q0 5) (q 5) s ∧ q 5 (s + 1) = dgV (q0 4) (iv (r0 8)) (pσ r0) 1 9 ∧ v = (nbF (q0 4) (iv (r0 8)) (ndS (q0 4) (iv (r0 8)) (dgS (q0 4) (iv (r0 8)) (pσ r0) 1 9) 58)).1) : wp_X11_readZone_50 P (nI s) kd v (nI s + 2) r q := by
  have e8 : iv (r 8) = iv (r0 8) := by rw [hk 8 (by decide)]
  have e4 : q 4 = q0 4 := hq 4 (by decide)
  have mb := pb_of hp.2.2
  unfold wp_X11_readZone_50
  simp (disch := omega) only [li_2, li_3, li_4, li_5, li_6, li_7, li_8, li_9, li_10, li_12, li_14, li_20, li_26, li_30, li_31, li_36, li_38, li_47, li_48, li_50, li_57, li_58, li_80, li_98, li_99, li_100, li_102, li_104, li_105, li_108, li_109, li_110, li_114, li_115, li_119, li_122, li_137, li_146, li_147, li_148, li_149, li_150, li_200, li_255, li_256, li_274, li_510, li_512, li_640, li_999, li_1000, li_1024, li_3334, li_5000, li_9999, li_10000, li_23338, li_26672, li_30000, li_99999, li_150000, li_300000, pk_mul, nI_add, pk_sub, nI_clamp, nI_1, nI_p1, nI_a0, nI_0a, nI_m0, nI_m1, cl_0, cl_1, z01, z11, nI_leI, nI_ltI, nI_eq, nz_lt0, nz_le, nz_eq0, nz_pos, nz_le0, nz_eq1, nz_lt1, nz_ge1, nz_le1, nz_gt1, nz_vp, nz_vp0, nz_vp1, six_nI, vix_nI, bix_nI, pix_nI, fix_nI, gix_nI, rix_nI, zix_nI, pix_0, pix_1, bix_0, fix_0, fix_1, rix_1, true_and, and_true]
  simp only [du_109, du_122, du_42, du_45]
  refine ⟨by omega, fun q14 e14 => ?_⟩
  have e44 : q14 4 = q0 4 := by rw [e14, va_up_ne _ _ (by decide)]; exact e4
  have k14 : kQ q0 q14 [5] := by rw [e14]; exact hq.up (by decide) _
  have G14 : (pσ r).2 = false → kS (q0 5) (q14 5) s ∧ q14 5 (s + 1) = dgV (q0 4) (iv (r0 8)) (pσ r0) 1 9 ∧ q14 5 (s + 2) = (nbF (q0 4) (iv (r0 8)) (ndS (q0 4) (iv (r0 8)) (dgS (q0 4) (iv (r0 8)) (pσ r0) 1 9) 58)).1 := fun z => by
    obtain ⟨g1, g2, g3⟩ := hG z
    rw [e14, va_up_self]
    exact ⟨g1.up (by omega) (by omega) _, by rw [pk_un (by omega)]; exact g2, by rw [pk_us]; exact g3⟩
  have k109 : (122 : Int32) = 109 ↔ False := by decide
  refine ⟨fun c => hP _ _ ?_, fun c => ⟨fun c2 => hP _ _ ?_, fun c2 => ?_⟩⟩
  · refine ⟨hk, k14, hp, by unfold zoR; rw [if_pos c]; exact hσ, fun z => ?_⟩
    obtain ⟨g1, g2, g3⟩ := G14 z
    unfold zoR
    rw [if_pos c]
    exact ⟨g1, g2, g3, fun y => absurd c y⟩
  · have hb := bd_of hp.2.2 c2
    refine ⟨hk, k14, hp, ?_, fun z => by rw [hb] at z; cases z⟩
    unfold zoR
    rw [if_neg c]
    dsimp only
    rw [← hσ, nd_bad hb, nb_bad hb]
  · have hR : (zoR (q0 4) (iv (r0 8)) kd (pσ r0)) = ((dgV (q0 4) (iv (r0 8)) (pσ r0) 1 9, (nbF (q0 4) (iv (r0 8)) (ndS (q0 4) (iv (r0 8)) (dgS (q0 4) (iv (r0 8)) (pσ r0) 1 9) 58)).1, (nbF (q0 4) (iv (r0 8)) (ndS (q0 4) (iv (r0 8)) (pσ r) (if kd = 122 then 45 else 42))).1), (nbF (q0 4) (iv (r0 8)) (ndS (q0 4) (iv (r0 8)) (pσ r) (if kd = 122 then 45 else 42))).2) := by
      unfold zoR
      rw [if_neg c, ← hσ]
    have hg := mb.mp c2
    have go : ∀ ch : Int32, ¬ ch = -1 → ch = (if kd = 122 then 45 else 42) → (psO r ∧ ¬ ch = -1) ∧ (∀ (r19 : Nat → Int32) (q20 : Nat → Nat → Int32), (q20 = q14 ∧ kR r r19 [10, 11] ∧ psO r19 ∧ pσ r19 = ndS (q14 4) (iv (r 8)) (pσ r) ch) → (((r19 11) = 0 → ((psO r19) ∧ (∀ (v23 : Int32) (r24 : Nat → Int32) (q25 : Nat → Nat → Int32), (v23 = (nbF (q20 4) (iv (r19 8)) (pσ r19)).1 ∧ q25 = q20 ∧ kR r19 r24 [10, 11] ∧ psO r24 ∧ pσ r24 = (nbF (q20 4) (iv (r19 8)) (pσ r19)).2) → (s + 3 < 640 ∧ (∀ q28 : Nat → Nat → Int32, q28 = va_up q25 5 (upd (q25 5) (s + 3) v23) → (P (r24, q28))))))) ∧ (¬ (r19 11) = 0 → (s + 3 < 640 ∧ (∀ q30 : Nat → Nat → Int32, q30 = va_up q20 5 (upd (q20 5) (s + 3) 0) → (P (r19, q30))))))) := by
      intro ch hc1 hc2
      refine ⟨⟨hp, hc1⟩, fun r19 q20 hh => ?_⟩
      obtain ⟨a2, a3, a4, a5⟩ := hh
      subst a2
      rw [e44, e8] at a5
      rw [← hc2] at hR
      have e198 : iv (r19 8) = iv (r0 8) := by rw [a3 8 (by decide)]; exact e8
      have k19 : kR r0 r19 [10, 11] := hk.tr a3 (fun _ h => h) (fun _ h => h)
      refine ⟨fun y => ⟨a4, fun v23 r24 q25 hh => ?_⟩, fun y => ⟨by omega, fun q30 e30 => hP _ _ ?_⟩⟩
      · obtain ⟨d1, d2, d3, d4, d5⟩ := hh
        subst d2
        rw [e44, e198, a5] at d1 d5
        refine ⟨by omega, fun q28 e28 => hP _ _ ?_⟩
        unfold zoP
        rw [hR]
        refine ⟨k19.tr d3 (fun _ h => h) (fun _ h => h), by rw [e28]; exact k14.up (by decide) _, d4, d5, fun z => ?_⟩
        obtain ⟨g1, g2, g3⟩ := G14 hg
        rw [e28, va_up_self]
        exact ⟨g1.up (by omega) (by omega) _, by rw [pk_un (by omega)]; exact g2, by rw [pk_un (by omega)]; exact g3, fun _ => by rw [pk_us]; exact d1⟩
      · have hb := bd_of a4.2.2 y
        unfold zoP
        rw [hR]
        refine ⟨k19, by rw [e30]; exact k14.up (by decide) _, a4, ?_, fun z => by rw [hb] at z; cases z⟩
        dsimp only
        rw [← a5, nb_bad hb]
    refine ⟨fun c3 => ?_, fun c3 => ?_⟩
    · exact go 42 (by decide) (by rw [if_neg c3])
    · exact go 45 (by decide) (by rw [if_pos c3])
theorem kd_X11_readZone (l : Launch) (D : va_G) (T : Nat → ClassId) (m0 : Nat) (a : Nat → Nat) (p0 : Int32) (p1 : Int32) (r : Nat → Int32) (q : Nat → Nat → Int32) (h : psO r ∧ s8 p0 ∧ (p1 = 122 ∨ p1 = 98 ∨ p1 = 109)) : RMv l yX11_readZone (ws_X11_readZone) rm_X11_readZone D T m0 a [.ref m0, .int p0, .int p1] r q (fun u => (zoP r q (iv p0) p1 u.1 u.2)) := c_X11_readZone l D T m0 a p0 p1 r q _ <|
  (by
    obtain ⟨hp, ⟨s, hs, e0⟩, hkd⟩ := h
    subst e0
    have es : iv (nI s) = s := nI_clamp (by omega)
    rw [es]
    unfold wp_X11_readZone
    refine ⟨⟨hp, dix19⟩, fun v1 r2 q3 hh => ?_⟩
    obtain ⟨a1, a2, a3, a4, a5⟩ := hh
    subst a2
    have mb := pb_of a4.2.2
    have e8 : iv (r2 8) = iv (r 8) := by rw [a3 8 (by decide)]
    rw [nI_1, nz_vp (by omega) (by decide), nI_clamp (n := s + 1) (by omega)]
    refine ⟨by omega, fun q6 e6 => ?_⟩
    have e64 : q6 4 = q3 4 := by rw [e6, va_up_ne _ _ (by decide)]
    have k6 : kQ q3 q6 [5] := by rw [e6]; exact kQ.rf.up (by decide) _
    have G6 : kS (q3 5) (q6 5) s ∧ q6 5 (s + 1) = dgV (q3 4) (iv (r 8)) (pσ r) 1 9 := by
      rw [e6, va_up_self]
      exact ⟨kS.rf.up (by omega) (by omega) _, by rw [pk_us]; exact a1⟩
    refine ⟨fun c => ⟨fun z => absurd z c, fun _ => ?_⟩, fun c => ⟨⟨a4, by decide⟩, fun r45 q46 hh => ?_⟩⟩
    · have hb := bd_of a4.2.2 c
      refine w_zo50 hs hkd (fun _ _ z => z) a3 k6 a4 ?_ (fun z => by rw [hb] at z; cases z)
      rw [← a5, nd_bad hb, nb_bad hb]
    · obtain ⟨d2, d3, d4, d5⟩ := hh
      subst d2
      rw [e64, e8] at d5
      have k45 : kR r r45 [10, 11] := a3.tr d3 (fun _ h => h) (fun _ h => h)
      have e458 : iv (r45 8) = iv (r 8) := by rw [k45 8 (by decide)]
      refine ⟨fun c2 => ⟨d4, fun v49 r50 q51 hh => ?_⟩, fun c2 => ?_⟩
      · obtain ⟨b1, b2, b3, b4, b5⟩ := hh
        subst b2
        rw [e64, e458] at b1 b5
        refine w_zo50 hs hkd (fun _ _ z => z) (k45.tr b3 (fun _ h => h) (fun _ h => h)) k6 b4 ?_ (fun _ => ⟨G6.1, G6.2, ?_⟩)
        · rw [← a5, ← d5]; exact b5
        · rw [← a5, ← d5]; exact b1
      · have hb := bd_of d4.2.2 c2
        refine w_zo50 hs hkd (fun _ _ z => z) k45 k6 d4 ?_ (fun z => by rw [hb] at z; cases z)
        rw [← a5, ← d5, nb_bad hb])

theorem tkS_bd {b : Nat → Int32} {n : Nat} {σ : PS} {c : Int32} : (tkS b n σ c).2 = σ.2 := by
  unfold tkS
  split
  · rfl
  · rfl
theorem dgS_bd {b : Nat → Int32} {n : Nat} {σ : PS} {lo hi : Int32} (h : (dgS b n σ lo hi).2 = false) : σ.2 = false := by
  unfold dgS at h
  split at h
  · exact h
  · cases h
theorem exX_gd {b : Nat → Int32} {n : Nat} {σ : PS} (h : (exX b n σ).2.2 = false) : σ.2 = false := by
  unfold exX at h
  split at h
  · have := dgS_bd h; rw [tkS_bd] at this; exact this
  · exact h
theorem exC_gd {b : Nat → Int32} {n : Nat} {σ : PS} (h : (exC b n σ).2.2 = false) : σ.2 = false := by
  unfold exC at h
  split at h
  · rename_i c; exact (tkB_gd (by decide) c).1
  · exact h
theorem exU_bd {b : Nat → Int32} {n : Nat} {σ : PS} : (exU b n σ).2.2 = σ.2 := by
  unfold exU
  split
  · exact tkS_bd
  split
  · exact tkS_bd
  · rfl
theorem tsO.vv {r : Nat → Int32} (h : tsO r) (hp : psO r) : r 15 = nI (iv (r 15)) ∧ iv (r 15) < 80 := by
  obtain ⟨t, ht, e⟩ := h
  obtain ⟨p1, p2, p3⟩ := ps_1 hp
  have : iv (r 10) = (pσ r).1 := rfl
  have et : iv (r 15) = t := by rw [e]; exact nI_clamp (by omega)
  rw [et]
  exact ⟨e, by omega⟩
theorem bx_of {v : Int32} {t : Bool} (h : v = b2i t) (c : ¬ v = 0) : t = true := by
  cases t with
  | true => rfl
  | false => exact absurd h c
theorem cnL_len {b : Nat → Int32} {n : Nat} : ∀ (k row : Nat) (σ : PS), (cnL b n k row σ).1.length ≤ k := by
  intro k
  induction k with
  | zero => intro row σ; exact Nat.le_refl _
  | succ k ih =>
    intro row σ
    rw [cnL]
    split
    · exact Nat.zero_le _
    split
    · exact Nat.succ_le_succ (ih _ _)
    split
    · exact Nat.succ_le_succ (ih _ _)
    · exact Nat.zero_le _
theorem exC_len {b : Nat → Int32} {n : Nat} {σ : PS} : (exC b n σ).1.1.length ≤ 81 := by
  unfold exC
  split
  · exact Nat.succ_le_succ (cnL_len _ _ _)
  · exact Nat.zero_le _
/-- the last piece: from the condition's end on -/
theorem w_ext {P : RST → Prop} {r0 r : Nat → Int32} {q0 q : Nat → Nat → Int32} {s n : Nat} {b : Nat → Int32} {σ : PS} {rows : Int32} (hs : s + 8 ≤ 640) (h15 : iv (r0 15) < 80) (hb : q0 4 = b) (hn : iv (r0 8) = n) (hσ0 : σ = (exU b n (exN b n (pσ r0)).2).2) (hP : ∀ r1 q1, exP r0 q0 s r1 q1 → P (r1, q1)) (hk : kR r0 r [10, 11, 15]) (hq : kQ q0 q [5, 6]) (hp : psO r) (hσ : pσ r = (exC b n σ).2) (hG : (pσ r).2 = false → kS (q0 5) (q 5) s ∧ (∀ i, i < iv (r0 15) → q 6 i = q0 6 i) ∧ tsO r ∧ q 5 (s + 1) = dgV b n (pσ r0) 0 9 ∧ q 5 (s + 2) = (exN b n (pσ r0)).1 ∧ q 5 (s + 3) = (exU b n (exN b n (pσ r0)).2).1 ∧ q 5 (s + 4) = r0 15 ∧ r0 15 = nI (iv (r0 15)) ∧ r 15 = nI (iv (r0 15) + (exC b n σ).1.1.length) ∧ rows = nI (exC b n σ).1.2 ∧ tsK (q 6) (iv (r0 15)) (exC b n σ).1.1) : (vp_in (nI s + 5) 640 ∧ (∀ q58 : Nat → Nat → Int32, q58 = va_up q 5 (upd (q 5) (iv (nI s + 5)) rows) → (vp_in (nI s + 6) 640 ∧ (∀ q60 : Nat → Nat → Int32, q60 = va_up q58 5 (upd (q58 5) (iv (nI s + 6)) (r 15)) → ((psO r ∧ ¬ (33 : Int32) = (-1)) ∧ (∀ (v61 : Int32) (r62 : Nat → Int32) (q63 : Nat → Nat → Int32), (v61 = b2i (tkB (q60 4) (iv (r 8)) (pσ r) 33) ∧ q63 = q60 ∧ kR r r62 [10] ∧ psO r62 ∧ pσ r62 = tkS (q60 4) (iv (r 8)) (pσ r) 33) → ((v61 = 0 → (vp_in (nI s + 7) 640 ∧ (∀ q67 : Nat → Nat → Int32, q67 = va_up q63 5 (upd (q63 5) (iv (nI s + 7)) (-1)) → (P (r62, q67))))) ∧ (¬ v61 = 0 → ((psO r62 ∧ dix 0 9) ∧ (∀ (v68 : Int32) (r69 : Nat → Int32) (q70 : Nat → Nat → Int32), (v68 = dgV (q63 4) (iv (r62 8)) (pσ r62) 0 9 ∧ q70 = q63 ∧ kR r62 r69 [10, 11] ∧ psO r69 ∧ pσ r69 = dgS (q63 4) (iv (r62 8)) (pσ r62) 0 9) → (vp_in (nI s + 7) 640 ∧ (∀ q73 : Nat → Nat → Int32, q73 = va_up q70 5 (upd (q70 5) (iv (nI s + 7)) v68) → (P (r69, q73)))))))))))))) := by
  have e8 : iv (r 8) = n := by rw [hk 8 (by decide)]; exact hn
  have e4 : q 4 = b := (hq 4 (by decide)).trans hb
  simp (disch := omega) only [li_2, li_3, li_4, li_5, li_6, li_7, li_8, li_9, li_10, li_12, li_14, li_20, li_26, li_30, li_31, li_36, li_38, li_47, li_48, li_50, li_57, li_58, li_80, li_98, li_99, li_100, li_102, li_104, li_105, li_108, li_109, li_110, li_114, li_115, li_119, li_122, li_137, li_146, li_147, li_148, li_149, li_150, li_200, li_255, li_256, li_274, li_510, li_512, li_640, li_999, li_1000, li_1024, li_3334, li_5000, li_9999, li_10000, li_23338, li_26672, li_30000, li_99999, li_150000, li_300000, pk_mul, nI_add, pk_sub, nI_clamp, nI_1, nI_p1, nI_a0, nI_0a, nI_m0, nI_m1, cl_0, cl_1, z01, z11, nI_leI, nI_ltI, nI_eq, nz_lt0, nz_le, nz_eq0, nz_pos, nz_le0, nz_eq1, nz_lt1, nz_ge1, nz_le1, nz_gt1, nz_vp, nz_vp0, nz_vp1, six_nI, vix_nI, bix_nI, pix_nI, fix_nI, gix_nI, rix_nI, zix_nI, pix_0, pix_1, bix_0, fix_0, fix_1, rix_1, true_and, and_true]
  simp only [du_33, du_9]
  refine ⟨by omega, fun q58 e58 => ⟨by omega, fun q60 e60 => ⟨⟨hp, by decide⟩, fun v61 r62 q63 hh => ?_⟩⟩⟩
  obtain ⟨a1, a2, a3, a4, a5⟩ := hh
  subst a2
  have e604 : q63 4 = b := by rw [e60, va_up_ne _ _ (by decide), e58, va_up_ne _ _ (by decide)]; exact e4
  have k60 : kQ q0 q63 [5, 6] := by rw [e60, e58]; exact (hq.up (by decide) _).up (by decide) _
  rw [e604, e8] at a1 a5
  have k62 : kR r0 r62 [10, 11, 15] := hk.tr a3 (fun _ h => h) (by decide)
  have e628 : iv (r62 8) = n := by rw [k62 8 (by decide)]; exact hn
  have c5 : q63 5 = upd (upd (q 5) (s + 5) rows) (s + 6) (r 15) := by rw [e60, va_up_self, e58, va_up_self]
  have c6 : q63 6 = q 6 := by rw [e60, va_up_ne _ _ (by decide), e58, va_up_ne _ _ (by decide)]
  -- both ends
  have fin : ∀ (x : Int32) (r1 : Nat → Int32) (q1 : Nat → Nat → Int32), q1 = va_up q63 5 (upd (q63 5) (s + 7) x) → kR r0 r1 [10, 11, 15] → kR r r1 [10, 11] → psO r1 → (pσ r).1 ≤ (pσ r1).1 → (x, pσ r1) = exX b n (pσ r) → P (r1, q1) := by
    intro x r1 q1 e1 k1 k2 p1 hle hx
    refine hP _ _ ?_
    have hR : exR (q0 4) (iv (r0 8)) (pσ r0) = (((97, dgV b n (pσ r0) 0 9, (exN b n (pσ r0)).1, (exU b n (exN b n (pσ r0)).2).1), (exC b n σ).1, x), pσ r1) := by
      unfold exR
      rw [hb, hn, ← hσ0, ← hσ, ← hx]
    unfold exP
    rw [hR]
    refine ⟨k1, by rw [e1]; exact k60.up (by decide) _, p1, rfl, fun z => ?_⟩
    have hgd : (pσ r).2 = false := exX_gd (b := b) (n := n) (by rw [← hx]; exact z)
    obtain ⟨g1, g2, g3, g4, g5, g6, g7, g8, g9, g10, g11⟩ := hG hgd
    have f15 : r1 15 = nI (iv (r0 15) + (exC b n σ).1.1.length) := (k2 15 (by decide)).trans g9
    have hO1 : tsO r1 := g3.tk (k2 15 (by decide)) hle
    have d6 : q1 6 = q 6 := by rw [e1, va_up_ne _ _ (by decide)]; exact c6
    have d5 : q1 5 = upd (upd (upd (q 5) (s + 5) rows) (s + 6) (r 15)) (s + 7) x := by rw [e1, va_up_self, c5]
    have hlen : iv (r1 15) = iv (r0 15) + (exC b n σ).1.1.length := by
      have := exC_len (b := b) (n := n) (σ := σ)
      rw [f15]
      exact nI_clamp (by omega)
    rw [hlen]
    refine ⟨?_, fun i hi => by rw [d6]; exact g2 i hi, hO1, by omega, ?_, ?_, ?_, iv (r0 15), Nat.le_refl _, ?_, ?_, ?_, ?_, ?_⟩
    · rw [d5]; exact ((g1.up (by omega) (by omega) _).up (by omega) (by omega) _).up (by omega) (by omega) _
    · rw [d5, pk_un (by omega), pk_un (by omega), pk_un (by omega)]; exact g4
    · rw [d5, pk_un (by omega), pk_un (by omega), pk_un (by omega)]; exact g5
    · rw [d5, pk_un (by omega), pk_un (by omega), pk_un (by omega)]; exact g6
    · rw [d5, pk_un (by omega), pk_un (by omega), pk_un (by omega), g7]; exact g8
    · rw [d5, pk_un (by omega), pk_un (by omega), pk_us]; exact g10
    · rw [d5, pk_un (by omega), pk_us]; exact g9
    · rw [d5, pk_us]
    · rw [d6]; exact g11
  refine ⟨fun c => ⟨by omega, fun q67 e67 => ?_⟩, fun c => ⟨⟨a4, dix09⟩, fun v68 r69 q70 hh => ?_⟩⟩
  · have ht : tkB b n (pσ r) 33 = false := (b2i_0 _).mp (a1.symm.trans c)
    rw [tkS_no ht] at a5
    refine fin (-1) r62 q67 e67 k62 (a3.mn (by decide)) a4 (by rw [a5]; exact Nat.le_refl _) ?_
    unfold exX
    rw [ht, a5, if_neg (by decide)]
  · obtain ⟨d1, d2, d3, d4, d5⟩ := hh
    subst d2
    rw [e604, e628, a5] at d1 d5
    have ht := bx_of a1 c
    refine ⟨by omega, fun q73 e73 => ?_⟩
    refine fin v68 r69 q73 e73 (k62.tr d3 (fun _ h => h) (by decide)) (a3.tr d3 (by decide) (by decide)) d4 ?_ ?_
    · rw [d5]
      have h1 := tkS_le (b := b) (n := n) (σ := pσ r) (c := 33) (by decide) (by have := (ps_1 hp).1; omega)
      exact Nat.le_trans h1.2.1 (dgS_le dix09 h1.1).2
    · unfold exX
      rw [if_pos ht, d1, d5]
/-- from the kind on -/
theorem w_ex78 {P : RST → Prop} {r0 r : Nat → Int32} {q0 q : Nat → Nat → Int32} {s n : Nat} {b : Nat → Int32} {kd : Int32} (hs : s + 8 ≤ 640) (h15 : iv (r0 15) < 80) (hO : tsO r0) (hp0 : psO r0) (hb : q0 4 = b) (hn : iv (r0 8) = n) (hP : ∀ r1 q1, exP r0 q0 s r1 q1 → P (r1, q1)) (hk : kR r0 r [10, 11]) (hq : kQ q0 q [5]) (hp : psO r) (hle : (pσ r0).1 ≤ (pσ r).1) (hσ : (kd, pσ r) = exU b n (exN b n (pσ r0)).2) (hG : (pσ r).2 = false → kS (q0 5) (q 5) s ∧ q 5 (s + 1) = dgV b n (pσ r0) 0 9 ∧ q 5 (s + 2) = (exN b n (pσ r0)).1) : wp_X11_readExtra_78 P (nI s) kd (nI s + 3) r q := by
  have e8 : iv (r 8) = n := by rw [hk 8 (by decide)]; exact hn
  have e4 : q 4 = b := (hq 4 (by decide)).trans hb
  have e15 : r 15 = r0 15 := hk 15 (by decide)
  have hO1 : tsO r := hO.tk e15 hle
  unfold wp_X11_readExtra_78
  rw [show vp_in (nI s + 3) 640 = (s + 3 < 640) by simp (disch := omega) only [li_2, li_3, li_4, li_5, li_6, li_7, li_8, li_9, li_10, li_12, li_14, li_20, li_26, li_30, li_31, li_36, li_38, li_47, li_48, li_50, li_57, li_58, li_80, li_98, li_99, li_100, li_102, li_104, li_105, li_108, li_109, li_110, li_114, li_115, li_119, li_122, li_137, li_146, li_147, li_148, li_149, li_150, li_200, li_255, li_256, li_274, li_510, li_512, li_640, li_999, li_1000, li_1024, li_3334, li_5000, li_9999, li_10000, li_23338, li_26672, li_30000, li_99999, li_150000, li_300000, pk_mul, nI_add, pk_sub, nI_clamp, nI_1, nI_p1, nI_a0, nI_0a, nI_m0, nI_m1, cl_0, cl_1, z01, z11, nI_leI, nI_ltI, nI_eq, nz_lt0, nz_le, nz_eq0, nz_pos, nz_le0, nz_eq1, nz_lt1, nz_ge1, nz_le1, nz_gt1, nz_vp, nz_vp0, nz_vp1, six_nI, vix_nI, bix_nI, pix_nI, fix_nI, gix_nI, rix_nI, zix_nI, pix_0, pix_1, bix_0, fix_0, fix_1, rix_1, true_and, and_true], show Int32.toNatClampNeg (nI s + 3) = s + 3 by simp (disch := omega) only [li_2, li_3, li_4, li_5, li_6, li_7, li_8, li_9, li_10, li_12, li_14, li_20, li_26, li_30, li_31, li_36, li_38, li_47, li_48, li_50, li_57, li_58, li_80, li_98, li_99, li_100, li_102, li_104, li_105, li_108, li_109, li_110, li_114, li_115, li_119, li_122, li_137, li_146, li_147, li_148, li_149, li_150, li_200, li_255, li_256, li_274, li_510, li_512, li_640, li_999, li_1000, li_1024, li_3334, li_5000, li_9999, li_10000, li_23338, li_26672, li_30000, li_99999, li_150000, li_300000, pk_mul, nI_add, pk_sub, nI_clamp, nI_1, nI_p1, nI_a0, nI_0a, nI_m0, nI_m1, cl_0, cl_1, z01, z11, nI_leI, nI_ltI, nI_eq, nz_lt0, nz_le, nz_eq0, nz_pos, nz_le0, nz_eq1, nz_lt1, nz_ge1, nz_le1, nz_gt1, nz_vp, nz_vp0, nz_vp1, six_nI, vix_nI, bix_nI, pix_nI, fix_nI, gix_nI, rix_nI, zix_nI, pix_0, pix_1, bix_0, fix_0, fix_1, rix_1, true_and, and_true], show vp_in (nI s + 4) 640 = (s + 4 < 640) by simp (disch := omega) only [li_2, li_3, li_4, li_5, li_6, li_7, li_8, li_9, li_10, li_12, li_14, li_20, li_26, li_30, li_31, li_36, li_38, li_47, li_48, li_50, li_57, li_58, li_80, li_98, li_99, li_100, li_102, li_104, li_105, li_108, li_109, li_110, li_114, li_115, li_119, li_122, li_137, li_146, li_147, li_148, li_149, li_150, li_200, li_255, li_256, li_274, li_510, li_512, li_640, li_999, li_1000, li_1024, li_3334, li_5000, li_9999, li_10000, li_23338, li_26672, li_30000, li_99999, li_150000, li_300000, pk_mul, nI_add, pk_sub, nI_clamp, nI_1, nI_p1, nI_a0, nI_0a, nI_m0, nI_m1, cl_0, cl_1, z01, z11, nI_leI, nI_ltI, nI_eq, nz_lt0, nz_le, nz_eq0, nz_pos, nz_le0, nz_eq1, nz_lt1, nz_ge1, nz_le1, nz_gt1, nz_vp, nz_vp0, nz_vp1, six_nI, vix_nI, bix_nI, pix_nI, fix_nI, gix_nI, rix_nI, zix_nI, pix_0, pix_1, bix_0, fix_0, fix_1, rix_1, true_and, and_true], show Int32.toNatClampNeg (nI s + 4) = s + 4 by simp (disch := omega) only [li_2, li_3, li_4, li_5, li_6, li_7, li_8, li_9, li_10, li_12, li_14, li_20, li_26, li_30, li_31, li_36, li_38, li_47, li_48, li_50, li_57, li_58, li_80, li_98, li_99, li_100, li_102, li_104, li_105, li_108, li_109, li_110, li_114, li_115, li_119, li_122, li_137, li_146, li_147, li_148, li_149, li_150, li_200, li_255, li_256, li_274, li_510, li_512, li_640, li_999, li_1000, li_1024, li_3334, li_5000, li_9999, li_10000, li_23338, li_26672, li_30000, li_99999, li_150000, li_300000, pk_mul, nI_add, pk_sub, nI_clamp, nI_1, nI_p1, nI_a0, nI_0a, nI_m0, nI_m1, cl_0, cl_1, z01, z11, nI_leI, nI_ltI, nI_eq, nz_lt0, nz_le, nz_eq0, nz_pos, nz_le0, nz_eq1, nz_lt1, nz_ge1, nz_le1, nz_gt1, nz_vp, nz_vp0, nz_vp1, six_nI, vix_nI, bix_nI, pix_nI, fix_nI, gix_nI, rix_nI, zix_nI, pix_0, pix_1, bix_0, fix_0, fix_1, rix_1, true_and, and_true]]
  refine ⟨by omega, fun q29 e29 => ⟨by omega, fun q31 e31 => ⟨⟨hp, by decide⟩, fun v32 r33 q34 hh => ?_⟩⟩⟩
  obtain ⟨a1, a2, a3, a4, a5⟩ := hh
  subst a2
  have e314 : q34 4 = b := by rw [e31, va_up_ne _ _ (by decide), e29, va_up_ne _ _ (by decide)]; exact e4
  have k31 : kQ q0 q34 [5, 6] := by rw [e31, e29]; exact ((hq.mn (by decide)).up (by decide) _).up (by decide) _
  have c5 : q34 5 = upd (upd (q 5) (s + 3) kd) (s + 4) (r 15) := by rw [e31, va_up_self, e29, va_up_self]
  have c6 : q34 6 = q0 6 := by rw [e31, va_up_ne _ _ (by decide), e29, va_up_ne _ _ (by decide)]; exact hq 6 (by decide)
  rw [e314, e8] at a1 a5
  have k33 : kR r0 r33 [10, 11] := hk.tr a3 (fun _ h => h) (by decide)
  have hh0 : exU b n (exN b n (pσ r0)).2 = (kd, pσ r) := hσ.symm
  have G3 : (pσ r).2 = false → kS (q0 5) (q34 5) s ∧ q34 5 (s + 1) = dgV b n (pσ r0) 0 9 ∧ q34 5 (s + 2) = (exN b n (pσ r0)).1 ∧ q34 5 (s + 3) = (exU b n (exN b n (pσ r0)).2).1 ∧ q34 5 (s + 4) = r0 15 := fun z => by
    obtain ⟨g1, g2, g3⟩ := hG z
    rw [c5, hh0]
    refine ⟨(g1.up (by omega) (by omega) _).up (by omega) (by omega) _, ?_, ?_, ?_, ?_⟩
    · rw [pk_un (by omega), pk_un (by omega)]; exact g2
    · rw [pk_un (by omega), pk_un (by omega)]; exact g3
    · rw [pk_un (by omega), pk_us]
    · rw [pk_us]; exact e15
  have hσ' : pσ r = (exU b n (exN b n (pσ r0)).2).2 := by rw [hh0]
  refine ⟨fun c => ?_, fun c => ?_⟩
  · have ht : tkB b n (pσ r) 63 = false := (b2i_0 _).mp (a1.symm.trans c)
    rw [tkS_no ht] at a5
    have hC : exC b n (pσ r) = (([], 0), pσ r) := by unfold exC; rw [ht]; rfl
    refine w_ext (σ := pσ r) hs h15 hb hn hσ' hP (k33.mn (by decide)) k31 a4 (by rw [hC, a5]) (fun z => ?_)
    rw [a5] at z
    obtain ⟨g1, g2, g3, g4, g5⟩ := G3 z
    rw [hC]
    refine ⟨g1, fun i _ => by rw [c6], hO1.tk (a3 15 (by decide)) (by rw [a5]; exact Nat.le_refl _), g2, g3, g4, g5, (hO.vv hp0).1, ?_, rfl, tsK.nil⟩
    rw [k33 15 (by decide)]; exact (hO.vv hp0).1
  · have ht := bx_of a1 c
    obtain ⟨t1, t2, t3⟩ := tkB_gd (by decide) ht
    have hO33 : tsO r33 := hO1.tk (a3 15 (by decide)) (by rw [a5, t3]; exact Nat.le_succ _)
    refine ⟨⟨a4, hO33⟩, fun v54 r55 q56 hc => ?_⟩
    obtain ⟨b1, b2, b3, b4, b5⟩ := hc
    rw [e314, show iv (r33 8) = n by rw [k33 8 (by decide)]; exact hn, a5] at b4 b5
    have hC : exC b n (pσ r) = (((cnF b n (tkS b n (pσ r) 63)).1, (cnF b n (tkS b n (pσ r) 63)).2.1 + 1), (cnF b n (tkS b n (pσ r) 63)).2.2) := by unfold exC; rw [ht, if_pos rfl]
    refine w_ext (σ := pσ r) hs h15 hb hn hσ' hP (k33.tr b1 (by decide) (fun _ h => h)) (k31.tr b2 (fun _ h => h) (by decide)) b3 (by rw [hC]; exact b4) (fun z => ?_)
    obtain ⟨g1, g2, g3, g4, g5⟩ := G3 t1
    obtain ⟨d1, d2, d3, d4, d5⟩ := b5 z
    have e33 : r33 15 = r0 15 := k33 15 (by decide)
    rw [e33] at d1 d3 d5
    rw [hC, b2 5 (by decide)]
    exact ⟨g1, fun i hi => by rw [d1 i hi, c6], d2, g2, g3, g4, g5, (hO.vv hp0).1, d3, d4, d5⟩
theorem w_ex43 {P : RST → Prop} {r0 r : Nat → Int32} {q0 q : Nat → Nat → Int32} {s n : Nat} {b : Nat → Int32} {v : Int32} (hs : s + 8 ≤ 640) (h15 : iv (r0 15) < 80) (hO : tsO r0) (hp0 : psO r0) (hb : q0 4 = b) (hn : iv (r0 8) = n) (hP : ∀ r1 q1, exP r0 q0 s r1 q1 → P (r1, q1)) (hk : kR r0 r [10, 11]) (hq : kQ q0 q [5]) (hp : psO r) (hle : (pσ r0).1 ≤ (pσ r).1) (hσ : (v, pσ r) = exN b n (pσ r0)) (hG : (pσ r).2 = false → kS (q0 5) (q 5) s ∧ q 5 (s + 1) = dgV b n (pσ r0) 0 9) : wp_X11_readExtra_43 P (nI s) v (nI s + 2) r q := by
  have e8 : iv (r 8) = n := by rw [hk 8 (by decide)]; exact hn
  have e4 : q 4 = b := (hq 4 (by decide)).trans hb
  unfold wp_X11_readExtra_43
  rw [show vp_in (nI s + 2) 640 = (s + 2 < 640) by simp (disch := omega) only [li_2, li_3, li_4, li_5, li_6, li_7, li_8, li_9, li_10, li_12, li_14, li_20, li_26, li_30, li_31, li_36, li_38, li_47, li_48, li_50, li_57, li_58, li_80, li_98, li_99, li_100, li_102, li_104, li_105, li_108, li_109, li_110, li_114, li_115, li_119, li_122, li_137, li_146, li_147, li_148, li_149, li_150, li_200, li_255, li_256, li_274, li_510, li_512, li_640, li_999, li_1000, li_1024, li_3334, li_5000, li_9999, li_10000, li_23338, li_26672, li_30000, li_99999, li_150000, li_300000, pk_mul, nI_add, pk_sub, nI_clamp, nI_1, nI_p1, nI_a0, nI_0a, nI_m0, nI_m1, cl_0, cl_1, z01, z11, nI_leI, nI_ltI, nI_eq, nz_lt0, nz_le, nz_eq0, nz_pos, nz_le0, nz_eq1, nz_lt1, nz_ge1, nz_le1, nz_gt1, nz_vp, nz_vp0, nz_vp1, six_nI, vix_nI, bix_nI, pix_nI, fix_nI, gix_nI, rix_nI, zix_nI, pix_0, pix_1, bix_0, fix_0, fix_1, rix_1, true_and, and_true], show Int32.toNatClampNeg (nI s + 2) = s + 2 by simp (disch := omega) only [li_2, li_3, li_4, li_5, li_6, li_7, li_8, li_9, li_10, li_12, li_14, li_20, li_26, li_30, li_31, li_36, li_38, li_47, li_48, li_50, li_57, li_58, li_80, li_98, li_99, li_100, li_102, li_104, li_105, li_108, li_109, li_110, li_114, li_115, li_119, li_122, li_137, li_146, li_147, li_148, li_149, li_150, li_200, li_255, li_256, li_274, li_510, li_512, li_640, li_999, li_1000, li_1024, li_3334, li_5000, li_9999, li_10000, li_23338, li_26672, li_30000, li_99999, li_150000, li_300000, pk_mul, nI_add, pk_sub, nI_clamp, nI_1, nI_p1, nI_a0, nI_0a, nI_m0, nI_m1, cl_0, cl_1, z01, z11, nI_leI, nI_ltI, nI_eq, nz_lt0, nz_le, nz_eq0, nz_pos, nz_le0, nz_eq1, nz_lt1, nz_ge1, nz_le1, nz_gt1, nz_vp, nz_vp0, nz_vp1, six_nI, vix_nI, bix_nI, pix_nI, fix_nI, gix_nI, rix_nI, zix_nI, pix_0, pix_1, bix_0, fix_0, fix_1, rix_1, true_and, and_true]]
  refine ⟨by omega, fun q17 e17 => ⟨⟨hp, by decide⟩, fun v18 r19 q20 hh => ?_⟩⟩
  obtain ⟨a1, a2, a3, a4, a5⟩ := hh
  subst a2
  have e174 : q20 4 = b := by rw [e17, va_up_ne _ _ (by decide)]; exact e4
  have k17 : kQ q0 q20 [5] := by rw [e17]; exact hq.up (by decide) _
  rw [e174, e8] at a1 a5
  have k19 : kR r0 r19 [10, 11] := hk.tr a3 (fun _ h => h) (by decide)
  have e198 : iv (r19 8) = n := by rw [k19 8 (by decide)]; exact hn
  have hN : (exN b n (pσ r0)) = (v, pσ r) := hσ.symm
  have hpl := (ps_1 hp).1
  rw [e8] at hpl
  have G : ∀ σ' : PS, (pσ r).2 = σ'.2 → σ'.2 = false → kS (q0 5) (q20 5) s ∧ q20 5 (s + 1) = dgV b n (pσ r0) 0 9 ∧ q20 5 (s + 2) = (exN b n (pσ r0)).1 := fun σ' h1 z => by
    obtain ⟨g1, g2⟩ := hG (h1.trans z)
    rw [e17, va_up_self, hN]
    exact ⟨g1.up (by omega) (by omega) _, by rw [pk_un (by omega)]; exact g2, pk_us ..⟩
  refine ⟨fun c => ⟨⟨a4, by decide⟩, fun v23 r24 q25 hh => ?_⟩, fun c => ?_⟩
  · have t37 : tkB b n (pσ r) 37 = false := (b2i_0 _).mp (a1.symm.trans c)
    rw [tkS_no t37] at a5
    obtain ⟨d1, d2, d3, d4, d5⟩ := hh
    subst d2
    rw [e174, e198, a5] at d1 d5
    have k24 : kR r0 r24 [10, 11] := k19.tr d3 (fun _ h => h) (by decide)
    have hl24 : (pσ r0).1 ≤ (pσ r24).1 := by rw [d5]; exact Nat.le_trans hle (tkS_le (by decide) hpl).2.1
    refine ⟨fun c2 => ?_, fun c2 => ?_⟩
    · have t42 : tkB b n (pσ r) 42 = false := (b2i_0 _).mp (d1.symm.trans c2)
      refine w_ex78 hs h15 hO hp0 hb hn hP k24 k17 d4 hl24 ?_ (G (pσ r24) (by rw [d5, tkS_bd]))
      rw [hN]
      unfold exU
      dsimp only
      rw [t37, t42, if_neg (by decide), if_neg (by decide), d5, tkS_no t42]
    · have t42 := bx_of d1 c2
      refine w_ex78 hs h15 hO hp0 hb hn hP k24 k17 d4 hl24 ?_ (G (pσ r24) (by rw [d5, tkS_bd]))
      rw [hN]
      unfold exU
      dsimp only
      rw [t37, t42, if_neg (by decide), if_pos rfl, d5]
  · have t37 := bx_of a1 c
    refine w_ex78 hs h15 hO hp0 hb hn hP k19 k17 a4 (by rw [a5]; exact Nat.le_trans hle (tkS_le (by decide) hpl).2.1) ?_ (G (pσ r19) (by rw [a5, tkS_bd]))
    rw [hN]
    unfold exU
    dsimp only
    rw [t37, if_pos rfl, a5]
theorem kd_X11_readExtra (l : Launch) (D : va_G) (T : Nat → ClassId) (m0 : Nat) (a : Nat → Nat) (p0 : Int32) (r : Nat → Int32) (q : Nat → Nat → Int32) (h : psO r ∧ tsO r ∧ s8 p0) : RMv l yX11_readExtra (ws_X11_readExtra) rm_X11_readExtra D T m0 a [.ref m0, .int p0] r q (fun u => (exP r q (iv p0) u.1 u.2)) := c_X11_readExtra l D T m0 a p0 r q _ <|
  (by
    obtain ⟨hp, hO, s, hs, e0⟩ := h
    subst e0
    have es : iv (nI s) = s := nI_clamp (by omega)
    rw [es]
    obtain ⟨o1, o2⟩ := hO.vv hp
    obtain ⟨p1, p2, p3⟩ := ps_1 hp
    unfold wp_X11_readExtra
    refine ⟨⟨hp, dix09⟩, fun v1 r2 q3 hh => ?_⟩
    obtain ⟨a1, a2, a3, a4, a5⟩ := hh
    subst a2
    have e8 : iv (r2 8) = iv (r 8) := by rw [a3 8 (by decide)]
    rw [nI_1, nz_vp (by omega) (by decide), nI_clamp (n := s + 1) (by omega)]
    refine ⟨by omega, fun q6 e6 => ⟨⟨a4, by decide⟩, fun r8 q9 hh => ?_⟩⟩
    obtain ⟨d2, d3, d4, d5⟩ := hh
    subst d2
    have e64 : q9 4 = q3 4 := by rw [e6, va_up_ne _ _ (by decide)]
    have k6 : kQ q3 q9 [5] := by rw [e6]; exact kQ.rf.up (by decide) _
    have G6 : kS (q3 5) (q9 5) s ∧ q9 5 (s + 1) = dgV (q3 4) (iv (r 8)) (pσ r) 0 9 := by
      rw [e6, va_up_self]
      exact ⟨kS.rf.up (by omega) (by omega) _, by rw [pk_us]; exact a1⟩
    rw [e64, e8, a5] at d5
    have k8 : kR r r8 [10, 11] := a3.tr d3 (fun _ h => h) (fun _ h => h)
    have e88 : iv (r8 8) = iv (r 8) := by rw [k8 8 (by decide)]
    have hD := dgS_le (b := q3 4) dix09 p1
    have h8 : (pσ r).1 ≤ (pσ r8).1 := by
      rw [d5]
      exact Nat.le_trans hD.2 (tkS_le (b := q3 4) (c := 58) (by decide) hD.1).2.1
    refine ⟨fun c => ⟨d4, fun v12 r13 q14 hh => ?_⟩, fun c => ?_⟩
    · obtain ⟨b1, b2, b3, b4, b5⟩ := hh
      subst b2
      have hle : (pσ r).1 ≤ (pσ r13).1 := by
        rw [b5]
        exact Nat.le_trans h8 (nbF_ok (ps_1 d4).1).2.1
      rw [e64, e88, d5] at b1 b5
      refine w_ex43 hs o2 hO hp rfl rfl (fun _ _ z => z) (k8.tr b3 (fun _ h => h) (fun _ h => h)) k6 b4 hle ?_ (fun _ => G6)
      unfold exN
      rw [b1, b5]
    · have hb := bd_of d4.2.2 c
      refine w_ex43 hs o2 hO hp rfl rfl (fun _ _ z => z) k8 k6 d4 h8 ?_ (fun z => by rw [hb] at z; cases z)
      unfold exN
      rw [← d5, nb_bad hb])

theorem tsO.L {r r1 : Nat → Int32} (h : tsO r) (e1 : r1 10 = r 10) (e2 : r1 15 = r 15) : tsL r1 := by
  obtain ⟨t, ht, e⟩ := h
  exact ⟨t, by rw [e1]; omega, e2.trans e⟩
theorem zoR_le {b : Nat → Int32} {n : Nat} {kd : Int32} {σ : PS} (h : σ.1 ≤ n) : (zoR b n kd σ).2.1 ≤ n ∧ σ.1 ≤ (zoR b n kd σ).2.1 := by
  have h1 := dgS_le (b := b) dix19 h
  have h2 := tkS_le (b := b) (c := 58) (by decide) h1.1
  have h3 := nbF_ok (b := b) (σ := ndS b n (dgS b n σ 1 9) 58) h2.1
  unfold zoR
  have h2' : (dgS b n σ 1 9).1 ≤ (ndS b n (dgS b n σ 1 9) 58).1 := h2.2.1
  split
  · exact ⟨h3.1, Nat.le_trans h1.2 (Nat.le_trans h2' h3.2.1)⟩
  · have h4 := tkS_le (b := b) (c := if kd = 122 then 45 else 42) (by split <;> decide) h3.1
    have h5 := nbF_ok (b := b) (σ := ndS b n (nbF b n (ndS b n (dgS b n σ 1 9) 58)).2 (if kd = 122 then 45 else 42)) h4.1
    have h4' : (nbF b n (ndS b n (dgS b n σ 1 9) 58)).2.1 ≤ (ndS b n (nbF b n (ndS b n (dgS b n σ 1 9) 58)).2 (if kd = 122 then 45 else 42)).1 := h4.2.1
    exact ⟨h5.1, Nat.le_trans h1.2 (Nat.le_trans h2' (Nat.le_trans h3.2.1 (Nat.le_trans h4' h5.2.1)))⟩
theorem cnL_le {b : Nat → Int32} {n : Nat} : ∀ (k row : Nat) (σ : PS), σ.1 ≤ n → (cnL b n k row σ).2.2.1 ≤ n ∧ σ.1 ≤ (cnL b n k row σ).2.2.1 := by
  intro k
  induction k with
  | zero => intro row σ h; exact ⟨h, Nat.le_refl _⟩
  | succ k ih =>
    intro row σ h
    rw [cnL]
    split
    · exact ⟨h, Nat.le_refl _⟩
    split
    · have h1 := tkS_le (b := b) (c := 38) (by decide) h
      have h2 := tsR_ok (b := b) h1.1
      have h3 := ih row (tsR b n (tkS b n σ 38)).2 h2.1
      exact ⟨h3.1, Nat.le_trans h1.2.1 (Nat.le_trans h2.2.1 h3.2)⟩
    split
    · have h1 := tkS_le (b := b) (c := 124) (by decide) h
      have h2 := tsR_ok (b := b) h1.1
      have h3 := ih (row + 1) (tsR b n (tkS b n σ 124)).2 h2.1
      exact ⟨h3.1, Nat.le_trans h1.2.1 (Nat.le_trans h2.2.1 h3.2)⟩
    · exact ⟨h, Nat.le_refl _⟩
theorem exR_le {b : Nat → Int32} {n : Nat} {σ : PS} (h : σ.1 ≤ n) : (exR b n σ).2.1 ≤ n ∧ σ.1 ≤ (exR b n σ).2.1 := by
  have h1 := dgS_le (b := b) dix09 h
  have h2 := tkS_le (b := b) (c := 58) (by decide) h1.1
  have h3 := nbF_ok (b := b) (σ := ndS b n (dgS b n σ 0 9) 58) h2.1
  have h2' : (dgS b n σ 0 9).1 ≤ (ndS b n (dgS b n σ 0 9) 58).1 := h2.2.1
  have hN : (exN b n σ).2.1 ≤ n ∧ σ.1 ≤ (exN b n σ).2.1 := ⟨h3.1, Nat.le_trans h1.2 (Nat.le_trans h2' h3.2.1)⟩
  have hU : (exU b n (exN b n σ).2).2.1 ≤ n ∧ σ.1 ≤ (exU b n (exN b n σ).2).2.1 := by
    unfold exU
    split
    · have := tkS_le (b := b) (c := 37) (by decide) hN.1; exact ⟨this.1, Nat.le_trans hN.2 this.2.1⟩
    split
    · have := tkS_le (b := b) (c := 42) (by decide) hN.1; exact ⟨this.1, Nat.le_trans hN.2 this.2.1⟩
    · exact hN
  have hC : (exC b n (exU b n (exN b n σ).2).2).2.1 ≤ n ∧ σ.1 ≤ (exC b n (exU b n (exN b n σ).2).2).2.1 := by
    unfold exC
    split
    · have g1 := tkS_le (b := b) (c := 63) (by decide) hU.1
      have g2 := tsR_ok (b := b) g1.1
      have g3 := cnL_le (b := b) 80 0 (tsR b n (tkS b n (exU b n (exN b n σ).2).2 63)).2 g2.1
      exact ⟨g3.1, Nat.le_trans hU.2 (Nat.le_trans g1.2.1 (Nat.le_trans g2.2.1 g3.2))⟩
    · exact hU
  show (exX b n (exC b n (exU b n (exN b n σ).2).2).2).2.1 ≤ n ∧ σ.1 ≤ (exX b n (exC b n (exU b n (exN b n σ).2).2).2).2.1
  unfold exX
  split
  · have g1 := tkS_le (b := b) (c := 33) (by decide) hC.1
    have g2 := dgS_le (b := b) dix09 g1.1
    exact ⟨g2.1, Nat.le_trans hC.2 (Nat.le_trans g1.2.1 g2.2)⟩
  · exact hC
theorem kd_X11_readStatement (l : Launch) (D : va_G) (T : Nat → ClassId) (m0 : Nat) (a : Nat → Nat)  (r : Nat → Int32) (q : Nat → Nat → Int32) (h : psO r ∧ (pσ r).2 = false ∧ tsL r ∧ smX r) : RMv l yX11_readStatement (ws_X11_readStatement) rm_X11_readStatement D T m0 a [.ref m0] r q (fun u => (smP r q u.1 u.2)) := c_X11_readStatement l D T m0 a  r q _ <|
  (by
    obtain ⟨hp, hg, ⟨t, ht, e15⟩, ⟨s, hs, e13⟩⟩ := h
    obtain ⟨p1, p2, p3⟩ := ps_1 hp
    have e10 : iv (r 10) = (pσ r).1 := rfl
    rw [e10] at ht hs
    have es : iv (r 13) = s := by rw [e13]; exact nI_clamp (by omega)
    have et : iv (r 15) = t := by rw [e15]; exact nI_clamp (by omega)
    obtain ⟨s1, s2⟩ := sgn_sg (q := q) hp
    unfold wp_X11_readStatement
    intro v1 e1
    have e1' : v1 = nI (8 * s) := by rw [e1, e13]; exact pk_mul 8 s
    clear e1
    subst e1'
    refine ⟨s2, fun v3 e3 => ?_⟩
    rw [s1] at e3
    simp only [nI_clamp (n := 8 * s) (show 8 * s < 2 ^ 31 by omega)]
    rw [nz_vp (by omega) (by decide)]
    refine ⟨by omega, fun q5 e5 r6 e6 => ?_⟩
    rw [p3, nI_1] at e6
    have e54 : q5 4 = q 4 := by rw [e5, va_up_ne _ _ (by decide)]
    have e56 : q5 6 = q 6 := by rw [e5, va_up_ne _ _ (by decide)]
    have e55 : q5 5 = upd (q 5) (8 * s) v3 := by rw [e5, va_up_self]
    have k5 : kQ q q5 [5, 6] := by rw [e5]; exact kQ.rf.up (by decide) _
    have k6a : kR r r6 [10] := by rw [e6]; exact kR.rf.up (by decide) _
    have k6 : kR r r6 [10, 11, 15] := by rw [e6]; exact kR.rf.up (by decide) _
    have e68 : iv (r6 8) = iv (r 8) := by rw [k6 8 (by decide)]
    have hne : ∀ m : Int32, 97 ≤ m → v3 = m → psO r6 ∧ pσ r6 = ((pσ r).1 + 1, (pσ r).2) ∧ tsO r6 := fun m hm hv => by
      have hlt : (pσ r).1 < iv (r 8) := sg_lt (b := q 4) (by rw [← e3, hv]; intro z; rw [z] at hm; exact absurd hm (by decide))
      obtain ⟨g1, g2⟩ := psO_10 hp hlt e6
      refine ⟨g1, g2, t, ?_, ?_⟩
      · have : iv (r6 10) = (pσ r6).1 := rfl
        rw [this, g2]; exact Nat.lt_succ_of_le ht
      · rw [e6, va_up_ne _ _ (by decide)]; exact e15
    have fin : ∀ (r9 : Nat → Int32) (q9 : Nat → Nat → Int32), kR r r9 [10, 11, 15] → kQ q q9 [5, 6] → psO r9 → pσ r9 = (stR (q 4) (iv (r 8)) (pσ r)).2 → ((pσ r9).2 = false → (pσ r).1 + 1 ≤ (pσ r9).1 ∧ (∀ i, i < 8 * s → q9 5 i = q 5 i) ∧ (∀ i, i < t → q9 6 i = q 6 i) ∧ tsO r9 ∧ t ≤ iv (r9 15) ∧ stK (q9 5) (q9 6) (8 * s) (iv (r9 15)) (stR (q 4) (iv (r 8)) (pσ r)).1) → ∀ r12 : Nat → Int32, r12 = va_up r9 13 ((r9 13) + 1) → smP r q r12 q9 := by
      intro r9 q9 h1 h2 h3 h4 h5 r12 e12
      have f13 : r9 13 = nI s := (h1 13 (by decide)).trans e13
      rw [f13, nI_1] at e12
      have g8 : r12 8 = r9 8 := by rw [e12, va_up_ne _ _ (by decide)]
      have g10 : r12 10 = r9 10 := by rw [e12, va_up_ne _ _ (by decide)]
      have g11 : r12 11 = r9 11 := by rw [e12, va_up_ne _ _ (by decide)]
      have g15 : r12 15 = r9 15 := by rw [e12, va_up_ne _ _ (by decide)]
      have gσ : pσ r12 = pσ r9 := by unfold pσ; rw [g10, g11]
      refine ⟨by rw [e12]; exact (h1.mn (by decide)).up (by decide) _, h2, by unfold psO; rw [g8, g10, g11]; exact h3, by rw [gσ]; exact h4, by rw [e12, va_up_self, es], fun z => ?_⟩
      rw [gσ] at z ⊢
      obtain ⟨a0, a1, a2, a3, a4, a5⟩ := h5 z
      rw [es, et, g15]
      exact ⟨a0, a1, a2, a3.L g10 g15, a4, a5⟩
    -- a zone's statement
    have zone : (v3 = 122 ∨ v3 = 98 ∨ v3 = 109) → ((psO r6 ∧ s8 (nI (8 * s)) ∧ (v3 = 122 ∨ v3 = 98 ∨ v3 = 109)) ∧ (∀ (r9 : Nat → Int32) (q10 : Nat → Nat → Int32), (zoP r6 q5 (8 * s) v3 r9 q10) → (∀ r12 : Nat → Int32, r12 = va_up r9 13 ((r9 13) + 1) → smP r q r12 q10))) := by
      intro hk
      obtain ⟨g1, g2, g3⟩ : psO r6 ∧ pσ r6 = ((pσ r).1 + 1, (pσ r).2) ∧ tsO r6 := by
        rcases hk with z | z | z
        · exact hne _ (by decide) z
        · exact hne _ (by decide) z
        · exact hne _ (by decide) z
      refine ⟨⟨g1, ⟨8 * s, by omega, rfl⟩, hk⟩, fun r9 q10 hz => ?_⟩
      obtain ⟨a1, a2, a3, a4, a5⟩ := hz
      rw [e54, e68, g2] at a4 a5
      have hR : stR (q 4) (iv (r 8)) (pσ r) = (((v3, (zoR (q 4) (iv (r 8)) v3 ((pσ r).1 + 1, (pσ r).2)).1), ([], 0), 0), (zoR (q 4) (iv (r 8)) v3 ((pσ r).1 + 1, (pσ r).2)).2) := by
        unfold stR
        rw [← e3, if_pos hk]
      have hO9 : (pσ r6).1 ≤ (pσ r9).1 := by rw [g2, a4]; exact (zoR_le (σ := ((pσ r).1 + 1, (pσ r).2)) (by have := (ps_1 g1).1; rw [g2, e68] at this; exact this)).2
      refine fin r9 q10 (k6.tr a1 (fun _ h => h) (by decide)) (k5.tr a2 (fun _ h => h) (by decide)) a3 (by rw [hR]; exact a4) (fun z => ?_)
      obtain ⟨b1, b2, b3, b4⟩ := a5 z
      rw [hR]
      refine ⟨by rw [g2] at hO9; exact hO9, fun i hi => ?_, fun i _ => by rw [a2 6 (by decide), e56], g3.tk (a1 15 (by decide)) hO9, ?_, ?_, b2, fun _ => b3, fun c => b4 ?_, fun c => ?_⟩
      · rw [b1 i (by omega), e55, pk_un (by omega)]
      · rw [a1 15 (by decide), k6a 15 (by decide), et]; exact Nat.le_refl _
      · rw [b1 _ (by omega), e55, pk_us]
      · rcases c with c | c | c <;> (dsimp only at c; rw [c]; decide)
      · exfalso
        dsimp only at c
        rw [c] at hk
        exact absurd hk (by decide)
    -- a number's statement
    have num : (v3 = 100 ∨ v3 = 102 ∨ v3 = 115 ∨ v3 = 99) → ((psO r6) ∧ (∀ (v21 : Int32) (r22 : Nat → Int32) (q23 : Nat → Nat → Int32), (v21 = (nbF (q5 4) (iv (r6 8)) (pσ r6)).1 ∧ q23 = q5 ∧ kR r6 r22 [10, 11] ∧ psO r22 ∧ pσ r22 = (nbF (q5 4) (iv (r6 8)) (pσ r6)).2) → (vp_in (nI (8 * s) + 1) 640 ∧ (∀ q26 : Nat → Nat → Int32, q26 = va_up q23 5 (upd (q23 5) (iv (nI (8 * s) + 1)) v21) → (∀ r27 : Nat → Int32, r27 = va_up r22 13 ((r22 13) + 1) → smP r q r27 q26))))) := by
      intro hk
      obtain ⟨g1, g2, g3⟩ : psO r6 ∧ pσ r6 = ((pσ r).1 + 1, (pσ r).2) ∧ tsO r6 := by
        rcases hk with z | z | z | z
        · exact hne _ (by decide) z
        · exact hne _ (by decide) z
        · exact hne _ (by decide) z
        · exact hne _ (by decide) z
      refine ⟨g1, fun v21 r22 q23 hh => ?_⟩
      obtain ⟨a1, a2, a3, a4, a5⟩ := hh
      subst a2
      have hO9 : (pσ r6).1 ≤ (pσ r22).1 := by rw [a5]; exact (nbF_ok (ps_1 g1).1).2.1
      rw [e54, e68, g2] at a1 a5
      simp only [nI_1, nI_clamp (n := 8 * s + 1) (show 8 * s + 1 < 2 ^ 31 by omega)]
      rw [nz_vp (by omega) (by decide)]
      refine ⟨by omega, fun q26 e26 => ?_⟩
      have hn : ¬ (v3 = 122 ∨ v3 = 98 ∨ v3 = 109) := by rcases hk with z | z | z | z <;> rw [z] <;> decide
      have hR : stR (q 4) (iv (r 8)) (pσ r) = (((v3, v21, 0, 0), ([], 0), 0), pσ r22) := by
        unfold stR
        rw [← e3, if_neg hn, if_pos hk, a1, a5]
      refine fin r22 q26 (k6.tr a3 (fun _ h => h) (by decide)) (by rw [e26]; exact k5.up (by decide) _) a4 (by rw [hR]) (fun z => ?_)
      rw [hR]
      have f6 : q26 6 = q 6 := by rw [e26, va_up_ne _ _ (by decide), e56]
      have f5 : q26 5 = upd (upd (q 5) (8 * s) v3) (8 * s + 1) v21 := by rw [e26, va_up_self, e55]
      refine ⟨by rw [g2] at hO9; exact hO9, fun i hi => ?_, fun i _ => by rw [f6], g3.tk (a3 15 (by decide)) hO9, ?_, ?_, ?_, fun c => ?_, fun c => ?_, fun c => ?_⟩
      · rw [f5, pk_un (by omega), pk_un (by omega)]
      · rw [a3 15 (by decide), k6a 15 (by decide), et]; exact Nat.le_refl _
      · rw [f5, pk_un (by omega), pk_us]
      · rw [f5, pk_us]
      · exfalso
        dsimp only at c
        rcases c with c | c | c | c <;> rw [c] at hk <;> exact absurd hk (by decide)
      · exfalso
        dsimp only at c
        rcases c with c | c | c <;> rw [c] at hk <;> exact absurd hk (by decide)
      · exfalso
        dsimp only at c
        rw [c] at hk
        exact absurd hk (by decide)
    refine ⟨fun c => zone (Or.inl c), fun c1 => ⟨fun c => zone (Or.inr (Or.inl c)), fun c2 => ⟨fun c3 => ⟨fun c => num (Or.inl c), fun c4 => ⟨fun c => num (Or.inr (Or.inl c)), fun c5 => ⟨fun c => num (Or.inr (Or.inr (Or.inl c))), fun c6 => ⟨fun c7 => ⟨fun c8 => ⟨fun c9 => ?_, fun c => ?_⟩, fun c => ?_⟩, fun c => num (Or.inr (Or.inr (Or.inr c)))⟩⟩⟩⟩, fun c => zone (Or.inr (Or.inr c))⟩⟩⟩
    · -- no statement begins so
      intro r47 e47 r48 e48
      have hR : stR (q 4) (iv (r 8)) (pσ r) = (((0, 0, 0, 0), ([], 0), 0), ((pσ r).1, true)) := by
        unfold stR
        rw [← e3, if_neg (by rintro (z | z | z); exact c1 z; exact c2 z; exact c3 z), if_neg (by rintro (z | z | z | z); exact c4 z; exact c5 z; exact c6 z; exact c7 z), if_neg c8, if_neg c9]
      have f10 : r47 10 = nI ((pσ r).1 + 1) := by rw [e47, va_up_ne _ _ (by decide), e6, va_up_self]
      rw [f10, show nI ((pσ r).1 + 1) - 1 = nI (pσ r).1 from by rw [nI_p1 (by omega)]; rfl, ← p3] at e48
      have g : ∀ j, j ≠ 11 → r48 j = r j := fun j hj => by
        rw [e48]
        by_cases e : j = 10
        · rw [e, va_up_self]
        · rw [va_up_ne _ _ e, e47, va_up_ne _ _ hj, e6, va_up_ne _ _ e]
      have g11 : r48 11 = 1 := by rw [e48, va_up_ne _ _ (by decide), e47, va_up_self]
      have hp48 : psO r48 := by
        unfold psO
        rw [g 8 (by decide), g 10 (by decide), g11]
        exact ⟨hp.1, hp.2.1, vz1⟩
      have gσ : pσ r48 = ((pσ r).1, true) := by
        unfold pσ
        rw [g 10 (by decide), g11]
        rfl
      exact fin r48 q5 (fun j hj => g j (fun e => hj (by rw [e]; decide))) k5 hp48 (by rw [hR]; exact gσ) (fun z => by rw [gσ] at z; cases z)
    · -- an accessorial's end
      obtain ⟨g1, g2, g3⟩ := hne _ (by decide) c
      refine ⟨⟨g1, dix09⟩, fun v50 r51 q52 hh => ?_⟩
      obtain ⟨a1, a2, a3, a4, a5⟩ := hh
      subst a2
      have hO9 : (pσ r6).1 ≤ (pσ r51).1 := by rw [a5]; exact (dgS_le dix09 (ps_1 g1).1).2
      rw [e54, e68, g2] at a1 a5
      simp only [nI_1, nI_clamp (n := 8 * s + 1) (show 8 * s + 1 < 2 ^ 31 by omega)]
      rw [nz_vp (by omega) (by decide)]
      refine ⟨by omega, fun q55 e55' => ?_⟩
      have hR : stR (q 4) (iv (r 8)) (pσ r) = (((114, v50, 0, 0), ([], 0), 0), pσ r51) := by
        unfold stR
        rw [← e3, if_neg (by rintro (z | z | z); exact c1 z; exact c2 z; exact c3 z), if_neg (by rintro (z | z | z | z); exact c4 z; exact c5 z; exact c6 z; exact c7 z), if_neg c8, if_pos c, a1, a5]
      refine fin r51 q55 (k6.tr a3 (fun _ h => h) (by decide)) (by rw [e55']; exact k5.up (by decide) _) a4 (by rw [hR]) (fun z => ?_)
      rw [hR]
      have f6 : q55 6 = q 6 := by rw [e55', va_up_ne _ _ (by decide), e56]
      have f5 : q55 5 = upd (upd (q 5) (8 * s) v3) (8 * s + 1) v50 := by rw [e55', va_up_self, e55]
      refine ⟨by rw [g2] at hO9; exact hO9, fun i hi => ?_, fun i _ => by rw [f6], g3.tk (a3 15 (by decide)) hO9, ?_, ?_, ?_, fun c => ?_, fun c => ?_, fun c => ?_⟩
      · rw [f5, pk_un (by omega), pk_un (by omega)]
      · rw [a3 15 (by decide), k6a 15 (by decide), et]; exact Nat.le_refl _
      · rw [f5, pk_un (by omega), pk_us]; exact c
      · rw [f5, pk_us]
      · dsimp only at c; exact absurd c (by decide)
      · dsimp only at c; exact absurd c (by decide)
      · dsimp only at c; exact absurd c (by decide)
    · -- an accessorial
      obtain ⟨g1, g2, g3⟩ := hne _ (by decide) c
      refine ⟨⟨g1, g3, 8 * s, by omega, rfl⟩, fun r58 q59 hz => ?_⟩
      obtain ⟨a1, a2, a3, a4, a5⟩ := hz
      have hle := exR_le (b := q5 4) (ps_1 g1).1
      rw [← a4] at hle
      rw [e54, e68, g2] at a4 a5
      have hR : stR (q 4) (iv (r 8)) (pσ r) = exR (q 4) (iv (r 8)) ((pσ r).1 + 1, (pσ r).2) := by
        unfold stR
        rw [← e3, if_neg (by rintro (z | z | z); exact c1 z; exact c2 z; exact c3 z), if_neg (by rintro (z | z | z | z); exact c4 z; exact c5 z; exact c6 z; exact c7 z), if_pos c]
      have f15 : iv (r6 15) = t := by rw [e6, va_up_ne _ _ (by decide)]; exact et
      refine fin r58 q59 (k6.tr a1 (fun _ h => h) (fun _ h => h)) (k5.tr a2 (fun _ h => h) (fun _ h => h)) a3 (by rw [hR]; exact a4) (fun z => ?_)
      obtain ⟨b1, b2, b3, b4, b5, b6, b7, b8⟩ := a5 z
      rw [f15] at b2 b4
      rw [hR]
      have k97 : (exR (q 4) (iv (r 8)) ((pσ r).1 + 1, (pσ r).2)).1.1.1 = 97 := rfl
      refine ⟨by rw [g2] at hle; exact hle.2, fun i hi => ?_, fun i hi => by rw [b2 i hi, e56], b3, b4, ?_, b5, fun _ => b6, fun _ => b7, fun _ => b8⟩
      · rw [b1 i (by omega), e55, pk_un (by omega)]
      · rw [b1 _ (by omega), e55, pk_us, k97]; exact c)

theorem bxF_le {μ : Nat → Int32} {v z : Nat} {w : Int32} : ∀ k i, i ≤ bxF μ v z w k i ∧ bxF μ v z w k i ≤ i + k := by
  intro k
  induction k with
  | zero => intro i; exact ⟨Nat.le_refl _, Nat.le_refl _⟩
  | succ k ih =>
    intro i
    rw [bxF]
    split
    · have := ih (i + 1); omega
    · omega
theorem kd_X11_writes (l : Launch) (D : va_G) (T : Nat → ClassId) (m0 : Nat) (a : Nat → Nat) (p0 : Int32) (p1 : Int32) (p2 : Int32) (p3 : Int32) (r : Nat → Int32) (q : Nat → Nat → Int32) (h : ∃ n : Nat, n < 3334 ∧ p0 = nI n) : RMi l yX11_writes (ws_X11_writes) rm_X11_writes D T m0 a [.ref m0, .int p0, .int p1, .int p2, .int p3] r q (fun v u => (v = zin p1 p2 p3 ∧ u.1 = r ∧ u.2 = va_up q 0 (upd (q 0) (iv p0) p1))) := c_X11_writes l D T m0 a p0 p1 p2 p3 r q _ <|
  (by
    obtain ⟨n, hn, e⟩ := h
    subst e
    unfold wp_X11_writes
    rw [nz_vp (by omega) (by decide)]
    refine ⟨hn, fun q2 e2 => ⟨?_, rfl, rfl, e2⟩⟩
    unfold zin
    split
    · exact vz0
    split
    · exact vz0
    · exact vz1)
theorem kd_X11_puts (l : Launch) (D : va_G) (T : Nat → ClassId) (m0 : Nat) (a : Nat → Nat) (p0 : Int32) (p1 : Int32) (r : Nat → Int32) (q : Nat → Nat → Int32) (h : WF (q 0) ∧ vix p0 ∧ s8 p1) : RMi l yX11_puts (ws_X11_puts) rm_X11_puts D T m0 a [.ref m0, .int p0, .int p1] r q (fun v u => (v = b2i (ptB (q 0) (iv p0) (q 5 (iv p1 + 2)) (q 5 (iv p1 + 3))) ∧ u.1 = r ∧ kQ q u.2 [0] ∧ (ptB (q 0) (iv p0) (q 5 (iv p1 + 2)) (q 5 (iv p1 + 3)) = true → u.2 0 = ptS (q 0) (iv p0) (q 5 (iv p1 + 1)) (q 5 (iv p1 + 2)) (q 5 (iv p1 + 3))))) := c_X11_puts l D T m0 a p0 p1 r q _ <|
  (by
    obtain ⟨hw, ⟨v, hv, e0⟩, ⟨s, hs, e1⟩⟩ := h
    subst e0 e1
    obtain ⟨c, hc, ec⟩ := hw.rng hv
    have es : iv (nI s) = s := nI_clamp (by omega)
    have ev : iv (nI v) = v := nI_clamp (by omega)
    rw [es, ev]
    unfold wp_X11_puts
    intro v1 e1
    have e1' : v1 = nI (274 + 510 * v + 1) := by rw [e1]; simp (disch := omega) only [li_2, li_3, li_4, li_5, li_6, li_7, li_8, li_9, li_10, li_12, li_14, li_20, li_26, li_30, li_31, li_36, li_38, li_47, li_48, li_50, li_57, li_58, li_80, li_98, li_99, li_100, li_102, li_104, li_105, li_108, li_109, li_110, li_114, li_115, li_119, li_122, li_137, li_146, li_147, li_148, li_149, li_150, li_200, li_255, li_256, li_274, li_510, li_512, li_640, li_999, li_1000, li_1024, li_3334, li_5000, li_9999, li_10000, li_23338, li_26672, li_30000, li_99999, li_150000, li_300000, pk_mul, nI_add, pk_sub, nI_clamp, nI_1, nI_p1, nI_a0, nI_0a, nI_m0, nI_m1, cl_0, cl_1, z01, z11]
    clear e1
    subst e1'
    simp (disch := omega) only [li_2, li_3, li_4, li_5, li_6, li_7, li_8, li_9, li_10, li_12, li_14, li_20, li_26, li_30, li_31, li_36, li_38, li_47, li_48, li_50, li_57, li_58, li_80, li_98, li_99, li_100, li_102, li_104, li_105, li_108, li_109, li_110, li_114, li_115, li_119, li_122, li_137, li_146, li_147, li_148, li_149, li_150, li_200, li_255, li_256, li_274, li_510, li_512, li_640, li_999, li_1000, li_1024, li_3334, li_5000, li_9999, li_10000, li_23338, li_26672, li_30000, li_99999, li_150000, li_300000, pk_mul, nI_add, pk_sub, nI_clamp, nI_1, nI_p1, nI_a0, nI_0a, nI_m0, nI_m1, cl_0, cl_1, z01, z11, nI_leI, nI_ltI, nI_eq, nz_lt0, nz_le, nz_eq0, nz_pos, nz_le0, nz_eq1, nz_lt1, nz_ge1, nz_le1, nz_gt1, nz_vp, nz_vp0, nz_vp1, six_nI, vix_nI, bix_nI, pix_nI, fix_nI, gix_nI, rix_nI, zix_nI, pix_0, pix_1, bix_0, fix_0, fix_1, rix_1, true_and, and_true]
    unfold ptB
    refine ⟨by omega, fun c1 => ⟨?_, kQ.rf, fun z => ?_⟩, fun c1 => ⟨by omega, fun c2 => ⟨?_, kQ.rf, fun z => ?_⟩, fun c2 => ⟨by omega, by omega, fun c3 => ⟨?_, kQ.rf, fun z => ?_⟩, fun c3 => ⟨by omega, fun c4 => ⟨by omega, fun v12 e12 => ?_⟩, fun c4 => ⟨?_, kQ.rf, fun z => ?_⟩⟩⟩⟩⟩
    · rw [show (999 : Int32) = nI 999 from rfl]; simp [c1, b2i]
    · rw [show (999 : Int32) = nI 999 from rfl] at z; simp [c1] at z
    · rw [show (999 : Int32) = nI 999 from rfl]; simp [c2, b2i]
    · rw [show (999 : Int32) = nI 999 from rfl] at z; simp [c2] at z
    · simp [c3, b2i]
    · simp [c3] at z
    · have e12' : v12 = nI (274 + 510 * v + 2 + 3 * c) := by rw [e12, ec]; simp (disch := omega) only [li_2, li_3, li_4, li_5, li_6, li_7, li_8, li_9, li_10, li_12, li_14, li_20, li_26, li_30, li_31, li_36, li_38, li_47, li_48, li_50, li_57, li_58, li_80, li_98, li_99, li_100, li_102, li_104, li_105, li_108, li_109, li_110, li_114, li_115, li_119, li_122, li_137, li_146, li_147, li_148, li_149, li_150, li_200, li_255, li_256, li_274, li_510, li_512, li_640, li_999, li_1000, li_1024, li_3334, li_5000, li_9999, li_10000, li_23338, li_26672, li_30000, li_99999, li_150000, li_300000, pk_mul, nI_add, pk_sub, nI_clamp, nI_1, nI_p1, nI_a0, nI_0a, nI_m0, nI_m1, cl_0, cl_1, z01, z11]
      clear e12
      subst e12'
      simp (disch := omega) only [li_2, li_3, li_4, li_5, li_6, li_7, li_8, li_9, li_10, li_12, li_14, li_20, li_26, li_30, li_31, li_36, li_38, li_47, li_48, li_50, li_57, li_58, li_80, li_98, li_99, li_100, li_102, li_104, li_105, li_108, li_109, li_110, li_114, li_115, li_119, li_122, li_137, li_146, li_147, li_148, li_149, li_150, li_200, li_255, li_256, li_274, li_510, li_512, li_640, li_999, li_1000, li_1024, li_3334, li_5000, li_9999, li_10000, li_23338, li_26672, li_30000, li_99999, li_150000, li_300000, pk_mul, nI_add, pk_sub, nI_clamp, nI_1, nI_p1, nI_a0, nI_0a, nI_m0, nI_m1, cl_0, cl_1, z01, z11, nI_leI, nI_ltI, nI_eq, nz_lt0, nz_le, nz_eq0, nz_pos, nz_le0, nz_eq1, nz_lt1, nz_ge1, nz_le1, nz_gt1, nz_vp, nz_vp0, nz_vp1, six_nI, vix_nI, bix_nI, pix_nI, fix_nI, gix_nI, rix_nI, zix_nI, pix_0, pix_1, bix_0, fix_0, fix_1, rix_1, true_and, and_true]
      refine ⟨by omega, by omega, fun q15 e15 => ⟨by omega, by omega, fun q18 e18 => ⟨by omega, by omega, fun q21 e21 => ⟨by omega, by omega, fun q24 e24 => ?_⟩⟩⟩⟩
      have h15 : q15 5 = q 5 := by rw [e15, va_up_ne _ _ (by decide)]
      have h18 : q18 5 = q 5 := by rw [e18, va_up_ne _ _ (by decide)]; exact h15
      have k24 : kQ q q24 [0] := by rw [e24, e21, e18, e15]; exact (((kQ.rf.up (by decide) _).up (by decide) _).up (by decide) _).up (by decide) _
      refine ⟨?_, k24, fun _ => ?_⟩
      · have hB9 : ptB (q 0) v (q 5 (s + 2)) (q 5 (s + 3)) = true := by
          unfold ptB
          rw [decide_eq_false (show ¬ (999 : Int32) < q 5 (s + 2) from c1), decide_eq_false (show ¬ (999 : Int32) < q 5 (s + 3) from c2), decide_eq_false c3, decide_eq_false (show ¬ q 0 (274 + 510 * v + 1) = (12 : Int32) from c4)]; rfl
        show (1 : Int32) = b2i (ptB (q 0) v (q 5 (s + 2)) (q 5 (s + 3)))
        rw [hB9]; rfl
      · have ic : iv (q 0 (274 + 510 * v + 1)) = c := by rw [ec]; exact nI_clamp (by omega)
        unfold ptS
        rw [ic, e24, va_up_self, e21, va_up_self, h18, e18, va_up_self, h15, e15, va_up_self]
        rw [pk_un (k := 274 + 510 * v + 2 + 3 * c + 2) (by omega), pk_un (k := 274 + 510 * v + 2 + 3 * c + 1) (by omega), pk_un (k := 274 + 510 * v + 2 + 3 * c) (by omega)]
    · rw [show (999 : Int32) = nI 999 from rfl, show (12 : Int32) = nI 12 from rfl]; simp [c1, c2, c3, c4, b2i]
    · rw [show (999 : Int32) = nI 999 from rfl, show (12 : Int32) = nI 12 from rfl] at z; simp [c1, c2, c3, c4] at z)

theorem nI_m (a : Nat) (h : 1 ≤ a) : nI a + (-1) = nI (a - 1) := by
  rw [← nI_p1 h, Int32.sub_eq_add_neg]
theorem rl_bx {P : Int32 → RST → Prop} {K : Int32 → Int32 → Int32 → Int32 → Int32 → Int32 → (Nat → Int32) → (Nat → Nat → Int32) → Prop} {r : Nat → Int32} {q : Nat → Nat → Int32} {v z c : Nat} {w p : Int32} (hv : v < 6) (h1 : 1 ≤ z) (h9 : z ≤ 9) (hc : c ≤ 5) (ec : q 0 (274 + 510 * v + 38 + z - 1) = nI c) : ∀ k i fuel, i + k = c → k < fuel → K (nI v) (nI z) w p (nI (274 + 510 * v + 38 + z - 1)) (nI (bxF (q 0) v z w k i)) r q → wp_X11_setsBreak_16 K P fuel (nI v) (nI z) w p (nI (274 + 510 * v + 38 + z - 1)) (nI i) r q := by
  intro k
  induction k with
  | zero =>
    intro i fuel hi hf hK
    obtain ⟨f, rfl⟩ : ∃ f, fuel = f + 1 := ⟨fuel - 1, by omega⟩; rw [wp_X11_setsBreak_16]; unfold wb_X11_setsBreak_16; dsimp only
    simp (disch := omega) only [li_2, li_3, li_4, li_5, li_6, li_7, li_8, li_9, li_10, li_12, li_14, li_20, li_26, li_30, li_31, li_36, li_38, li_47, li_48, li_50, li_57, li_58, li_80, li_98, li_99, li_100, li_102, li_104, li_105, li_108, li_109, li_110, li_114, li_115, li_119, li_122, li_137, li_146, li_147, li_148, li_149, li_150, li_200, li_255, li_256, li_274, li_510, li_512, li_640, li_999, li_1000, li_1024, li_3334, li_5000, li_9999, li_10000, li_23338, li_26672, li_30000, li_99999, li_150000, li_300000, pk_mul, nI_add, pk_sub, nI_clamp, nI_1, nI_p1, nI_a0, nI_0a, nI_m0, nI_m1, cl_0, cl_1, z01, z11, nI_leI, nI_ltI, nI_eq, nz_lt0, nz_le, nz_eq0, nz_pos, nz_le0, nz_eq1, nz_lt1, nz_ge1, nz_le1, nz_gt1, nz_vp, nz_vp0, nz_vp1, six_nI, vix_nI, bix_nI, pix_nI, fix_nI, gix_nI, rix_nI, zix_nI, pix_0, pix_1, bix_0, fix_0, fix_1, rix_1, true_and, and_true]
    rw [ec]
    simp (disch := omega) only [li_2, li_3, li_4, li_5, li_6, li_7, li_8, li_9, li_10, li_12, li_14, li_20, li_26, li_30, li_31, li_36, li_38, li_47, li_48, li_50, li_57, li_58, li_80, li_98, li_99, li_100, li_102, li_104, li_105, li_108, li_109, li_110, li_114, li_115, li_119, li_122, li_137, li_146, li_147, li_148, li_149, li_150, li_200, li_255, li_256, li_274, li_510, li_512, li_640, li_999, li_1000, li_1024, li_3334, li_5000, li_9999, li_10000, li_23338, li_26672, li_30000, li_99999, li_150000, li_300000, pk_mul, nI_add, pk_sub, nI_clamp, nI_1, nI_p1, nI_a0, nI_0a, nI_m0, nI_m1, cl_0, cl_1, z01, z11, nI_leI, nI_ltI, nI_eq, nz_lt0, nz_le, nz_eq0, nz_pos, nz_le0, nz_eq1, nz_lt1, nz_ge1, nz_le1, nz_gt1, nz_vp, nz_vp0, nz_vp1, six_nI, vix_nI, bix_nI, pix_nI, fix_nI, gix_nI, rix_nI, zix_nI, pix_0, pix_1, bix_0, fix_0, fix_1, rix_1, true_and, and_true]
    exact ⟨by omega, fun _ => hK, fun c => absurd (by omega) c⟩
  | succ k ih =>
    intro i fuel hi hf hK
    obtain ⟨f, rfl⟩ : ∃ f, fuel = f + 1 := ⟨fuel - 1, by omega⟩; rw [wp_X11_setsBreak_16]; unfold wb_X11_setsBreak_16; dsimp only
    simp (disch := omega) only [li_2, li_3, li_4, li_5, li_6, li_7, li_8, li_9, li_10, li_12, li_14, li_20, li_26, li_30, li_31, li_36, li_38, li_47, li_48, li_50, li_57, li_58, li_80, li_98, li_99, li_100, li_102, li_104, li_105, li_108, li_109, li_110, li_114, li_115, li_119, li_122, li_137, li_146, li_147, li_148, li_149, li_150, li_200, li_255, li_256, li_274, li_510, li_512, li_640, li_999, li_1000, li_1024, li_3334, li_5000, li_9999, li_10000, li_23338, li_26672, li_30000, li_99999, li_150000, li_300000, pk_mul, nI_add, pk_sub, nI_clamp, nI_1, nI_p1, nI_a0, nI_0a, nI_m0, nI_m1, cl_0, cl_1, z01, z11, nI_leI, nI_ltI, nI_eq, nz_lt0, nz_le, nz_eq0, nz_pos, nz_le0, nz_eq1, nz_lt1, nz_ge1, nz_le1, nz_gt1, nz_vp, nz_vp0, nz_vp1, six_nI, vix_nI, bix_nI, pix_nI, fix_nI, gix_nI, rix_nI, zix_nI, pix_0, pix_1, bix_0, fix_0, fix_1, rix_1, true_and, and_true]
    rw [ec]
    simp (disch := omega) only [li_2, li_3, li_4, li_5, li_6, li_7, li_8, li_9, li_10, li_12, li_14, li_20, li_26, li_30, li_31, li_36, li_38, li_47, li_48, li_50, li_57, li_58, li_80, li_98, li_99, li_100, li_102, li_104, li_105, li_108, li_109, li_110, li_114, li_115, li_119, li_122, li_137, li_146, li_147, li_148, li_149, li_150, li_200, li_255, li_256, li_274, li_510, li_512, li_640, li_999, li_1000, li_1024, li_3334, li_5000, li_9999, li_10000, li_23338, li_26672, li_30000, li_99999, li_150000, li_300000, pk_mul, nI_add, pk_sub, nI_clamp, nI_1, nI_p1, nI_a0, nI_0a, nI_m0, nI_m1, cl_0, cl_1, z01, z11, nI_leI, nI_ltI, nI_eq, nz_lt0, nz_le, nz_eq0, nz_pos, nz_le0, nz_eq1, nz_lt1, nz_ge1, nz_le1, nz_gt1, nz_vp, nz_vp0, nz_vp1, six_nI, vix_nI, bix_nI, pix_nI, fix_nI, gix_nI, rix_nI, zix_nI, pix_0, pix_1, bix_0, fix_0, fix_1, rix_1, true_and, and_true]
    rw [bxF] at hK
    refine ⟨by omega, fun c => absurd c (by omega), fun _ => ⟨by omega, fun c => ?_, fun c v6 e6 => ?_⟩⟩
    · rw [if_neg (Int32.not_lt.mpr c)] at hK
      exact hK
    · rw [if_pos (Int32.not_le.mp c)] at hK
      subst e6
      exact ih (i + 1) f (by omega) (by omega) hK
theorem rl_up {P : Int32 → RST → Prop} {K : Int32 → Int32 → Int32 → Int32 → Int32 → Int32 → Int32 → (Nat → Int32) → (Nat → Nat → Int32) → Prop} {r : Nat → Int32} {μ : Nat → Int32} {v z c i : Nat} {w p : Int32} (hv : v < 6) (h1 : 1 ≤ z) (h9 : z ≤ 9) (hc : c ≤ 4) (hi : i ≤ c) : ∀ (m fuel : Nat) (q : Nat → Nat → Int32), i * 2 + m ≤ 2 * c → m < fuel → q 0 = (fun k => if 274 + 510 * v + 47 + 10 * (z - 1) + 2 * i + m + 2 ≤ k ∧ k < 274 + 510 * v + 47 + 10 * (z - 1) + 2 * c + 2 then μ (k - 2) else μ k) → (∀ q1, kQ q q1 [0] → q1 0 = bkU μ v z i c → K (nI v) (nI z) w p (nI (274 + 510 * v + 38 + z - 1)) (nI i) 0 r q1) → wp_X11_setsBreak_207 K P fuel (nI v) (nI z) w p (nI (274 + 510 * v + 38 + z - 1)) (nI i) 0 (nI (274 + 510 * v + 47 + 10 * (z - 1) + 2 * i + m - 1)) r q := by
  intro m
  induction m with
  | zero =>
    intro fuel q hm hf hq hK
    obtain ⟨f, rfl⟩ : ∃ f, fuel = f + 1 := ⟨fuel - 1, by omega⟩; rw [wp_X11_setsBreak_207]; unfold wb_X11_setsBreak_207; dsimp only
    simp (disch := omega) only [li_2, li_3, li_4, li_5, li_6, li_7, li_8, li_9, li_10, li_12, li_14, li_20, li_26, li_30, li_31, li_36, li_38, li_47, li_48, li_50, li_57, li_58, li_80, li_98, li_99, li_100, li_102, li_104, li_105, li_108, li_109, li_110, li_114, li_115, li_119, li_122, li_137, li_146, li_147, li_148, li_149, li_150, li_200, li_255, li_256, li_274, li_510, li_512, li_640, li_999, li_1000, li_1024, li_3334, li_5000, li_9999, li_10000, li_23338, li_26672, li_30000, li_99999, li_150000, li_300000, pk_mul, nI_add, pk_sub, nI_clamp, nI_1, nI_p1, nI_a0, nI_0a, nI_m0, nI_m1, cl_0, cl_1, z01, z11, nI_leI, nI_ltI, nI_eq, nz_lt0, nz_le, nz_eq0, nz_pos, nz_le0, nz_eq1, nz_lt1, nz_ge1, nz_le1, nz_gt1, nz_vp, nz_vp0, nz_vp1, six_nI, vix_nI, bix_nI, pix_nI, fix_nI, gix_nI, rix_nI, zix_nI, pix_0, pix_1, bix_0, fix_0, fix_1, rix_1, true_and, and_true]
    refine ⟨fun _ => hK q kQ.rf ?_, fun c => absurd (by omega) c⟩
    rw [hq]
    rfl
  | succ m ih =>
    intro fuel q hm hf hq hK
    obtain ⟨f, rfl⟩ : ∃ f, fuel = f + 1 := ⟨fuel - 1, by omega⟩; rw [wp_X11_setsBreak_207]; unfold wb_X11_setsBreak_207; dsimp only
    simp (disch := omega) only [li_2, li_3, li_4, li_5, li_6, li_7, li_8, li_9, li_10, li_12, li_14, li_20, li_26, li_30, li_31, li_36, li_38, li_47, li_48, li_50, li_57, li_58, li_80, li_98, li_99, li_100, li_102, li_104, li_105, li_108, li_109, li_110, li_114, li_115, li_119, li_122, li_137, li_146, li_147, li_148, li_149, li_150, li_200, li_255, li_256, li_274, li_510, li_512, li_640, li_999, li_1000, li_1024, li_3334, li_5000, li_9999, li_10000, li_23338, li_26672, li_30000, li_99999, li_150000, li_300000, pk_mul, nI_add, pk_sub, nI_clamp, nI_1, nI_p1, nI_a0, nI_0a, nI_m0, nI_m1, cl_0, cl_1, z01, z11, nI_leI, nI_ltI, nI_eq, nz_lt0, nz_le, nz_eq0, nz_pos, nz_le0, nz_eq1, nz_lt1, nz_ge1, nz_le1, nz_gt1, nz_vp, nz_vp0, nz_vp1, six_nI, vix_nI, bix_nI, pix_nI, fix_nI, gix_nI, rix_nI, zix_nI, pix_0, pix_1, bix_0, fix_0, fix_1, rix_1, true_and, and_true]
    refine ⟨fun c => absurd c (by omega), fun _ => ⟨fun c => absurd trivial c, fun _ => ⟨by omega, by omega, fun q27 e27 v28 e28 => ?_⟩⟩⟩
    rw [nI_m _ (by omega)] at e28
    subst e28
    have k27 : kQ q q27 [0] := by rw [e27]; exact kQ.rf.up (by decide) _
    have := ih f q27 (by omega) (by omega) ?_ (fun q1 h1 h2 => hK q1 (k27.tr h1 (fun _ h => h) (fun _ h => h)) h2)
    · exact this
    · rw [e27, va_up_self, hq]
      funext k
      by_cases e : k = 274 + 510 * v + 47 + 10 * (z - 1) + 2 * i + (m + 1) - 1 + 2
      · subst e
        rw [pk_us, if_pos (by omega)]
        dsimp only
        rw [if_neg (by omega)]
        congr 1
      · rw [pk_un e]
        by_cases c1 : 274 + 510 * v + 47 + 10 * (z - 1) + 2 * i + m + 2 ≤ k ∧ k < 274 + 510 * v + 47 + 10 * (z - 1) + 2 * c + 2
        · rw [if_pos c1, if_pos (by omega)]
        · rw [if_neg c1, if_neg (by omega)]
theorem rl_dn {P : Int32 → RST → Prop} {r : Nat → Int32} {μ : Nat → Int32} {v z c i : Nat} (hv : v < 6) (h1 : 1 ≤ z) (h9 : z ≤ 9) (hc : c ≤ 5) (hi : i < c) : ∀ (m x fuel : Nat) (q : Nat → Nat → Int32), x + m = 274 + 510 * v + 47 + 10 * (z - 1) + 2 * (c - 1) → 274 + 510 * v + 47 + 10 * (z - 1) + 2 * i ≤ x → m < fuel → q 0 = (fun k => if k = 274 + 510 * v + 38 + z - 1 then nI (c - 1) else if 274 + 510 * v + 47 + 10 * (z - 1) + 2 * i ≤ k ∧ k < x then μ (k + 2) else μ k) → (∀ q1, kQ q q1 [0] → q1 0 = bkD μ v z i c → P 1 (r, q1)) → wp_X11_setsBreak_150 P fuel (nI v) (nI z) (nI (274 + 510 * v + 38 + z - 1)) (nI x) r q := by
  intro m
  induction m with
  | zero =>
    intro x fuel q hm hx hf hq hK
    have em : q 0 (274 + 510 * v + 38 + z - 1) = nI (c - 1) := by rw [hq]; exact if_pos rfl
    obtain ⟨f, rfl⟩ : ∃ f, fuel = f + 1 := ⟨fuel - 1, by omega⟩; rw [wp_X11_setsBreak_150]; unfold wb_X11_setsBreak_150; dsimp only
    simp (disch := omega) only [li_2, li_3, li_4, li_5, li_6, li_7, li_8, li_9, li_10, li_12, li_14, li_20, li_26, li_30, li_31, li_36, li_38, li_47, li_48, li_50, li_57, li_58, li_80, li_98, li_99, li_100, li_102, li_104, li_105, li_108, li_109, li_110, li_114, li_115, li_119, li_122, li_137, li_146, li_147, li_148, li_149, li_150, li_200, li_255, li_256, li_274, li_510, li_512, li_640, li_999, li_1000, li_1024, li_3334, li_5000, li_9999, li_10000, li_23338, li_26672, li_30000, li_99999, li_150000, li_300000, pk_mul, nI_add, pk_sub, nI_clamp, nI_1, nI_p1, nI_a0, nI_0a, nI_m0, nI_m1, cl_0, cl_1, z01, z11, nI_leI, nI_ltI, nI_eq, nz_lt0, nz_le, nz_eq0, nz_pos, nz_le0, nz_eq1, nz_lt1, nz_ge1, nz_le1, nz_gt1, nz_vp, nz_vp0, nz_vp1, six_nI, vix_nI, bix_nI, pix_nI, fix_nI, gix_nI, rix_nI, zix_nI, pix_0, pix_1, bix_0, fix_0, fix_1, rix_1, true_and, and_true]
    rw [em]
    simp (disch := omega) only [li_2, li_3, li_4, li_5, li_6, li_7, li_8, li_9, li_10, li_12, li_14, li_20, li_26, li_30, li_31, li_36, li_38, li_47, li_48, li_50, li_57, li_58, li_80, li_98, li_99, li_100, li_102, li_104, li_105, li_108, li_109, li_110, li_114, li_115, li_119, li_122, li_137, li_146, li_147, li_148, li_149, li_150, li_200, li_255, li_256, li_274, li_510, li_512, li_640, li_999, li_1000, li_1024, li_3334, li_5000, li_9999, li_10000, li_23338, li_26672, li_30000, li_99999, li_150000, li_300000, pk_mul, nI_add, pk_sub, nI_clamp, nI_1, nI_p1, nI_a0, nI_0a, nI_m0, nI_m1, cl_0, cl_1, z01, z11, nI_leI, nI_ltI, nI_eq, nz_lt0, nz_le, nz_eq0, nz_pos, nz_le0, nz_eq1, nz_lt1, nz_ge1, nz_le1, nz_gt1, nz_vp, nz_vp0, nz_vp1, six_nI, vix_nI, bix_nI, pix_nI, fix_nI, gix_nI, rix_nI, zix_nI, pix_0, pix_1, bix_0, fix_0, fix_1, rix_1, true_and, and_true]
    refine ⟨by omega, fun _ => hK q kQ.rf ?_, fun c => absurd (by omega) c⟩
    rw [hq]
    have : x = 274 + 510 * v + 47 + 10 * (z - 1) + 2 * (c - 1) := by omega
    rw [this]
    rfl
  | succ m ih =>
    intro x fuel q hm hx hf hq hK
    have em : q 0 (274 + 510 * v + 38 + z - 1) = nI (c - 1) := by rw [hq]; exact if_pos rfl
    obtain ⟨f, rfl⟩ : ∃ f, fuel = f + 1 := ⟨fuel - 1, by omega⟩; rw [wp_X11_setsBreak_150]; unfold wb_X11_setsBreak_150; dsimp only
    simp (disch := omega) only [li_2, li_3, li_4, li_5, li_6, li_7, li_8, li_9, li_10, li_12, li_14, li_20, li_26, li_30, li_31, li_36, li_38, li_47, li_48, li_50, li_57, li_58, li_80, li_98, li_99, li_100, li_102, li_104, li_105, li_108, li_109, li_110, li_114, li_115, li_119, li_122, li_137, li_146, li_147, li_148, li_149, li_150, li_200, li_255, li_256, li_274, li_510, li_512, li_640, li_999, li_1000, li_1024, li_3334, li_5000, li_9999, li_10000, li_23338, li_26672, li_30000, li_99999, li_150000, li_300000, pk_mul, nI_add, pk_sub, nI_clamp, nI_1, nI_p1, nI_a0, nI_0a, nI_m0, nI_m1, cl_0, cl_1, z01, z11, nI_leI, nI_ltI, nI_eq, nz_lt0, nz_le, nz_eq0, nz_pos, nz_le0, nz_eq1, nz_lt1, nz_ge1, nz_le1, nz_gt1, nz_vp, nz_vp0, nz_vp1, six_nI, vix_nI, bix_nI, pix_nI, fix_nI, gix_nI, rix_nI, zix_nI, pix_0, pix_1, bix_0, fix_0, fix_1, rix_1, true_and, and_true]
    rw [em]
    simp (disch := omega) only [li_2, li_3, li_4, li_5, li_6, li_7, li_8, li_9, li_10, li_12, li_14, li_20, li_26, li_30, li_31, li_36, li_38, li_47, li_48, li_50, li_57, li_58, li_80, li_98, li_99, li_100, li_102, li_104, li_105, li_108, li_109, li_110, li_114, li_115, li_119, li_122, li_137, li_146, li_147, li_148, li_149, li_150, li_200, li_255, li_256, li_274, li_510, li_512, li_640, li_999, li_1000, li_1024, li_3334, li_5000, li_9999, li_10000, li_23338, li_26672, li_30000, li_99999, li_150000, li_300000, pk_mul, nI_add, pk_sub, nI_clamp, nI_1, nI_p1, nI_a0, nI_0a, nI_m0, nI_m1, cl_0, cl_1, z01, z11, nI_leI, nI_ltI, nI_eq, nz_lt0, nz_le, nz_eq0, nz_pos, nz_le0, nz_eq1, nz_lt1, nz_ge1, nz_le1, nz_gt1, nz_vp, nz_vp0, nz_vp1, six_nI, vix_nI, bix_nI, pix_nI, fix_nI, gix_nI, rix_nI, zix_nI, pix_0, pix_1, bix_0, fix_0, fix_1, rix_1, true_and, and_true]
    refine ⟨by omega, fun c => absurd c (by omega), fun _ => ⟨by omega, by omega, fun q61 e61 v62 e62 => ?_⟩⟩
    subst e62
    have k61 : kQ q q61 [0] := by rw [e61]; exact kQ.rf.up (by decide) _
    refine ih (x + 1) f q61 (by omega) (by omega) (by omega) ?_ (fun q1 h1 h2 => hK q1 (k61.tr h1 (fun _ h => h) (fun _ h => h)) h2)
    rw [e61, va_up_self, hq]
    funext k
    by_cases e : k = x
    · subst e
      have a1 : ¬ (k + 2 = 274 + 510 * v + 38 + z - 1) := by omega
      have a2 : ¬ (274 + 510 * v + 47 + 10 * (z - 1) + 2 * i ≤ k + 2 ∧ k + 2 < k) := by omega
      have a3 : ¬ (k = 274 + 510 * v + 38 + z - 1) := by omega
      have a4 : 274 + 510 * v + 47 + 10 * (z - 1) + 2 * i ≤ k ∧ k < k + 1 := by omega
      rw [pk_us]
      dsimp only
      rw [if_neg a1, if_neg a2, if_neg a3, if_pos a4]
    · rw [pk_un e]
      by_cases c0 : k = 274 + 510 * v + 38 + z - 1
      · rw [if_pos c0, if_pos c0]
      · rw [if_neg c0, if_neg c0]
        by_cases c1 : 274 + 510 * v + 47 + 10 * (z - 1) + 2 * i ≤ k ∧ k < x
        · rw [if_pos c1, if_pos (by omega)]
        · rw [if_neg c1, if_neg (by omega)]
theorem w_sb125 {r : Nat → Int32} {q : Nat → Nat → Int32} {v z c : Nat} {w p : Int32} (hv : v < 6) (h1 : 1 ≤ z) (h9 : z ≤ 9) (hc : c ≤ 5) (ec : q 0 (274 + 510 * v + 38 + z - 1) = nI c) (hi : bxI (q 0) v z w ≤ c) (hB : bkB (q 0) v z w p = true) : wp_X11_setsBreak_125 (fun v1 u => v1 = b2i (bkB (q 0) v z w p) ∧ u.1 = r ∧ kQ q u.2 [0] ∧ (bkB (q 0) v z w p = true → u.2 0 = bkS (q 0) v z w p)) (nI v) (nI z) w p (nI (274 + 510 * v + 38 + z - 1)) (nI (bxI (q 0) v z w)) (b2i (bxB (q 0) v z w)) r q := by
  have ic : iv (q 0 (274 + 510 * v + 38 + z - 1)) = c := by rw [ec]; exact nI_clamp (by omega)
  have hB0 := hB
  unfold bkB at hB
  rw [Bool.and_eq_true] at hB
  generalize hI : bxI (q 0) v z w = i at *
  have hbx : bxB (q 0) v z w = true → i < c := fun h => by
    unfold bxB at h
    rw [hI, ic, Bool.and_eq_true, decide_eq_true_eq] at h
    exact h.1
  unfold wp_X11_setsBreak_125
  simp (disch := omega) only [li_2, li_3, li_4, li_5, li_6, li_7, li_8, li_9, li_10, li_12, li_14, li_20, li_26, li_30, li_31, li_36, li_38, li_47, li_48, li_50, li_57, li_58, li_80, li_98, li_99, li_100, li_102, li_104, li_105, li_108, li_109, li_110, li_114, li_115, li_119, li_122, li_137, li_146, li_147, li_148, li_149, li_150, li_200, li_255, li_256, li_274, li_510, li_512, li_640, li_999, li_1000, li_1024, li_3334, li_5000, li_9999, li_10000, li_23338, li_26672, li_30000, li_99999, li_150000, li_300000, pk_mul, nI_add, pk_sub, nI_clamp, nI_1, nI_p1, nI_a0, nI_0a, nI_m0, nI_m1, cl_0, cl_1, z01, z11, nI_leI, nI_ltI, nI_eq, nz_lt0, nz_le, nz_eq0, nz_pos, nz_le0, nz_eq1, nz_lt1, nz_ge1, nz_le1, nz_gt1, nz_vp, nz_vp0, nz_vp1, six_nI, vix_nI, bix_nI, pix_nI, fix_nI, gix_nI, rix_nI, zix_nI, pix_0, pix_1, bix_0, fix_0, fix_1, rix_1, true_and, and_true]
  rw [ec]
  refine ⟨fun cp => ⟨by omega, fun v22 e22 => ?_⟩, fun cp => ⟨by omega, by omega, fun q55 e55 v56 e56 => ?_⟩⟩
  · have e22' : v22 = nI (274 + 510 * v + 47 + 10 * (z - 1) + 2 * c - 1) := by rw [e22]; simp (disch := omega) only [li_2, li_3, li_4, li_5, li_6, li_7, li_8, li_9, li_10, li_12, li_14, li_20, li_26, li_30, li_31, li_36, li_38, li_47, li_48, li_50, li_57, li_58, li_80, li_98, li_99, li_100, li_102, li_104, li_105, li_108, li_109, li_110, li_114, li_115, li_119, li_122, li_137, li_146, li_147, li_148, li_149, li_150, li_200, li_255, li_256, li_274, li_510, li_512, li_640, li_999, li_1000, li_1024, li_3334, li_5000, li_9999, li_10000, li_23338, li_26672, li_30000, li_99999, li_150000, li_300000, pk_mul, nI_add, pk_sub, nI_clamp, nI_1, nI_p1, nI_a0, nI_0a, nI_m0, nI_m1, cl_0, cl_1, z01, z11]
    clear e22
    subst e22'
    have hS : bkS (q 0) v z w p = if bxB (q 0) v z w = true then upd (upd (q 0) (274 + 510 * v + 47 + 10 * (z - 1) + 2 * i) w) (274 + 510 * v + 47 + 10 * (z - 1) + 2 * i + 1) p else upd (upd (upd (bkU (q 0) v z i c) (274 + 510 * v + 38 + z - 1) (nI c + 1)) (274 + 510 * v + 47 + 10 * (z - 1) + 2 * i) w) (274 + 510 * v + 47 + 10 * (z - 1) + 2 * i + 1) p := by
      unfold bkS
      rw [if_neg cp, hI, ic, ec]
    -- the end: the weight and the rate
    have fin : ∀ (b : Bool) (q1 : Nat → Nat → Int32), kQ q q1 [0] → b = bxB (q 0) v z w → q1 0 (274 + 510 * v + 38 + z - 1) = nI c → (q1 0 = if b = true then q 0 else bkU (q 0) v z i c) → wp_X11_setsBreak_246 (fun v1 u => v1 = b2i (bkB (q 0) v z w p) ∧ u.1 = r ∧ kQ q u.2 [0] ∧ (bkB (q 0) v z w p = true → u.2 0 = bkS (q 0) v z w p)) (nI v) (nI z) w p (nI (274 + 510 * v + 38 + z - 1)) (nI i) (b2i b) r q1 := by
      intro b q1 hk hb e0 hq
      unfold wp_X11_setsBreak_246
      simp (disch := omega) only [li_2, li_3, li_4, li_5, li_6, li_7, li_8, li_9, li_10, li_12, li_14, li_20, li_26, li_30, li_31, li_36, li_38, li_47, li_48, li_50, li_57, li_58, li_80, li_98, li_99, li_100, li_102, li_104, li_105, li_108, li_109, li_110, li_114, li_115, li_119, li_122, li_137, li_146, li_147, li_148, li_149, li_150, li_200, li_255, li_256, li_274, li_510, li_512, li_640, li_999, li_1000, li_1024, li_3334, li_5000, li_9999, li_10000, li_23338, li_26672, li_30000, li_99999, li_150000, li_300000, pk_mul, nI_add, pk_sub, nI_clamp, nI_1, nI_p1, nI_a0, nI_0a, nI_m0, nI_m1, cl_0, cl_1, z01, z11, nI_leI, nI_ltI, nI_eq, nz_lt0, nz_le, nz_eq0, nz_pos, nz_le0, nz_eq1, nz_lt1, nz_ge1, nz_le1, nz_gt1, nz_vp, nz_vp0, nz_vp1, six_nI, vix_nI, bix_nI, pix_nI, fix_nI, gix_nI, rix_nI, zix_nI, pix_0, pix_1, bix_0, fix_0, fix_1, rix_1, true_and, and_true]
      rw [e0]
      refine ⟨by omega, fun c0 => ⟨by omega, fun q41 e41 => ⟨by omega, fun q43 e43 => ⟨by omega, fun q45 e45 => ?_⟩⟩⟩, fun c0 => ⟨by omega, fun q41 e41 => ⟨by omega, fun q43 e43 => ⟨by omega, fun q45 e45 => ?_⟩⟩⟩⟩
      · have hb0 : b = false := (b2i_0 _).mp c0
        refine ⟨by rw [hB0]; rfl, by rw [e45, e43, e41]; exact ((hk.up (by decide) _).up (by decide) _).up (by decide) _, fun _ => ?_⟩
        rw [hS, ← hb, hb0, if_neg (by decide), e45, va_up_self, e43, va_up_self, e41, va_up_self, hq, hb0, if_neg (by decide)]
      · have hb1 : b = true := bx_of rfl c0
        refine ⟨by rw [hB0]; rfl, by rw [e45, e43, e41]; exact ((hk.up (by decide) _).up (by decide) _).up (by decide) _, fun _ => ?_⟩
        rw [hS, ← hb, hb1, if_pos rfl, e45, va_up_self, e43, va_up_self, e41, va_up_self, hq, hb1, if_pos rfl]
        congr 2
        funext k
        by_cases e : k = 274 + 510 * v + 38 + z - 1
        · rw [e, pk_us, ec, Int32.add_zero]
        · rw [pk_un e]
    cases hb : bxB (q 0) v z w with
    | true =>
      refine ⟨1, ?_⟩
      rw [wp_X11_setsBreak_207]; unfold wb_X11_setsBreak_207; dsimp only
      simp (disch := omega) only [li_2, li_3, li_4, li_5, li_6, li_7, li_8, li_9, li_10, li_12, li_14, li_20, li_26, li_30, li_31, li_36, li_38, li_47, li_48, li_50, li_57, li_58, li_80, li_98, li_99, li_100, li_102, li_104, li_105, li_108, li_109, li_110, li_114, li_115, li_119, li_122, li_137, li_146, li_147, li_148, li_149, li_150, li_200, li_255, li_256, li_274, li_510, li_512, li_640, li_999, li_1000, li_1024, li_3334, li_5000, li_9999, li_10000, li_23338, li_26672, li_30000, li_99999, li_150000, li_300000, pk_mul, nI_add, pk_sub, nI_clamp, nI_1, nI_p1, nI_a0, nI_0a, nI_m0, nI_m1, cl_0, cl_1, z01, z11, nI_leI, nI_ltI, nI_eq, nz_lt0, nz_le, nz_eq0, nz_pos, nz_le0, nz_eq1, nz_lt1, nz_ge1, nz_le1, nz_gt1, nz_vp, nz_vp0, nz_vp1, six_nI, vix_nI, bix_nI, pix_nI, fix_nI, gix_nI, rix_nI, zix_nI, pix_0, pix_1, bix_0, fix_0, fix_1, rix_1, true_and, and_true]
      have := hbx hb
      have f1 := fin true q kQ.rf hb.symm ec rfl
      rw [hb] at *
      exact ⟨fun c => absurd c (by omega), fun _ => ⟨fun _ => f1, fun c => absurd c (by decide)⟩⟩
    | false =>
      have hc5 : c ≤ 4 := by
        have := hB.2
        rw [if_neg cp, hb, ec] at this
        rcases Nat.lt_or_ge c 5 with q5 | q5
        · omega
        · have e5 : c = 5 := by omega
          subst e5
          exact absurd this (by decide)
      refine ⟨100, ?_⟩
      have := rl_up (P := fun v1 u => v1 = b2i (bkB (q 0) v z w p) ∧ u.1 = r ∧ kQ q u.2 [0] ∧ (bkB (q 0) v z w p = true → u.2 0 = bkS (q 0) v z w p)) (K := fun y29 y30 y31 y32 y33 y34 y35 r36 q37 => wp_X11_setsBreak_246 (fun v1 u => v1 = b2i (bkB (q 0) v z w p) ∧ u.1 = r ∧ kQ q u.2 [0] ∧ (bkB (q 0) v z w p = true → u.2 0 = bkS (q 0) v z w p)) y29 y30 y31 y32 y33 y34 y35 r36 q37) (r := r) (μ := q 0) (w := w) (p := p) hv h1 h9 hc5 hi (2 * c - 2 * i) 100 q (by omega) (by omega) ?_ (fun q1 k1 k2 => ?_)
      · rw [show 274 + 510 * v + 47 + 10 * (z - 1) + 2 * i + (2 * c - 2 * i) - 1 = 274 + 510 * v + 47 + 10 * (z - 1) + 2 * c - 1 by omega] at this
        exact this
      · funext k
        rw [if_neg (by omega)]
      · have f1 := fin false q1 k1 hb.symm ?_ (by rw [k2]; rfl)
        · exact f1
        · rw [k2]
          unfold bkU
          rw [if_neg (by omega)]
          exact ec
  · have hb : bxB (q 0) v z w = true := by
      have := hB.2
      rw [if_pos cp] at this
      exact this
    have hic := hbx hb
    have e56' : v56 = nI (274 + 510 * v + 47 + 10 * (z - 1) + 2 * i) := by rw [e56]
    clear e56
    subst e56'
    refine ⟨100, ?_⟩
    have k55 : kQ q q55 [0] := by rw [e55]; exact kQ.rf.up (by decide) _
    refine rl_dn (μ := q 0) (c := c) (i := i) hv h1 h9 hc hic (2 * (c - 1) - 2 * i) _ 100 q55 (by omega) (Nat.le_refl _) (by omega) ?_ (fun q1 g1 g2 => ⟨by rw [hB0]; rfl, rfl, k55.tr g1 (fun _ h => h) (fun _ h => h), fun _ => ?_⟩)
    · rw [e55, va_up_self]
      funext k
      by_cases e : k = 274 + 510 * v + 38 + z - 1
      · subst e
        rw [pk_us, if_pos rfl, nI_p1 (by omega)]
      · rw [pk_un e, if_neg e, if_neg (by omega)]
    · dsimp only
      rw [g2]
      unfold bkS
      rw [if_pos cp, hI, ic]
theorem kd_X11_setsBreak (l : Launch) (D : va_G) (T : Nat → ClassId) (m0 : Nat) (a : Nat → Nat) (p0 : Int32) (p1 : Int32) (p2 : Int32) (p3 : Int32) (r : Nat → Int32) (q : Nat → Nat → Int32) (h : WF (q 0) ∧ vix p0 ∧ zix p1 ∧ ∃ n : Nat, n ≤ 9999 ∧ p3 = nI n) : RMi l yX11_setsBreak (ws_X11_setsBreak) rm_X11_setsBreak D T m0 a [.ref m0, .int p0, .int p1, .int p2, .int p3] r q (fun v u => (v = b2i (bkB (q 0) (iv p0) (iv p1) p2 p3) ∧ u.1 = r ∧ kQ q u.2 [0] ∧ (bkB (q 0) (iv p0) (iv p1) p2 p3 = true → u.2 0 = bkS (q 0) (iv p0) (iv p1) p2 p3))) := c_X11_setsBreak l D T m0 a p0 p1 p2 p3 r q _ <|
  (by
    obtain ⟨hw, ⟨v, hv, e0⟩, ⟨z, h1, h9, e1⟩, ⟨p, hp, e3⟩⟩ := h
    subst e0 e1
    obtain ⟨c, hc, ec⟩ := hw.brk hv h1 h9
    have ev : iv (nI v) = v := nI_clamp (by omega)
    have ez : iv (nI z) = z := nI_clamp (by omega)
    have ic : iv (q 0 (274 + 510 * v + 38 + z - 1)) = c := by rw [ec]; exact nI_clamp (by omega)
    rw [ev, ez]
    have hi : bxI (q 0) v z p2 ≤ c := by
      have := (bxF_le (μ := q 0) (v := v) (z := z) (w := p2) (iv (q 0 (274 + 510 * v + 38 + z - 1))) 0).2
      unfold bxI
      omega
    unfold wp_X11_setsBreak
    intro v1 e1
    have e1' : v1 = nI (274 + 510 * v + 38 + z - 1) := by rw [e1]; simp (disch := omega) only [li_2, li_3, li_4, li_5, li_6, li_7, li_8, li_9, li_10, li_12, li_14, li_20, li_26, li_30, li_31, li_36, li_38, li_47, li_48, li_50, li_57, li_58, li_80, li_98, li_99, li_100, li_102, li_104, li_105, li_108, li_109, li_110, li_114, li_115, li_119, li_122, li_137, li_146, li_147, li_148, li_149, li_150, li_200, li_255, li_256, li_274, li_510, li_512, li_640, li_999, li_1000, li_1024, li_3334, li_5000, li_9999, li_10000, li_23338, li_26672, li_30000, li_99999, li_150000, li_300000, pk_mul, nI_add, pk_sub, nI_clamp, nI_1, nI_p1, nI_a0, nI_0a, nI_m0, nI_m1, cl_0, cl_1, z01, z11]
    clear e1
    subst e1'
    refine ⟨100, rl_bx hv h1 h9 hc ec c 0 100 (by omega) (by omega) ?_⟩
    have hI : bxF (q 0) v z p2 c 0 = bxI (q 0) v z p2 := by unfold bxI; rw [ic]
    rw [hI]
    -- the flag
    have main : wp_X11_setsBreak_83 (fun v1 u => v1 = b2i (bkB (q 0) v z p2 p3) ∧ u.1 = r ∧ kQ q u.2 [0] ∧ (bkB (q 0) v z p2 p3 = true → u.2 0 = bkS (q 0) v z p2 p3)) (nI v) (nI z) p2 p3 (nI (274 + 510 * v + 38 + z - 1)) (nI (bxI (q 0) v z p2)) (b2i (bxB (q 0) v z p2)) r q := by
      have yes := fun hB => w_sb125 (r := r) (p := p3) hv h1 h9 hc ec hi hB
      have no : bkB (q 0) v z p2 p3 = false → ((fun (v1 : Int32) (u : RST) => v1 = b2i (bkB (q 0) v z p2 p3) ∧ u.1 = r ∧ kQ q u.2 [0] ∧ (bkB (q 0) v z p2 p3 = true → u.2 0 = bkS (q 0) v z p2 p3)) 0 (r, q)) := fun hB => ⟨by rw [hB]; rfl, rfl, kQ.rf, fun z => by rw [hB] at z; cases z⟩
      generalize hbb : bxB (q 0) v z p2 = b at *
      have e5 : (q 0 (274 + 510 * v + 38 + z - 1) = (5 : Int32)) = (c = 5) := by rw [ec]; exact propext (nI_eq (b := 5) (by omega) (by decide))
      have eb : bkB (q 0) v z p2 p3 = (!decide (99 < p3) && (if p3 = 0 then b else b || !decide (q 0 (274 + 510 * v + 38 + z - 1) = 5))) := by unfold bkB; rw [hbb]
      unfold wp_X11_setsBreak_83
      rw [show vp_in (nI (274 + 510 * v + 38 + z - 1)) 3334 = (274 + 510 * v + 38 + z - 1 < 3334) from nz_vp (by omega) (by decide), nI_clamp (n := 274 + 510 * v + 38 + z - 1) (by omega)]
      refine ⟨fun c1 => no (by rw [eb, decide_eq_true c1]; rfl), fun c1 => ⟨fun c2 => ⟨fun c3 => ?_, fun c3 => ⟨fun c4 => ?_, fun c4 => ⟨by omega, fun c5 => ?_, fun c5 => ?_⟩⟩⟩, fun c2 => ⟨fun c4 => ?_, fun c4 => ⟨fun c3 => ?_, fun c3 => absurd (by rw [c2]; decide) c3⟩⟩⟩⟩
      · exfalso
        rw [e3] at c2 c3
        rw [nz_le0 (by omega)] at c3
        rw [nz_eq0 (by omega)] at c2
        omega
      · have hb : b = true := bx_of rfl c4
        refine yes ?_
        rw [eb, decide_eq_false c1, if_neg c2, hb]; rfl
      · have hb : b = false := (b2i_0 _).mp c4
        refine yes ?_
        rw [eb, decide_eq_false c1, if_neg c2, hb, decide_eq_false c5]; rfl
      · have hb : b = false := (b2i_0 _).mp c4
        refine no ?_
        rw [eb, decide_eq_false c1, if_neg c2, hb, decide_eq_true c5]; rfl
      · have hb : b = false := (b2i_0 _).mp c4
        refine no ?_
        rw [eb, decide_eq_false c1, if_pos c2, hb]; rfl
      · have hb : b = true := bx_of rfl c4
        refine yes ?_
        rw [eb, decide_eq_false c1, if_pos c2, hb]; rfl
    unfold wp_X11_setsBreak_50
    simp (disch := omega) only [li_2, li_3, li_4, li_5, li_6, li_7, li_8, li_9, li_10, li_12, li_14, li_20, li_26, li_30, li_31, li_36, li_38, li_47, li_48, li_50, li_57, li_58, li_80, li_98, li_99, li_100, li_102, li_104, li_105, li_108, li_109, li_110, li_114, li_115, li_119, li_122, li_137, li_146, li_147, li_148, li_149, li_150, li_200, li_255, li_256, li_274, li_510, li_512, li_640, li_999, li_1000, li_1024, li_3334, li_5000, li_9999, li_10000, li_23338, li_26672, li_30000, li_99999, li_150000, li_300000, pk_mul, nI_add, pk_sub, nI_clamp, nI_1, nI_p1, nI_a0, nI_0a, nI_m0, nI_m1, cl_0, cl_1, z01, z11, nI_leI, nI_ltI, nI_eq, nz_lt0, nz_le, nz_eq0, nz_pos, nz_le0, nz_eq1, nz_lt1, nz_ge1, nz_le1, nz_gt1, nz_vp, nz_vp0, nz_vp1, six_nI, vix_nI, bix_nI, pix_nI, fix_nI, gix_nI, rix_nI, zix_nI, pix_0, pix_1, bix_0, fix_0, fix_1, rix_1, true_and, and_true]
    rw [ec]
    simp (disch := omega) only [li_2, li_3, li_4, li_5, li_6, li_7, li_8, li_9, li_10, li_12, li_14, li_20, li_26, li_30, li_31, li_36, li_38, li_47, li_48, li_50, li_57, li_58, li_80, li_98, li_99, li_100, li_102, li_104, li_105, li_108, li_109, li_110, li_114, li_115, li_119, li_122, li_137, li_146, li_147, li_148, li_149, li_150, li_200, li_255, li_256, li_274, li_510, li_512, li_640, li_999, li_1000, li_1024, li_3334, li_5000, li_9999, li_10000, li_23338, li_26672, li_30000, li_99999, li_150000, li_300000, pk_mul, nI_add, pk_sub, nI_clamp, nI_1, nI_p1, nI_a0, nI_0a, nI_m0, nI_m1, cl_0, cl_1, z01, z11, nI_leI, nI_ltI, nI_eq, nz_lt0, nz_le, nz_eq0, nz_pos, nz_le0, nz_eq1, nz_lt1, nz_ge1, nz_le1, nz_gt1, nz_vp, nz_vp0, nz_vp1, six_nI, vix_nI, bix_nI, pix_nI, fix_nI, gix_nI, rix_nI, zix_nI, pix_0, pix_1, bix_0, fix_0, fix_1, rix_1, true_and, and_true]
    refine ⟨by omega, fun c1 => ?_, fun c1 => ⟨by omega, fun c2 => ?_, fun c2 => ?_⟩⟩
    · have hb : bxB (q 0) v z p2 = false := by unfold bxB; rw [ic, decide_eq_false (by omega)]; rfl
      rw [hb] at main; exact main
    · have hb : bxB (q 0) v z p2 = false := by unfold bxB; rw [decide_eq_false c2, Bool.and_false]
      rw [hb] at main; exact main
    · have hb : bxB (q 0) v z p2 = true := by unfold bxB; rw [ic, decide_eq_true (by omega), decide_eq_true c2]; rfl
      rw [hb] at main; exact main)
theorem rl_rm {P : Int32 → RST → Prop} {r : Nat → Int32} {μ : Nat → Int32} {v a : Nat} {x : Int32} (hv : v < 6) (ha : a < 10) (hx : vz x) : ∀ (m j fuel : Nat) (q : Nat → Nat → Int32), j + m = 36 → m < fuel → q 0 = zf μ (274 + 510 * v + 150 + 36 * a) j → (∀ q1, kQ q q1 [0] → q1 0 = zf μ (274 + 510 * v + 150 + 36 * a) 36 → P x (r, q1)) → wp_X11_removes_23 P fuel (nI v) (nI a) x (nI j) r q := by
  intro m
  induction m with
  | zero =>
    intro j fuel q hm hf hq hK
    obtain ⟨f, rfl⟩ : ∃ f, fuel = f + 1 := ⟨fuel - 1, by omega⟩; rw [wp_X11_removes_23]; unfold wb_X11_removes_23; dsimp only
    simp (disch := omega) only [li_2, li_3, li_4, li_5, li_6, li_7, li_8, li_9, li_10, li_12, li_14, li_20, li_26, li_30, li_31, li_36, li_38, li_47, li_48, li_50, li_57, li_58, li_80, li_98, li_99, li_100, li_102, li_104, li_105, li_108, li_109, li_110, li_114, li_115, li_119, li_122, li_137, li_146, li_147, li_148, li_149, li_150, li_200, li_255, li_256, li_274, li_510, li_512, li_640, li_999, li_1000, li_1024, li_3334, li_5000, li_9999, li_10000, li_23338, li_26672, li_30000, li_99999, li_150000, li_300000, pk_mul, nI_add, pk_sub, nI_clamp, nI_1, nI_p1, nI_a0, nI_0a, nI_m0, nI_m1, cl_0, cl_1, z01, z11, nI_leI, nI_ltI, nI_eq, nz_lt0, nz_le, nz_eq0, nz_pos, nz_le0, nz_eq1, nz_lt1, nz_ge1, nz_le1, nz_gt1, nz_vp, nz_vp0, nz_vp1, six_nI, vix_nI, bix_nI, pix_nI, fix_nI, gix_nI, rix_nI, zix_nI, pix_0, pix_1, bix_0, fix_0, fix_1, rix_1, true_and, and_true]
    refine ⟨fun _ => ⟨hx, hK q kQ.rf ?_⟩, fun c => absurd (by omega) c⟩
    rw [hq, show j = 36 by omega]
  | succ m ih =>
    intro j fuel q hm hf hq hK
    obtain ⟨f, rfl⟩ : ∃ f, fuel = f + 1 := ⟨fuel - 1, by omega⟩; rw [wp_X11_removes_23]; unfold wb_X11_removes_23; dsimp only
    simp (disch := omega) only [li_2, li_3, li_4, li_5, li_6, li_7, li_8, li_9, li_10, li_12, li_14, li_20, li_26, li_30, li_31, li_36, li_38, li_47, li_48, li_50, li_57, li_58, li_80, li_98, li_99, li_100, li_102, li_104, li_105, li_108, li_109, li_110, li_114, li_115, li_119, li_122, li_137, li_146, li_147, li_148, li_149, li_150, li_200, li_255, li_256, li_274, li_510, li_512, li_640, li_999, li_1000, li_1024, li_3334, li_5000, li_9999, li_10000, li_23338, li_26672, li_30000, li_99999, li_150000, li_300000, pk_mul, nI_add, pk_sub, nI_clamp, nI_1, nI_p1, nI_a0, nI_0a, nI_m0, nI_m1, cl_0, cl_1, z01, z11, nI_leI, nI_ltI, nI_eq, nz_lt0, nz_le, nz_eq0, nz_pos, nz_le0, nz_eq1, nz_lt1, nz_ge1, nz_le1, nz_gt1, nz_vp, nz_vp0, nz_vp1, six_nI, vix_nI, bix_nI, pix_nI, fix_nI, gix_nI, rix_nI, zix_nI, pix_0, pix_1, bix_0, fix_0, fix_1, rix_1, true_and, and_true]
    refine ⟨fun c => absurd c (by omega), fun _ => ⟨by omega, fun q5 e5 v6 e6 => ?_⟩⟩
    subst e6
    have k5 : kQ q q5 [0] := by rw [e5]; exact kQ.rf.up (by decide) _
    refine ih (j + 1) f q5 (by omega) (by omega) ?_ (fun q1 h1 h2 => hK q1 (k5.tr h1 (fun _ h => h) (fun _ h => h)) h2)
    rw [e5, va_up_self, hq]
    funext k
    unfold zf
    by_cases e : k = 274 + 510 * v + 150 + 36 * a + j
    · subst e
      rw [pk_us, if_pos (by omega)]
    · rw [pk_un e]
      by_cases c : 274 + 510 * v + 150 + 36 * a ≤ k ∧ k < 274 + 510 * v + 150 + 36 * a + j
      · rw [if_pos c, if_pos (by omega)]
      · rw [if_neg c, if_neg (by omega)]
theorem kd_X11_removes (l : Launch) (D : va_G) (T : Nat → ClassId) (m0 : Nat) (a : Nat → Nat) (p0 : Int32) (p1 : Int32) (r : Nat → Int32) (q : Nat → Nat → Int32) (h : vix p0 ∧ six p1) : RMi l yX11_removes (ws_X11_removes) rm_X11_removes D T m0 a [.ref m0, .int p0, .int p1] r q (fun v u => (v = b2i (decide (q 0 (274 + 510 * iv p0 + 150 + 36 * iv p1) = 1)) ∧ u.1 = r ∧ u.2 = va_up q 0 (zf (q 0) (274 + 510 * iv p0 + 150 + 36 * iv p1) 36))) := c_X11_removes l D T m0 a p0 p1 r q _ <|
  (by
    obtain ⟨⟨v, hv, e0⟩, ⟨a, ha, e1⟩⟩ := h
    subst e0 e1
    have ev : iv (nI v) = v := nI_clamp (by omega)
    have ea : iv (nI a) = a := nI_clamp (by omega)
    rw [ev, ea]
    unfold wp_X11_removes
    simp (disch := omega) only [li_2, li_3, li_4, li_5, li_6, li_7, li_8, li_9, li_10, li_12, li_14, li_20, li_26, li_30, li_31, li_36, li_38, li_47, li_48, li_50, li_57, li_58, li_80, li_98, li_99, li_100, li_102, li_104, li_105, li_108, li_109, li_110, li_114, li_115, li_119, li_122, li_137, li_146, li_147, li_148, li_149, li_150, li_200, li_255, li_256, li_274, li_510, li_512, li_640, li_999, li_1000, li_1024, li_3334, li_5000, li_9999, li_10000, li_23338, li_26672, li_30000, li_99999, li_150000, li_300000, pk_mul, nI_add, pk_sub, nI_clamp, nI_1, nI_p1, nI_a0, nI_0a, nI_m0, nI_m1, cl_0, cl_1, z01, z11, nI_leI, nI_ltI, nI_eq, nz_lt0, nz_le, nz_eq0, nz_pos, nz_le0, nz_eq1, nz_lt1, nz_ge1, nz_le1, nz_gt1, nz_vp, nz_vp0, nz_vp1, six_nI, vix_nI, bix_nI, pix_nI, fix_nI, gix_nI, rix_nI, zix_nI, pix_0, pix_1, bix_0, fix_0, fix_1, rix_1, true_and, and_true]
    have fin : ∀ x : Int32, vz x → x = b2i (decide (q 0 (274 + 510 * v + 150 + 36 * a) = 1)) → ∃ k7 : Nat, wp_X11_removes_23 (fun v1 u => v1 = b2i (decide (q 0 (274 + 510 * v + 150 + 36 * a) = 1)) ∧ u.1 = r ∧ u.2 = va_up q 0 (zf (q 0) (274 + 510 * v + 150 + 36 * a) 36)) k7 (nI v) (nI a) x (nI 0) r q := by
      intro x hx he
      refine ⟨100, rl_rm (μ := q 0) hv ha hx 36 0 100 q (by omega) (by omega) ?_ (fun q1 h1 h2 => ⟨he, rfl, ?_⟩)⟩
      · funext k
        unfold zf
        rw [if_neg (by omega)]
      · dsimp only
        funext j
        by_cases e : j = 0
        · rw [e, h2, va_up_self]
        · rw [va_up_ne _ _ e]; exact h1 j (by simpa using e)
    refine ⟨by omega, fun c => ?_, fun c => ?_⟩
    · exact fin 0 vz0 (by rw [decide_eq_false c]; rfl)
    · exact fin 1 vz1 (by rw [decide_eq_true c]; rfl))
/-- the tests' copying -/
theorem rl_se {P : Int32 → RST → Prop} {r : Nat → Int32} {v a s t n : Nat} {x2 x3 rows excl : Int32} {μ w u : Nat → Int32} (hv : v < 6) (ha : a < 10) (hs : s + 8 ≤ 640) (htn : t + n ≤ 80) (et : w (s + 4) = nI t) : ∀ (m j fuel : Nat) (q : Nat → Nat → Int32), q 5 = w → q 6 = u → j + m = 30 → m < fuel → q 0 = (fun k => if 274 + 510 * v + 150 + 36 * a + 6 ≤ k ∧ k < 274 + 510 * v + 150 + 36 * a + 6 + j then (if k - (274 + 510 * v + 150 + 36 * a + 6) < n then u (t + (k - (274 + 510 * v + 150 + 36 * a + 6))) else 0) else (upd (upd (upd (upd (upd (upd μ (274 + 510 * v + 150 + 36 * a) 1) (274 + 510 * v + 150 + 36 * a + 1) x2) (274 + 510 * v + 150 + 36 * a + 2) x3) (274 + 510 * v + 150 + 36 * a + 3) rows) (274 + 510 * v + 150 + 36 * a + 4) (nI n)) (274 + 510 * v + 150 + 36 * a + 5) excl) k) → (∀ q1, kQ q q1 [0] → q1 0 = seF μ v a x2 x3 rows (nI n) (fun j => u (t + j)) excl → P 1 (r, q1)) → wp_X11_sets_163 P fuel (nI s) (nI (274 + 510 * v + 150 + 36 * a)) (nI j) r q := by
  intro m
  induction m with
  | zero =>
    intro j fuel q h5 h6 hm hf hq hK
    obtain ⟨f, rfl⟩ : ∃ f, fuel = f + 1 := ⟨fuel - 1, by omega⟩; rw [wp_X11_sets_163]; unfold wb_X11_sets_163; dsimp only
    simp (disch := omega) only [li_2, li_3, li_4, li_5, li_6, li_7, li_8, li_9, li_10, li_12, li_14, li_20, li_26, li_30, li_31, li_36, li_38, li_47, li_48, li_50, li_57, li_58, li_80, li_98, li_99, li_100, li_102, li_104, li_105, li_108, li_109, li_110, li_114, li_115, li_119, li_122, li_137, li_146, li_147, li_148, li_149, li_150, li_200, li_255, li_256, li_274, li_510, li_512, li_640, li_999, li_1000, li_1024, li_3334, li_5000, li_9999, li_10000, li_23338, li_26672, li_30000, li_99999, li_150000, li_300000, pk_mul, nI_add, pk_sub, nI_clamp, nI_1, nI_p1, nI_a0, nI_0a, nI_m0, nI_m1, cl_0, cl_1, z01, z11, nI_leI, nI_ltI, nI_eq, nz_lt0, nz_le, nz_eq0, nz_pos, nz_le0, nz_eq1, nz_lt1, nz_ge1, nz_le1, nz_gt1, nz_vp, nz_vp0, nz_vp1, six_nI, vix_nI, bix_nI, pix_nI, fix_nI, gix_nI, rix_nI, zix_nI, pix_0, pix_1, bix_0, fix_0, fix_1, rix_1, true_and, and_true]
    refine ⟨fun _ => hK q kQ.rf ?_, fun c => absurd (by omega) c⟩
    rw [hq, show j = 30 by omega]
    unfold seF
    rw [show iv (nI n) = n from nI_clamp (by omega)]
  | succ m ih =>
    intro j fuel q h5 h6 hm hf hq hK
    have e4 : q 0 (274 + 510 * v + 150 + 36 * a + 4) = nI n := by
      rw [hq]
      dsimp only
      rw [if_neg (by omega), pk_un (by omega), pk_us]
    obtain ⟨f, rfl⟩ : ∃ f, fuel = f + 1 := ⟨fuel - 1, by omega⟩; rw [wp_X11_sets_163]; unfold wb_X11_sets_163; dsimp only
    simp (disch := omega) only [li_2, li_3, li_4, li_5, li_6, li_7, li_8, li_9, li_10, li_12, li_14, li_20, li_26, li_30, li_31, li_36, li_38, li_47, li_48, li_50, li_57, li_58, li_80, li_98, li_99, li_100, li_102, li_104, li_105, li_108, li_109, li_110, li_114, li_115, li_119, li_122, li_137, li_146, li_147, li_148, li_149, li_150, li_200, li_255, li_256, li_274, li_510, li_512, li_640, li_999, li_1000, li_1024, li_3334, li_5000, li_9999, li_10000, li_23338, li_26672, li_30000, li_99999, li_150000, li_300000, pk_mul, nI_add, pk_sub, nI_clamp, nI_1, nI_p1, nI_a0, nI_0a, nI_m0, nI_m1, cl_0, cl_1, z01, z11, nI_leI, nI_ltI, nI_eq, nz_lt0, nz_le, nz_eq0, nz_pos, nz_le0, nz_eq1, nz_lt1, nz_ge1, nz_le1, nz_gt1, nz_vp, nz_vp0, nz_vp1, six_nI, vix_nI, bix_nI, pix_nI, fix_nI, gix_nI, rix_nI, zix_nI, pix_0, pix_1, bix_0, fix_0, fix_1, rix_1, true_and, and_true]
    rw [e4, h5, et]
    simp (disch := omega) only [li_2, li_3, li_4, li_5, li_6, li_7, li_8, li_9, li_10, li_12, li_14, li_20, li_26, li_30, li_31, li_36, li_38, li_47, li_48, li_50, li_57, li_58, li_80, li_98, li_99, li_100, li_102, li_104, li_105, li_108, li_109, li_110, li_114, li_115, li_119, li_122, li_137, li_146, li_147, li_148, li_149, li_150, li_200, li_255, li_256, li_274, li_510, li_512, li_640, li_999, li_1000, li_1024, li_3334, li_5000, li_9999, li_10000, li_23338, li_26672, li_30000, li_99999, li_150000, li_300000, pk_mul, nI_add, pk_sub, nI_clamp, nI_1, nI_p1, nI_a0, nI_0a, nI_m0, nI_m1, cl_0, cl_1, z01, z11, nI_leI, nI_ltI, nI_eq, nz_lt0, nz_le, nz_eq0, nz_pos, nz_le0, nz_eq1, nz_lt1, nz_ge1, nz_le1, nz_gt1, nz_vp, nz_vp0, nz_vp1, six_nI, vix_nI, bix_nI, pix_nI, fix_nI, gix_nI, rix_nI, zix_nI, pix_0, pix_1, bix_0, fix_0, fix_1, rix_1, true_and, and_true]
    have step : ∀ (y : Int32) (q30 : Nat → Nat → Int32), y = (if j < n then u (t + j) else 0) → q30 = va_up q 0 (upd (q 0) (274 + 510 * v + 150 + 36 * a + 6 + j) y) → wp_X11_sets_163 P f (nI s) (nI (274 + 510 * v + 150 + 36 * a)) (nI (j + 1)) r q30 := by
      intro y q30 ey e30
      have k5 : kQ q q30 [0] := by rw [e30]; exact kQ.rf.up (by decide) _
      refine ih (j + 1) f q30 ((k5 5 (by decide)).trans h5) ((k5 6 (by decide)).trans h6) (by omega) (by omega) ?_ (fun q1 h1 h2 => hK q1 (k5.tr h1 (fun _ h => h) (fun _ h => h)) h2)
      rw [e30, va_up_self, hq]
      funext k
      by_cases e : k = 274 + 510 * v + 150 + 36 * a + 6 + j
      · subst e
        rw [pk_us, if_pos (by omega), ey, show 274 + 510 * v + 150 + 36 * a + 6 + j - (274 + 510 * v + 150 + 36 * a + 6) = j by omega]
      · rw [pk_un e]
        by_cases c : 274 + 510 * v + 150 + 36 * a + 6 ≤ k ∧ k < 274 + 510 * v + 150 + 36 * a + 6 + j
        · rw [if_pos c, if_pos (show 274 + 510 * v + 150 + 36 * a + 6 ≤ k ∧ k < 274 + 510 * v + 150 + 36 * a + 6 + (j + 1) by omega)]
        · rw [if_neg c, if_neg (show ¬ (274 + 510 * v + 150 + 36 * a + 6 ≤ k ∧ k < 274 + 510 * v + 150 + 36 * a + 6 + (j + 1)) by omega)]
    refine ⟨fun c => absurd c (by omega), fun _ => ⟨by omega, fun c => ⟨by omega, fun q30 e30 v31 e31 => ?_⟩, fun c => ⟨by omega, by omega, by omega, fun q35 e35 v36 e36 => ?_⟩⟩⟩
    · subst e31
      exact step 0 q30 (by rw [if_neg (by omega)]) e30
    · subst e36
      exact step _ q35 (by rw [if_pos (by omega), h6]) e35
theorem kd_X11_sets (l : Launch) (D : va_G) (T : Nat → ClassId) (m0 : Nat) (a : Nat → Nat) (p0 : Int32) (p1 : Int32) (r : Nat → Int32) (q : Nat → Nat → Int32) (h : vix p0 ∧ s8 p1 ∧ six (q 5 (iv p1 + 1)) ∧ seO (q 5) (iv p1)) : RMi l yX11_sets (ws_X11_sets) rm_X11_sets D T m0 a [.ref m0, .int p0, .int p1] r q (fun v u => (v = b2i (seB (q 5 (iv p1 + 2)) (q 5 (iv p1 + 3))) ∧ u.1 = r ∧ kQ q u.2 [0] ∧ (seB (q 5 (iv p1 + 2)) (q 5 (iv p1 + 3)) = true → u.2 0 = seW (q 0) (q 5) (q 6) (iv p0) (iv p1)))) := c_X11_sets l D T m0 a p0 p1 r q _ <|
  (by
    obtain ⟨⟨v, hv, e0⟩, ⟨s, hs, e1⟩, ⟨a, ha, ea⟩, ⟨t, n, htn, e4, e6⟩⟩ := h
    subst e0 e1
    have ev : iv (nI v) = v := nI_clamp (by omega)
    have es : iv (nI s) = s := nI_clamp (by omega)
    rw [es] at ea e4 e6
    rw [ev, es]
    have main : ∀ most : Int32, most = (if q 5 (s + 3) = 1 then (99 : Int32) else if q 5 (s + 3) = 2 then 50 else 9999) → wp_X11_sets_32 (fun v1 u => v1 = b2i (seB (q 5 (s + 2)) (q 5 (s + 3))) ∧ u.1 = r ∧ kQ q u.2 [0] ∧ (seB (q 5 (s + 2)) (q 5 (s + 3)) = true → u.2 0 = seW (q 0) (q 5) (q 6) v s)) (nI v) (nI s) (q 5 (s + 3)) most r q := by
      intro most hmost
      unfold wp_X11_sets_32
      simp (disch := omega) only [li_2, li_3, li_4, li_5, li_6, li_7, li_8, li_9, li_10, li_12, li_14, li_20, li_26, li_30, li_31, li_36, li_38, li_47, li_48, li_50, li_57, li_58, li_80, li_98, li_99, li_100, li_102, li_104, li_105, li_108, li_109, li_110, li_114, li_115, li_119, li_122, li_137, li_146, li_147, li_148, li_149, li_150, li_200, li_255, li_256, li_274, li_510, li_512, li_640, li_999, li_1000, li_1024, li_3334, li_5000, li_9999, li_10000, li_23338, li_26672, li_30000, li_99999, li_150000, li_300000, pk_mul, nI_add, pk_sub, nI_clamp, nI_1, nI_p1, nI_a0, nI_0a, nI_m0, nI_m1, cl_0, cl_1, z01, z11, nI_leI, nI_ltI, nI_eq, nz_lt0, nz_le, nz_eq0, nz_pos, nz_le0, nz_eq1, nz_lt1, nz_ge1, nz_le1, nz_gt1, nz_vp, nz_vp0, nz_vp1, six_nI, vix_nI, bix_nI, pix_nI, fix_nI, gix_nI, rix_nI, zix_nI, pix_0, pix_1, bix_0, fix_0, fix_1, rix_1, true_and, and_true]
      refine ⟨by omega, fun c => ?_, fun c => ⟨?_, kQ.rf, fun z => ?_⟩⟩
      · rw [ea]
        refine ⟨by omega, fun v8 e8 => ?_⟩
        have e8' : v8 = nI (274 + 510 * v + 150 + 36 * a) := by rw [e8]; simp (disch := omega) only [li_2, li_3, li_4, li_5, li_6, li_7, li_8, li_9, li_10, li_12, li_14, li_20, li_26, li_30, li_31, li_36, li_38, li_47, li_48, li_50, li_57, li_58, li_80, li_98, li_99, li_100, li_102, li_104, li_105, li_108, li_109, li_110, li_114, li_115, li_119, li_122, li_137, li_146, li_147, li_148, li_149, li_150, li_200, li_255, li_256, li_274, li_510, li_512, li_640, li_999, li_1000, li_1024, li_3334, li_5000, li_9999, li_10000, li_23338, li_26672, li_30000, li_99999, li_150000, li_300000, pk_mul, nI_add, pk_sub, nI_clamp, nI_1, nI_p1, nI_a0, nI_0a, nI_m0, nI_m1, cl_0, cl_1, z01, z11]
        clear e8
        subst e8'
        simp (disch := omega) only [li_2, li_3, li_4, li_5, li_6, li_7, li_8, li_9, li_10, li_12, li_14, li_20, li_26, li_30, li_31, li_36, li_38, li_47, li_48, li_50, li_57, li_58, li_80, li_98, li_99, li_100, li_102, li_104, li_105, li_108, li_109, li_110, li_114, li_115, li_119, li_122, li_137, li_146, li_147, li_148, li_149, li_150, li_200, li_255, li_256, li_274, li_510, li_512, li_640, li_999, li_1000, li_1024, li_3334, li_5000, li_9999, li_10000, li_23338, li_26672, li_30000, li_99999, li_150000, li_300000, pk_mul, nI_add, pk_sub, nI_clamp, nI_1, nI_p1, nI_a0, nI_0a, nI_m0, nI_m1, cl_0, cl_1, z01, z11, nI_leI, nI_ltI, nI_eq, nz_lt0, nz_le, nz_eq0, nz_pos, nz_le0, nz_eq1, nz_lt1, nz_ge1, nz_le1, nz_gt1, nz_vp, nz_vp0, nz_vp1, six_nI, vix_nI, bix_nI, pix_nI, fix_nI, gix_nI, rix_nI, zix_nI, pix_0, pix_1, bix_0, fix_0, fix_1, rix_1, true_and, and_true]
        refine ⟨by omega, fun q10 e10 => ⟨by omega, by omega, fun q13 e13 => ⟨by omega, fun q15 e15 => ⟨by omega, by omega, fun q18 e18 => ⟨by omega, by omega, by omega, fun q22 e22 => ⟨by omega, by omega, fun q25 e25 => ⟨100, ?_⟩⟩⟩⟩⟩⟩⟩
        have h10 : q10 5 = q 5 := by rw [e10, va_up_ne _ _ (by decide)]
        have h13 : q13 5 = q 5 := by rw [e13, va_up_ne _ _ (by decide)]; exact h10
        have h15 : q15 5 = q 5 := by rw [e15, va_up_ne _ _ (by decide)]; exact h13
        have h18 : q18 5 = q 5 := by rw [e18, va_up_ne _ _ (by decide)]; exact h15
        have h22 : q22 5 = q 5 := by rw [e22, va_up_ne _ _ (by decide)]; exact h18
        have h25 : q25 5 = q 5 := by rw [e25, va_up_ne _ _ (by decide)]; exact h22
        have k25 : kQ q q25 [0] := by
          rw [e25, e22, e18, e15, e13, e10]
          exact (((((kQ.rf.up (by decide) _).up (by decide) _).up (by decide) _).up (by decide) _).up (by decide) _).up (by decide) _
        have hB : seB (q 5 (s + 2)) (q 5 (s + 3)) = true := by
          unfold seB
          rw [← hmost, decide_eq_false (Int32.not_lt.mpr c)]; rfl
        have esub : q 5 (s + 6) - q 5 (s + 4) = nI n := by rw [e4, e6, pk_sub (by omega)]; congr 1; omega
        refine rl_se (μ := q 0) (w := q 5) (u := q 6) (t := t) (n := n) (x2 := q 5 (s + 2)) (x3 := q 5 (s + 3)) (rows := q 5 (s + 5)) (excl := q 5 (s + 7)) hv ha hs htn e4 30 0 100 q25 h25 (k25 6 (by decide)) (by omega) (by omega) ?_ (fun q1 g1 g2 => ⟨by rw [hB]; rfl, rfl, k25.tr g1 (fun _ h => h) (fun _ h => h), fun _ => ?_⟩)
        · rw [h22] at e25
          rw [h18] at e22
          rw [h15] at e18
          rw [h10] at e13
          rw [e25, va_up_self, e22, va_up_self, e18, va_up_self, e15, va_up_self, e13, va_up_self, e10, va_up_self, esub]
          funext k
          rw [if_neg (by omega)]
        · dsimp only
          rw [g2]
          unfold seW
          rw [ea, esub, e4, show iv (nI a) = a from nI_clamp (by omega), show iv (nI t) = t from nI_clamp (by omega)]
      · unfold seB
        rw [← hmost, decide_eq_true (Int32.not_le.mp c)]; rfl
      · unfold seB at z
        rw [← hmost, decide_eq_true (Int32.not_le.mp c)] at z
        cases z
    unfold wp_X11_sets
    rw [show vp_in (nI s + 3) 640 = (s + 3 < 640) by simp (disch := omega) only [li_2, li_3, li_4, li_5, li_6, li_7, li_8, li_9, li_10, li_12, li_14, li_20, li_26, li_30, li_31, li_36, li_38, li_47, li_48, li_50, li_57, li_58, li_80, li_98, li_99, li_100, li_102, li_104, li_105, li_108, li_109, li_110, li_114, li_115, li_119, li_122, li_137, li_146, li_147, li_148, li_149, li_150, li_200, li_255, li_256, li_274, li_510, li_512, li_640, li_999, li_1000, li_1024, li_3334, li_5000, li_9999, li_10000, li_23338, li_26672, li_30000, li_99999, li_150000, li_300000, pk_mul, nI_add, pk_sub, nI_clamp, nI_1, nI_p1, nI_a0, nI_0a, nI_m0, nI_m1, cl_0, cl_1, z01, z11, nI_leI, nI_ltI, nI_eq, nz_lt0, nz_le, nz_eq0, nz_pos, nz_le0, nz_eq1, nz_lt1, nz_ge1, nz_le1, nz_gt1, nz_vp, nz_vp0, nz_vp1, six_nI, vix_nI, bix_nI, pix_nI, fix_nI, gix_nI, rix_nI, zix_nI, pix_0, pix_1, bix_0, fix_0, fix_1, rix_1, true_and, and_true], show Int32.toNatClampNeg (nI s + 3) = s + 3 by simp (disch := omega) only [li_2, li_3, li_4, li_5, li_6, li_7, li_8, li_9, li_10, li_12, li_14, li_20, li_26, li_30, li_31, li_36, li_38, li_47, li_48, li_50, li_57, li_58, li_80, li_98, li_99, li_100, li_102, li_104, li_105, li_108, li_109, li_110, li_114, li_115, li_119, li_122, li_137, li_146, li_147, li_148, li_149, li_150, li_200, li_255, li_256, li_274, li_510, li_512, li_640, li_999, li_1000, li_1024, li_3334, li_5000, li_9999, li_10000, li_23338, li_26672, li_30000, li_99999, li_150000, li_300000, pk_mul, nI_add, pk_sub, nI_clamp, nI_1, nI_p1, nI_a0, nI_0a, nI_m0, nI_m1, cl_0, cl_1, z01, z11, nI_leI, nI_ltI, nI_eq, nz_lt0, nz_le, nz_eq0, nz_pos, nz_le0, nz_eq1, nz_lt1, nz_ge1, nz_le1, nz_gt1, nz_vp, nz_vp0, nz_vp1, six_nI, vix_nI, bix_nI, pix_nI, fix_nI, gix_nI, rix_nI, zix_nI, pix_0, pix_1, bix_0, fix_0, fix_1, rix_1, true_and, and_true]]
    refine ⟨by omega, fun v2 e2 => ?_⟩
    subst e2
    refine ⟨fun c1 => ⟨fun c2 => main _ (by rw [if_neg c1, if_neg c2]), fun c2 => main _ (by rw [if_neg c1, if_pos c2])⟩, fun c1 => main _ (by rw [if_pos c1])⟩)

theorem zin_b (x lo hi : Int32) : zin x lo hi = b2i (decide (¬ zin x lo hi = 0)) := by
  unfold zin
  split
  · rfl
  split
  · rfl
  · rfl
theorem kd_X11_carries (l : Launch) (D : va_G) (T : Nat → ClassId) (m0 : Nat) (a : Nat → Nat) (p0 : Int32) (p1 : Int32) (r : Nat → Int32) (q : Nat → Nat → Int32) (h : WF (q 0) ∧ vix p0 ∧ s8 p1 ∧ crO (q 5) (iv p1)) : RMi l yX11_carries (ws_X11_carries) rm_X11_carries D T m0 a [.ref m0, .int p0, .int p1] r q (fun v u => (v = b2i (crB (q 0) (iv p0) (q 5 (iv p1)) (q 5 (iv p1 + 1)) (q 5 (iv p1 + 2)) (q 5 (iv p1 + 3))) ∧ u.1 = r ∧ kQ q u.2 [0] ∧ (crB (q 0) (iv p0) (q 5 (iv p1)) (q 5 (iv p1 + 1)) (q 5 (iv p1 + 2)) (q 5 (iv p1 + 3)) = true → u.2 0 = crS (q 0) (iv p0) (q 5 (iv p1)) (q 5 (iv p1 + 1)) (q 5 (iv p1 + 2)) (q 5 (iv p1 + 3)) (q 5 (iv p1 + 5)) (q 5 (iv p1 + 6) - q 5 (iv p1 + 4)) (fun j => q 6 (iv (q 5 (iv p1 + 4)) + j)) (q 5 (iv p1 + 7))))) := c_X11_carries l D T m0 a p0 p1 r q _ <|
  (by
    obtain ⟨hw, ⟨v, hv, e0⟩, ⟨s, hs, e1⟩, o1, o2, o3, o4⟩ := h
    subst e0 e1
    have ev : iv (nI v) = v := nI_clamp (by omega)
    have es : iv (nI s) = s := nI_clamp (by omega)
    rw [es] at o1 o2 o3 o4
    rw [ev, es]
    unfold wp_X11_carries
    simp (disch := omega) only [li_2, li_3, li_4, li_5, li_6, li_7, li_8, li_9, li_10, li_12, li_14, li_20, li_26, li_30, li_31, li_36, li_38, li_47, li_48, li_50, li_57, li_58, li_80, li_98, li_99, li_100, li_102, li_104, li_105, li_108, li_109, li_110, li_114, li_115, li_119, li_122, li_137, li_146, li_147, li_148, li_149, li_150, li_200, li_255, li_256, li_274, li_510, li_512, li_640, li_999, li_1000, li_1024, li_3334, li_5000, li_9999, li_10000, li_23338, li_26672, li_30000, li_99999, li_150000, li_300000, pk_mul, nI_add, pk_sub, nI_clamp, nI_1, nI_p1, nI_a0, nI_0a, nI_m0, nI_m1, cl_0, cl_1, z01, z11, nI_leI, nI_ltI, nI_eq, nz_lt0, nz_le, nz_eq0, nz_pos, nz_le0, nz_eq1, nz_lt1, nz_ge1, nz_le1, nz_gt1, nz_vp, nz_vp0, nz_vp1, six_nI, vix_nI, bix_nI, pix_nI, fix_nI, gix_nI, rix_nI, zix_nI, pix_0, pix_1, bix_0, fix_0, fix_1, rix_1, true_and, and_true]
    simp only [du_97, du_98, du_99, du_100, du_102, du_109, du_115, du_122, du_1000, du_9999]
    -- a number that is written
    have wr : ∀ (pl : Nat) (x lo hi v1 : Int32) (r1 : Nat → Int32) (q1 : Nat → Nat → Int32), crB (q 0) v (q 5 s) (q 5 (s + 1)) (q 5 (s + 2)) (q 5 (s + 3)) = decide (¬ zin x lo hi = 0) → (∀ rows tested tv excl, crS (q 0) v (q 5 s) (q 5 (s + 1)) (q 5 (s + 2)) (q 5 (s + 3)) rows tested tv excl = upd (q 0) pl x) → (v1 = zin x lo hi ∧ r1 = r ∧ q1 = va_up q 0 (upd (q 0) pl x)) → vz v1 ∧ v1 = b2i (crB (q 0) v (q 5 s) (q 5 (s + 1)) (q 5 (s + 2)) (q 5 (s + 3))) ∧ r1 = r ∧ kQ q q1 [0] ∧ (crB (q 0) v (q 5 s) (q 5 (s + 1)) (q 5 (s + 2)) (q 5 (s + 3)) = true → q1 0 = crS (q 0) v (q 5 s) (q 5 (s + 1)) (q 5 (s + 2)) (q 5 (s + 3)) (q 5 (s + 5)) (q 5 (s + 6) - q 5 (s + 4)) (fun j => q 6 (iv (q 5 (s + 4)) + j)) (q 5 (s + 7))) := by
      intro pl x lo hi v1 r1 q1 hB hS hh
      obtain ⟨h1, h2, h3⟩ := hh
      refine ⟨by rw [h1, zin_b]; exact b2i_vz _, by rw [hB, h1, ← zin_b], h2, by rw [h3]; exact kQ.rf.up (by decide) _, fun _ => by rw [hS, h3, va_up_self]⟩
    refine ⟨by omega, fun v2 e2 => ⟨fun c => ?_, fun c1 => ⟨fun c => ?_, fun c2 => ⟨fun c => ?_, fun c3 => ⟨fun c => ?_, fun c4 => ⟨fun c => ?_, fun c5 => ⟨fun c => ?_, fun c6 => ⟨fun c => ?_, fun c7 => ⟨fun c => ?_, fun c8 => ?_⟩⟩⟩⟩⟩⟩⟩⟩⟩
    · rw [e2] at c
      obtain ⟨y1, y2⟩ := o3 c
      refine ⟨⟨hv, ⟨s, hs, rfl⟩, y1, y2⟩, fun v4 r5 q6 hh => ?_⟩
      · obtain ⟨h1, h2, h3, h4⟩ := hh
        have hB : crB (q 0) v (q 5 s) (q 5 (s + 1)) (q 5 (s + 2)) (q 5 (s + 3)) = seB (q 5 (s + 2)) (q 5 (s + 3)) := by rw [c]; rfl
        refine ⟨by rw [h1]; exact b2i_vz _, by rw [hB]; exact h1, h2, h3, fun z => ?_⟩
        (try dsimp only)
        rw [h4 (by rw [← hB]; exact z), c]
        rfl
    · rw [e2] at c
      obtain ⟨z, h1, h9, ez⟩ := o1 (Or.inl c)
      obtain ⟨n, hn, en⟩ := o2 c
      refine ⟨by omega, by omega, by omega, ⟨hw, hv, ⟨z, h1, h9, ez⟩, n, hn, en⟩, fun v12 r13 q14 hh => ?_⟩
      obtain ⟨h1, h2, h3, h4⟩ := hh
      have hB : crB (q 0) v (q 5 s) (q 5 (s + 1)) (q 5 (s + 2)) (q 5 (s + 3)) = bkB (q 0) v (iv (q 5 (s + 1))) (q 5 (s + 2)) (q 5 (s + 3)) := by rw [c]; rfl
      refine ⟨by rw [h1]; exact b2i_vz _, by rw [hB]; exact h1, h2, h3, fun z => ?_⟩
      (try dsimp only)
      rw [h4 (by rw [← hB]; exact z), c]
      rfl
    · rw [e2] at c
      refine ⟨by omega, ⟨274 + 510 * v + 149, by omega, rfl⟩, fun v18 r19 q20 hh => ?_⟩
      exact wr _ _ _ _ _ _ _ (by rw [c]; rfl) (fun _ _ _ _ => by rw [c]; rfl) hh
    · rw [e2] at c
      refine ⟨by omega, ⟨274 + 510 * v + 146, by omega, rfl⟩, fun v18 r19 q20 hh => ?_⟩
      exact wr _ _ _ _ _ _ _ (by rw [c]; rfl) (fun _ _ _ _ => by rw [c]; rfl) hh
    · rw [e2] at c
      refine ⟨by omega, ⟨274 + 510 * v + 147, by omega, rfl⟩, fun v18 r19 q20 hh => ?_⟩
      exact wr _ _ _ _ _ _ _ (by rw [c]; rfl) (fun _ _ _ _ => by rw [c]; rfl) hh
    · rw [e2] at c
      obtain ⟨z, h1, h9, ez⟩ := o1 (Or.inr c)
      have ip : (nI (274 + 510 * v + 137) + q 5 (s + 1) - 1) = nI (274 + 510 * v + 137 + z - 1) := by rw [ez, nI_add, nI_p1 (by omega)]
      rw [ip, show iv (nI (274 + 510 * v + 137 + z - 1)) = 274 + 510 * v + 137 + z - 1 from nI_clamp (by omega)]
      refine ⟨by omega, by omega, ⟨274 + 510 * v + 137 + z - 1, by omega, rfl⟩, fun v18 r19 q20 hh => ?_⟩
      exact wr _ _ _ _ _ _ _ (by rw [c]; rfl) (fun _ _ _ _ => by rw [c, ez]; unfold crS; rw [if_neg (by decide), if_neg (by decide), if_pos rfl, show iv (nI z) = z from nI_clamp (by omega)]) hh
    · rw [e2] at c
      refine ⟨by omega, ⟨274 + 510 * v + 148, by omega, rfl⟩, fun v18 r19 q20 hh => ?_⟩
      exact wr _ _ _ _ _ _ _ (by rw [c]; rfl) (fun _ _ _ _ => by rw [c]; rfl) hh
    · rw [e2] at c
      refine ⟨⟨hw, hv, ⟨s, hs, rfl⟩⟩, fun v4 r5 q6 hh => ?_⟩
      obtain ⟨h1, h2, h3, h4⟩ := hh
      have hB : crB (q 0) v (q 5 s) (q 5 (s + 1)) (q 5 (s + 2)) (q 5 (s + 3)) = ptB (q 0) v (q 5 (s + 2)) (q 5 (s + 3)) := by rw [c]; rfl
      refine ⟨by rw [h1]; exact b2i_vz _, by rw [hB]; exact h1, h2, h3, fun z => ?_⟩
      (try dsimp only)
      rw [h4 (by rw [← hB]; exact z), c]
      rfl
    · rw [e2] at c1 c2 c3 c4 c5 c6 c7 c8
      have y1 := o4 ⟨c8, c2, c6, c4, c5, c7, c3, c1⟩
      refine ⟨by omega, ⟨hv, y1⟩, fun v53 r54 q55 hh => ?_⟩
      obtain ⟨h1, h2, h3⟩ := hh
      have hB : crB (q 0) v (q 5 s) (q 5 (s + 1)) (q 5 (s + 2)) (q 5 (s + 3)) = decide (q 0 (274 + 510 * v + 150 + 36 * iv (q 5 (s + 1))) = 1) := by
        unfold crB
        rw [if_neg c8, if_neg c2, if_neg c6, if_neg c4, if_neg c5, if_neg c7, if_neg c3, if_neg c1]
      refine ⟨by rw [h1]; exact b2i_vz _, by rw [hB]; exact h1, h2, by rw [h3]; exact kQ.rf.up (by decide) _, fun z => ?_⟩
      (try dsimp only)
      rw [h3, va_up_self]
      unfold crS
      rw [if_neg c8, if_neg c2, if_neg c6, if_neg c4, if_neg c5, if_neg c7, if_neg c3, if_neg c1])

theorem apP.tr {r r1 r2 : Nat → Int32} {q q1 q2 : Nat → Nat → Int32} {l1 l2 : List Int32} (h : apP r q l1 r1 q1) (h2 : apP r1 q1 l2 r2 q2) {B : Nat} (hn : pa40 r B) (hB : B + l1.length < 2 ^ 31) : apP r q (l1 ++ l2) r2 q2 := by
  obtain ⟨n, hnB, e⟩ := hn
  obtain ⟨a1, a2, a3, a4, a5⟩ := h
  obtain ⟨b1, b2, b3, b4, b5⟩ := h2
  have en : iv (r 40) = n := by rw [e]; exact nI_clamp (by omega)
  rw [en] at a3 a4 a5
  have en1 : iv (r1 40) = n + l1.length := by rw [a3]; exact nI_clamp (by omega)
  rw [en1] at b3 b4 b5
  refine ⟨a1.tr b1 (fun _ h => h) (fun _ h => h), a2.tr b2 (fun _ h => h) (fun _ h => h), by rw [en, b3, List.length_append]; congr 1; omega, fun i hi => ?_, fun j x hx => ?_⟩
  · rw [en] at hi
    rw [b4 i (by omega), a4 i hi]
  · rw [en]
    rcases Nat.lt_or_ge j l1.length with hj | hj
    · rw [List.getElem?_append_left hj] at hx
      rw [b4 _ (by omega)]
      exact a5 j x hx
    · rw [List.getElem?_append_right hj] at hx
      have := b5 _ x hx
      rw [← this]
      congr 1
      omega
theorem apP.p40 {r r1 : Nat → Int32} {q q1 : Nat → Nat → Int32} {l : List Int32} (h : apP r q l r1 q1) {B : Nat} (hn : pa40 r B) (hB : B < 2 ^ 31) : pa40 r1 (B + l.length) := by
  obtain ⟨n, hnB, e⟩ := hn
  have en : iv (r 40) = n := by rw [e]; exact nI_clamp (by omega)
  exact ⟨n + l.length, by omega, by rw [h.2.2.1, en]⟩
theorem apP.nil {r : Nat → Int32} {q : Nat → Nat → Int32} {B : Nat} (hp : pa40 r B) (hB : B < 2 ^ 31) : apP r q [] r q := by
  obtain ⟨n, hn, e⟩ := hp
  exact ⟨kR.rf, kQ.rf, by rw [e, show iv (nI n) = n from nI_clamp (by omega)]; rfl, fun _ _ => rfl, fun j x hx => by simp at hx⟩
theorem pa40.mn {r : Nat → Int32} {B C : Nat} (h : pa40 r B) (hc : B ≤ C) : pa40 r C := by
  obtain ⟨n, hnB, e⟩ := h
  exact ⟨n, by omega, e⟩
theorem dgL_len : ∀ k v : Nat, (dgL k v).length = k + 1 := by
  intro k v
  induction k with
  | zero => rfl
  | succ k ih => rw [dgL, List.length_cons, ih]
theorem nuL_len (n : Nat) : (nuL n).length ≤ 4 ∧ 1 ≤ (nuL n).length := by
  unfold nuL
  rw [dgL_len]
  split
  · omega
  split
  · omega
  split
  · omega
  · omega
theorem c16 {c : Nat} (h : c < 128) : (Int32.toUInt32 (nI c) % 65536).toInt32 = nI c := by
  have : ∀ c : Nat, c < 128 → (Int32.toUInt32 (nI c) % 65536).toInt32 = nI c := by decide +kernel
  exact this c h
theorem nar_c {c : Nat} (h : c < 128) : vp_nar .char (nI c) = nI c := by
  have : ∀ c : Nat, c < 128 → vp_nar .char (nI c) = nI c := by decide +kernel
  exact this c h
theorem kd_X11_put (l : Launch) (D : va_G) (T : Nat → ClassId) (m0 : Nat) (a : Nat → Nat) (p0 : Int32) (r : Nat → Int32) (q : Nat → Nat → Int32) (h : pa40 r 199 ∧ ∃ c : Nat, c < 128 ∧ p0 = nI c) : RMv l yX11_put (ws_X11_put) rm_X11_put D T m0 a [.ref m0, .int p0] r q (fun u => (apP r q [p0] u.1 u.2)) := c_X11_put l D T m0 a p0 r q _ <|
  (by
    obtain ⟨⟨n, hn, e⟩, ⟨c, hc, ec⟩⟩ := h
    have en : iv (r 40) = n := by rw [e]; exact nI_clamp (by omega)
    unfold wp_X11_put
    rw [e, nz_vp (by omega) (by decide), nI_1, ec, nar_c hc, nI_clamp (n := n) (by omega)]
    refine ⟨by omega, fun q2 e2 r3 e3 => ⟨by dsimp only; rw [e3]; exact kR.rf.up (by decide) _, by dsimp only; rw [e2]; exact kQ.rf.up (by decide) _, by dsimp only; rw [e3, va_up_self, en]; rfl, fun i hi => ?_, fun j x hx => ?_⟩⟩
    · rw [en] at hi
      dsimp only
      rw [e2, va_up_self, pk_un (by omega)]
    · dsimp only
      rw [en, e2, va_up_self]
      cases j with
      | zero => simp at hx; rw [Nat.add_zero, pk_us]; exact hx
      | succ j => simp at hx)
theorem rl_pn {P : RST → Prop} {v : Nat} (hv : v ≤ 9999) : ∀ (k fuel : Nat) (r : Nat → Int32) (q : Nat → Nat → Int32), k ≤ 3 → k + 1 < fuel → pa40 r (200 - (k + 1)) → (∀ r1 q1, apP r q (dgL k v) r1 q1 → P (r1, q1)) → wp_X11_putNumber_22 P fuel (nI v) (nI (10 ^ k)) r q := by
  intro k
  induction k with
  | zero =>
    intro fuel r q hk hf hp hP
    obtain ⟨f, rfl⟩ : ∃ f, fuel = f + 2 := ⟨fuel - 2, by omega⟩
    rw [wp_X11_putNumber_22]; unfold wb_X11_putNumber_22; dsimp only
    have d1 : nI v / nI (10 ^ 0) = nI v := by rw [show nI (10 ^ 0) = nI 1 from rfl, pk_div (by omega) (by decide) (by decide), Nat.div_one]
    have d2 : nI v - nI v / 10 * 10 = nI (v % 10) := pk_rem (d := 10) (by omega) (by decide) (by decide)
    rw [d1, d2, show (48 : Int32) + nI (v % 10) = nI (48 + v % 10) from nI_add 48 _]
    have hm : v % 10 < 10 := Nat.mod_lt _ (by decide)
    refine ⟨fun c => absurd c (by decide), fun _ => ⟨by decide, ⟨?_, ⟨48 + v % 10, by omega, ?_⟩⟩, fun r11 q12 h11 v13 e13 => ?_⟩⟩
    · obtain ⟨n, hn, e⟩ := hp; exact ⟨n, by omega, e⟩
    · exact c16 (by omega)
    · rw [c16 (by omega)] at h11
      rw [show v13 = 0 by rw [e13]; decide, wp_X11_putNumber_22]; unfold wb_X11_putNumber_22; dsimp only
      exact ⟨fun _ => hP r11 q12 h11, fun c => absurd (by decide) c⟩
  | succ k ih =>
    intro fuel r q hk hf hp hP
    obtain ⟨f, rfl⟩ : ∃ f, fuel = f + 1 := ⟨fuel - 1, by omega⟩; rw [wp_X11_putNumber_22]; unfold wb_X11_putNumber_22; dsimp only
    have hpw : 10 ^ (k + 1) ≤ 1000 := Nat.le_trans (Nat.pow_le_pow_right (n := 10) (by decide) hk) (by decide)
    have hp0 : 0 < 10 ^ (k + 1) := Nat.pow_pos (by decide)
    have d1 : nI v / nI (10 ^ (k + 1)) = nI (v / 10 ^ (k + 1)) := pk_div (by omega) hp0 (by omega)
    have hdv : v / 10 ^ (k + 1) ≤ v := Nat.div_le_self _ _
    have d2 : nI (v / 10 ^ (k + 1)) - nI (v / 10 ^ (k + 1)) / 10 * 10 = nI (v / 10 ^ (k + 1) % 10) := pk_rem (d := 10) (by omega) (by decide) (by decide)
    have hm : v / 10 ^ (k + 1) % 10 < 10 := Nat.mod_lt _ (by decide)
    rw [d1, d2, show (48 : Int32) + nI (v / 10 ^ (k + 1) % 10) = nI (48 + v / 10 ^ (k + 1) % 10) from nI_add 48 _]
    have d3 : nI (10 ^ (k + 1)) / 10 = nI (10 ^ k) := by
      rw [show (10 : Int32) = nI 10 from rfl, pk_div (by omega) (by decide) (by decide), Nat.pow_succ, Nat.mul_div_cancel _ (by decide)]
    refine ⟨fun c => ?_, fun _ => ⟨fun c => ?_, ⟨?_, ⟨48 + v / 10 ^ (k + 1) % 10, by omega, ?_⟩⟩, fun r11 q12 h11 v13 e13 => ?_⟩⟩
    · rw [nz_le0 (by omega)] at c; omega
    · rw [nz_eq0 (by omega)] at c; omega
    · obtain ⟨n, hn, e⟩ := hp; exact ⟨n, by omega, e⟩
    · exact c16 (by omega)
    · rw [c16 (by omega)] at h11
      rw [e13, d3]
      have hp1 : pa40 r11 (200 - (k + 1)) := (h11.p40 hp (by omega)).mn (by show 200 - (k + 1 + 1) + 1 ≤ _; omega)
      refine ih f r11 q12 (by omega) (by omega) hp1 (fun r1 q1 h1 => hP r1 q1 ?_)
      have := h11.tr h1 hp (by show 200 - (k + 1 + 1) + 1 < _; omega)
      exact this
theorem kd_X11_putNumber (l : Launch) (D : va_G) (T : Nat → ClassId) (m0 : Nat) (a : Nat → Nat) (p0 : Int32) (r : Nat → Int32) (q : Nat → Nat → Int32) (h : pa40 r 196 ∧ ∃ c : Nat, c ≤ 9999 ∧ p0 = nI c) : RMv l yX11_putNumber (ws_X11_putNumber) rm_X11_putNumber D T m0 a [.ref m0, .int p0] r q (fun u => (apP r q (nuL (iv p0)) u.1 u.2)) := c_X11_putNumber l D T m0 a p0 r q _ <|
  (by
    obtain ⟨hp, ⟨c, hc, ec⟩⟩ := h
    subst ec
    have ic : iv (nI c) = c := nI_clamp (by omega)
    rw [ic]
    unfold wp_X11_putNumber
    have fin : ∀ k, k ≤ 3 → k = (if c < 10 then 0 else if c < 100 then 1 else if c < 1000 then 2 else 3) → ∃ k14 : Nat, wp_X11_putNumber_22 (fun u => apP r q (nuL c) u.1 u.2) k14 (nI c) (nI (10 ^ k)) r q := fun k hk he => ⟨10, rl_pn hc k 10 r q hk (by omega) (hp.mn (by omega)) (fun r1 q1 h1 => by unfold nuL; rw [← he]; exact h1)⟩
    refine ⟨10, ?_⟩
    rw [wp_X11_putNumber_4]; unfold wb_X11_putNumber_4; dsimp only
    refine ⟨fun z9 => absurd z9 (by decide), fun _ => ⟨fun z9 => ?_, fun z9 v3 e3 => ?_⟩⟩
    · have := (nI_leI (a := 1000) (by decide) (by omega)).mp z9
      exact fin 3 (by omega) (by rw [if_neg (by omega), if_neg (by omega), if_neg (by omega)])
    have y3 : ¬ 1000 ≤ c := fun w9 => z9 ((nI_leI (a := 1000) (by decide) (by omega)).mpr w9)
    rw [show v3 = 100 by rw [e3]; decide, wp_X11_putNumber_4]; unfold wb_X11_putNumber_4; dsimp only
    refine ⟨fun z9 => absurd z9 (by decide), fun _ => ⟨fun z9 => ?_, fun z9 v4 e4 => ?_⟩⟩
    · have := (nI_leI (a := 100) (by decide) (by omega)).mp z9
      exact fin 2 (by omega) (by rw [if_neg (by omega), if_neg (by omega), if_pos (by omega)])
    have y2 : ¬ 100 ≤ c := fun w9 => z9 ((nI_leI (a := 100) (by decide) (by omega)).mpr w9)
    rw [show v4 = 10 by rw [e4]; decide, wp_X11_putNumber_4]; unfold wb_X11_putNumber_4; dsimp only
    refine ⟨fun z9 => absurd z9 (by decide), fun _ => ⟨fun z9 => ?_, fun z9 v5 e5 => ?_⟩⟩
    · have := (nI_leI (a := 10) (by decide) (by omega)).mp z9
      exact fin 1 (by omega) (by rw [if_neg (by omega), if_pos (by omega)])
    have y1 : ¬ 10 ≤ c := fun w9 => z9 ((nI_leI (a := 10) (by decide) (by omega)).mpr w9)
    rw [show v5 = 1 by rw [e5]; decide, wp_X11_putNumber_4]; unfold wb_X11_putNumber_4; dsimp only
    exact ⟨fun _ => fin 0 (by omega) (by rw [if_pos (by omega)]), fun z9 => absurd (by decide) z9⟩)

theorem letF_c (k : Nat) : ∃ c : Nat, c < 128 ∧ letF (nI k) = nI c := by
  unfold letF
  split
  · exact ⟨104, by decide, rfl⟩
  split
  · exact ⟨119, by decide, rfl⟩
  split
  · exact ⟨110, by decide, rfl⟩
  split
  · exact ⟨108, by decide, rfl⟩
  · exact ⟨122, by decide, rfl⟩
theorem w_pt33 {P : RST → Prop} {r : Nat → Int32} {q : Nat → Nat → Int32} {n : Nat} (hn : n ≤ 9999999) (hp : pa40 r 191) (hP : ∀ r1 q1, apP r q (letF (nI (n / 30000 % 5)) :: ((if 0 < n / 30000 % 5 then [if n / 10000 % 3 = 0 then (60 : Int32) else if n / 10000 % 3 = 1 then 62 else 61] else []) ++ nuL (n % 10000))) r1 q1 → P (r1, q1)) : wp_X11_putTest_33 P (nI n) (nI (n / 30000 % 5)) (nI (n / 10000 % 3)) r q := by
  have e1 : nI n - nI n / 10000 * 10000 = nI (n % 10000) := pk_rem (d := 10000) (by omega) (by decide) (by decide)
  have b1 : n % 10000 < 10000 := Nat.mod_lt _ (by decide)
  have b2 : n / 10000 % 3 < 3 := Nat.mod_lt _ (by decide)
  have b3 : n / 30000 % 5 < 5 := Nat.mod_lt _ (by decide)
  generalize hk : n / 30000 % 5 = kd at *
  generalize hy : n / 10000 % 3 = by_ at *
  unfold wp_X11_putTest_33
  rw [e1, show iv (nI (n % 10000)) = n % 10000 from nI_clamp (by omega)]
  refine ⟨⟨hp.mn (by decide), letF_c kd⟩, fun r5 q6 h5 => ?_⟩
  have p5 : pa40 r5 192 := h5.p40 hp (by decide)
  -- the comparison and the number
  have two : ∀ ch : Int32, 0 < kd → ch = (if by_ = 0 then (60 : Int32) else if by_ = 1 then 62 else 61) → (∃ c : Nat, c < 128 ∧ ch = nI c) → ((pa40 r5 199 ∧ ∃ c : Nat, c < 128 ∧ ch = nI c) ∧ (∀ (r16 : Nat → Int32) (q17 : Nat → Nat → Int32), (apP r5 q6 [ch] r16 q17) → ((pa40 r16 196 ∧ ∃ c : Nat, c ≤ 9999 ∧ nI (n % 10000) = nI c) ∧ (∀ (r20 : Nat → Int32) (q21 : Nat → Nat → Int32), (apP r16 q17 (nuL (n % 10000)) r20 q21) → (P (r20, q21)))))) := by
    intro ch h0 hch hc
    refine ⟨⟨p5.mn (by decide), hc⟩, fun r16 q17 h16 => ⟨⟨(h16.p40 p5 (by decide)).mn (by show 192 + 1 ≤ 196; decide), ⟨n % 10000, by omega, rfl⟩⟩, fun r20 q21 h20 => hP _ _ ?_⟩⟩
    rw [if_pos h0, ← hch]
    have a1 := h16.tr h20 p5 (by show 192 + 1 < _; decide)
    have a2 := h5.tr a1 hp (by show 191 + 1 < _; decide)
    exact a2
  refine ⟨fun z9 => ?_, fun z9 => ⟨fun z8 => ⟨fun z7 => ?_, fun z7 => ?_⟩, fun z8 => ?_⟩⟩
  · rw [nz_le0 (by omega)] at z9
    refine ⟨⟨p5.mn (by decide), ⟨n % 10000, by omega, rfl⟩⟩, fun r20 q21 h20 => hP _ _ ?_⟩
    rw [if_neg (by omega)]
    exact h5.tr h20 hp (by show 191 + 1 < _; decide)
  · rw [nz_le0 (by omega)] at z9
    rw [nz_eq0 (by omega)] at z8
    rw [nz_eq1 (by omega)] at z7
    exact two 61 (by omega) (by rw [if_neg z8, if_neg z7]) ⟨61, by decide, rfl⟩
  · rw [nz_le0 (by omega)] at z9
    rw [nz_eq0 (by omega)] at z8
    rw [nz_eq1 (by omega)] at z7
    exact two 62 (by omega) (by rw [if_neg z8, if_pos z7]) ⟨62, by decide, rfl⟩
  · rw [nz_le0 (by omega)] at z9
    rw [nz_eq0 (by omega)] at z8
    exact two 60 (by omega) (by rw [if_pos z8]) ⟨60, by decide, rfl⟩
theorem kd_X11_putTest (l : Launch) (D : va_G) (T : Nat → ClassId) (m0 : Nat) (a : Nat → Nat) (p0 : Int32) (r : Nat → Int32) (q : Nat → Nat → Int32) (h : pa40 r 190 ∧ tix p0) : RMv l yX11_putTest (ws_X11_putTest) rm_X11_putTest D T m0 a [.ref m0, .int p0] r q (fun u => (apP r q (teL (iv p0)) u.1 u.2)) := c_X11_putTest l D T m0 a p0 r q _ <|
  (by
    obtain ⟨hp, n, hn, rfl⟩ := h
    have e2 : nI n / 10000 - nI n / 10000 / 3 * 3 = nI (n / 10000 % 3) := by
      rw [show nI n / 10000 = nI (n / 10000) from pk_div (d := 10000) (by omega) (by decide) (by decide)]
      exact pk_rem (d := 3) (nI_tix (by omega) _) (by decide) (by decide)
    have e3 : nI n / 30000 - nI n / 30000 / 5 * 5 = nI (n / 30000 % 5) := by
      rw [show nI n / 30000 = nI (n / 30000) from pk_div (d := 30000) (by omega) (by decide) (by decide)]
      exact pk_rem (d := 5) (nI_tix (by omega) _) (by decide) (by decide)
    have e4 : nI n / 150000 - nI n / 150000 / 2 * 2 = nI (n / 150000 % 2) := by
      rw [show nI n / 150000 = nI (n / 150000) from pk_div (d := 150000) (by omega) (by decide) (by decide)]
      exact pk_rem (d := 2) (nI_tix (by omega) _) (by decide) (by decide)
    have b4 : n / 150000 % 2 < 2 := Nat.mod_lt _ (by decide)
    have ic : iv (nI n) = n := nI_clamp (by omega)
    rw [ic]
    unfold wp_X11_putTest
    rw [e2, e3, e4, nz_eq1 (by omega)]
    refine fun v1 h1 v2 h2 => ?_
    subst h1 h2
    refine ⟨fun z9 => ?_, fun z9 => ⟨⟨hp.mn (by decide), ⟨45, by decide, rfl⟩⟩, fun r40 q41 h40 => ?_⟩⟩
    · refine w_pt33 hn (hp.mn (by decide)) (fun r1 q1 h1 => ?_)
      unfold teL
      rw [if_neg z9]
      exact h1
    · have p40 : pa40 r40 191 := h40.p40 hp (by decide)
      refine w_pt33 hn p40 (fun r1 q1 h1 => ?_)
      unfold teL
      rw [if_pos z9]
      exact h40.tr h1 hp (by show 190 + 1 < _; decide))
theorem paT_len {μ : Nat → Int32} {e : Nat} : ∀ k j, (paT μ e k j).length ≤ 10 * k := by
  intro k
  induction k with
  | zero => intro j; exact Nat.le_refl _
  | succ k ih =>
    intro j
    rw [paT, List.length_cons, List.length_append]
    have := ih (j + 1)
    have h2 : (teL (iv (μ (e + 6 + j)))).length ≤ 9 := by
      unfold teL
      have := (nuL_len (iv (μ (e + 6 + j)) % 10000)).1
      rw [List.length_append, List.length_cons, List.length_append]
      have a1 : (if iv (μ (e + 6 + j)) / 150000 % 2 = 1 then ([45] : List Int32) else []).length ≤ 1 := by split <;> decide
      have a2 : ∀ x : Int32, (if 0 < iv (μ (e + 6 + j)) / 30000 % 5 then [x] else []).length ≤ 1 := fun x => by split; exact Nat.le_refl _; exact Nat.zero_le _
      have := a2 (if iv (μ (e + 6 + j)) / 10000 % 3 = 0 then (60 : Int32) else if iv (μ (e + 6 + j)) / 10000 % 3 = 1 then 62 else 61)
      omega
    omega
/-- the tests and what stands behind them -/
theorem rl_wr {P : Int32 → RST → Prop} {q0 : Nat → Nat → Int32} {v a c : Nat} (hw : WF (q0 0)) (hv : v < 6) (ha : a < 10) (ec : q0 0 (274 + 510 * v + 150 + 36 * a + 4) = nI c) (hc : c ≤ 30) : ∀ (k j fuel : Nat) (r : Nat → Int32) (q : Nat → Nat → Int32), j + k = c → k < fuel → q 0 = q0 0 → pa40 r (100 - (paT (q0 0) (274 + 510 * v + 150 + 36 * a) k j).length) → (paT (q0 0) (274 + 510 * v + 150 + 36 * a) k j).length ≤ 80 → (∀ r1 q1, apP r q (paT (q0 0) (274 + 510 * v + 150 + 36 * a) k j ++ (if q0 0 (274 + 510 * v + 150 + 36 * a + 5) < 0 then [] else 33 :: nuL (iv (q0 0 (274 + 510 * v + 150 + 36 * a + 5))))) r1 q1 → P (r1 40) (r1, q1)) → wp_X11_write_130 P fuel (nI (274 + 510 * v + 150 + 36 * a)) (nI j) r q := by
  obtain ⟨hA1, hA2, hA3, hA4, hA5, hA6, hA7, hA8, hA9⟩ := hw.acc hv ha
  intro k
  induction k with
  | zero =>
    intro j fuel r q hj hf hq hp hl hP
    obtain ⟨f, rfl⟩ : ∃ f, fuel = f + 1 := ⟨fuel - 1, by omega⟩; rw [wp_X11_write_130]; unfold wb_X11_write_130; dsimp only
    simp (disch := omega) only [li_2, li_3, li_4, li_5, li_6, li_7, li_8, li_9, li_10, li_12, li_14, li_20, li_26, li_30, li_31, li_36, li_38, li_47, li_48, li_50, li_57, li_58, li_80, li_98, li_99, li_100, li_102, li_104, li_105, li_108, li_109, li_110, li_114, li_115, li_119, li_122, li_137, li_146, li_147, li_148, li_149, li_150, li_200, li_255, li_256, li_274, li_510, li_512, li_640, li_999, li_1000, li_1024, li_3334, li_5000, li_9999, li_10000, li_23338, li_26672, li_30000, li_99999, li_150000, li_300000, pk_mul, nI_add, pk_sub, nI_clamp, nI_1, nI_p1, nI_a0, nI_0a, nI_m0, nI_m1, cl_0, cl_1, z01, z11, nI_leI, nI_ltI, nI_eq, nz_lt0, nz_le, nz_eq0, nz_pos, nz_le0, nz_eq1, nz_lt1, nz_ge1, nz_le1, nz_gt1, nz_vp, nz_vp0, nz_vp1, six_nI, vix_nI, bix_nI, pix_nI, fix_nI, gix_nI, rix_nI, zix_nI, pix_0, pix_1, bix_0, fix_0, fix_1, rix_1, true_and, and_true]
    rw [hq, ec]
    simp (disch := omega) only [li_2, li_3, li_4, li_5, li_6, li_7, li_8, li_9, li_10, li_12, li_14, li_20, li_26, li_30, li_31, li_36, li_38, li_47, li_48, li_50, li_57, li_58, li_80, li_98, li_99, li_100, li_102, li_104, li_105, li_108, li_109, li_110, li_114, li_115, li_119, li_122, li_137, li_146, li_147, li_148, li_149, li_150, li_200, li_255, li_256, li_274, li_510, li_512, li_640, li_999, li_1000, li_1024, li_3334, li_5000, li_9999, li_10000, li_23338, li_26672, li_30000, li_99999, li_150000, li_300000, pk_mul, nI_add, pk_sub, nI_clamp, nI_1, nI_p1, nI_a0, nI_0a, nI_m0, nI_m1, cl_0, cl_1, z01, z11, nI_leI, nI_ltI, nI_eq, nz_lt0, nz_le, nz_eq0, nz_pos, nz_le0, nz_eq1, nz_lt1, nz_ge1, nz_le1, nz_gt1, nz_vp, nz_vp0, nz_vp1, six_nI, vix_nI, bix_nI, pix_nI, fix_nI, gix_nI, rix_nI, zix_nI, pix_0, pix_1, bix_0, fix_0, fix_1, rix_1, true_and, and_true]
    refine ⟨by omega, fun _ => ⟨by omega, fun z9 => ?_, fun z9 => ⟨⟨hp.mn (by omega), ⟨33, by decide, rfl⟩⟩, fun r31 q32 h31 => ?_⟩⟩, fun z9 => absurd (by omega) z9⟩
    · refine hP r q ?_
      rw [if_pos z9]
      exact apP.nil hp (by omega)
    · have e32 : q32 0 = q0 0 := (h31.2.1 0 (by decide)).trans hq
      have p31 : pa40 r31 101 := (h31.p40 hp (by omega)).mn (by show 100 - 0 + 1 ≤ 101; omega)
      rw [e32]
      have hx : ∃ m : Nat, m ≤ 9 ∧ q0 0 (274 + 510 * v + 150 + 36 * a + 5) = nI m := by
        rcases hA6 with h | ⟨m, hm, e⟩
        · rw [h] at z9; exact absurd (by decide) z9
        · exact ⟨m, hm, e⟩
      obtain ⟨m, hm, em⟩ := hx
      refine ⟨by omega, ⟨p31.mn (by decide), ⟨m, by omega, em⟩⟩, fun r36 q37 h36 => hP _ _ ?_⟩
      rw [if_neg z9]
      exact h31.tr h36 hp (by show 100 - 0 + 1 < _; omega)
  | succ k ih =>
    intro j fuel r q hj hf hq hp hl hP
    obtain ⟨f, rfl⟩ : ∃ f, fuel = f + 1 := ⟨fuel - 1, by omega⟩; rw [wp_X11_write_130]; unfold wb_X11_write_130; dsimp only
    obtain ⟨t, ht, et⟩ := hA7 j (by omega)
    simp (disch := omega) only [li_2, li_3, li_4, li_5, li_6, li_7, li_8, li_9, li_10, li_12, li_14, li_20, li_26, li_30, li_31, li_36, li_38, li_47, li_48, li_50, li_57, li_58, li_80, li_98, li_99, li_100, li_102, li_104, li_105, li_108, li_109, li_110, li_114, li_115, li_119, li_122, li_137, li_146, li_147, li_148, li_149, li_150, li_200, li_255, li_256, li_274, li_510, li_512, li_640, li_999, li_1000, li_1024, li_3334, li_5000, li_9999, li_10000, li_23338, li_26672, li_30000, li_99999, li_150000, li_300000, pk_mul, nI_add, pk_sub, nI_clamp, nI_1, nI_p1, nI_a0, nI_0a, nI_m0, nI_m1, cl_0, cl_1, z01, z11, nI_leI, nI_ltI, nI_eq, nz_lt0, nz_le, nz_eq0, nz_pos, nz_le0, nz_eq1, nz_lt1, nz_ge1, nz_le1, nz_gt1, nz_vp, nz_vp0, nz_vp1, six_nI, vix_nI, bix_nI, pix_nI, fix_nI, gix_nI, rix_nI, zix_nI, pix_0, pix_1, bix_0, fix_0, fix_1, rix_1, true_and, and_true]
    rw [hq, ec, et]
    simp (disch := omega) only [li_2, li_3, li_4, li_5, li_6, li_7, li_8, li_9, li_10, li_12, li_14, li_20, li_26, li_30, li_31, li_36, li_38, li_47, li_48, li_50, li_57, li_58, li_80, li_98, li_99, li_100, li_102, li_104, li_105, li_108, li_109, li_110, li_114, li_115, li_119, li_122, li_137, li_146, li_147, li_148, li_149, li_150, li_200, li_255, li_256, li_274, li_510, li_512, li_640, li_999, li_1000, li_1024, li_3334, li_5000, li_9999, li_10000, li_23338, li_26672, li_30000, li_99999, li_150000, li_300000, pk_mul, nI_add, pk_sub, nI_clamp, nI_1, nI_p1, nI_a0, nI_0a, nI_m0, nI_m1, cl_0, cl_1, z01, z11, nI_leI, nI_ltI, nI_eq, nz_lt0, nz_le, nz_eq0, nz_pos, nz_le0, nz_eq1, nz_lt1, nz_ge1, nz_le1, nz_gt1, nz_vp, nz_vp0, nz_vp1, six_nI, vix_nI, bix_nI, pix_nI, fix_nI, gix_nI, rix_nI, zix_nI, pix_0, pix_1, bix_0, fix_0, fix_1, rix_1, true_and, and_true]
    rw [paT, List.length_cons, List.length_append] at hl
    have it : iv (q0 0 (274 + 510 * v + 150 + 36 * a + 6 + j)) = t := by rw [et]; exact nI_clamp (by omega)
    -- one test behind its sign
    have go : ∀ ch : Int32, (∃ c : Nat, c < 128 ∧ ch = nI c) → ch = (if j = 0 then (63 : Int32) else if iv (q0 0 (274 + 510 * v + 150 + 36 * a + 6 + j - 1)) / 300000 = iv (q0 0 (274 + 510 * v + 150 + 36 * a + 6 + j)) / 300000 then 38 else 124) → ((pa40 r 199 ∧ ∃ c : Nat, c < 128 ∧ ch = nI c) ∧ (∀ (r54 : Nat → Int32) (q55 : Nat → Nat → Int32), (apP r q [ch] r54 q55) → ((pa40 r54 190 ∧ tix (nI t)) ∧ (∀ (r58 : Nat → Int32) (q59 : Nat → Nat → Int32), (apP r54 q55 (teL (iv (nI t))) r58 q59) → (∀ v61 : Int32, v61 = nI j + 1 → (wp_X11_write_130 P f (nI (274 + 510 * v + 150 + 36 * a)) v61 r58 q59)))))) := by
      intro ch hcc hch
      refine ⟨⟨hp.mn (by omega), hcc⟩, fun r54 q55 h54 => ?_⟩
      have p54 := h54.p40 hp (by omega)
      refine ⟨⟨p54.mn (by show 100 - _ + 1 ≤ 190; omega), ⟨t, by omega, rfl⟩⟩, fun r58 q59 h58 v61 e61 => ?_⟩
      rw [nI_1] at e61
      subst e61
      rw [show iv (nI t) = t from nI_clamp (by omega)] at h58
      have hl2 : (paT (q0 0) (274 + 510 * v + 150 + 36 * a) (k + 1) j).length = 1 + ((teL t).length + (paT (q0 0) (274 + 510 * v + 150 + 36 * a) k (j + 1)).length) := by rw [paT, List.length_cons, List.length_append, it]; omega
      rw [it] at hl
      have h1 := h54.tr h58 hp (by show 100 - _ + 1 < _; omega)
      refine ih (j + 1) f r58 q59 (by omega) (by omega) ((h1.2.1 0 (by decide)).trans hq) ((h1.p40 hp (by omega)).mn ?_) (by omega) (fun r1 q1 h2 => hP r1 q1 ?_)
      · rw [hl2, List.length_append, show [ch].length = 1 from rfl]; omega
      · have h3 := h1.tr h2 hp (by rw [List.length_append, show [ch].length = 1 from rfl]; omega)
        rw [it] at hch
        rw [paT, it, ← hch]
        simpa only [List.append_assoc, List.cons_append, List.nil_append] using h3
    refine ⟨by omega, fun z9 => absurd z9 (by omega), fun _ => ⟨by omega, fun v40 e40 => ?_⟩⟩
    subst e40
    have w194 : ∀ s0 : Int32, (¬ j = 0 → (s0 = 0 → ¬ iv (q0 0 (274 + 510 * v + 150 + 36 * a + 6 + j - 1)) / 300000 = iv (q0 0 (274 + 510 * v + 150 + 36 * a + 6 + j)) / 300000) ∧ (¬ s0 = 0 → iv (q0 0 (274 + 510 * v + 150 + 36 * a + 6 + j - 1)) / 300000 = iv (q0 0 (274 + 510 * v + 150 + 36 * a + 6 + j)) / 300000)) → wp_X11_write_194 (fun (y71 : Int32) (y72 : Int32) (r73 : Nat → Int32) (q74 : Nat → Nat → Int32) => wp_X11_write_130 P f y71 y72 r73 q74) P (nI (274 + 510 * v + 150 + 36 * a)) (nI j) (nI t) s0 r q := by
      intro s0 hs
      unfold wp_X11_write_194
      rw [nz_eq0 (by omega)]
      refine ⟨fun z9 => ⟨fun z8 => ?_, fun z8 => ?_⟩, fun z9 => ?_⟩
      · exact go 124 ⟨124, by decide, rfl⟩ (by rw [if_neg z9, if_neg ((hs z9).1 z8)])
      · exact go 38 ⟨38, by decide, rfl⟩ (by rw [if_neg z9, if_pos ((hs z9).2 z8)])
      · exact go 63 ⟨63, by decide, rfl⟩ (by rw [if_pos z9])
    refine ⟨fun z9 => w194 0 (fun z8 => absurd (by omega) z8), fun z9 => ⟨by omega, ?_⟩⟩
    obtain ⟨t1, ht1, et1⟩ := hA7 (j - 1) (by omega)
    have ej : 274 + 510 * v + 150 + 36 * a + 6 + (j - 1) = 274 + 510 * v + 150 + 36 * a + 6 + j - 1 := by omega
    rw [ej] at et1
    have it1 : iv (q0 0 (274 + 510 * v + 150 + 36 * a + 6 + j - 1)) = t1 := by rw [et1]; exact nI_clamp (by omega)
    rw [et1]
    have hD : ∀ x : Nat, x ≤ 9999999 → nI x / nI 300000 = nI (x / 300000) := fun x hx => pk_div (by omega) (by decide) (by decide)
    have hb : ∀ x : Nat, x ≤ 9999999 → x / 300000 < 2 ^ 31 := fun x hx => Nat.lt_of_le_of_lt (Nat.div_le_self _ _) (by omega)
    rw [hD t1 ht1, hD t ht, nI_eq (hb t1 ht1) (hb t ht)]
    refine ⟨fun z8 => w194 0 (fun _ => ⟨fun _ => by rw [it1, it]; exact z8, fun z7 => absurd rfl z7⟩), fun z8 => w194 1 (fun _ => ⟨fun z7 => absurd z7 (by decide), fun _ => by rw [it1, it]; exact z8⟩)⟩
theorem kd_X11_write (l : Launch) (D : va_G) (T : Nat → ClassId) (m0 : Nat) (a : Nat → Nat) (p0 : Int32) (p1 : Int32) (r : Nat → Int32) (q : Nat → Nat → Int32) (h : WF (q 0) ∧ WFP (q 0)) : RMi l yX11_write (ws_X11_write) rm_X11_write D T m0 a [.ref m0, .int p0, .int p1] r q (fun v u => (kR r u.1 (40 :: SC) ∧ kQ q u.2 [12] ∧ u.1 6 = wrC (q 0) p0 p1 ∧ (¬ wrC (q 0) p0 p1 = 0 → u.1 40 = r 40 ∧ u.2 = q) ∧ (wrC (q 0) p0 p1 = 0 → v = u.1 40 ∧ u.1 40 = nI (paF (q 0) (274 + 510 * iv p0 + 150 + 36 * iv p1) (iv p1)).length ∧ ∀ j x, (paF (q 0) (274 + 510 * iv p0 + 150 + 36 * iv p1) (iv p1))[j]? = some x → u.2 12 j = x))) := c_X11_write l D T m0 a p0 p1 r q _ <|
  (by
    obtain ⟨hw, hwp⟩ := h
    unfold wp_X11_write
    have bad : ∀ c : Int32, ¬ c ≤ 0 → wrC (q 0) p0 p1 = c → wp_X11_write_41 (fun v u => kR r u.1 (40 :: SC) ∧ kQ q u.2 [12] ∧ u.1 6 = wrC (q 0) p0 p1 ∧ (¬ wrC (q 0) p0 p1 = 0 → u.1 40 = r 40 ∧ u.2 = q) ∧ (wrC (q 0) p0 p1 = 0 → v = u.1 40 ∧ u.1 40 = nI (paF (q 0) (274 + 510 * iv p0 + 150 + 36 * iv p1) (iv p1)).length ∧ ∀ j x, (paF (q 0) (274 + 510 * iv p0 + 150 + 36 * iv p1) (iv p1))[j]? = some x → u.2 12 j = x)) p0 p1 c r q := by
      intro c hc he
      unfold wp_X11_write_41
      refine code_p hc ⟨kR.rf.up (by decide) _, kQ.rf, ?_, fun _ => ⟨by dsimp only; exact va_up_ne _ _ (by decide), rfl⟩, fun z9 => ?_⟩
      · dsimp only
        rw [va_up_self, he]
      · rw [he] at z9; rw [z9] at hc; exact absurd (by decide) hc
    refine ⟨fun z9 => ⟨fun z8 => bad 2 (by decide) (by unfold wrC; rw [if_neg z9, if_pos z8]), fun z8 => ?_⟩, fun z9 => bad 1 (by decide) (by unfold wrC; rw [if_pos z9])⟩
    obtain ⟨v, n, hv, hn6, e0, rfl⟩ := vers_ix hw z9
    obtain ⟨a, ha, rfl⟩ := zin_n (m := 9) (by decide) z8
    have ev : iv (nI v) = v := nI_clamp (by omega)
    have ea : iv (nI a) = a := nI_clamp (by omega)
    have hpa : vp_in (274 + 510 * nI v + 150 + 36 * nI a) 3334 = (274 + 510 * v + 150 + 36 * a < 3334) := by simp (disch := omega) only [li_2, li_3, li_4, li_5, li_6, li_7, li_8, li_9, li_10, li_12, li_14, li_20, li_26, li_30, li_31, li_36, li_38, li_47, li_48, li_50, li_57, li_58, li_80, li_98, li_99, li_100, li_102, li_104, li_105, li_108, li_109, li_110, li_114, li_115, li_119, li_122, li_137, li_146, li_147, li_148, li_149, li_150, li_200, li_255, li_256, li_274, li_510, li_512, li_640, li_999, li_1000, li_1024, li_3334, li_5000, li_9999, li_10000, li_23338, li_26672, li_30000, li_99999, li_150000, li_300000, pk_mul, nI_add, pk_sub, nI_clamp, nI_1, nI_p1, nI_a0, nI_0a, nI_m0, nI_m1, cl_0, cl_1, z01, z11, nI_leI, nI_ltI, nI_eq, nz_lt0, nz_le, nz_eq0, nz_pos, nz_le0, nz_eq1, nz_lt1, nz_ge1, nz_le1, nz_gt1, nz_vp, nz_vp0, nz_vp1, six_nI, vix_nI, bix_nI, pix_nI, fix_nI, gix_nI, rix_nI, zix_nI, pix_0, pix_1, bix_0, fix_0, fix_1, rix_1, true_and, and_true]
    have hia : Int32.toNatClampNeg (274 + 510 * nI v + 150 + 36 * nI a) = 274 + 510 * v + 150 + 36 * a := by simp (disch := omega) only [li_2, li_3, li_4, li_5, li_6, li_7, li_8, li_9, li_10, li_12, li_14, li_20, li_26, li_30, li_31, li_36, li_38, li_47, li_48, li_50, li_57, li_58, li_80, li_98, li_99, li_100, li_102, li_104, li_105, li_108, li_109, li_110, li_114, li_115, li_119, li_122, li_137, li_146, li_147, li_148, li_149, li_150, li_200, li_255, li_256, li_274, li_510, li_512, li_640, li_999, li_1000, li_1024, li_3334, li_5000, li_9999, li_10000, li_23338, li_26672, li_30000, li_99999, li_150000, li_300000, pk_mul, nI_add, pk_sub, nI_clamp, nI_1, nI_p1, nI_a0, nI_0a, nI_m0, nI_m1, cl_0, cl_1, z01, z11, nI_leI, nI_ltI, nI_eq, nz_lt0, nz_le, nz_eq0, nz_pos, nz_le0, nz_eq1, nz_lt1, nz_ge1, nz_le1, nz_gt1, nz_vp, nz_vp0, nz_vp1, six_nI, vix_nI, bix_nI, pix_nI, fix_nI, gix_nI, rix_nI, zix_nI, pix_0, pix_1, bix_0, fix_0, fix_1, rix_1, true_and, and_true]
    rw [hpa, hia]
    refine ⟨by omega, fun z7 => ?_, fun z7 => bad 2 (by decide) (by unfold wrC; rw [if_neg z9, if_neg z8, ev, ea, if_pos z7])⟩
    have hC : wrC (q 0) (nI v) (nI a) = 0 := by unfold wrC; rw [if_neg z9, if_neg z8, ev, ea, if_neg z7]
    rw [ev, ea]
    obtain ⟨hA1, ⟨num, hnum, enum⟩, ⟨kd, hkd, ekd⟩, hA4, ⟨c, hc, ec⟩, hA6, hA7, hA8, hA9⟩ := hw.acc (v := v) (a := a) (by omega) (by omega)
    have ic : iv (q 0 (274 + 510 * v + 150 + 36 * a + 4)) = c := by rw [ec]; exact nI_clamp (by omega)
    have inum : iv (q 0 (274 + 510 * v + 150 + 36 * a + 1)) = num := by rw [enum]; exact nI_clamp (by omega)
    have hlen := hwp v (by omega) a (by omega)
    rw [ic] at hlen
    unfold wp_X11_write_41
    refine code_0 ?_
    intro v5 e5
    have e5' : v5 = nI (274 + 510 * v + 150 + 36 * a) := by rw [e5]; simp (disch := omega) only [li_2, li_3, li_4, li_5, li_6, li_7, li_8, li_9, li_10, li_12, li_14, li_20, li_26, li_30, li_31, li_36, li_38, li_47, li_48, li_50, li_57, li_58, li_80, li_98, li_99, li_100, li_102, li_104, li_105, li_108, li_109, li_110, li_114, li_115, li_119, li_122, li_137, li_146, li_147, li_148, li_149, li_150, li_200, li_255, li_256, li_274, li_510, li_512, li_640, li_999, li_1000, li_1024, li_3334, li_5000, li_9999, li_10000, li_23338, li_26672, li_30000, li_99999, li_150000, li_300000, pk_mul, nI_add, pk_sub, nI_clamp, nI_1, nI_p1, nI_a0, nI_0a, nI_m0, nI_m1, cl_0, cl_1, z01, z11]
    clear e5
    subst e5'
    intro r6 e6
    have p6 : pa40 r6 0 := ⟨0, Nat.le_refl _, by rw [e6, va_up_self]; rfl⟩
    have i6 : iv (r6 40) = 0 := by rw [e6, va_up_self]; rfl
    have k6 : kR r r6 (40 :: SC) := by rw [e6]; exact (kR.rf.up (by decide) _).up (by decide) _
    refine ⟨⟨p6.mn (by decide), ⟨97, by decide, rfl⟩⟩, fun r8 q9 h8 => ?_⟩
    have p8 : pa40 r8 1 := h8.p40 p6 (by decide)
    refine ⟨⟨p8.mn (by decide), ⟨a, by omega, rfl⟩⟩, fun r12 q13 h12 => ?_⟩
    rw [show iv (nI a) = a from ea] at h12
    have la := nuL_len a
    have h12' := h8.tr h12 p6 (by show 0 + 1 < _; decide)
    have p12 : pa40 r12 5 := (h12'.p40 p6 (by decide)).mn (by rw [List.length_append, show ([97] : List Int32).length = 1 from rfl]; omega)
    refine ⟨⟨p12.mn (by decide), ⟨58, by decide, rfl⟩⟩, fun r16 q17 h16 => ?_⟩
    have p16 : pa40 r16 6 := h16.p40 p12 (by decide)
    have h16' := h12'.tr h16 p6 (by rw [List.length_append, show ([97] : List Int32).length = 1 from rfl]; omega)
    have q17e : q17 0 = q 0 := h16'.2.1 0 (by decide)
    simp (disch := omega) only [li_2, li_3, li_4, li_5, li_6, li_7, li_8, li_9, li_10, li_12, li_14, li_20, li_26, li_30, li_31, li_36, li_38, li_47, li_48, li_50, li_57, li_58, li_80, li_98, li_99, li_100, li_102, li_104, li_105, li_108, li_109, li_110, li_114, li_115, li_119, li_122, li_137, li_146, li_147, li_148, li_149, li_150, li_200, li_255, li_256, li_274, li_510, li_512, li_640, li_999, li_1000, li_1024, li_3334, li_5000, li_9999, li_10000, li_23338, li_26672, li_30000, li_99999, li_150000, li_300000, pk_mul, nI_add, pk_sub, nI_clamp, nI_1, nI_p1, nI_a0, nI_0a, nI_m0, nI_m1, cl_0, cl_1, z01, z11, nI_leI, nI_ltI, nI_eq, nz_lt0, nz_le, nz_eq0, nz_pos, nz_le0, nz_eq1, nz_lt1, nz_ge1, nz_le1, nz_gt1, nz_vp, nz_vp0, nz_vp1, six_nI, vix_nI, bix_nI, pix_nI, fix_nI, gix_nI, rix_nI, zix_nI, pix_0, pix_1, bix_0, fix_0, fix_1, rix_1, true_and, and_true]
    rw [q17e, enum, show iv (nI num) = num from nI_clamp (by omega)]
    refine ⟨by omega, ⟨p16.mn (by decide), ⟨num, by omega, rfl⟩⟩, fun r21 q22 h21 => ?_⟩
    have ln := nuL_len num
    have p21 : pa40 r21 10 := (h21.p40 p16 (by decide)).mn (by omega)
    have h21' := h16'.tr h21 p6 (by simp only [List.length_append, List.length_cons, List.length_nil]; omega)
    have q22e : q22 0 = q 0 := h21'.2.1 0 (by decide)
    -- what is left
    have rest : ∀ (KL : List Int32) (r1 : Nat → Int32) (q1 : Nat → Nat → Int32), KL = (if q 0 (274 + 510 * v + 150 + 36 * a + 2) = 0 then [] else [if q 0 (274 + 510 * v + 150 + 36 * a + 2) = 1 then (42 : Int32) else 37]) → KL.length ≤ 1 → apP r21 q22 KL r1 q1 → ∃ k85 : Nat, wp_X11_write_130 (fun v u => kR r u.1 (40 :: SC) ∧ kQ q u.2 [12] ∧ u.1 6 = wrC (q 0) (nI v) (nI a) ∧ (¬ wrC (q 0) (nI v) (nI a) = 0 → u.1 40 = r 40 ∧ u.2 = q) ∧ (wrC (q 0) (nI v) (nI a) = 0 → v = u.1 40 ∧ u.1 40 = nI (paF (q 0) (274 + 510 * v + 150 + 36 * a) a).length ∧ ∀ j x, (paF (q 0) (274 + 510 * v + 150 + 36 * a) a)[j]? = some x → u.2 12 j = x)) k85 (nI (274 + 510 * v + 150 + 36 * a)) 0 r1 q1 := by
      intro KL r1 q1 hKL hK1 h1
      refine ⟨100, rl_wr (q0 := q) hw (by omega) (by omega) ec hc c 0 100 r1 q1 (by omega) (by omega) ((h1.2.1 0 (by decide)).trans q22e) ?_ hlen (fun r2 q2 h2 => ?_)⟩
      · exact (h1.p40 p21 (by decide)).mn (by omega)
      · have h1' := h21'.tr h1 p6 (by simp only [List.length_append, List.length_cons, List.length_nil]; omega)
        have h2' := h1'.tr h2 p6 (by simp only [List.length_append, List.length_cons, List.length_nil]; omega)
        have e9 : ((((([97] ++ nuL a) ++ [58]) ++ nuL num) ++ KL) ++ (paT (q 0) (274 + 510 * v + 150 + 36 * a) c 0 ++ (if q 0 (274 + 510 * v + 150 + 36 * a + 5) < 0 then [] else 33 :: nuL (iv (q 0 (274 + 510 * v + 150 + 36 * a + 5)))))) = paF (q 0) (274 + 510 * v + 150 + 36 * a) a := by
          unfold paF
          rw [inum, ic, hKL]
          simp only [List.append_assoc, List.cons_append, List.nil_append]
        rw [e9] at h2'
        obtain ⟨a1, a2, a3, a4, a5⟩ := h2'
        rw [i6, Nat.zero_add] at a3
        refine ⟨k6.tr a1 (fun _ h => h) (by decide), a2, ?_, fun z6 => absurd hC z6, fun _ => ⟨rfl, a3, fun j x hx => ?_⟩⟩
        · dsimp only; rw [hC, a1 6 (by decide), e6, va_up_ne _ _ (by decide), va_up_self]
        · have := a5 j x hx
          rw [i6, Nat.zero_add] at this
          exact this
    rw [q22e, ekd]
    refine ⟨by omega, fun z6 => rest [] r21 q22 ?_ (by decide) (apP.nil p21 (by decide)), fun z6 => ⟨by omega, fun z5 => ⟨⟨p21.mn (by decide), ⟨37, by decide, rfl⟩⟩, fun r89 q90 h89 => rest [37] r89 q90 ?_ (by decide) h89⟩, fun z5 => ⟨⟨p21.mn (by decide), ⟨42, by decide, rfl⟩⟩, fun r94 q95 h94 => rest [42] r94 q95 ?_ (by decide) h94⟩⟩⟩
    · rw [nz_le0 (by omega)] at z6
      rw [ekd, if_pos (show nI kd = 0 by rw [show kd = 0 by omega]; rfl)]
    · rw [nz_le0 (by omega)] at z6
      rw [ekd, if_neg (fun z4 => z6 (by rw [nz_eq0 (by omega)] at z4; omega)), if_neg z5]
    · rw [ekd, z5]; rfl)

theorem up_up {f : Nat → Int32} {k : Nat} {x y : Int32} : upd (upd f k x) k y = upd f k y := by
  funext j
  by_cases e : j = k
  · subst e; rw [pk_us, pk_us]
  · rw [pk_un e, pk_un e, pk_un e]
theorem up_id {f : Nat → Int32} {k : Nat} : upd f k (f k) = f := by
  funext j
  by_cases e : j = k
  · subst e; rw [pk_us]
  · rw [pk_un e]
theorem low_tb' {p : Nat} (h : p < 1024) (h0 : 0 < p) : p.testBit (lowN p) = true := low_tb h (by omega)
theorem lp_eq {T T' B B' C C' : Nat → Int32} {p : Nat} (hp : p < 1024) (h0 : 0 < p) (hT : ∀ g, 0 < g → sub g p → T g = T' g) (hB : ∀ d, d < p → sub d p → B d = B' d ∧ C d = C' d) (h1 : 0 ≤ T (2 ^ lowN p)) : ∀ (m g : Nat) (x y : X3), g + m = p + 1 → 0 < g → (x = y ∨ (x.1 = -1 ∧ y.1 = -1 ∧ g ≤ 2 ^ lowN p)) → lpF T B C p m g x = lpF T' B' C' p m g y := by
  have hl := low_tb' hp h0
  have hs : sub (2 ^ lowN p) p := sub_tb.mpr fun i hi => by
    rw [Nat.testBit_two_pow] at hi
    rw [← of_decide_eq_true hi]
    exact hl
  have hle := sub_le hs
  intro m
  induction m with
  | zero =>
    intro g x y hg hg0 h
    rcases h with h | ⟨_, _, h⟩
    · rw [h]; rfl
    · omega
  | succ m ih =>
    intro g x y hg hg0 h
    rw [lpF, lpF]
    refine ih (g + 1) _ _ (by omega) (by omega) ?_
    by_cases hv : g &&& p = g ∧ g.testBit (lowN p) = true ∧ 0 ≤ T g
    · have eT := hT g hg0 hv.1
      have hd : dif p g < p := dif_lt hl hv.2.1
      obtain ⟨eB, eC⟩ := hB (dif p g) hd (sub_dif p g)
      left
      have hv' : g &&& p = g ∧ g.testBit (lowN p) = true ∧ 0 ≤ T' g := by rw [← eT]; exact hv
      unfold lpS
      rw [if_pos hv, if_pos hv', ← eT, ← eB, ← eC]
      rcases h with h | ⟨hx, hy, _⟩
      · rw [h]
      · rw [if_pos (Or.inl (by rw [hx]; decide)), if_pos (Or.inl (by rw [hy]; decide))]
    · have eS : lpS T B C p g x = x := by unfold lpS; rw [if_neg hv]
      have eS' : lpS T' B' C' p g y = y := by
        unfold lpS
        rw [if_neg]
        rintro ⟨w1, w2, w3⟩
        exact hv ⟨w1, w2, by rw [hT g hg0 w1]; exact w3⟩
      rw [eS, eS']
      rcases h with h | ⟨hx, hy, hg2⟩
      · exact Or.inl h
      · refine Or.inr ⟨hx, hy, ?_⟩
        rcases Nat.lt_or_ge g (2 ^ lowN p) with q9 | q9
        · exact q9
        · have e : g = 2 ^ lowN p := by omega
          subst e
          exact absurd ⟨hs, by rw [Nat.testBit_two_pow]; exact decide_eq_true rfl, h1⟩ hv
theorem dp_eq {T T' : Nat → Int32} {n : Nat} (hn : n < 1024) (hT : ∀ g, 0 < g → sub g n → T g = T' g) (h1 : ∀ s, n.testBit s = true → 0 ≤ T (2 ^ s)) (t t' : T3) : ∀ k p, p ≤ k → sub p n → (dpK T n t k).1 p = (dpK T' n t' k).1 p ∧ (dpK T n t k).2.1 p = (dpK T' n t' k).2.1 p ∧ (0 < p → (dpK T n t k).2.2 p = (dpK T' n t' k).2.2 p) := by
  intro k
  induction k with
  | zero =>
    intro p hp hs
    have e : p = 0 := by omega
    subst e
    refine ⟨?_, ?_, fun z9 => absurd z9 (by decide)⟩
    · rw [dpK, dpK]; dsimp only; exact pk_us.trans pk_us.symm
    · rw [dpK, dpK]; dsimp only; exact pk_us.trans pk_us.symm
  | succ k ih =>
    intro p hp hs
    rw [dpK, dpK]
    by_cases c : (k + 1) &&& n = k + 1
    · rw [if_pos c, if_pos c]
      unfold dpU
      dsimp only
      have hk : k + 1 < 1024 := Nat.lt_of_le_of_lt (sub_le c) hn
      have hlow := low_tb' hk (by omega)
      have hX : dpX T (dpK T n t k) (k + 1) = dpX T' (dpK T' n t' k) (k + 1) := by
        unfold dpX
        refine lp_eq hk (by omega) (fun g hg hgs => hT g hg (sub_tr hgs c)) (fun d hd hds => ?_) (h1 _ (sub_tb.mp c _ hlow)) (k + 1) 1 _ _ (by omega) (by decide) (Or.inr ⟨rfl, rfl, Nat.two_pow_pos _⟩)
        have := ih d (by omega) (sub_tr hds c)
        exact ⟨this.1, this.2.1⟩
      rw [hX]
      by_cases e : p = k + 1
      · subst e
        exact ⟨pk_us.trans pk_us.symm, pk_us.trans pk_us.symm, fun _ => pk_us.trans pk_us.symm⟩
      · rw [pk_un e, pk_un e, pk_un e, pk_un e, pk_un e, pk_un e]
        exact ih p (by omega) hs
    · rw [if_neg c, if_neg c]
      have e : p ≠ k + 1 := fun e => c (by rw [← e]; exact hs)
      exact ih p (by omega) hs
theorem rl_lp {P : RST → Prop} {r : Nat → Int32} {T B C F : Nat → Int32} {p : Nat} (hp : p < 1024) (h0 : 0 < p) : ∀ (m g fuel : Nat) (x : X3) (q : Nat → Nat → Int32), g + m = p + 1 → m < fuel → 0 < g → q 7 = T → q 8 = upd B p x.1 → q 9 = upd C p x.2.1 → q 10 = upd F p x.2.2 → (∀ q1, kQ q q1 [8, 9, 10] → q1 8 = upd B p (lpF T B C p m g x).1 → q1 9 = upd C p (lpF T B C p m g x).2.1 → q1 10 = upd F p (lpF T B C p m g x).2.2 → P (r, q1)) → wp_X11_layPart_14 P fuel (nI p) (nI (2 ^ lowN p)) (nI g) r q := by
  intro m
  induction m with
  | zero =>
    intro g fuel x q hg hf hg0 h7 h8 h9 h10 hP
    obtain ⟨f, rfl⟩ : ∃ f, fuel = f + 1 := ⟨fuel - 1, by omega⟩; rw [wp_X11_layPart_14]; unfold wb_X11_layPart_14; dsimp only
    rw [nI_ltI (by omega) (by omega)]
    exact ⟨fun _ => hP q kQ.rf h8 h9 h10, fun z9 => absurd (by omega) z9⟩
  | succ m ih =>
    intro g fuel x q hg hf hg0 h7 h8 h9 h10 hP
    have hlow := low_tb' hp h0
    have hlw : 2 ^ lowN p ≤ p := by
      have hs : sub (2 ^ lowN p) p := sub_tb.mpr fun i hi => by
        rw [Nat.testBit_two_pow] at hi
        rw [← of_decide_eq_true hi]
        exact hlow
      exact sub_le hs
    rw [lpF] at hP
    obtain ⟨f, rfl⟩ : ∃ f, fuel = f + 1 := ⟨fuel - 1, by omega⟩; rw [wp_X11_layPart_14]; unfold wb_X11_layPart_14; dsimp only
    rw [nI_ltI (by omega) (by omega), nI_dif, nI_dif, nI_and]
    have hgp : g &&& 2 ^ lowN p < 2 ^ 31 := Nat.lt_of_le_of_lt Nat.and_le_left (by omega)
    have hdg : dif g p < 2 ^ 31 := Nat.lt_of_le_of_lt (sub_le (sub_dif g p)) (by omega)
    have hdp : dif p g ≤ p := sub_le (sub_dif p g)
    rw [nz_eq0 hdg, nz_eq0 hgp, dif_0, pw_and, nz_vp (by omega) (by decide), nz_vp (by omega) (by decide), nz_vp (by omega) (by decide), nI_clamp (n := g) (by omega), nI_clamp (n := p) (by omega), nI_clamp (n := dif p g) (by omega), nI_1]
    -- the next group, nothing taken
    have next : lpS T B C p g x = x → ∀ v : Int32, v = nI (g + 1) → wp_X11_layPart_14 P f (nI p) (nI (2 ^ lowN p)) v r q := fun hx v e => by
      subst e
      rw [hx] at hP
      exact ih (g + 1) f x q (by omega) (by omega) (by omega) h7 h8 h9 h10 hP
    refine ⟨fun z9 => absurd z9 (by omega), fun _ => ⟨fun c1 => next (by unfold lpS; rw [if_neg (fun w9 => c1 w9.1)]), fun c1 => ⟨fun c2 => next (by unfold lpS; rw [if_neg (fun w9 => by rw [c2] at w9; exact absurd w9.2.1 (by decide))]), fun c2 => ⟨by omega, fun c3 => next (by unfold lpS; rw [if_neg (fun w9 => by rw [h7] at c3; exact absurd c3 (Int32.not_lt.mpr w9.2.2))]), fun c3 => ⟨by omega, by omega, fun v14 e14 => ⟨by omega, fun v16 e16 => ⟨by omega, ?_⟩⟩⟩⟩⟩⟩⟩
    have ct : g.testBit (lowN p) = true := by
      cases h : g.testBit (lowN p) with
      | true => rfl
      | false => exact absurd h c2
    rw [h7] at c3
    have hval : g &&& p = g ∧ g.testBit (lowN p) = true ∧ 0 ≤ T g := ⟨c1, ct, Int32.not_lt.mp c3⟩
    have hd : dif p g < p := dif_lt hlow ct
    have ed8 : q 8 (dif p g) = B (dif p g) := by rw [h8, pk_un (by omega)]
    have ed9 : q 9 (dif p g) = C (dif p g) := by rw [h9, pk_un (by omega)]
    rw [h7, ed8] at e14
    rw [ed9] at e16
    have ex8 : q 8 p = x.1 := by rw [h8, pk_us]
    have ex9 : q 9 p = x.2.1 := by rw [h9, pk_us]
    rw [ex8, ex9]
    have hS : lpS T B C p g x = if x.1 < 0 ∨ v14 < x.1 ∨ (v14 = x.1 ∧ v16 < x.2.1) then (v14, v16, nI g) else x := by
      unfold lpS
      rw [if_pos hval, ← e14, ← e16]
    -- it is taken
    have take : (x.1 < 0 ∨ v14 < x.1 ∨ (v14 = x.1 ∧ v16 < x.2.1)) → (∀ q20 : Nat → Nat → Int32, q20 = va_up q 8 (upd (q 8) p v14) → (p < 1024 ∧ (∀ q22 : Nat → Nat → Int32, q22 = va_up q20 9 (upd (q20 9) p v16) → (p < 1024 ∧ (∀ q24 : Nat → Nat → Int32, q24 = va_up q22 10 (upd (q22 10) p (nI g)) → (∀ v25 : Int32, v25 = nI (g + 1) → (wp_X11_layPart_14 P f (nI p) (nI (2 ^ lowN p)) v25 r q24))))))) := by
      intro hc q20 e20
      refine ⟨by omega, fun q22 e22 => ⟨by omega, fun q24 e24 v25 e25 => ?_⟩⟩
      subst e25
      have k24 : kQ q q24 [8, 9, 10] := by rw [e24, e22, e20]; exact ((kQ.rf.up (by decide) _).up (by decide) _).up (by decide) _
      rw [if_pos hc] at hS
      rw [hS] at hP
      refine ih (g + 1) f (v14, v16, nI g) q24 (by omega) (by omega) (by omega) ((k24 7 (by decide)).trans h7) ?_ ?_ ?_ (fun q1 g1 g2 g3 g4 => hP q1 (k24.tr g1 (fun _ h => h) (fun _ h => h)) g2 g3 g4)
      · rw [e24, va_up_ne _ _ (by decide), e22, va_up_ne _ _ (by decide), e20, va_up_self, h8, up_up]
      · rw [e24, va_up_ne _ _ (by decide), e22, va_up_self, e20, va_up_ne _ _ (by decide), h9, up_up]
      · rw [e24, va_up_self, e22, va_up_ne _ _ (by decide), e20, va_up_ne _ _ (by decide), h10, up_up]
    refine ⟨fun c4 => ⟨by omega, take (Or.inl c4)⟩, fun c4 => ⟨by omega, fun c5 => ⟨by omega, take (Or.inr (Or.inl c5))⟩, fun c5 => ⟨by omega, fun c6 => next ?_, fun c6 => ⟨by omega, fun c7 => next ?_, fun c7 => ⟨by omega, take (Or.inr (Or.inr ⟨c6, Int32.not_le.mp c7⟩))⟩⟩⟩⟩⟩
    · rw [hS, if_neg]
      rintro (w9 | w9 | w9)
      · exact c4 w9
      · exact c5 w9
      · exact c6 w9.1
    · rw [hS, if_neg]
      rintro (w9 | w9 | w9)
      · exact c4 w9
      · exact c5 w9
      · exact absurd w9.2 (Int32.not_lt.mpr c7)
theorem kd_X11_layPart (l : Launch) (D : va_G) (T : Nat → ClassId) (m0 : Nat) (a : Nat → Nat) (p0 : Int32) (r : Nat → Int32) (q : Nat → Nat → Int32) (h : ∃ p : Nat, p < 1024 ∧ 0 < p ∧ p0 = nI p) : RMv l yX11_layPart (ws_X11_layPart) rm_X11_layPart D T m0 a [.ref m0, .int p0] r q (fun u => (u.1 = r ∧ kQ q u.2 [8, 9, 10] ∧ u.2 8 = upd (q 8) (iv p0) (dpX (q 7) (q 8, q 9, q 10) (iv p0)).1 ∧ u.2 9 = upd (q 9) (iv p0) (dpX (q 7) (q 8, q 9, q 10) (iv p0)).2.1 ∧ u.2 10 = upd (q 10) (iv p0) (dpX (q 7) (q 8, q 9, q 10) (iv p0)).2.2)) := c_X11_layPart l D T m0 a p0 r q _ <|
  (by
    obtain ⟨p, hp, h0, rfl⟩ := h
    have ip : iv (nI p) = p := nI_clamp (by omega)
    rw [ip]
    unfold wp_X11_layPart
    intro v1 e1
    rw [low_bit hp h0] at e1
    subst e1
    rw [nz_vp (by omega) (by decide), nI_clamp (n := p) (by omega)]
    refine ⟨hp, fun q3 e3 => ⟨2000, ?_⟩⟩
    refine rl_lp (T := q 7) (B := q 8) (C := q 9) (F := q 10) hp h0 p 1 2000 (-1, q 9 p, q 10 p) q3 (by omega) (by omega) (by decide) ?_ ?_ ?_ ?_ (fun q1 g1 g2 g3 g4 => ?_)
    · rw [e3, va_up_ne _ _ (by decide)]
    · rw [e3, va_up_self]
    · rw [e3, va_up_ne _ _ (by decide)]; exact up_id.symm
    · rw [e3, va_up_ne _ _ (by decide)]; exact up_id.symm
    · have k3 : kQ q q3 [8, 9, 10] := by rw [e3]; exact kQ.rf.up (by decide) _
      exact ⟨rfl, k3.tr g1 (fun _ h => h) (fun _ h => h), g2, g3, g4⟩)
theorem rl_lb {P : RST → Prop} {r : Nat → Int32} {T : Nat → Int32} {n : Nat} {t : T3} (hn : n < 1024) (h0 : 0 < n) : ∀ (m k fuel : Nat) (q : Nat → Nat → Int32), k + m = n → m < fuel → q 7 = T → q 8 = (dpK T n t k).1 → q 9 = (dpK T n t k).2.1 → q 10 = (dpK T n t k).2.2 → (∀ q1, kQ q q1 [8, 9, 10] → q1 8 = (dpK T n t n).1 → q1 9 = (dpK T n t n).2.1 → q1 10 = (dpK T n t n).2.2 → P (r, q1)) → wp_X11_layBest_21 P fuel (nI n) (nI (k + 1)) r q := by
  intro m
  induction m with
  | zero =>
    intro k fuel q hk hf h7 h8 h9 h10 hP
    have e : k = n := by omega
    subst e
    obtain ⟨f, rfl⟩ : ∃ f, fuel = f + 1 := ⟨fuel - 1, by omega⟩; rw [wp_X11_layBest_21]; unfold wb_X11_layBest_21; dsimp only
    rw [nI_ltI (by omega) (by omega)]
    exact ⟨fun _ => hP q kQ.rf h8 h9 h10, fun z9 => absurd (by omega) z9⟩
  | succ m ih =>
    intro k fuel q hk hf h7 h8 h9 h10 hP
    obtain ⟨f, rfl⟩ : ∃ f, fuel = f + 1 := ⟨fuel - 1, by omega⟩; rw [wp_X11_layBest_21]; unfold wb_X11_layBest_21; dsimp only
    rw [nI_ltI (by omega) (by omega), nI_dif, nz_eq0 (Nat.lt_of_le_of_lt (sub_le (sub_dif (k + 1) n)) (by omega)), dif_0, nI_1]
    refine ⟨fun z9 => absurd z9 (by omega), fun _ => ⟨fun c1 v11 e11 => ?_, fun c1 => ⟨⟨k + 1, by omega, by omega, rfl⟩, fun r13 q14 hh v15 e15 => ?_⟩⟩⟩
    · subst e11
      have e : dpK T n t (k + 1) = dpK T n t k := by rw [dpK, if_neg (show ¬ ((k + 1) &&& n = k + 1) from c1)]
      rw [← e] at h8 h9 h10
      exact ih (k + 1) f q (by omega) (by omega) h7 h8 h9 h10 hP
    · subst e15
      obtain ⟨a1, a2, a3, a4, a5⟩ := hh
      subst a1
      have ik : iv (nI (k + 1)) = k + 1 := nI_clamp (by omega)
      rw [ik, h7, h8, h9, h10] at a3 a4 a5
      have e : dpK T n t (k + 1) = dpU T (dpK T n t k) (k + 1) := by rw [dpK, if_pos (show (k + 1) &&& n = k + 1 from c1)]
      exact ih (k + 1) f q14 (by omega) (by omega) ((a2 7 (by decide)).trans h7) (by rw [e]; exact a3) (by rw [e]; exact a4) (by rw [e]; exact a5) (fun q1 g1 g2 g3 g4 => hP q1 (a2.tr g1 (fun _ h => h) (fun _ h => h)) g2 g3 g4)
theorem kd_X11_layBest (l : Launch) (D : va_G) (T : Nat → ClassId) (m0 : Nat) (a : Nat → Nat) (p0 : Int32) (r : Nat → Int32) (q : Nat → Nat → Int32) (h : WF (q 0) ∧ gok (q 0) p0 ∧ sgO (q 0) (iv p0)) : RMv l yX11_layBest (ws_X11_layBest) rm_X11_layBest D T m0 a [.ref m0, .int p0] r q (fun u => (lbP r q (iv p0) u.1 u.2)) := c_X11_layBest l D T m0 a p0 r q _ <|
  (by
    obtain ⟨hw, ⟨n, ns, hns, hns10, h0, hlt, rfl⟩, hsg⟩ := h
    have hn : n < 1024 := Nat.lt_of_lt_of_le hlt (p2_le hns10)
    have en : iv (nI n) = n := nI_clamp (by omega)
    rw [en] at hsg
    rw [en]
    unfold wp_X11_layBest
    refine ⟨⟨hw, n, ns, hns, hns10, h0, hlt, rfl⟩, fun r2 q3 hh => ?_⟩
    obtain ⟨a1, a2, a3⟩ := hh
    rw [en] at a3
    rw [cl_0, nz_vp0 (by decide)]
    refine ⟨by decide, fun q6 e6 => ⟨by decide, fun q8 e8 => ⟨2000, ?_⟩⟩⟩
    have k8 : kQ q3 q8 [8, 9, 10] := by rw [e8, e6]; exact (kQ.rf.up (by decide) _).up (by decide) _
    refine rl_lb (T := q3 7) (t := (q3 8, q3 9, q3 10)) hn h0 n 0 2000 q8 (by omega) (by omega) (k8 7 (by decide)) ?_ ?_ ?_ (fun q1 g1 g2 g3 g4 => ?_)
    · rw [e8, va_up_ne _ _ (by decide), e6, va_up_self]; rfl
    · rw [e8, va_up_self, e6, va_up_ne _ _ (by decide)]; rfl
    · rw [e8, va_up_ne _ _ (by decide), e6, va_up_ne _ _ (by decide)]; rfl
    · have k1 := k8.tr g1 (L := [8, 9, 10]) (fun _ h => h) (fun _ h => h)
      refine ⟨a1.tr k1 (by decide) (by decide), a2, fun p hp hs => by rw [show q1 7 = q3 7 from k1 7 (by decide)]; exact a3 p hp hs, fun p hs => ?_⟩
      dsimp only
      rw [g2, g3, g4]
      exact dp_eq hn (fun g hg hgs => a3 g hg hgs) (fun s hs => by rw [a3 _ (Nat.two_pow_pos s) (sub_tb.mpr fun i hi => by rw [Nat.testBit_two_pow] at hi; rw [← of_decide_eq_true hi]; exact hs)]; exact hsg s hs) _ _ n p (sub_le hs) hs)

/-- a small number -/
def bn (x : Int32) (B : Nat) : Prop := ∃ n : Nat, n ≤ B ∧ x = nI n
theorem bn.mn {x : Int32} {A B : Nat} (h : bn x A) (hb : A ≤ B) : bn x B := by
  obtain ⟨n, hn, e⟩ := h
  exact ⟨n, by omega, e⟩
theorem bn.z {B : Nat} : bn 0 B := ⟨0, Nat.zero_le _, rfl⟩
theorem bn.add {x y : Int32} {A B : Nat} (h : bn x A) (h2 : bn y B) : bn (x + y) (A + B) := by
  obtain ⟨n, hn, rfl⟩ := h
  obtain ⟨m, hm, rfl⟩ := h2
  exact ⟨n + m, by omega, nI_add n m⟩
theorem bn.mul {x y : Int32} {A B : Nat} (h : bn x A) (h2 : bn y B) : bn (x * y) (A * B) := by
  obtain ⟨n, hn, rfl⟩ := h
  obtain ⟨m, hm, rfl⟩ := h2
  exact ⟨n * m, Nat.mul_le_mul hn hm, pk_mul n m⟩
theorem bn.mx {x y : Int32} {A : Nat} (h : bn x A) (h2 : bn y A) : bn (mxF x y) A := by
  unfold mxF
  split
  · exact h2
  · exact h
theorem pct_n {a p : Nat} (ha : a < 2 ^ 31) (hp : p ≤ 100) : pctF (nI a) (nI p) = nI ((a * p + 50) / 100) := by
  have hap : a * p ≤ a * 100 := Nat.mul_le_mul_left a hp
  have hI : ((a * p : Nat) : Int) = (a : Int) * (p : Int) := Int.natCast_mul a p
  have hq : (a * p + 50) / 100 < 2 ^ 31 := by omega
  have e1 : (Int32.toInt64 (nI a) * Int32.toInt64 (nI p)).toInt = ((a * p : Nat) : Int) := by
    rw [Int64.toInt_mul, Int32.toInt_toInt64, Int32.toInt_toInt64, nI_toInt ha, nI_toInt (by omega), ← hI]
    exact Int.bmod_eq_of_le (by omega) (by omega)
  have e2 : (Int32.toInt64 (nI a) * Int32.toInt64 (nI p) + 50).toInt = ((a * p : Nat) : Int) + 50 := by
    rw [Int64.toInt_add, e1, show (50 : Int64).toInt = 50 from by decide]
    exact Int.bmod_eq_of_le (by omega) (by omega)
  have e3 : ((Int32.toInt64 (nI a) * Int32.toInt64 (nI p) + 50) / 100).toInt = (((a * p + 50) / 100 : Nat) : Int) := by
    rw [Int64.toInt_div_of_ne_right _ _ (by decide), e2, show (100 : Int64).toInt = 100 from by decide, Int.tdiv_eq_ediv_of_nonneg (by omega)]
    omega
  unfold pctF
  apply Int32.toInt_inj.mp
  rw [Int64.toInt_toInt32, e3, nI_toInt hq]
  exact Int.bmod_eq_of_le (by omega) (by omega)
theorem bn.pct {x p : Int32} {A : Nat} (h : bn x A) (h2 : bn p 100) (hA : A < 2 ^ 31) : bn (pctF x p) A := by
  obtain ⟨n, hn, rfl⟩ := h
  obtain ⟨m, hm, rfl⟩ := h2
  have : n * m ≤ n * 100 := Nat.mul_le_mul_left n hm
  exact ⟨_, by omega, pct_n (by omega) hm⟩
theorem realF_bn {μ : Nat → Int32} (hw : WF μ) {s : Nat} (hs : s < 10) : bn (realF μ s) 4995 := by
  obtain ⟨c, hc, ec⟩ := hw.pcs hs
  have : ∀ k p n B, p + k ≤ 5 → bn n B → bn (realFold μ s k p n) (B + 999 * k) := by
    intro k
    induction k with
    | zero => intro p n B _ h; exact h
    | succ k ih =>
      intro p n B hp h
      have := ((hw.s hs).2.2.2.2.1 p (by omega)).2
      exact (ih (p + 1) _ _ (by omega) (h.add this)).mn (by omega)
  unfold realF
  rw [ec, show iv (nI c) = c from nI_clamp (by omega)]
  exact (this c 0 0 0 (by omega) bn.z).mn (by omega)
theorem volF_bn {μ : Nat → Int32} (hw : WF μ) {s p : Nat} (hs : s < 10) (hp : p < 5) : bn (volF μ s p) 8000000 := by
  have h := ((hw.s hs).2.2.2.2.1 p hp).1
  have h0 := h 0 (by decide)
  have h1 := h 1 (by decide)
  have h2 := h 2 (by decide)
  exact (bn.mul (bn.mul (A := 200) (B := 200) h0 h1) (B := 200) h2).mn (by decide)
theorem dimF_bn {μ : Nat → Int32} (hw : WF μ) {s d : Nat} (hs : s < 10) (hd : 1000 ≤ d) (hd2 : d ≤ 9999) : bn (dimF μ s (nI d)) 40005 := by
  obtain ⟨c, hc, ec⟩ := hw.pcs hs
  have : ∀ k p n B, p + k ≤ 5 → bn n B → bn (dimFold μ s (nI d) k p n) (B + 8001 * k) := by
    intro k
    induction k with
    | zero => intro p n B _ h; exact h
    | succ k ih =>
      intro p n B hp h
      obtain ⟨v, hv, ev⟩ := volF_bn hw hs (p := p) (by omega)
      have e9 : (volF μ s p + nI d - 1) / nI d = nI ((v + d - 1) / d) := by
        rw [ev, nI_add, nI_p1 (by omega), pk_div (by omega) (by omega) (by omega)]
      have l9 : (v + d - 1) / d < 8002 := (Nat.div_lt_iff_lt_mul (by omega)).mpr (by omega)
      have := ih (p + 1) (n + (volF μ s p + nI d - 1) / nI d) (B + 8001) (by omega) (h.add (by rw [e9]; exact ⟨_, by omega, rfl⟩))
      exact this.mn (by omega)
  unfold dimF
  rw [ec, show iv (nI c) = c from nI_clamp (by omega)]
  exact (this c 0 0 0 (by omega) bn.z).mn (by omega)
theorem pop_ge {g : Nat} : ∀ k s c, c ≤ popFold g k s c := by
  intro k
  induction k with
  | zero => intro s c; exact Nat.le_refl _
  | succ k ih =>
    intro s c
    rw [popFold]
    split
    · have := ih (s + 1) (c + 1); omega
    · exact ih (s + 1) c
theorem pop_add {g : Nat} : ∀ k j s c, popFold g (k + j) s c = popFold g j (s + k) (popFold g k s c) := by
  intro k
  induction k with
  | zero => intro j s c; rw [Nat.zero_add]; rfl
  | succ k ih =>
    intro j s c
    rw [show k + 1 + j = (k + j) + 1 by omega, popFold, popFold, ih, show s + 1 + k = s + (k + 1) by omega]
theorem pop_ns {g ns : Nat} (h : ns ≤ 10) : popFold g ns 0 0 ≤ popN g := by
  unfold popN
  have := pop_add (g := g) ns (10 - ns) 0 0
  rw [show ns + (10 - ns) = 10 by omega] at this
  rw [this]
  exact pop_ge _ _ _
theorem pop_1 {g : Nat} (h : g < 1024) (h0 : 0 < g) : 1 ≤ popN g ∧ popN g ≤ 10 := by
  have : ∀ g : Nat, g < 1024 → 0 < g → 1 ≤ popN g ∧ popN g ≤ 10 := by decide +kernel
  exact this g h h0
theorem gw_bn {μ : Nat → Int32} (hw : WF μ) {g d : Nat} (hd : 1000 ≤ d) (hd2 : d ≤ 9999) : ∀ (k s c : Nat) (a b e f h : Int32), s + k ≤ 10 → bn a (40005 * c) → bn b (40005 * c) → bn (gwF μ g (nI d) k s a b e f h).1 (40005 * popFold g k s c) ∧ bn (gwF μ g (nI d) k s a b e f h).2.1 (40005 * popFold g k s c) := by
  intro k
  induction k with
  | zero => intro s c a b e f h _ h1 h2; exact ⟨h1, h2⟩
  | succ k ih =>
    intro s c a b e f h hs h1 h2
    rw [gwF, popFold]
    split
    · exact ih (s + 1) (c + 1) _ _ _ _ _ (by omega) ((h1.add ((realF_bn hw (by omega)).mn (by decide : 4995 ≤ 40005))).mn (by omega)) ((h2.add (dimF_bn hw (by omega) hd hd2)).mn (by omega))
    · exact ih (s + 1) c _ _ _ _ _ (by omega) h1 h2
theorem wt_bn {μ : Nat → Int32} (hw : WF μ) {v g : Nat} {x : Int32} (hv : vok μ x) (hx : x = nI v) (h6 : v < 6) : bn (wtF μ v g) (40005 * popN g) := by
  obtain ⟨n, j, hn, hn6, hj, e⟩ := hv
  have ej : j = v := by rw [hx] at e; exact ((nI_eq (by omega) (by omega)).mp e).symm
  subst ej
  obtain ⟨d, hd1, hd2, ed⟩ := hw.div hn hn6 hj
  obtain ⟨ns, hns, ens⟩ := hw.2.1
  have h := gw_bn hw hd1 hd2 (g := g) ns 0 0 0 0 0 0 0 (by omega) bn.z bn.z
  have hp := pop_ns (g := g) hns
  unfold wtF gwt
  rw [ed, ens, show iv (nI ns) = ns from nI_clamp (by omega)]
  exact bn.mx (h.1.mn (Nat.mul_le_mul_left _ hp)) (h.2.mn (Nat.mul_le_mul_left _ hp))
theorem base_bn {μ : Nat → Int32} (hw : WF μ) {v z : Nat} {w : Int32} {W : Nat} (hv : v < 6) (h1 : 1 ≤ z) (h9 : z ≤ 9) (hW : bn w W) (hW9 : 9999 ≤ W) : bn (baseF μ v z w) (99 * W) := by
  have hz := (hw.v hv).2.1 z h1 h9
  have hb := hz.2.2 (chpF μ v z w) (chpF_lt hw hv h1 h9)
  have ha : bn (amtF μ v z (chpF μ v z w) w) (99 * W) := by
    unfold amtF
    refine (bn.mul (A := W) (B := 99) ?_ hb.2).mn (by omega)
    split
    · exact bn.mn (A := 9999) hb.1 hW9
    · exact hW
  unfold baseF
  split
  · exact bn.mn (A := 9999) hz.2.1 (by omega)
  · exact ha
theorem ex_bn {μ : Nat → Int32} (hw : WF μ) {v : Nat} {w p l h z b : Int32} {W : Nat} (hv : v < 6) (hW : bn w W) (hb : bn b (99 * W)) (hW9 : 9999 ≤ W) (hW2 : 99 * W < 2 ^ 31) : ∀ (k a : Nat) (o m c : Int32) (A : Nat), a + k ≤ 10 → bn m A → bn (exF μ v w p l h z b k a o m c).1 (A + 99 * W * k) := by
  intro k
  induction k with
  | zero => intro a o m c A _ h; exact h
  | succ k ih =>
    intro a o m c A ha hm
    rw [exF]
    split
    · obtain ⟨hA1, hA2, hA3, hA4, hA5, hA6, hA7, hA8, hA9⟩ := hw.acc hv (a := a) (by omega)
      have e9 : 99 * W * (k + 1) = 99 * W + 99 * W * k := by rw [Nat.mul_succ, Nat.add_comm]
      rw [e9, ← Nat.add_assoc]
      refine ih (a + 1) _ _ _ _ (by omega) (hm.add ?_)
      split
      · exact bn.mn (A := 9999) hA2 (by omega)
      split
      · rename_i c9
        exact bn.mul (A := 99) (hA8 c9) hW
      · obtain ⟨kd, hkd, ekd⟩ := hA3
        rename_i c1 c2
        have hk2 : μ (274 + 510 * v + 150 + 36 * a + 2) = 2 := by
          rw [ekd] at c1 c2 ⊢
          rcases (by omega : kd = 0 ∨ kd = 1 ∨ kd = 2) with h | h | h
          · subst h; exact absurd rfl c1
          · subst h; exact absurd rfl c2
          · subst h; rfl
        exact hb.pct (bn.mn (A := 50) (hA9 hk2) (by decide)) hW2
    · exact (ih (a + 1) o m c A (by omega) hm).mn (by rw [Nat.mul_succ]; omega)
theorem tot_bn {μ : Nat → Int32} (hw : WF μ) {g : Nat} (hg : gok μ (nI g)) (hg2 : g < 1024) (h0 : (rsnD μ g).1 = 0) : bn (totF μ g) (100000000 * popN g) := by
  obtain ⟨hvk, ⟨z, hz1, hz9, ez⟩, hbr⟩ := rsn0 hw hg hg2 h0
  obtain ⟨v, hv, ev⟩ := hvk.x
  have iev : iv (gvF μ g) = v := by rw [ev]; exact nI_clamp (by omega)
  have iez : iv (gzF μ g) = z := by rw [ez]; exact nI_clamp (by omega)
  have hg0 : 0 < g := by
    rcases Nat.eq_zero_or_pos g with q9 | q9
    · subst q9; exact absurd rfl hg.gix.2
    · exact q9
  obtain ⟨hp1, hp10⟩ := pop_1 hg2 hg0
  unfold totF
  rw [iev, iez]
  have hW := wt_bn hw (g := g) hvk ev hv
  have hB := base_bn hw hv hz1 hz9 hW (by omega)
  have hE := ex_bn hw (p := pcF μ v g) (l := lgF μ v g) (h := hdF μ v g) (z := nI z) hv hW hB (by omega) (by omega) 10 0 0 0 0 0 (by omega) bn.z
  have hS : bn (stF μ v g) (9999 * popN g) := by
    unfold stF
    rw [nI_p1 hp1]
    exact (bn.mul (A := 9999) (B := popN g - 1) (hw.v hv).2.2.2.2.2.1 ⟨_, Nat.le_refl _, rfl⟩).mn (Nat.mul_le_mul_left _ (Nat.sub_le _ _))
  have hF : bn (μ (274 + 510 * v + 147)) 100 := bn.mn (A := 99) (hw.v hv).2.2.2.2.1 (by decide)
  have h3 := (hB.add hE).add hS
  unfold toF fuF exAC
  refine (h3.add (h3.pct hF (by omega))).mn (by omega)
theorem rf_none {μ : Nat → Int32} {n : Nat} : ∀ k s, rfFold μ n k s = none → ∀ t, s ≤ t → t < s + k → n.testBit t = true → (rsnD μ (2 ^ t)).1 = 0 := by
  intro k
  induction k with
  | zero => intro s _ t h1 h2; omega
  | succ k ih =>
    intro s h t h1 h2 ht
    rw [rfFold] at h
    split at h
    · cases h
    · rename_i c
      rcases Nat.eq_or_lt_of_le h1 with e | e
      · subst e
        rcases Nat.eq_zero_or_pos (rsnD μ (2 ^ s)).1 with q9 | q9
        · exact q9
        · exact absurd ⟨ht, by omega⟩ c
      · exact ih (s + 1) h t (by omega) (by omega) ht
theorem tt_bn {μ : Nat → Int32} (hw : WF μ) {g : Nat} (hg : gok μ (nI g)) (hg2 : g < 1024) : ttF μ g = -1 ∨ bn (ttF μ g) (100000000 * popN g) := by
  unfold ttF
  split
  · rename_i c; exact Or.inr (tot_bn hw hg hg2 c)
  · exact Or.inl rfl
theorem sgO_of {μ : Nat → Int32} (hw : WF μ) {n : Nat} (hg : gok μ (nI n)) (hn : n < 1024) (h : rfF μ n = none) : sgO μ n := by
  intro s hs
  obtain ⟨m, ns, hns, hns10, h0, hlt, e⟩ := hg
  have em : m = n := ((nI_eq (by omega) (by have := p2_le hns10; omega)).mp e).symm
  subst em
  have hsn : s < ns := by
    rcases Nat.lt_or_ge s ns with q9 | q9
    · exact q9
    · have : m < 2 ^ s := Nat.lt_of_lt_of_le hlt (Nat.pow_le_pow_right (by decide) q9)
      rw [Nat.testBit_lt_two_pow this] at hs
      cases hs
  have h1 : (rsnD μ (2 ^ s)).1 = 0 := by
    unfold rfF at h
    rw [hns, show iv (nI ns) = ns from nI_clamp (by omega)] at h
    exact rf_none ns 0 h s (Nat.zero_le _) (by omega) hs
  have h2s : 2 ^ s < 1024 := Nat.lt_of_lt_of_le (Nat.pow_lt_pow_right (by decide) hsn) (p2_le hns10)
  obtain ⟨t, ht, et⟩ := tot_bn hw (gok.tb (n := 0) hns hns10 hsn) h2s h1
  unfold ttF
  rw [if_pos h1, et]
  have := (pop_1 h2s (Nat.two_pow_pos s)).2
  exact nI_pos' (by omega)

end S_DRAFT

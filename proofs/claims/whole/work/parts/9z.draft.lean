section S_DRAFT
theorem rl_cond {P : Int32 → RST → Prop} {b : Nat → Int32} {n : Nat} : ∀ (k row fuel : Nat) (more : Int32) (r : Nat → Int32) (q : Nat → Nat → Int32), q 4 = b → iv (r 8) = n → n ≤ (pσ r).1 + k → k + 1 < fuel → psO r → ((pσ r).2 = false → tsO r) → row + k < 2 ^ 20 → more = (if (pσ r).2 = true then 0 else 1) → (∀ v r1 q1, cnQ (cnL b n k row (pσ r)) r q v r1 q1 → P v (r1, q1)) → wp_X11_readCondition_20 P fuel (nI row) more r q := by
  intro k
  induction k with
  | zero =>
    intro row fuel more r q hb hn hle hf hp hO hrow hm hP
    have t1 : ∀ c : Int32, ¬ c = -1 → tkB b n (pσ r) c = false := fun c hc => by
      cases h : tkB b n (pσ r) c with
      | false => rfl
      | true => have := (tkB_gd hc h).2.1; omega
    obtain ⟨f, rfl⟩ : ∃ f, fuel = f + 1 := ⟨fuel - 1, by omega⟩; rw [wp_X11_readCondition_20]; unfold wb_X11_readCondition_20; dsimp only
    have fin : ∀ r1 : Nat → Int32, kR r r1 [10] → psO r1 → pσ r1 = pσ r → P (nI row + 1) (r1, q) := fun r1 h1 h2 h3 => hP _ _ _ ⟨h1.mn (by decide), kQ.rf, h2, by rw [h3]; rfl, fun z => ⟨fun _ _ => rfl, (hO (by rw [← h3]; exact z)).tk (h1 15 (by decide)) (by rw [h3]; exact Nat.le_refl _), by rw [h1 15 (by decide)]; obtain ⟨t0, ht0, et0⟩ := hO (by rw [← h3]; exact z); rw [et0]; have : iv (r 10) = (pσ r).1 := rfl; have := ps_1 hp; rw [show iv (nI t0) = t0 from nI_clamp (by omega)]; rfl, nI_1 _, tsK.nil⟩⟩
    refine ⟨fun c => fin r kR.rf hp rfl, fun c => ?_⟩
    have hg : (pσ r).2 = false := by
      cases hs : (pσ r).2 with
      | false => rfl
      | true => rw [hm, hs] at c; exact absurd rfl c
    refine ⟨⟨hp, by decide⟩, fun v7 r8 q9 hh => ?_⟩
    obtain ⟨a1, a2, a3, a4, a5⟩ := hh
    subst a2
    rw [hb, hn, t1 38 (by decide)] at a1
    rw [hb, hn, tkS_no (t1 38 (by decide))] at a5
    refine ⟨fun z => absurd a1 z, fun _ => ⟨⟨a4, by decide⟩, fun v29 r30 q31 hh => ?_⟩⟩
    obtain ⟨d1, d2, d3, d4, d5⟩ := hh
    subst d2
    rw [hb, a3 8 (by decide), hn, a5, t1 124 (by decide)] at d1
    rw [hb, a3 8 (by decide), hn, a5, tkS_no (t1 124 (by decide))] at d5
    refine ⟨fun _ => ?_, fun z => absurd d1 z⟩
    unfold wp_X11_readCondition_62
    intro v12 e12
    refine ⟨fun z => absurd a1 z, fun _ => ⟨fun _ => ?_, fun z => absurd rfl z⟩⟩
    obtain ⟨f, rfl⟩ : ∃ g, f = g + 1 := ⟨f - 1, by omega⟩
    rw [wp_X11_readCondition_20]; unfold wb_X11_readCondition_20; dsimp only
    rw [e12, Int32.add_zero]
    exact ⟨fun _ => fin r30 (a3.tr d3 (fun _ h => h) (fun _ h => h)) d4 d5, fun z => absurd rfl z⟩
  | succ k ih =>
    intro row fuel more r q hb hn hle hf hp hO hrow hm hP
    obtain ⟨p1, p2, p3⟩ := ps_1 hp
    obtain ⟨f, rfl⟩ : ∃ f, fuel = f + 1 := ⟨fuel - 1, by omega⟩; rw [wp_X11_readCondition_20]; unfold wb_X11_readCondition_20; dsimp only
    have fin : (cnL b n (k + 1) row (pσ r) = ([], row, pσ r)) → ∀ r1 : Nat → Int32, kR r r1 [10] → psO r1 → pσ r1 = pσ r → P (nI row + 1) (r1, q) := fun hc r1 h1 h2 h3 => hP _ _ _ (by
      rw [hc]
      exact ⟨h1.mn (by decide), kQ.rf, h2, h3, fun z => ⟨fun _ _ => rfl, (hO (by rw [← h3]; exact z)).tk (h1 15 (by decide)) (by rw [h3]; exact Nat.le_refl _), by rw [h1 15 (by decide)]; obtain ⟨t0, ht0, et0⟩ := hO (by rw [← h3]; exact z); rw [et0]; have : iv (r 10) = (pσ r).1 := rfl; rw [show iv (nI t0) = t0 from nI_clamp (by omega)]; rfl, nI_1 _, tsK.nil⟩⟩)
    refine ⟨fun c => fin (cnL_bad (by
      cases hs : (pσ r).2 with
      | true => rfl
      | false => rw [hm, hs] at c; exact absurd c (by decide))) r kR.rf hp rfl, fun c => ?_⟩
    have hg : (pσ r).2 = false := by
      cases hs : (pσ r).2 with
      | false => rfl
      | true => rw [hm, hs] at c; exact absurd rfl c
    -- a test behind a sign
    have go : ∀ (row1 : Nat) (r8 : Nat → Int32) (c : Int32), ¬ c = -1 → tkB b n (pσ r) c = true → kR r r8 [10] → psO r8 → pσ r8 = tkS b n (pσ r) c → row1 + k < 2 ^ 20 → (cnL b n (k + 1) row (pσ r) = ((row1, (tsR b n (tkS b n (pσ r) c)).1) :: (cnL b n k row1 (tsR b n (tkS b n (pσ r) c)).2).1, (cnL b n k row1 (tsR b n (tkS b n (pσ r) c)).2).2)) → (psO r8 ∧ tsO r8) ∧ (∀ (r15 : Nat → Int32) (q16 : Nat → Nat → Int32), (tsP r8 q (nI row1) r15 q16) → ((¬ (r15 11) = 0 → (wp_X11_readCondition_20 P f (nI row1) 0 r15 q16)) ∧ ((r15 11) = 0 → (wp_X11_readCondition_20 P f (nI row1) 1 r15 q16)))) := by
      intro row1 r8 c hc ht h8 hp8 hσ hr1 hcn
      obtain ⟨g1, g2, g3⟩ := tkB_gd hc ht
      have e88 : iv (r8 8) = n := by rw [h8 8 (by decide)]; exact hn
      have h1 : (pσ r8).1 = (pσ r).1 + 1 := by rw [hσ, g3]
      have hO8 : tsO r8 := (hO hg).tk (h8 15 (by decide)) (by omega)
      refine ⟨⟨hp8, hO8⟩, fun r15 q16 hts => ?_⟩
      have hts0 := hts
      obtain ⟨a1, a2, a3, a4, a5, a6⟩ := hts
      have hok := tsR_ok (b := q 4) (n := iv (r8 8)) (σ := pσ r8) (ps_1 hp8).1
      rw [hb, e88] at a4
      rw [hb, e88] at hok
      have e15 : iv (r15 8) = n := by rw [a1 8 (by decide)]; exact e88
      have mb := pb_of a3.2.2
      have all : wp_X11_readCondition_20 P f (nI row1) (if (pσ r15).2 = true then 0 else 1) r15 q16 := by
        refine ih row1 f _ r15 q16 (by rw [a2 4 (by decide)]; exact hb) e15 (by rw [a4]; omega) (by omega) a3 (fun z => (a6 z).1) (by omega) rfl (fun v r1 q1 hq => hP v r1 q1 ?_)
        have hgo : (pσ r1).2 = false → (pσ r15).2 = false := fun zz => cnL_gd k row1 _ (by rw [← hq.2.2.2.1]; exact zz)
        have w9 := cnQ.cons (t := cnL b n k row1 (pσ r15)) hb e88 (by have := ps_1 hp8; omega) h8 hO8 rfl hts0 hgo hq
        rw [hcn, ← hσ, ← a4]
        exact w9
      refine ⟨fun z => ?_, fun z => ?_⟩
      · have : (pσ r15).2 = true := by
          cases hs : (pσ r15).2 with
          | true => rfl
          | false => exact absurd (mb.mpr hs) z
        rw [this] at all
        exact all
      · rw [mb.mp z] at all
        exact all
    refine ⟨⟨hp, by decide⟩, fun v7 r8 q9 hh => ?_⟩
    obtain ⟨a1, a2, a3, a4, a5⟩ := hh
    subst a2
    rw [hb, hn] at a1 a5
    refine ⟨fun z => ?_, fun z => ?_⟩
    · have t38 : tkB b n (pσ r) 38 = true := by
        cases h : tkB b n (pσ r) 38 with
        | true => rfl
        | false => rw [h] at a1; exact absurd a1 z
      unfold wp_X11_readCondition_62
      intro v12 e12
      rw [Int32.add_zero] at e12
      subst e12
      exact ⟨fun _ => go row r8 38 (by decide) t38 a3 a4 a5 (by omega) (cnL_and t38), fun y => absurd y z⟩
    · have t38 : tkB b n (pσ r) 38 = false := (b2i_0 _).mp (a1.symm.trans z)
      rw [tkS_no t38] at a5
      refine ⟨⟨a4, by decide⟩, fun v29 r30 q31 hh => ?_⟩
      obtain ⟨d1, d2, d3, d4, d5⟩ := hh
      subst d2
      rw [hb, a3 8 (by decide), hn, a5] at d1 d5
      have k30 : kR r r30 [10] := a3.tr d3 (fun _ h => h) (fun _ h => h)
      refine ⟨fun y => ?_, fun y => ?_⟩
      · have t124 : tkB b n (pσ r) 124 = false := (b2i_0 _).mp (d1.symm.trans y)
        rw [tkS_no t124] at d5
        unfold wp_X11_readCondition_62
        intro v12 e12
        refine ⟨fun x => absurd z x, fun _ => ⟨fun _ => ?_, fun x => absurd rfl x⟩⟩
        obtain ⟨f, rfl⟩ : ∃ g, f = g + 1 := ⟨f - 1, by omega⟩
        rw [wp_X11_readCondition_20]; unfold wb_X11_readCondition_20; dsimp only
        rw [e12, Int32.add_zero]
        exact ⟨fun _ => fin (cnL_no t38 t124) r30 k30 d4 d5, fun x => absurd rfl x⟩
      · have t124 : tkB b n (pσ r) 124 = true := by
          cases h : tkB b n (pσ r) 124 with
          | true => rfl
          | false => rw [h] at d1; exact absurd d1 y
        unfold wp_X11_readCondition_62
        intro v12 e12
        rw [nI_1] at e12
        subst e12
        exact ⟨fun x => absurd z x, fun _ => ⟨fun x => absurd x (by decide), fun _ => go (row + 1) r30 124 (by decide) t124 k30 d4 d5 (by omega) (cnL_or t38 t124)⟩⟩
theorem kd_X11_readCondition (l : Launch) (D : va_G) (T : Nat → ClassId) (m0 : Nat) (a : Nat → Nat)  (r : Nat → Int32) (q : Nat → Nat → Int32) (h : psO r ∧ tsO r) : RMi l yX11_readCondition (ws_X11_readCondition) rm_X11_readCondition D T m0 a [.ref m0] r q (fun v u => (cnQ (cnF (q 4) (iv (r 8)) (pσ r)) r q v u.1 u.2)) := c_X11_readCondition l D T m0 a  r q _ <|
  (by
    obtain ⟨hp, hO⟩ := h
    obtain ⟨p1, p2, p3⟩ := ps_1 hp
    unfold wp_X11_readCondition
    refine ⟨⟨hp, hO⟩, fun r2 q3 hts => ?_⟩
    have hts0 := hts
    obtain ⟨a1, a2, a3, a4, a5, a6⟩ := hts
    have mb := pb_of a3.2.2
    have e8 : iv (r2 8) = iv (r 8) := by rw [a1 8 (by decide)]
    have all : wp_X11_readCondition_20 (fun v u => cnQ (cnF (q 4) (iv (r 8)) (pσ r)) r q v u.1 u.2) 100 0 (if (pσ r2).2 = true then 0 else 1) r2 q3 := by
      refine rl_cond (n := iv (r 8)) 80 0 100 _ r2 q3 (a2 4 (by decide)) e8 (by omega) (by omega) a3 (fun z => (a6 z).1) (by omega) rfl (fun v r1 q1 hq => ?_)
      unfold cnF
      rw [← a4]
      have hgo : (pσ r1).2 = false → (pσ r2).2 = false := fun zz => cnL_gd 80 0 _ (by rw [← hq.2.2.2.1]; exact zz)
      exact cnQ.cons (t := cnL (q 4) (iv (r 8)) 80 0 (pσ r2)) rfl rfl (by omega) kR.rf hO rfl hts0 hgo hq
    refine ⟨fun z => ⟨100, ?_⟩, fun z => ⟨100, ?_⟩⟩
    · have : (pσ r2).2 = true := by
        cases hs : (pσ r2).2 with
        | true => rfl
        | false => exact absurd (mb.mpr hs) z
      rw [this] at all
      exact all
    · rw [mb.mp z] at all
      exact all)

theorem w_zo50 {P : RST → Prop} {r0 r : Nat → Int32} {q0 q : Nat → Nat → Int32} {s : Nat} {kd v : Int32} (hs : s + 8 ≤ 640) (hkd : kd = 122 ∨ kd = 98 ∨ kd = 109) (hP : ∀ r1 q1, zoP r0 q0 s kd r1 q1 → P (r1, q1)) (hk : kR r0 r [10, 11]) (hq : kQ q0 q [5]) (hp : psO r) (hσ : pσ r = (nbF (q0 4) (iv (r0 8)) (ndS (q0 4) (iv (r0 8)) (dgS (q0 4) (iv (r0 8)) (pσ r0) 1 9) 58)).2) (hG : (pσ r).2 = false → kS (q0 5) (q 5) s ∧ q 5 (s + 1) = dgV (q0 4) (iv (r0 8)) (pσ r0) 1 9 ∧ v = (nbF (q0 4) (iv (r0 8)) (ndS (q0 4) (iv (r0 8)) (dgS (q0 4) (iv (r0 8)) (pσ r0) 1 9) 58)).1) : wp_X11_readZone_50 P (nI s) kd v (nI s + 2) r q := by
  have e8 : iv (r 8) = iv (r0 8) := by rw [hk 8 (by decide)]
  have e4 : q 4 = q0 4 := hq 4 (by decide)
  have mb := pb_of hp.2.2
  unfold wp_X11_readZone_50
  simp (disch := omega) only [li_2, li_3, li_4, li_5, li_6, li_7, li_8, li_9, li_10, li_12, li_14, li_20, li_26, li_30, li_31, li_36, li_38, li_47, li_48, li_50, li_57, li_58, li_80, li_98, li_99, li_100, li_102, li_104, li_105, li_108, li_109, li_110, li_114, li_115, li_119, li_122, li_137, li_146, li_147, li_148, li_149, li_150, li_200, li_255, li_256, li_274, li_510, li_512, li_640, li_999, li_1000, li_1024, li_3334, li_5000, li_9999, li_10000, li_23338, li_26672, li_30000, li_99999, li_150000, li_300000, pk_mul, nI_add, pk_sub, nI_clamp, nI_1, nI_p1, nI_a0, nI_0a, nI_m0, nI_m1, cl_0, cl_1, z01, z11, nI_leI, nI_ltI, nI_eq, nz_lt0, nz_le, nz_eq0, nz_pos, nz_le0, nz_eq1, nz_lt1, nz_ge1, nz_le1, nz_gt1, nz_vp, nz_vp0, nz_vp1, six_nI, vix_nI, bix_nI, pix_nI, fix_nI, gix_nI, rix_nI, zix_nI, pix_0, pix_1, bix_0, fix_0, fix_1, rix_1, true_and, and_true]
  simp only [du_109, du_122, du_42, du_45]
  refine ⟨by omega, fun q14 e14 => ?_⟩
  have e44 : q14 4 = q0 4 := by rw [e14, va_up_ne _ _ (by decide)]; exact e4
  have k14 : kQ q0 q14 [5] := by rw [e14]; exact hq.up (by decide) _
  have G14 : (pσ r).2 = false → kS (q0 5) (q14 5) s ∧ q14 5 (s + 1) = dgV (q0 4) (iv (r0 8)) (pσ r0) 1 9 ∧ q14 5 (s + 2) = (nbF (q0 4) (iv (r0 8)) (ndS (q0 4) (iv (r0 8)) (dgS (q0 4) (iv (r0 8)) (pσ r0) 1 9) 58)).1 := fun z => by
    obtain ⟨g1, g2, g3⟩ := hG z
    rw [e14, va_up_self]
    exact ⟨g1.up (by omega) (by omega) _, by rw [pk_un (by omega)]; exact g2, by rw [pk_us]; exact g3⟩
  have k109 : (122 : Int32) = 109 ↔ False := by decide
  refine ⟨fun c => hP _ _ ?_, fun c => ⟨fun c2 => hP _ _ ?_, fun c2 => ?_⟩⟩
  · refine ⟨hk, k14, hp, by unfold zoR; rw [if_pos c]; exact hσ, fun z => ?_⟩
    obtain ⟨g1, g2, g3⟩ := G14 z
    unfold zoR
    rw [if_pos c]
    exact ⟨g1, g2, g3, fun y => absurd c y⟩
  · have hb := bd_of hp.2.2 c2
    refine ⟨hk, k14, hp, ?_, fun z => by rw [hb] at z; cases z⟩
    unfold zoR
    rw [if_neg c]
    dsimp only
    rw [← hσ, nd_bad hb, nb_bad hb]
  · have hR : (zoR (q0 4) (iv (r0 8)) kd (pσ r0)) = ((dgV (q0 4) (iv (r0 8)) (pσ r0) 1 9, (nbF (q0 4) (iv (r0 8)) (ndS (q0 4) (iv (r0 8)) (dgS (q0 4) (iv (r0 8)) (pσ r0) 1 9) 58)).1, (nbF (q0 4) (iv (r0 8)) (ndS (q0 4) (iv (r0 8)) (pσ r) (if kd = 122 then 45 else 42))).1), (nbF (q0 4) (iv (r0 8)) (ndS (q0 4) (iv (r0 8)) (pσ r) (if kd = 122 then 45 else 42))).2) := by
      unfold zoR
      rw [if_neg c, ← hσ]
    have hg := mb.mp c2
    have go : ∀ ch : Int32, ¬ ch = -1 → ch = (if kd = 122 then 45 else 42) → (psO r ∧ ¬ ch = -1) ∧ (∀ (r19 : Nat → Int32) (q20 : Nat → Nat → Int32), (q20 = q14 ∧ kR r r19 [10, 11] ∧ psO r19 ∧ pσ r19 = ndS (q14 4) (iv (r 8)) (pσ r) ch) → (((r19 11) = 0 → ((psO r19) ∧ (∀ (v23 : Int32) (r24 : Nat → Int32) (q25 : Nat → Nat → Int32), (v23 = (nbF (q20 4) (iv (r19 8)) (pσ r19)).1 ∧ q25 = q20 ∧ kR r19 r24 [10, 11] ∧ psO r24 ∧ pσ r24 = (nbF (q20 4) (iv (r19 8)) (pσ r19)).2) → (s + 3 < 640 ∧ (∀ q28 : Nat → Nat → Int32, q28 = va_up q25 5 (upd (q25 5) (s + 3) v23) → (P (r24, q28))))))) ∧ (¬ (r19 11) = 0 → (s + 3 < 640 ∧ (∀ q30 : Nat → Nat → Int32, q30 = va_up q20 5 (upd (q20 5) (s + 3) 0) → (P (r19, q30))))))) := by
      intro ch hc1 hc2
      refine ⟨⟨hp, hc1⟩, fun r19 q20 hh => ?_⟩
      obtain ⟨a2, a3, a4, a5⟩ := hh
      subst a2
      rw [e44, e8] at a5
      rw [← hc2] at hR
      have e198 : iv (r19 8) = iv (r0 8) := by rw [a3 8 (by decide)]; exact e8
      have k19 : kR r0 r19 [10, 11] := hk.tr a3 (fun _ h => h) (fun _ h => h)
      refine ⟨fun y => ⟨a4, fun v23 r24 q25 hh => ?_⟩, fun y => ⟨by omega, fun q30 e30 => hP _ _ ?_⟩⟩
      · obtain ⟨d1, d2, d3, d4, d5⟩ := hh
        subst d2
        rw [e44, e198, a5] at d1 d5
        refine ⟨by omega, fun q28 e28 => hP _ _ ?_⟩
        unfold zoP
        rw [hR]
        refine ⟨k19.tr d3 (fun _ h => h) (fun _ h => h), by rw [e28]; exact k14.up (by decide) _, d4, d5, fun z => ?_⟩
        obtain ⟨g1, g2, g3⟩ := G14 hg
        rw [e28, va_up_self]
        exact ⟨g1.up (by omega) (by omega) _, by rw [pk_un (by omega)]; exact g2, by rw [pk_un (by omega)]; exact g3, fun _ => by rw [pk_us]; exact d1⟩
      · have hb := bd_of a4.2.2 y
        unfold zoP
        rw [hR]
        refine ⟨k19, by rw [e30]; exact k14.up (by decide) _, a4, ?_, fun z => by rw [hb] at z; cases z⟩
        dsimp only
        rw [← a5, nb_bad hb]
    refine ⟨fun c3 => ?_, fun c3 => ?_⟩
    · exact go 42 (by decide) (by rw [if_neg c3])
    · exact go 45 (by decide) (by rw [if_pos c3])
theorem kd_X11_readZone (l : Launch) (D : va_G) (T : Nat → ClassId) (m0 : Nat) (a : Nat → Nat) (p0 : Int32) (p1 : Int32) (r : Nat → Int32) (q : Nat → Nat → Int32) (h : psO r ∧ s8 p0 ∧ (p1 = 122 ∨ p1 = 98 ∨ p1 = 109)) : RMv l yX11_readZone (ws_X11_readZone) rm_X11_readZone D T m0 a [.ref m0, .int p0, .int p1] r q (fun u => (zoP r q (iv p0) p1 u.1 u.2)) := c_X11_readZone l D T m0 a p0 p1 r q _ <|
  (by
    obtain ⟨hp, ⟨s, hs, e0⟩, hkd⟩ := h
    subst e0
    have es : iv (nI s) = s := nI_clamp (by omega)
    rw [es]
    unfold wp_X11_readZone
    refine ⟨⟨hp, dix19⟩, fun v1 r2 q3 hh => ?_⟩
    obtain ⟨a1, a2, a3, a4, a5⟩ := hh
    subst a2
    have mb := pb_of a4.2.2
    have e8 : iv (r2 8) = iv (r 8) := by rw [a3 8 (by decide)]
    rw [nI_1, nz_vp (by omega) (by decide), nI_clamp (n := s + 1) (by omega)]
    refine ⟨by omega, fun q6 e6 => ?_⟩
    have e64 : q6 4 = q3 4 := by rw [e6, va_up_ne _ _ (by decide)]
    have k6 : kQ q3 q6 [5] := by rw [e6]; exact kQ.rf.up (by decide) _
    have G6 : kS (q3 5) (q6 5) s ∧ q6 5 (s + 1) = dgV (q3 4) (iv (r 8)) (pσ r) 1 9 := by
      rw [e6, va_up_self]
      exact ⟨kS.rf.up (by omega) (by omega) _, by rw [pk_us]; exact a1⟩
    refine ⟨fun c => ⟨fun z => absurd z c, fun _ => ?_⟩, fun c => ⟨⟨a4, by decide⟩, fun r45 q46 hh => ?_⟩⟩
    · have hb := bd_of a4.2.2 c
      refine w_zo50 hs hkd (fun _ _ z => z) a3 k6 a4 ?_ (fun z => by rw [hb] at z; cases z)
      rw [← a5, nd_bad hb, nb_bad hb]
    · obtain ⟨d2, d3, d4, d5⟩ := hh
      subst d2
      rw [e64, e8] at d5
      have k45 : kR r r45 [10, 11] := a3.tr d3 (fun _ h => h) (fun _ h => h)
      have e458 : iv (r45 8) = iv (r 8) := by rw [k45 8 (by decide)]
      refine ⟨fun c2 => ⟨d4, fun v49 r50 q51 hh => ?_⟩, fun c2 => ?_⟩
      · obtain ⟨b1, b2, b3, b4, b5⟩ := hh
        subst b2
        rw [e64, e458] at b1 b5
        refine w_zo50 hs hkd (fun _ _ z => z) (k45.tr b3 (fun _ h => h) (fun _ h => h)) k6 b4 ?_ (fun _ => ⟨G6.1, G6.2, ?_⟩)
        · rw [← a5, ← d5]; exact b5
        · rw [← a5, ← d5]; exact b1
      · have hb := bd_of d4.2.2 c2
        refine w_zo50 hs hkd (fun _ _ z => z) k45 k6 d4 ?_ (fun z => by rw [hb] at z; cases z)
        rw [← a5, ← d5, nb_bad hb])

theorem tkS_bd {b : Nat → Int32} {n : Nat} {σ : PS} {c : Int32} : (tkS b n σ c).2 = σ.2 := by
  unfold tkS
  split
  · rfl
  · rfl
theorem dgS_bd {b : Nat → Int32} {n : Nat} {σ : PS} {lo hi : Int32} (h : (dgS b n σ lo hi).2 = false) : σ.2 = false := by
  unfold dgS at h
  split at h
  · exact h
  · cases h
theorem exX_gd {b : Nat → Int32} {n : Nat} {σ : PS} (h : (exX b n σ).2.2 = false) : σ.2 = false := by
  unfold exX at h
  split at h
  · have := dgS_bd h; rw [tkS_bd] at this; exact this
  · exact h
theorem exC_gd {b : Nat → Int32} {n : Nat} {σ : PS} (h : (exC b n σ).2.2 = false) : σ.2 = false := by
  unfold exC at h
  split at h
  · rename_i c; exact (tkB_gd (by decide) c).1
  · exact h
theorem exU_bd {b : Nat → Int32} {n : Nat} {σ : PS} : (exU b n σ).2.2 = σ.2 := by
  unfold exU
  split
  · exact tkS_bd
  split
  · exact tkS_bd
  · rfl
theorem tsO.vv {r : Nat → Int32} (h : tsO r) (hp : psO r) : r 15 = nI (iv (r 15)) ∧ iv (r 15) < 80 := by
  obtain ⟨t, ht, e⟩ := h
  obtain ⟨p1, p2, p3⟩ := ps_1 hp
  have : iv (r 10) = (pσ r).1 := rfl
  have et : iv (r 15) = t := by rw [e]; exact nI_clamp (by omega)
  rw [et]
  exact ⟨e, by omega⟩
theorem bx_of {v : Int32} {t : Bool} (h : v = b2i t) (c : ¬ v = 0) : t = true := by
  cases t with
  | true => rfl
  | false => exact absurd h c
theorem cnL_len {b : Nat → Int32} {n : Nat} : ∀ (k row : Nat) (σ : PS), (cnL b n k row σ).1.length ≤ k := by
  intro k
  induction k with
  | zero => intro row σ; exact Nat.le_refl _
  | succ k ih =>
    intro row σ
    rw [cnL]
    split
    · exact Nat.zero_le _
    split
    · exact Nat.succ_le_succ (ih _ _)
    split
    · exact Nat.succ_le_succ (ih _ _)
    · exact Nat.zero_le _
theorem exC_len {b : Nat → Int32} {n : Nat} {σ : PS} : (exC b n σ).1.1.length ≤ 81 := by
  unfold exC
  split
  · exact Nat.succ_le_succ (cnL_len _ _ _)
  · exact Nat.zero_le _
/-- the last piece: from the condition's end on -/
theorem w_ext {P : RST → Prop} {r0 r : Nat → Int32} {q0 q : Nat → Nat → Int32} {s n : Nat} {b : Nat → Int32} {σ : PS} {rows : Int32} (hs : s + 8 ≤ 640) (h15 : iv (r0 15) < 80) (hb : q0 4 = b) (hn : iv (r0 8) = n) (hσ0 : σ = (exU b n (exN b n (pσ r0)).2).2) (hP : ∀ r1 q1, exP r0 q0 s r1 q1 → P (r1, q1)) (hk : kR r0 r [10, 11, 15]) (hq : kQ q0 q [5, 6]) (hp : psO r) (hσ : pσ r = (exC b n σ).2) (hG : (pσ r).2 = false → kS (q0 5) (q 5) s ∧ (∀ i, i < iv (r0 15) → q 6 i = q0 6 i) ∧ tsO r ∧ q 5 (s + 1) = dgV b n (pσ r0) 0 9 ∧ q 5 (s + 2) = (exN b n (pσ r0)).1 ∧ q 5 (s + 3) = (exU b n (exN b n (pσ r0)).2).1 ∧ q 5 (s + 4) = r0 15 ∧ r0 15 = nI (iv (r0 15)) ∧ r 15 = nI (iv (r0 15) + (exC b n σ).1.1.length) ∧ rows = nI (exC b n σ).1.2 ∧ tsK (q 6) (iv (r0 15)) (exC b n σ).1.1) : (vp_in (nI s + 5) 640 ∧ (∀ q58 : Nat → Nat → Int32, q58 = va_up q 5 (upd (q 5) (iv (nI s + 5)) rows) → (vp_in (nI s + 6) 640 ∧ (∀ q60 : Nat → Nat → Int32, q60 = va_up q58 5 (upd (q58 5) (iv (nI s + 6)) (r 15)) → ((psO r ∧ ¬ (33 : Int32) = (-1)) ∧ (∀ (v61 : Int32) (r62 : Nat → Int32) (q63 : Nat → Nat → Int32), (v61 = b2i (tkB (q60 4) (iv (r 8)) (pσ r) 33) ∧ q63 = q60 ∧ kR r r62 [10] ∧ psO r62 ∧ pσ r62 = tkS (q60 4) (iv (r 8)) (pσ r) 33) → ((v61 = 0 → (vp_in (nI s + 7) 640 ∧ (∀ q67 : Nat → Nat → Int32, q67 = va_up q63 5 (upd (q63 5) (iv (nI s + 7)) (-1)) → (P (r62, q67))))) ∧ (¬ v61 = 0 → ((psO r62 ∧ dix 0 9) ∧ (∀ (v68 : Int32) (r69 : Nat → Int32) (q70 : Nat → Nat → Int32), (v68 = dgV (q63 4) (iv (r62 8)) (pσ r62) 0 9 ∧ q70 = q63 ∧ kR r62 r69 [10, 11] ∧ psO r69 ∧ pσ r69 = dgS (q63 4) (iv (r62 8)) (pσ r62) 0 9) → (vp_in (nI s + 7) 640 ∧ (∀ q73 : Nat → Nat → Int32, q73 = va_up q70 5 (upd (q70 5) (iv (nI s + 7)) v68) → (P (r69, q73)))))))))))))) := by
  have e8 : iv (r 8) = n := by rw [hk 8 (by decide)]; exact hn
  have e4 : q 4 = b := (hq 4 (by decide)).trans hb
  simp (disch := omega) only [li_2, li_3, li_4, li_5, li_6, li_7, li_8, li_9, li_10, li_12, li_14, li_20, li_26, li_30, li_31, li_36, li_38, li_47, li_48, li_50, li_57, li_58, li_80, li_98, li_99, li_100, li_102, li_104, li_105, li_108, li_109, li_110, li_114, li_115, li_119, li_122, li_137, li_146, li_147, li_148, li_149, li_150, li_200, li_255, li_256, li_274, li_510, li_512, li_640, li_999, li_1000, li_1024, li_3334, li_5000, li_9999, li_10000, li_23338, li_26672, li_30000, li_99999, li_150000, li_300000, pk_mul, nI_add, pk_sub, nI_clamp, nI_1, nI_p1, nI_a0, nI_0a, nI_m0, nI_m1, cl_0, cl_1, z01, z11, nI_leI, nI_ltI, nI_eq, nz_lt0, nz_le, nz_eq0, nz_pos, nz_le0, nz_eq1, nz_lt1, nz_ge1, nz_le1, nz_gt1, nz_vp, nz_vp0, nz_vp1, six_nI, vix_nI, bix_nI, pix_nI, fix_nI, gix_nI, rix_nI, zix_nI, pix_0, pix_1, bix_0, fix_0, fix_1, rix_1, true_and, and_true]
  simp only [du_33, du_9]
  refine ⟨by omega, fun q58 e58 => ⟨by omega, fun q60 e60 => ⟨⟨hp, by decide⟩, fun v61 r62 q63 hh => ?_⟩⟩⟩
  obtain ⟨a1, a2, a3, a4, a5⟩ := hh
  subst a2
  have e604 : q63 4 = b := by rw [e60, va_up_ne _ _ (by decide), e58, va_up_ne _ _ (by decide)]; exact e4
  have k60 : kQ q0 q63 [5, 6] := by rw [e60, e58]; exact (hq.up (by decide) _).up (by decide) _
  rw [e604, e8] at a1 a5
  have k62 : kR r0 r62 [10, 11, 15] := hk.tr a3 (fun _ h => h) (by decide)
  have e628 : iv (r62 8) = n := by rw [k62 8 (by decide)]; exact hn
  have c5 : q63 5 = upd (upd (q 5) (s + 5) rows) (s + 6) (r 15) := by rw [e60, va_up_self, e58, va_up_self]
  have c6 : q63 6 = q 6 := by rw [e60, va_up_ne _ _ (by decide), e58, va_up_ne _ _ (by decide)]
  -- both ends
  have fin : ∀ (x : Int32) (r1 : Nat → Int32) (q1 : Nat → Nat → Int32), q1 = va_up q63 5 (upd (q63 5) (s + 7) x) → kR r0 r1 [10, 11, 15] → kR r r1 [10, 11] → psO r1 → (pσ r).1 ≤ (pσ r1).1 → (x, pσ r1) = exX b n (pσ r) → P (r1, q1) := by
    intro x r1 q1 e1 k1 k2 p1 hle hx
    refine hP _ _ ?_
    have hR : exR (q0 4) (iv (r0 8)) (pσ r0) = (((97, dgV b n (pσ r0) 0 9, (exN b n (pσ r0)).1, (exU b n (exN b n (pσ r0)).2).1), (exC b n σ).1, x), pσ r1) := by
      unfold exR
      rw [hb, hn, ← hσ0, ← hσ, ← hx]
    unfold exP
    rw [hR]
    refine ⟨k1, by rw [e1]; exact k60.up (by decide) _, p1, rfl, fun z => ?_⟩
    have hgd : (pσ r).2 = false := exX_gd (b := b) (n := n) (by rw [← hx]; exact z)
    obtain ⟨g1, g2, g3, g4, g5, g6, g7, g8, g9, g10, g11⟩ := hG hgd
    have f15 : r1 15 = nI (iv (r0 15) + (exC b n σ).1.1.length) := (k2 15 (by decide)).trans g9
    have hO1 : tsO r1 := g3.tk (k2 15 (by decide)) hle
    have d6 : q1 6 = q 6 := by rw [e1, va_up_ne _ _ (by decide)]; exact c6
    have d5 : q1 5 = upd (upd (upd (q 5) (s + 5) rows) (s + 6) (r 15)) (s + 7) x := by rw [e1, va_up_self, c5]
    have hlen : iv (r1 15) = iv (r0 15) + (exC b n σ).1.1.length := by
      have := exC_len (b := b) (n := n) (σ := σ)
      rw [f15]
      exact nI_clamp (by omega)
    rw [hlen]
    refine ⟨?_, fun i hi => by rw [d6]; exact g2 i hi, hO1, by omega, ?_, ?_, ?_, iv (r0 15), Nat.le_refl _, ?_, ?_, ?_, ?_, ?_⟩
    · rw [d5]; exact ((g1.up (by omega) (by omega) _).up (by omega) (by omega) _).up (by omega) (by omega) _
    · rw [d5, pk_un (by omega), pk_un (by omega), pk_un (by omega)]; exact g4
    · rw [d5, pk_un (by omega), pk_un (by omega), pk_un (by omega)]; exact g5
    · rw [d5, pk_un (by omega), pk_un (by omega), pk_un (by omega)]; exact g6
    · rw [d5, pk_un (by omega), pk_un (by omega), pk_un (by omega), g7]; exact g8
    · rw [d5, pk_un (by omega), pk_un (by omega), pk_us]; exact g10
    · rw [d5, pk_un (by omega), pk_us]; exact g9
    · rw [d5, pk_us]
    · rw [d6]; exact g11
  refine ⟨fun c => ⟨by omega, fun q67 e67 => ?_⟩, fun c => ⟨⟨a4, dix09⟩, fun v68 r69 q70 hh => ?_⟩⟩
  · have ht : tkB b n (pσ r) 33 = false := (b2i_0 _).mp (a1.symm.trans c)
    rw [tkS_no ht] at a5
    refine fin (-1) r62 q67 e67 k62 (a3.mn (by decide)) a4 (by rw [a5]; exact Nat.le_refl _) ?_
    unfold exX
    rw [ht, a5, if_neg (by decide)]
  · obtain ⟨d1, d2, d3, d4, d5⟩ := hh
    subst d2
    rw [e604, e628, a5] at d1 d5
    have ht := bx_of a1 c
    refine ⟨by omega, fun q73 e73 => ?_⟩
    refine fin v68 r69 q73 e73 (k62.tr d3 (fun _ h => h) (by decide)) (a3.tr d3 (by decide) (by decide)) d4 ?_ ?_
    · rw [d5]
      have h1 := tkS_le (b := b) (n := n) (σ := pσ r) (c := 33) (by decide) (by have := (ps_1 hp).1; omega)
      exact Nat.le_trans h1.2.1 (dgS_le dix09 h1.1).2
    · unfold exX
      rw [if_pos ht, d1, d5]
/-- from the kind on -/
theorem w_ex78 {P : RST → Prop} {r0 r : Nat → Int32} {q0 q : Nat → Nat → Int32} {s n : Nat} {b : Nat → Int32} {kd : Int32} (hs : s + 8 ≤ 640) (h15 : iv (r0 15) < 80) (hO : tsO r0) (hp0 : psO r0) (hb : q0 4 = b) (hn : iv (r0 8) = n) (hP : ∀ r1 q1, exP r0 q0 s r1 q1 → P (r1, q1)) (hk : kR r0 r [10, 11]) (hq : kQ q0 q [5]) (hp : psO r) (hle : (pσ r0).1 ≤ (pσ r).1) (hσ : (kd, pσ r) = exU b n (exN b n (pσ r0)).2) (hG : (pσ r).2 = false → kS (q0 5) (q 5) s ∧ q 5 (s + 1) = dgV b n (pσ r0) 0 9 ∧ q 5 (s + 2) = (exN b n (pσ r0)).1) : wp_X11_readExtra_78 P (nI s) kd (nI s + 3) r q := by
  have e8 : iv (r 8) = n := by rw [hk 8 (by decide)]; exact hn
  have e4 : q 4 = b := (hq 4 (by decide)).trans hb
  have e15 : r 15 = r0 15 := hk 15 (by decide)
  have hO1 : tsO r := hO.tk e15 hle
  unfold wp_X11_readExtra_78
  rw [show vp_in (nI s + 3) 640 = (s + 3 < 640) by simp (disch := omega) only [li_2, li_3, li_4, li_5, li_6, li_7, li_8, li_9, li_10, li_12, li_14, li_20, li_26, li_30, li_31, li_36, li_38, li_47, li_48, li_50, li_57, li_58, li_80, li_98, li_99, li_100, li_102, li_104, li_105, li_108, li_109, li_110, li_114, li_115, li_119, li_122, li_137, li_146, li_147, li_148, li_149, li_150, li_200, li_255, li_256, li_274, li_510, li_512, li_640, li_999, li_1000, li_1024, li_3334, li_5000, li_9999, li_10000, li_23338, li_26672, li_30000, li_99999, li_150000, li_300000, pk_mul, nI_add, pk_sub, nI_clamp, nI_1, nI_p1, nI_a0, nI_0a, nI_m0, nI_m1, cl_0, cl_1, z01, z11, nI_leI, nI_ltI, nI_eq, nz_lt0, nz_le, nz_eq0, nz_pos, nz_le0, nz_eq1, nz_lt1, nz_ge1, nz_le1, nz_gt1, nz_vp, nz_vp0, nz_vp1, six_nI, vix_nI, bix_nI, pix_nI, fix_nI, gix_nI, rix_nI, zix_nI, pix_0, pix_1, bix_0, fix_0, fix_1, rix_1, true_and, and_true], show Int32.toNatClampNeg (nI s + 3) = s + 3 by simp (disch := omega) only [li_2, li_3, li_4, li_5, li_6, li_7, li_8, li_9, li_10, li_12, li_14, li_20, li_26, li_30, li_31, li_36, li_38, li_47, li_48, li_50, li_57, li_58, li_80, li_98, li_99, li_100, li_102, li_104, li_105, li_108, li_109, li_110, li_114, li_115, li_119, li_122, li_137, li_146, li_147, li_148, li_149, li_150, li_200, li_255, li_256, li_274, li_510, li_512, li_640, li_999, li_1000, li_1024, li_3334, li_5000, li_9999, li_10000, li_23338, li_26672, li_30000, li_99999, li_150000, li_300000, pk_mul, nI_add, pk_sub, nI_clamp, nI_1, nI_p1, nI_a0, nI_0a, nI_m0, nI_m1, cl_0, cl_1, z01, z11, nI_leI, nI_ltI, nI_eq, nz_lt0, nz_le, nz_eq0, nz_pos, nz_le0, nz_eq1, nz_lt1, nz_ge1, nz_le1, nz_gt1, nz_vp, nz_vp0, nz_vp1, six_nI, vix_nI, bix_nI, pix_nI, fix_nI, gix_nI, rix_nI, zix_nI, pix_0, pix_1, bix_0, fix_0, fix_1, rix_1, true_and, and_true], show vp_in (nI s + 4) 640 = (s + 4 < 640) by simp (disch := omega) only [li_2, li_3, li_4, li_5, li_6, li_7, li_8, li_9, li_10, li_12, li_14, li_20, li_26, li_30, li_31, li_36, li_38, li_47, li_48, li_50, li_57, li_58, li_80, li_98, li_99, li_100, li_102, li_104, li_105, li_108, li_109, li_110, li_114, li_115, li_119, li_122, li_137, li_146, li_147, li_148, li_149, li_150, li_200, li_255, li_256, li_274, li_510, li_512, li_640, li_999, li_1000, li_1024, li_3334, li_5000, li_9999, li_10000, li_23338, li_26672, li_30000, li_99999, li_150000, li_300000, pk_mul, nI_add, pk_sub, nI_clamp, nI_1, nI_p1, nI_a0, nI_0a, nI_m0, nI_m1, cl_0, cl_1, z01, z11, nI_leI, nI_ltI, nI_eq, nz_lt0, nz_le, nz_eq0, nz_pos, nz_le0, nz_eq1, nz_lt1, nz_ge1, nz_le1, nz_gt1, nz_vp, nz_vp0, nz_vp1, six_nI, vix_nI, bix_nI, pix_nI, fix_nI, gix_nI, rix_nI, zix_nI, pix_0, pix_1, bix_0, fix_0, fix_1, rix_1, true_and, and_true], show Int32.toNatClampNeg (nI s + 4) = s + 4 by simp (disch := omega) only [li_2, li_3, li_4, li_5, li_6, li_7, li_8, li_9, li_10, li_12, li_14, li_20, li_26, li_30, li_31, li_36, li_38, li_47, li_48, li_50, li_57, li_58, li_80, li_98, li_99, li_100, li_102, li_104, li_105, li_108, li_109, li_110, li_114, li_115, li_119, li_122, li_137, li_146, li_147, li_148, li_149, li_150, li_200, li_255, li_256, li_274, li_510, li_512, li_640, li_999, li_1000, li_1024, li_3334, li_5000, li_9999, li_10000, li_23338, li_26672, li_30000, li_99999, li_150000, li_300000, pk_mul, nI_add, pk_sub, nI_clamp, nI_1, nI_p1, nI_a0, nI_0a, nI_m0, nI_m1, cl_0, cl_1, z01, z11, nI_leI, nI_ltI, nI_eq, nz_lt0, nz_le, nz_eq0, nz_pos, nz_le0, nz_eq1, nz_lt1, nz_ge1, nz_le1, nz_gt1, nz_vp, nz_vp0, nz_vp1, six_nI, vix_nI, bix_nI, pix_nI, fix_nI, gix_nI, rix_nI, zix_nI, pix_0, pix_1, bix_0, fix_0, fix_1, rix_1, true_and, and_true]]
  refine ⟨by omega, fun q29 e29 => ⟨by omega, fun q31 e31 => ⟨⟨hp, by decide⟩, fun v32 r33 q34 hh => ?_⟩⟩⟩
  obtain ⟨a1, a2, a3, a4, a5⟩ := hh
  subst a2
  have e314 : q34 4 = b := by rw [e31, va_up_ne _ _ (by decide), e29, va_up_ne _ _ (by decide)]; exact e4
  have k31 : kQ q0 q34 [5, 6] := by rw [e31, e29]; exact ((hq.mn (by decide)).up (by decide) _).up (by decide) _
  have c5 : q34 5 = upd (upd (q 5) (s + 3) kd) (s + 4) (r 15) := by rw [e31, va_up_self, e29, va_up_self]
  have c6 : q34 6 = q0 6 := by rw [e31, va_up_ne _ _ (by decide), e29, va_up_ne _ _ (by decide)]; exact hq 6 (by decide)
  rw [e314, e8] at a1 a5
  have k33 : kR r0 r33 [10, 11] := hk.tr a3 (fun _ h => h) (by decide)
  have hh0 : exU b n (exN b n (pσ r0)).2 = (kd, pσ r) := hσ.symm
  have G3 : (pσ r).2 = false → kS (q0 5) (q34 5) s ∧ q34 5 (s + 1) = dgV b n (pσ r0) 0 9 ∧ q34 5 (s + 2) = (exN b n (pσ r0)).1 ∧ q34 5 (s + 3) = (exU b n (exN b n (pσ r0)).2).1 ∧ q34 5 (s + 4) = r0 15 := fun z => by
    obtain ⟨g1, g2, g3⟩ := hG z
    rw [c5, hh0]
    refine ⟨(g1.up (by omega) (by omega) _).up (by omega) (by omega) _, ?_, ?_, ?_, ?_⟩
    · rw [pk_un (by omega), pk_un (by omega)]; exact g2
    · rw [pk_un (by omega), pk_un (by omega)]; exact g3
    · rw [pk_un (by omega), pk_us]
    · rw [pk_us]; exact e15
  have hσ' : pσ r = (exU b n (exN b n (pσ r0)).2).2 := by rw [hh0]
  refine ⟨fun c => ?_, fun c => ?_⟩
  · have ht : tkB b n (pσ r) 63 = false := (b2i_0 _).mp (a1.symm.trans c)
    rw [tkS_no ht] at a5
    have hC : exC b n (pσ r) = (([], 0), pσ r) := by unfold exC; rw [ht]; rfl
    refine w_ext (σ := pσ r) hs h15 hb hn hσ' hP (k33.mn (by decide)) k31 a4 (by rw [hC, a5]) (fun z => ?_)
    rw [a5] at z
    obtain ⟨g1, g2, g3, g4, g5⟩ := G3 z
    rw [hC]
    refine ⟨g1, fun i _ => by rw [c6], hO1.tk (a3 15 (by decide)) (by rw [a5]; exact Nat.le_refl _), g2, g3, g4, g5, (hO.vv hp0).1, ?_, rfl, tsK.nil⟩
    rw [k33 15 (by decide)]; exact (hO.vv hp0).1
  · have ht := bx_of a1 c
    obtain ⟨t1, t2, t3⟩ := tkB_gd (by decide) ht
    have hO33 : tsO r33 := hO1.tk (a3 15 (by decide)) (by rw [a5, t3]; exact Nat.le_succ _)
    refine ⟨⟨a4, hO33⟩, fun v54 r55 q56 hc => ?_⟩
    obtain ⟨b1, b2, b3, b4, b5⟩ := hc
    rw [e314, show iv (r33 8) = n by rw [k33 8 (by decide)]; exact hn, a5] at b4 b5
    have hC : exC b n (pσ r) = (((cnF b n (tkS b n (pσ r) 63)).1, (cnF b n (tkS b n (pσ r) 63)).2.1 + 1), (cnF b n (tkS b n (pσ r) 63)).2.2) := by unfold exC; rw [ht, if_pos rfl]
    refine w_ext (σ := pσ r) hs h15 hb hn hσ' hP (k33.tr b1 (by decide) (fun _ h => h)) (k31.tr b2 (fun _ h => h) (by decide)) b3 (by rw [hC]; exact b4) (fun z => ?_)
    obtain ⟨g1, g2, g3, g4, g5⟩ := G3 t1
    obtain ⟨d1, d2, d3, d4, d5⟩ := b5 z
    have e33 : r33 15 = r0 15 := k33 15 (by decide)
    rw [e33] at d1 d3 d5
    rw [hC, b2 5 (by decide)]
    exact ⟨g1, fun i hi => by rw [d1 i hi, c6], d2, g2, g3, g4, g5, (hO.vv hp0).1, d3, d4, d5⟩
theorem w_ex43 {P : RST → Prop} {r0 r : Nat → Int32} {q0 q : Nat → Nat → Int32} {s n : Nat} {b : Nat → Int32} {v : Int32} (hs : s + 8 ≤ 640) (h15 : iv (r0 15) < 80) (hO : tsO r0) (hp0 : psO r0) (hb : q0 4 = b) (hn : iv (r0 8) = n) (hP : ∀ r1 q1, exP r0 q0 s r1 q1 → P (r1, q1)) (hk : kR r0 r [10, 11]) (hq : kQ q0 q [5]) (hp : psO r) (hle : (pσ r0).1 ≤ (pσ r).1) (hσ : (v, pσ r) = exN b n (pσ r0)) (hG : (pσ r).2 = false → kS (q0 5) (q 5) s ∧ q 5 (s + 1) = dgV b n (pσ r0) 0 9) : wp_X11_readExtra_43 P (nI s) v (nI s + 2) r q := by
  have e8 : iv (r 8) = n := by rw [hk 8 (by decide)]; exact hn
  have e4 : q 4 = b := (hq 4 (by decide)).trans hb
  unfold wp_X11_readExtra_43
  rw [show vp_in (nI s + 2) 640 = (s + 2 < 640) by simp (disch := omega) only [li_2, li_3, li_4, li_5, li_6, li_7, li_8, li_9, li_10, li_12, li_14, li_20, li_26, li_30, li_31, li_36, li_38, li_47, li_48, li_50, li_57, li_58, li_80, li_98, li_99, li_100, li_102, li_104, li_105, li_108, li_109, li_110, li_114, li_115, li_119, li_122, li_137, li_146, li_147, li_148, li_149, li_150, li_200, li_255, li_256, li_274, li_510, li_512, li_640, li_999, li_1000, li_1024, li_3334, li_5000, li_9999, li_10000, li_23338, li_26672, li_30000, li_99999, li_150000, li_300000, pk_mul, nI_add, pk_sub, nI_clamp, nI_1, nI_p1, nI_a0, nI_0a, nI_m0, nI_m1, cl_0, cl_1, z01, z11, nI_leI, nI_ltI, nI_eq, nz_lt0, nz_le, nz_eq0, nz_pos, nz_le0, nz_eq1, nz_lt1, nz_ge1, nz_le1, nz_gt1, nz_vp, nz_vp0, nz_vp1, six_nI, vix_nI, bix_nI, pix_nI, fix_nI, gix_nI, rix_nI, zix_nI, pix_0, pix_1, bix_0, fix_0, fix_1, rix_1, true_and, and_true], show Int32.toNatClampNeg (nI s + 2) = s + 2 by simp (disch := omega) only [li_2, li_3, li_4, li_5, li_6, li_7, li_8, li_9, li_10, li_12, li_14, li_20, li_26, li_30, li_31, li_36, li_38, li_47, li_48, li_50, li_57, li_58, li_80, li_98, li_99, li_100, li_102, li_104, li_105, li_108, li_109, li_110, li_114, li_115, li_119, li_122, li_137, li_146, li_147, li_148, li_149, li_150, li_200, li_255, li_256, li_274, li_510, li_512, li_640, li_999, li_1000, li_1024, li_3334, li_5000, li_9999, li_10000, li_23338, li_26672, li_30000, li_99999, li_150000, li_300000, pk_mul, nI_add, pk_sub, nI_clamp, nI_1, nI_p1, nI_a0, nI_0a, nI_m0, nI_m1, cl_0, cl_1, z01, z11, nI_leI, nI_ltI, nI_eq, nz_lt0, nz_le, nz_eq0, nz_pos, nz_le0, nz_eq1, nz_lt1, nz_ge1, nz_le1, nz_gt1, nz_vp, nz_vp0, nz_vp1, six_nI, vix_nI, bix_nI, pix_nI, fix_nI, gix_nI, rix_nI, zix_nI, pix_0, pix_1, bix_0, fix_0, fix_1, rix_1, true_and, and_true]]
  refine ⟨by omega, fun q17 e17 => ⟨⟨hp, by decide⟩, fun v18 r19 q20 hh => ?_⟩⟩
  obtain ⟨a1, a2, a3, a4, a5⟩ := hh
  subst a2
  have e174 : q20 4 = b := by rw [e17, va_up_ne _ _ (by decide)]; exact e4
  have k17 : kQ q0 q20 [5] := by rw [e17]; exact hq.up (by decide) _
  rw [e174, e8] at a1 a5
  have k19 : kR r0 r19 [10, 11] := hk.tr a3 (fun _ h => h) (by decide)
  have e198 : iv (r19 8) = n := by rw [k19 8 (by decide)]; exact hn
  have hN : (exN b n (pσ r0)) = (v, pσ r) := hσ.symm
  have hpl := (ps_1 hp).1
  rw [e8] at hpl
  have G : ∀ σ' : PS, (pσ r).2 = σ'.2 → σ'.2 = false → kS (q0 5) (q20 5) s ∧ q20 5 (s + 1) = dgV b n (pσ r0) 0 9 ∧ q20 5 (s + 2) = (exN b n (pσ r0)).1 := fun σ' h1 z => by
    obtain ⟨g1, g2⟩ := hG (h1.trans z)
    rw [e17, va_up_self, hN]
    exact ⟨g1.up (by omega) (by omega) _, by rw [pk_un (by omega)]; exact g2, pk_us ..⟩
  refine ⟨fun c => ⟨⟨a4, by decide⟩, fun v23 r24 q25 hh => ?_⟩, fun c => ?_⟩
  · have t37 : tkB b n (pσ r) 37 = false := (b2i_0 _).mp (a1.symm.trans c)
    rw [tkS_no t37] at a5
    obtain ⟨d1, d2, d3, d4, d5⟩ := hh
    subst d2
    rw [e174, e198, a5] at d1 d5
    have k24 : kR r0 r24 [10, 11] := k19.tr d3 (fun _ h => h) (by decide)
    have hl24 : (pσ r0).1 ≤ (pσ r24).1 := by rw [d5]; exact Nat.le_trans hle (tkS_le (by decide) hpl).2.1
    refine ⟨fun c2 => ?_, fun c2 => ?_⟩
    · have t42 : tkB b n (pσ r) 42 = false := (b2i_0 _).mp (d1.symm.trans c2)
      refine w_ex78 hs h15 hO hp0 hb hn hP k24 k17 d4 hl24 ?_ (G (pσ r24) (by rw [d5, tkS_bd]))
      rw [hN]
      unfold exU
      dsimp only
      rw [t37, t42, if_neg (by decide), if_neg (by decide), d5, tkS_no t42]
    · have t42 := bx_of d1 c2
      refine w_ex78 hs h15 hO hp0 hb hn hP k24 k17 d4 hl24 ?_ (G (pσ r24) (by rw [d5, tkS_bd]))
      rw [hN]
      unfold exU
      dsimp only
      rw [t37, t42, if_neg (by decide), if_pos rfl, d5]
  · have t37 := bx_of a1 c
    refine w_ex78 hs h15 hO hp0 hb hn hP k19 k17 a4 (by rw [a5]; exact Nat.le_trans hle (tkS_le (by decide) hpl).2.1) ?_ (G (pσ r19) (by rw [a5, tkS_bd]))
    rw [hN]
    unfold exU
    dsimp only
    rw [t37, if_pos rfl, a5]
theorem kd_X11_readExtra (l : Launch) (D : va_G) (T : Nat → ClassId) (m0 : Nat) (a : Nat → Nat) (p0 : Int32) (r : Nat → Int32) (q : Nat → Nat → Int32) (h : psO r ∧ tsO r ∧ s8 p0) : RMv l yX11_readExtra (ws_X11_readExtra) rm_X11_readExtra D T m0 a [.ref m0, .int p0] r q (fun u => (exP r q (iv p0) u.1 u.2)) := c_X11_readExtra l D T m0 a p0 r q _ <|
  (by
    obtain ⟨hp, hO, s, hs, e0⟩ := h
    subst e0
    have es : iv (nI s) = s := nI_clamp (by omega)
    rw [es]
    obtain ⟨o1, o2⟩ := hO.vv hp
    obtain ⟨p1, p2, p3⟩ := ps_1 hp
    unfold wp_X11_readExtra
    refine ⟨⟨hp, dix09⟩, fun v1 r2 q3 hh => ?_⟩
    obtain ⟨a1, a2, a3, a4, a5⟩ := hh
    subst a2
    have e8 : iv (r2 8) = iv (r 8) := by rw [a3 8 (by decide)]
    rw [nI_1, nz_vp (by omega) (by decide), nI_clamp (n := s + 1) (by omega)]
    refine ⟨by omega, fun q6 e6 => ⟨⟨a4, by decide⟩, fun r8 q9 hh => ?_⟩⟩
    obtain ⟨d2, d3, d4, d5⟩ := hh
    subst d2
    have e64 : q9 4 = q3 4 := by rw [e6, va_up_ne _ _ (by decide)]
    have k6 : kQ q3 q9 [5] := by rw [e6]; exact kQ.rf.up (by decide) _
    have G6 : kS (q3 5) (q9 5) s ∧ q9 5 (s + 1) = dgV (q3 4) (iv (r 8)) (pσ r) 0 9 := by
      rw [e6, va_up_self]
      exact ⟨kS.rf.up (by omega) (by omega) _, by rw [pk_us]; exact a1⟩
    rw [e64, e8, a5] at d5
    have k8 : kR r r8 [10, 11] := a3.tr d3 (fun _ h => h) (fun _ h => h)
    have e88 : iv (r8 8) = iv (r 8) := by rw [k8 8 (by decide)]
    have hD := dgS_le (b := q3 4) dix09 p1
    have h8 : (pσ r).1 ≤ (pσ r8).1 := by
      rw [d5]
      exact Nat.le_trans hD.2 (tkS_le (b := q3 4) (c := 58) (by decide) hD.1).2.1
    refine ⟨fun c => ⟨d4, fun v12 r13 q14 hh => ?_⟩, fun c => ?_⟩
    · obtain ⟨b1, b2, b3, b4, b5⟩ := hh
      subst b2
      have hle : (pσ r).1 ≤ (pσ r13).1 := by
        rw [b5]
        exact Nat.le_trans h8 (nbF_ok (ps_1 d4).1).2.1
      rw [e64, e88, d5] at b1 b5
      refine w_ex43 hs o2 hO hp rfl rfl (fun _ _ z => z) (k8.tr b3 (fun _ h => h) (fun _ h => h)) k6 b4 hle ?_ (fun _ => G6)
      unfold exN
      rw [b1, b5]
    · have hb := bd_of d4.2.2 c
      refine w_ex43 hs o2 hO hp rfl rfl (fun _ _ z => z) k8 k6 d4 h8 ?_ (fun z => by rw [hb] at z; cases z)
      unfold exN
      rw [← d5, nb_bad hb])

theorem tsO.L {r r1 : Nat → Int32} (h : tsO r) (e1 : r1 10 = r 10) (e2 : r1 15 = r 15) : tsL r1 := by
  obtain ⟨t, ht, e⟩ := h
  exact ⟨t, by rw [e1]; omega, e2.trans e⟩
theorem zoR_le {b : Nat → Int32} {n : Nat} {kd : Int32} {σ : PS} (h : σ.1 ≤ n) : (zoR b n kd σ).2.1 ≤ n ∧ σ.1 ≤ (zoR b n kd σ).2.1 := by
  have h1 := dgS_le (b := b) dix19 h
  have h2 := tkS_le (b := b) (c := 58) (by decide) h1.1
  have h3 := nbF_ok (b := b) (σ := ndS b n (dgS b n σ 1 9) 58) h2.1
  unfold zoR
  have h2' : (dgS b n σ 1 9).1 ≤ (ndS b n (dgS b n σ 1 9) 58).1 := h2.2.1
  split
  · exact ⟨h3.1, Nat.le_trans h1.2 (Nat.le_trans h2' h3.2.1)⟩
  · have h4 := tkS_le (b := b) (c := if kd = 122 then 45 else 42) (by split <;> decide) h3.1
    have h5 := nbF_ok (b := b) (σ := ndS b n (nbF b n (ndS b n (dgS b n σ 1 9) 58)).2 (if kd = 122 then 45 else 42)) h4.1
    have h4' : (nbF b n (ndS b n (dgS b n σ 1 9) 58)).2.1 ≤ (ndS b n (nbF b n (ndS b n (dgS b n σ 1 9) 58)).2 (if kd = 122 then 45 else 42)).1 := h4.2.1
    exact ⟨h5.1, Nat.le_trans h1.2 (Nat.le_trans h2' (Nat.le_trans h3.2.1 (Nat.le_trans h4' h5.2.1)))⟩
theorem cnL_le {b : Nat → Int32} {n : Nat} : ∀ (k row : Nat) (σ : PS), σ.1 ≤ n → (cnL b n k row σ).2.2.1 ≤ n ∧ σ.1 ≤ (cnL b n k row σ).2.2.1 := by
  intro k
  induction k with
  | zero => intro row σ h; exact ⟨h, Nat.le_refl _⟩
  | succ k ih =>
    intro row σ h
    rw [cnL]
    split
    · exact ⟨h, Nat.le_refl _⟩
    split
    · have h1 := tkS_le (b := b) (c := 38) (by decide) h
      have h2 := tsR_ok (b := b) h1.1
      have h3 := ih row (tsR b n (tkS b n σ 38)).2 h2.1
      exact ⟨h3.1, Nat.le_trans h1.2.1 (Nat.le_trans h2.2.1 h3.2)⟩
    split
    · have h1 := tkS_le (b := b) (c := 124) (by decide) h
      have h2 := tsR_ok (b := b) h1.1
      have h3 := ih (row + 1) (tsR b n (tkS b n σ 124)).2 h2.1
      exact ⟨h3.1, Nat.le_trans h1.2.1 (Nat.le_trans h2.2.1 h3.2)⟩
    · exact ⟨h, Nat.le_refl _⟩
theorem exR_le {b : Nat → Int32} {n : Nat} {σ : PS} (h : σ.1 ≤ n) : (exR b n σ).2.1 ≤ n ∧ σ.1 ≤ (exR b n σ).2.1 := by
  have h1 := dgS_le (b := b) dix09 h
  have h2 := tkS_le (b := b) (c := 58) (by decide) h1.1
  have h3 := nbF_ok (b := b) (σ := ndS b n (dgS b n σ 0 9) 58) h2.1
  have h2' : (dgS b n σ 0 9).1 ≤ (ndS b n (dgS b n σ 0 9) 58).1 := h2.2.1
  have hN : (exN b n σ).2.1 ≤ n ∧ σ.1 ≤ (exN b n σ).2.1 := ⟨h3.1, Nat.le_trans h1.2 (Nat.le_trans h2' h3.2.1)⟩
  have hU : (exU b n (exN b n σ).2).2.1 ≤ n ∧ σ.1 ≤ (exU b n (exN b n σ).2).2.1 := by
    unfold exU
    split
    · have := tkS_le (b := b) (c := 37) (by decide) hN.1; exact ⟨this.1, Nat.le_trans hN.2 this.2.1⟩
    split
    · have := tkS_le (b := b) (c := 42) (by decide) hN.1; exact ⟨this.1, Nat.le_trans hN.2 this.2.1⟩
    · exact hN
  have hC : (exC b n (exU b n (exN b n σ).2).2).2.1 ≤ n ∧ σ.1 ≤ (exC b n (exU b n (exN b n σ).2).2).2.1 := by
    unfold exC
    split
    · have g1 := tkS_le (b := b) (c := 63) (by decide) hU.1
      have g2 := tsR_ok (b := b) g1.1
      have g3 := cnL_le (b := b) 80 0 (tsR b n (tkS b n (exU b n (exN b n σ).2).2 63)).2 g2.1
      exact ⟨g3.1, Nat.le_trans hU.2 (Nat.le_trans g1.2.1 (Nat.le_trans g2.2.1 g3.2))⟩
    · exact hU
  show (exX b n (exC b n (exU b n (exN b n σ).2).2).2).2.1 ≤ n ∧ σ.1 ≤ (exX b n (exC b n (exU b n (exN b n σ).2).2).2).2.1
  unfold exX
  split
  · have g1 := tkS_le (b := b) (c := 33) (by decide) hC.1
    have g2 := dgS_le (b := b) dix09 g1.1
    exact ⟨g2.1, Nat.le_trans hC.2 (Nat.le_trans g1.2.1 g2.2)⟩
  · exact hC
theorem kd_X11_readStatement (l : Launch) (D : va_G) (T : Nat → ClassId) (m0 : Nat) (a : Nat → Nat)  (r : Nat → Int32) (q : Nat → Nat → Int32) (h : psO r ∧ (pσ r).2 = false ∧ tsL r ∧ smX r) : RMv l yX11_readStatement (ws_X11_readStatement) rm_X11_readStatement D T m0 a [.ref m0] r q (fun u => (smP r q u.1 u.2)) := c_X11_readStatement l D T m0 a  r q _ <|
  (by
    obtain ⟨hp, hg, ⟨t, ht, e15⟩, ⟨s, hs, e13⟩⟩ := h
    obtain ⟨p1, p2, p3⟩ := ps_1 hp
    have e10 : iv (r 10) = (pσ r).1 := rfl
    rw [e10] at ht hs
    have es : iv (r 13) = s := by rw [e13]; exact nI_clamp (by omega)
    have et : iv (r 15) = t := by rw [e15]; exact nI_clamp (by omega)
    obtain ⟨s1, s2⟩ := sgn_sg (q := q) hp
    unfold wp_X11_readStatement
    intro v1 e1
    have e1' : v1 = nI (8 * s) := by rw [e1, e13]; exact pk_mul 8 s
    clear e1
    subst e1'
    refine ⟨s2, fun v3 e3 => ?_⟩
    rw [s1] at e3
    simp only [nI_clamp (n := 8 * s) (show 8 * s < 2 ^ 31 by omega)]
    rw [nz_vp (by omega) (by decide)]
    refine ⟨by omega, fun q5 e5 r6 e6 => ?_⟩
    rw [p3, nI_1] at e6
    have e54 : q5 4 = q 4 := by rw [e5, va_up_ne _ _ (by decide)]
    have e56 : q5 6 = q 6 := by rw [e5, va_up_ne _ _ (by decide)]
    have e55 : q5 5 = upd (q 5) (8 * s) v3 := by rw [e5, va_up_self]
    have k5 : kQ q q5 [5, 6] := by rw [e5]; exact kQ.rf.up (by decide) _
    have k6a : kR r r6 [10] := by rw [e6]; exact kR.rf.up (by decide) _
    have k6 : kR r r6 [10, 11, 15] := by rw [e6]; exact kR.rf.up (by decide) _
    have e68 : iv (r6 8) = iv (r 8) := by rw [k6 8 (by decide)]
    have hne : ∀ m : Int32, 97 ≤ m → v3 = m → psO r6 ∧ pσ r6 = ((pσ r).1 + 1, (pσ r).2) ∧ tsO r6 := fun m hm hv => by
      have hlt : (pσ r).1 < iv (r 8) := sg_lt (b := q 4) (by rw [← e3, hv]; intro z; rw [z] at hm; exact absurd hm (by decide))
      obtain ⟨g1, g2⟩ := psO_10 hp hlt e6
      refine ⟨g1, g2, t, ?_, ?_⟩
      · have : iv (r6 10) = (pσ r6).1 := rfl
        rw [this, g2]; exact Nat.lt_succ_of_le ht
      · rw [e6, va_up_ne _ _ (by decide)]; exact e15
    have fin : ∀ (r9 : Nat → Int32) (q9 : Nat → Nat → Int32), kR r r9 [10, 11, 15] → kQ q q9 [5, 6] → psO r9 → pσ r9 = (stR (q 4) (iv (r 8)) (pσ r)).2 → ((pσ r9).2 = false → (pσ r).1 + 1 ≤ (pσ r9).1 ∧ (∀ i, i < 8 * s → q9 5 i = q 5 i) ∧ (∀ i, i < t → q9 6 i = q 6 i) ∧ tsO r9 ∧ t ≤ iv (r9 15) ∧ stK (q9 5) (q9 6) (8 * s) (iv (r9 15)) (stR (q 4) (iv (r 8)) (pσ r)).1) → ∀ r12 : Nat → Int32, r12 = va_up r9 13 ((r9 13) + 1) → smP r q r12 q9 := by
      intro r9 q9 h1 h2 h3 h4 h5 r12 e12
      have f13 : r9 13 = nI s := (h1 13 (by decide)).trans e13
      rw [f13, nI_1] at e12
      have g8 : r12 8 = r9 8 := by rw [e12, va_up_ne _ _ (by decide)]
      have g10 : r12 10 = r9 10 := by rw [e12, va_up_ne _ _ (by decide)]
      have g11 : r12 11 = r9 11 := by rw [e12, va_up_ne _ _ (by decide)]
      have g15 : r12 15 = r9 15 := by rw [e12, va_up_ne _ _ (by decide)]
      have gσ : pσ r12 = pσ r9 := by unfold pσ; rw [g10, g11]
      refine ⟨by rw [e12]; exact (h1.mn (by decide)).up (by decide) _, h2, by unfold psO; rw [g8, g10, g11]; exact h3, by rw [gσ]; exact h4, by rw [e12, va_up_self, es], fun z => ?_⟩
      rw [gσ] at z ⊢
      obtain ⟨a0, a1, a2, a3, a4, a5⟩ := h5 z
      rw [es, et, g15]
      exact ⟨a0, a1, a2, a3.L g10 g15, a4, a5⟩
    -- a zone's statement
    have zone : (v3 = 122 ∨ v3 = 98 ∨ v3 = 109) → ((psO r6 ∧ s8 (nI (8 * s)) ∧ (v3 = 122 ∨ v3 = 98 ∨ v3 = 109)) ∧ (∀ (r9 : Nat → Int32) (q10 : Nat → Nat → Int32), (zoP r6 q5 (8 * s) v3 r9 q10) → (∀ r12 : Nat → Int32, r12 = va_up r9 13 ((r9 13) + 1) → smP r q r12 q10))) := by
      intro hk
      obtain ⟨g1, g2, g3⟩ : psO r6 ∧ pσ r6 = ((pσ r).1 + 1, (pσ r).2) ∧ tsO r6 := by
        rcases hk with z | z | z
        · exact hne _ (by decide) z
        · exact hne _ (by decide) z
        · exact hne _ (by decide) z
      refine ⟨⟨g1, ⟨8 * s, by omega, rfl⟩, hk⟩, fun r9 q10 hz => ?_⟩
      obtain ⟨a1, a2, a3, a4, a5⟩ := hz
      rw [e54, e68, g2] at a4 a5
      have hR : stR (q 4) (iv (r 8)) (pσ r) = (((v3, (zoR (q 4) (iv (r 8)) v3 ((pσ r).1 + 1, (pσ r).2)).1), ([], 0), 0), (zoR (q 4) (iv (r 8)) v3 ((pσ r).1 + 1, (pσ r).2)).2) := by
        unfold stR
        rw [← e3, if_pos hk]
      have hO9 : (pσ r6).1 ≤ (pσ r9).1 := by rw [g2, a4]; exact (zoR_le (σ := ((pσ r).1 + 1, (pσ r).2)) (by have := (ps_1 g1).1; rw [g2, e68] at this; exact this)).2
      refine fin r9 q10 (k6.tr a1 (fun _ h => h) (by decide)) (k5.tr a2 (fun _ h => h) (by decide)) a3 (by rw [hR]; exact a4) (fun z => ?_)
      obtain ⟨b1, b2, b3, b4⟩ := a5 z
      rw [hR]
      refine ⟨by rw [g2] at hO9; exact hO9, fun i hi => ?_, fun i _ => by rw [a2 6 (by decide), e56], g3.tk (a1 15 (by decide)) hO9, ?_, ?_, b2, fun _ => b3, fun c => b4 ?_, fun c => ?_⟩
      · rw [b1 i (by omega), e55, pk_un (by omega)]
      · rw [a1 15 (by decide), k6a 15 (by decide), et]; exact Nat.le_refl _
      · rw [b1 _ (by omega), e55, pk_us]
      · rcases c with c | c | c <;> (dsimp only at c; rw [c]; decide)
      · exfalso
        dsimp only at c
        rw [c] at hk
        exact absurd hk (by decide)
    -- a number's statement
    have num : (v3 = 100 ∨ v3 = 102 ∨ v3 = 115 ∨ v3 = 99) → ((psO r6) ∧ (∀ (v21 : Int32) (r22 : Nat → Int32) (q23 : Nat → Nat → Int32), (v21 = (nbF (q5 4) (iv (r6 8)) (pσ r6)).1 ∧ q23 = q5 ∧ kR r6 r22 [10, 11] ∧ psO r22 ∧ pσ r22 = (nbF (q5 4) (iv (r6 8)) (pσ r6)).2) → (vp_in (nI (8 * s) + 1) 640 ∧ (∀ q26 : Nat → Nat → Int32, q26 = va_up q23 5 (upd (q23 5) (iv (nI (8 * s) + 1)) v21) → (∀ r27 : Nat → Int32, r27 = va_up r22 13 ((r22 13) + 1) → smP r q r27 q26))))) := by
      intro hk
      obtain ⟨g1, g2, g3⟩ : psO r6 ∧ pσ r6 = ((pσ r).1 + 1, (pσ r).2) ∧ tsO r6 := by
        rcases hk with z | z | z | z
        · exact hne _ (by decide) z
        · exact hne _ (by decide) z
        · exact hne _ (by decide) z
        · exact hne _ (by decide) z
      refine ⟨g1, fun v21 r22 q23 hh => ?_⟩
      obtain ⟨a1, a2, a3, a4, a5⟩ := hh
      subst a2
      have hO9 : (pσ r6).1 ≤ (pσ r22).1 := by rw [a5]; exact (nbF_ok (ps_1 g1).1).2.1
      rw [e54, e68, g2] at a1 a5
      simp only [nI_1, nI_clamp (n := 8 * s + 1) (show 8 * s + 1 < 2 ^ 31 by omega)]
      rw [nz_vp (by omega) (by decide)]
      refine ⟨by omega, fun q26 e26 => ?_⟩
      have hn : ¬ (v3 = 122 ∨ v3 = 98 ∨ v3 = 109) := by rcases hk with z | z | z | z <;> rw [z] <;> decide
      have hR : stR (q 4) (iv (r 8)) (pσ r) = (((v3, v21, 0, 0), ([], 0), 0), pσ r22) := by
        unfold stR
        rw [← e3, if_neg hn, if_pos hk, a1, a5]
      refine fin r22 q26 (k6.tr a3 (fun _ h => h) (by decide)) (by rw [e26]; exact k5.up (by decide) _) a4 (by rw [hR]) (fun z => ?_)
      rw [hR]
      have f6 : q26 6 = q 6 := by rw [e26, va_up_ne _ _ (by decide), e56]
      have f5 : q26 5 = upd (upd (q 5) (8 * s) v3) (8 * s + 1) v21 := by rw [e26, va_up_self, e55]
      refine ⟨by rw [g2] at hO9; exact hO9, fun i hi => ?_, fun i _ => by rw [f6], g3.tk (a3 15 (by decide)) hO9, ?_, ?_, ?_, fun c => ?_, fun c => ?_, fun c => ?_⟩
      · rw [f5, pk_un (by omega), pk_un (by omega)]
      · rw [a3 15 (by decide), k6a 15 (by decide), et]; exact Nat.le_refl _
      · rw [f5, pk_un (by omega), pk_us]
      · rw [f5, pk_us]
      · exfalso
        dsimp only at c
        rcases c with c | c | c | c <;> rw [c] at hk <;> exact absurd hk (by decide)
      · exfalso
        dsimp only at c
        rcases c with c | c | c <;> rw [c] at hk <;> exact absurd hk (by decide)
      · exfalso
        dsimp only at c
        rw [c] at hk
        exact absurd hk (by decide)
    refine ⟨fun c => zone (Or.inl c), fun c1 => ⟨fun c => zone (Or.inr (Or.inl c)), fun c2 => ⟨fun c3 => ⟨fun c => num (Or.inl c), fun c4 => ⟨fun c => num (Or.inr (Or.inl c)), fun c5 => ⟨fun c => num (Or.inr (Or.inr (Or.inl c))), fun c6 => ⟨fun c7 => ⟨fun c8 => ⟨fun c9 => ?_, fun c => ?_⟩, fun c => ?_⟩, fun c => num (Or.inr (Or.inr (Or.inr c)))⟩⟩⟩⟩, fun c => zone (Or.inr (Or.inr c))⟩⟩⟩
    · -- no statement begins so
      intro r47 e47 r48 e48
      have hR : stR (q 4) (iv (r 8)) (pσ r) = (((0, 0, 0, 0), ([], 0), 0), ((pσ r).1, true)) := by
        unfold stR
        rw [← e3, if_neg (by rintro (z | z | z); exact c1 z; exact c2 z; exact c3 z), if_neg (by rintro (z | z | z | z); exact c4 z; exact c5 z; exact c6 z; exact c7 z), if_neg c8, if_neg c9]
      have f10 : r47 10 = nI ((pσ r).1 + 1) := by rw [e47, va_up_ne _ _ (by decide), e6, va_up_self]
      rw [f10, show nI ((pσ r).1 + 1) - 1 = nI (pσ r).1 from by rw [nI_p1 (by omega)]; rfl, ← p3] at e48
      have g : ∀ j, j ≠ 11 → r48 j = r j := fun j hj => by
        rw [e48]
        by_cases e : j = 10
        · rw [e, va_up_self]
        · rw [va_up_ne _ _ e, e47, va_up_ne _ _ hj, e6, va_up_ne _ _ e]
      have g11 : r48 11 = 1 := by rw [e48, va_up_ne _ _ (by decide), e47, va_up_self]
      have hp48 : psO r48 := by
        unfold psO
        rw [g 8 (by decide), g 10 (by decide), g11]
        exact ⟨hp.1, hp.2.1, vz1⟩
      have gσ : pσ r48 = ((pσ r).1, true) := by
        unfold pσ
        rw [g 10 (by decide), g11]
        rfl
      exact fin r48 q5 (fun j hj => g j (fun e => hj (by rw [e]; decide))) k5 hp48 (by rw [hR]; exact gσ) (fun z => by rw [gσ] at z; cases z)
    · -- an accessorial's end
      obtain ⟨g1, g2, g3⟩ := hne _ (by decide) c
      refine ⟨⟨g1, dix09⟩, fun v50 r51 q52 hh => ?_⟩
      obtain ⟨a1, a2, a3, a4, a5⟩ := hh
      subst a2
      have hO9 : (pσ r6).1 ≤ (pσ r51).1 := by rw [a5]; exact (dgS_le dix09 (ps_1 g1).1).2
      rw [e54, e68, g2] at a1 a5
      simp only [nI_1, nI_clamp (n := 8 * s + 1) (show 8 * s + 1 < 2 ^ 31 by omega)]
      rw [nz_vp (by omega) (by decide)]
      refine ⟨by omega, fun q55 e55' => ?_⟩
      have hR : stR (q 4) (iv (r 8)) (pσ r) = (((114, v50, 0, 0), ([], 0), 0), pσ r51) := by
        unfold stR
        rw [← e3, if_neg (by rintro (z | z | z); exact c1 z; exact c2 z; exact c3 z), if_neg (by rintro (z | z | z | z); exact c4 z; exact c5 z; exact c6 z; exact c7 z), if_neg c8, if_pos c, a1, a5]
      refine fin r51 q55 (k6.tr a3 (fun _ h => h) (by decide)) (by rw [e55']; exact k5.up (by decide) _) a4 (by rw [hR]) (fun z => ?_)
      rw [hR]
      have f6 : q55 6 = q 6 := by rw [e55', va_up_ne _ _ (by decide), e56]
      have f5 : q55 5 = upd (upd (q 5) (8 * s) v3) (8 * s + 1) v50 := by rw [e55', va_up_self, e55]
      refine ⟨by rw [g2] at hO9; exact hO9, fun i hi => ?_, fun i _ => by rw [f6], g3.tk (a3 15 (by decide)) hO9, ?_, ?_, ?_, fun c => ?_, fun c => ?_, fun c => ?_⟩
      · rw [f5, pk_un (by omega), pk_un (by omega)]
      · rw [a3 15 (by decide), k6a 15 (by decide), et]; exact Nat.le_refl _
      · rw [f5, pk_un (by omega), pk_us]; exact c
      · rw [f5, pk_us]
      · dsimp only at c; exact absurd c (by decide)
      · dsimp only at c; exact absurd c (by decide)
      · dsimp only at c; exact absurd c (by decide)
    · -- an accessorial
      obtain ⟨g1, g2, g3⟩ := hne _ (by decide) c
      refine ⟨⟨g1, g3, 8 * s, by omega, rfl⟩, fun r58 q59 hz => ?_⟩
      obtain ⟨a1, a2, a3, a4, a5⟩ := hz
      have hle := exR_le (b := q5 4) (ps_1 g1).1
      rw [← a4] at hle
      rw [e54, e68, g2] at a4 a5
      have hR : stR (q 4) (iv (r 8)) (pσ r) = exR (q 4) (iv (r 8)) ((pσ r).1 + 1, (pσ r).2) := by
        unfold stR
        rw [← e3, if_neg (by rintro (z | z | z); exact c1 z; exact c2 z; exact c3 z), if_neg (by rintro (z | z | z | z); exact c4 z; exact c5 z; exact c6 z; exact c7 z), if_pos c]
      have f15 : iv (r6 15) = t := by rw [e6, va_up_ne _ _ (by decide)]; exact et
      refine fin r58 q59 (k6.tr a1 (fun _ h => h) (fun _ h => h)) (k5.tr a2 (fun _ h => h) (fun _ h => h)) a3 (by rw [hR]; exact a4) (fun z => ?_)
      obtain ⟨b1, b2, b3, b4, b5, b6, b7, b8⟩ := a5 z
      rw [f15] at b2 b4
      rw [hR]
      have k97 : (exR (q 4) (iv (r 8)) ((pσ r).1 + 1, (pσ r).2)).1.1.1 = 97 := rfl
      refine ⟨by rw [g2] at hle; exact hle.2, fun i hi => ?_, fun i hi => by rw [b2 i hi, e56], b3, b4, ?_, b5, fun _ => b6, fun _ => b7, fun _ => b8⟩
      · rw [b1 i (by omega), e55, pk_un (by omega)]
      · rw [b1 _ (by omega), e55, pk_us, k97]; exact c)

theorem bxF_le {μ : Nat → Int32} {v z : Nat} {w : Int32} : ∀ k i, i ≤ bxF μ v z w k i ∧ bxF μ v z w k i ≤ i + k := by
  intro k
  induction k with
  | zero => intro i; exact ⟨Nat.le_refl _, Nat.le_refl _⟩
  | succ k ih =>
    intro i
    rw [bxF]
    split
    · have := ih (i + 1); omega
    · omega
theorem kd_X11_writes (l : Launch) (D : va_G) (T : Nat → ClassId) (m0 : Nat) (a : Nat → Nat) (p0 : Int32) (p1 : Int32) (p2 : Int32) (p3 : Int32) (r : Nat → Int32) (q : Nat → Nat → Int32) (h : ∃ n : Nat, n < 3334 ∧ p0 = nI n) : RMi l yX11_writes (ws_X11_writes) rm_X11_writes D T m0 a [.ref m0, .int p0, .int p1, .int p2, .int p3] r q (fun v u => (v = zin p1 p2 p3 ∧ u.1 = r ∧ u.2 = va_up q 0 (upd (q 0) (iv p0) p1))) := c_X11_writes l D T m0 a p0 p1 p2 p3 r q _ <|
  (by
    obtain ⟨n, hn, e⟩ := h
    subst e
    unfold wp_X11_writes
    rw [nz_vp (by omega) (by decide)]
    refine ⟨hn, fun q2 e2 => ⟨?_, rfl, rfl, e2⟩⟩
    unfold zin
    split
    · exact vz0
    split
    · exact vz0
    · exact vz1)
theorem kd_X11_puts (l : Launch) (D : va_G) (T : Nat → ClassId) (m0 : Nat) (a : Nat → Nat) (p0 : Int32) (p1 : Int32) (r : Nat → Int32) (q : Nat → Nat → Int32) (h : WF (q 0) ∧ vix p0 ∧ s8 p1) : RMi l yX11_puts (ws_X11_puts) rm_X11_puts D T m0 a [.ref m0, .int p0, .int p1] r q (fun v u => (v = b2i (ptB (q 0) (iv p0) (q 5 (iv p1 + 2)) (q 5 (iv p1 + 3))) ∧ u.1 = r ∧ kQ q u.2 [0] ∧ (ptB (q 0) (iv p0) (q 5 (iv p1 + 2)) (q 5 (iv p1 + 3)) = true → u.2 0 = ptS (q 0) (iv p0) (q 5 (iv p1 + 1)) (q 5 (iv p1 + 2)) (q 5 (iv p1 + 3))))) := c_X11_puts l D T m0 a p0 p1 r q _ <|
  (by
    obtain ⟨hw, ⟨v, hv, e0⟩, ⟨s, hs, e1⟩⟩ := h
    subst e0 e1
    obtain ⟨c, hc, ec⟩ := hw.rng hv
    have es : iv (nI s) = s := nI_clamp (by omega)
    have ev : iv (nI v) = v := nI_clamp (by omega)
    rw [es, ev]
    unfold wp_X11_puts
    intro v1 e1
    have e1' : v1 = nI (274 + 510 * v + 1) := by rw [e1]; simp (disch := omega) only [li_2, li_3, li_4, li_5, li_6, li_7, li_8, li_9, li_10, li_12, li_14, li_20, li_26, li_30, li_31, li_36, li_38, li_47, li_48, li_50, li_57, li_58, li_80, li_98, li_99, li_100, li_102, li_104, li_105, li_108, li_109, li_110, li_114, li_115, li_119, li_122, li_137, li_146, li_147, li_148, li_149, li_150, li_200, li_255, li_256, li_274, li_510, li_512, li_640, li_999, li_1000, li_1024, li_3334, li_5000, li_9999, li_10000, li_23338, li_26672, li_30000, li_99999, li_150000, li_300000, pk_mul, nI_add, pk_sub, nI_clamp, nI_1, nI_p1, nI_a0, nI_0a, nI_m0, nI_m1, cl_0, cl_1, z01, z11]
    clear e1
    subst e1'
    simp (disch := omega) only [li_2, li_3, li_4, li_5, li_6, li_7, li_8, li_9, li_10, li_12, li_14, li_20, li_26, li_30, li_31, li_36, li_38, li_47, li_48, li_50, li_57, li_58, li_80, li_98, li_99, li_100, li_102, li_104, li_105, li_108, li_109, li_110, li_114, li_115, li_119, li_122, li_137, li_146, li_147, li_148, li_149, li_150, li_200, li_255, li_256, li_274, li_510, li_512, li_640, li_999, li_1000, li_1024, li_3334, li_5000, li_9999, li_10000, li_23338, li_26672, li_30000, li_99999, li_150000, li_300000, pk_mul, nI_add, pk_sub, nI_clamp, nI_1, nI_p1, nI_a0, nI_0a, nI_m0, nI_m1, cl_0, cl_1, z01, z11, nI_leI, nI_ltI, nI_eq, nz_lt0, nz_le, nz_eq0, nz_pos, nz_le0, nz_eq1, nz_lt1, nz_ge1, nz_le1, nz_gt1, nz_vp, nz_vp0, nz_vp1, six_nI, vix_nI, bix_nI, pix_nI, fix_nI, gix_nI, rix_nI, zix_nI, pix_0, pix_1, bix_0, fix_0, fix_1, rix_1, true_and, and_true]
    unfold ptB
    refine ⟨by omega, fun c1 => ⟨?_, kQ.rf, fun z => ?_⟩, fun c1 => ⟨by omega, fun c2 => ⟨?_, kQ.rf, fun z => ?_⟩, fun c2 => ⟨by omega, by omega, fun c3 => ⟨?_, kQ.rf, fun z => ?_⟩, fun c3 => ⟨by omega, fun c4 => ⟨by omega, fun v12 e12 => ?_⟩, fun c4 => ⟨?_, kQ.rf, fun z => ?_⟩⟩⟩⟩⟩
    · rw [show (999 : Int32) = nI 999 from rfl]; simp [c1, b2i]
    · rw [show (999 : Int32) = nI 999 from rfl] at z; simp [c1] at z
    · rw [show (999 : Int32) = nI 999 from rfl]; simp [c2, b2i]
    · rw [show (999 : Int32) = nI 999 from rfl] at z; simp [c2] at z
    · simp [c3, b2i]
    · simp [c3] at z
    · have e12' : v12 = nI (274 + 510 * v + 2 + 3 * c) := by rw [e12, ec]; simp (disch := omega) only [li_2, li_3, li_4, li_5, li_6, li_7, li_8, li_9, li_10, li_12, li_14, li_20, li_26, li_30, li_31, li_36, li_38, li_47, li_48, li_50, li_57, li_58, li_80, li_98, li_99, li_100, li_102, li_104, li_105, li_108, li_109, li_110, li_114, li_115, li_119, li_122, li_137, li_146, li_147, li_148, li_149, li_150, li_200, li_255, li_256, li_274, li_510, li_512, li_640, li_999, li_1000, li_1024, li_3334, li_5000, li_9999, li_10000, li_23338, li_26672, li_30000, li_99999, li_150000, li_300000, pk_mul, nI_add, pk_sub, nI_clamp, nI_1, nI_p1, nI_a0, nI_0a, nI_m0, nI_m1, cl_0, cl_1, z01, z11]
      clear e12
      subst e12'
      simp (disch := omega) only [li_2, li_3, li_4, li_5, li_6, li_7, li_8, li_9, li_10, li_12, li_14, li_20, li_26, li_30, li_31, li_36, li_38, li_47, li_48, li_50, li_57, li_58, li_80, li_98, li_99, li_100, li_102, li_104, li_105, li_108, li_109, li_110, li_114, li_115, li_119, li_122, li_137, li_146, li_147, li_148, li_149, li_150, li_200, li_255, li_256, li_274, li_510, li_512, li_640, li_999, li_1000, li_1024, li_3334, li_5000, li_9999, li_10000, li_23338, li_26672, li_30000, li_99999, li_150000, li_300000, pk_mul, nI_add, pk_sub, nI_clamp, nI_1, nI_p1, nI_a0, nI_0a, nI_m0, nI_m1, cl_0, cl_1, z01, z11, nI_leI, nI_ltI, nI_eq, nz_lt0, nz_le, nz_eq0, nz_pos, nz_le0, nz_eq1, nz_lt1, nz_ge1, nz_le1, nz_gt1, nz_vp, nz_vp0, nz_vp1, six_nI, vix_nI, bix_nI, pix_nI, fix_nI, gix_nI, rix_nI, zix_nI, pix_0, pix_1, bix_0, fix_0, fix_1, rix_1, true_and, and_true]
      refine ⟨by omega, by omega, fun q15 e15 => ⟨by omega, by omega, fun q18 e18 => ⟨by omega, by omega, fun q21 e21 => ⟨by omega, by omega, fun q24 e24 => ?_⟩⟩⟩⟩
      have h15 : q15 5 = q 5 := by rw [e15, va_up_ne _ _ (by decide)]
      have h18 : q18 5 = q 5 := by rw [e18, va_up_ne _ _ (by decide)]; exact h15
      have k24 : kQ q q24 [0] := by rw [e24, e21, e18, e15]; exact (((kQ.rf.up (by decide) _).up (by decide) _).up (by decide) _).up (by decide) _
      refine ⟨?_, k24, fun _ => ?_⟩
      · rw [decide_eq_false (show ¬ (999 : Int32) < q 5 (s + 2) from c1), decide_eq_false (show ¬ (999 : Int32) < q 5 (s + 3) from c2), decide_eq_false c3, decide_eq_false (show ¬ q 0 (274 + 510 * v + 1) = (12 : Int32) from c4)]; rfl
      · have ic : iv (q 0 (274 + 510 * v + 1)) = c := by rw [ec]; exact nI_clamp (by omega)
        unfold ptS
        rw [ic, e24, va_up_self, e21, va_up_self, h18, e18, va_up_self, h15, e15, va_up_self]
        rw [pk_un (k := 274 + 510 * v + 2 + 3 * c + 2) (by omega), pk_un (k := 274 + 510 * v + 2 + 3 * c + 1) (by omega), pk_un (k := 274 + 510 * v + 2 + 3 * c) (by omega)]
    · rw [show (999 : Int32) = nI 999 from rfl, show (12 : Int32) = nI 12 from rfl]; simp [c1, c2, c3, c4, b2i]
    · rw [show (999 : Int32) = nI 999 from rfl, show (12 : Int32) = nI 12 from rfl] at z; simp [c1, c2, c3, c4] at z)

theorem nI_m (a : Nat) (h : 1 ≤ a) : nI a + (-1) = nI (a - 1) := by
  rw [← nI_p1 h, Int32.sub_eq_add_neg]
theorem rl_bx {P : Int32 → RST → Prop} {K : Int32 → Int32 → Int32 → Int32 → Int32 → Int32 → (Nat → Int32) → (Nat → Nat → Int32) → Prop} {r : Nat → Int32} {q : Nat → Nat → Int32} {v z c : Nat} {w p : Int32} (hv : v < 6) (h1 : 1 ≤ z) (h9 : z ≤ 9) (hc : c ≤ 5) (ec : q 0 (274 + 510 * v + 38 + z - 1) = nI c) : ∀ k i fuel, i + k = c → k < fuel → K (nI v) (nI z) w p (nI (274 + 510 * v + 38 + z - 1)) (nI (bxF (q 0) v z w k i)) r q → wp_X11_setsBreak_16 K P fuel (nI v) (nI z) w p (nI (274 + 510 * v + 38 + z - 1)) (nI i) r q := by
  intro k
  induction k with
  | zero =>
    intro i fuel hi hf hK
    obtain ⟨f, rfl⟩ : ∃ f, fuel = f + 1 := ⟨fuel - 1, by omega⟩; rw [wp_X11_setsBreak_16]; unfold wb_X11_setsBreak_16; dsimp only
    simp (disch := omega) only [li_2, li_3, li_4, li_5, li_6, li_7, li_8, li_9, li_10, li_12, li_14, li_20, li_26, li_30, li_31, li_36, li_38, li_47, li_48, li_50, li_57, li_58, li_80, li_98, li_99, li_100, li_102, li_104, li_105, li_108, li_109, li_110, li_114, li_115, li_119, li_122, li_137, li_146, li_147, li_148, li_149, li_150, li_200, li_255, li_256, li_274, li_510, li_512, li_640, li_999, li_1000, li_1024, li_3334, li_5000, li_9999, li_10000, li_23338, li_26672, li_30000, li_99999, li_150000, li_300000, pk_mul, nI_add, pk_sub, nI_clamp, nI_1, nI_p1, nI_a0, nI_0a, nI_m0, nI_m1, cl_0, cl_1, z01, z11, nI_leI, nI_ltI, nI_eq, nz_lt0, nz_le, nz_eq0, nz_pos, nz_le0, nz_eq1, nz_lt1, nz_ge1, nz_le1, nz_gt1, nz_vp, nz_vp0, nz_vp1, six_nI, vix_nI, bix_nI, pix_nI, fix_nI, gix_nI, rix_nI, zix_nI, pix_0, pix_1, bix_0, fix_0, fix_1, rix_1, true_and, and_true]
    rw [ec]
    simp (disch := omega) only [li_2, li_3, li_4, li_5, li_6, li_7, li_8, li_9, li_10, li_12, li_14, li_20, li_26, li_30, li_31, li_36, li_38, li_47, li_48, li_50, li_57, li_58, li_80, li_98, li_99, li_100, li_102, li_104, li_105, li_108, li_109, li_110, li_114, li_115, li_119, li_122, li_137, li_146, li_147, li_148, li_149, li_150, li_200, li_255, li_256, li_274, li_510, li_512, li_640, li_999, li_1000, li_1024, li_3334, li_5000, li_9999, li_10000, li_23338, li_26672, li_30000, li_99999, li_150000, li_300000, pk_mul, nI_add, pk_sub, nI_clamp, nI_1, nI_p1, nI_a0, nI_0a, nI_m0, nI_m1, cl_0, cl_1, z01, z11, nI_leI, nI_ltI, nI_eq, nz_lt0, nz_le, nz_eq0, nz_pos, nz_le0, nz_eq1, nz_lt1, nz_ge1, nz_le1, nz_gt1, nz_vp, nz_vp0, nz_vp1, six_nI, vix_nI, bix_nI, pix_nI, fix_nI, gix_nI, rix_nI, zix_nI, pix_0, pix_1, bix_0, fix_0, fix_1, rix_1, true_and, and_true]
    exact ⟨by omega, fun _ => hK, fun c => absurd (by omega) c⟩
  | succ k ih =>
    intro i fuel hi hf hK
    obtain ⟨f, rfl⟩ : ∃ f, fuel = f + 1 := ⟨fuel - 1, by omega⟩; rw [wp_X11_setsBreak_16]; unfold wb_X11_setsBreak_16; dsimp only
    simp (disch := omega) only [li_2, li_3, li_4, li_5, li_6, li_7, li_8, li_9, li_10, li_12, li_14, li_20, li_26, li_30, li_31, li_36, li_38, li_47, li_48, li_50, li_57, li_58, li_80, li_98, li_99, li_100, li_102, li_104, li_105, li_108, li_109, li_110, li_114, li_115, li_119, li_122, li_137, li_146, li_147, li_148, li_149, li_150, li_200, li_255, li_256, li_274, li_510, li_512, li_640, li_999, li_1000, li_1024, li_3334, li_5000, li_9999, li_10000, li_23338, li_26672, li_30000, li_99999, li_150000, li_300000, pk_mul, nI_add, pk_sub, nI_clamp, nI_1, nI_p1, nI_a0, nI_0a, nI_m0, nI_m1, cl_0, cl_1, z01, z11, nI_leI, nI_ltI, nI_eq, nz_lt0, nz_le, nz_eq0, nz_pos, nz_le0, nz_eq1, nz_lt1, nz_ge1, nz_le1, nz_gt1, nz_vp, nz_vp0, nz_vp1, six_nI, vix_nI, bix_nI, pix_nI, fix_nI, gix_nI, rix_nI, zix_nI, pix_0, pix_1, bix_0, fix_0, fix_1, rix_1, true_and, and_true]
    rw [ec]
    simp (disch := omega) only [li_2, li_3, li_4, li_5, li_6, li_7, li_8, li_9, li_10, li_12, li_14, li_20, li_26, li_30, li_31, li_36, li_38, li_47, li_48, li_50, li_57, li_58, li_80, li_98, li_99, li_100, li_102, li_104, li_105, li_108, li_109, li_110, li_114, li_115, li_119, li_122, li_137, li_146, li_147, li_148, li_149, li_150, li_200, li_255, li_256, li_274, li_510, li_512, li_640, li_999, li_1000, li_1024, li_3334, li_5000, li_9999, li_10000, li_23338, li_26672, li_30000, li_99999, li_150000, li_300000, pk_mul, nI_add, pk_sub, nI_clamp, nI_1, nI_p1, nI_a0, nI_0a, nI_m0, nI_m1, cl_0, cl_1, z01, z11, nI_leI, nI_ltI, nI_eq, nz_lt0, nz_le, nz_eq0, nz_pos, nz_le0, nz_eq1, nz_lt1, nz_ge1, nz_le1, nz_gt1, nz_vp, nz_vp0, nz_vp1, six_nI, vix_nI, bix_nI, pix_nI, fix_nI, gix_nI, rix_nI, zix_nI, pix_0, pix_1, bix_0, fix_0, fix_1, rix_1, true_and, and_true]
    rw [bxF] at hK
    refine ⟨by omega, fun c => absurd c (by omega), fun _ => ⟨by omega, fun c => ?_, fun c v6 e6 => ?_⟩⟩
    · rw [if_neg (Int32.not_lt.mpr c)] at hK
      exact hK
    · rw [if_pos (Int32.not_le.mp c)] at hK
      subst e6
      exact ih (i + 1) f (by omega) (by omega) hK
theorem rl_up {P : Int32 → RST → Prop} {K : Int32 → Int32 → Int32 → Int32 → Int32 → Int32 → Int32 → (Nat → Int32) → (Nat → Nat → Int32) → Prop} {r : Nat → Int32} {μ : Nat → Int32} {v z c i : Nat} {w p : Int32} (hv : v < 6) (h1 : 1 ≤ z) (h9 : z ≤ 9) (hc : c ≤ 4) (hi : i ≤ c) : ∀ (m fuel : Nat) (q : Nat → Nat → Int32), i * 2 + m ≤ 2 * c → m < fuel → q 0 = (fun k => if 274 + 510 * v + 47 + 10 * (z - 1) + 2 * i + m + 2 ≤ k ∧ k < 274 + 510 * v + 47 + 10 * (z - 1) + 2 * c + 2 then μ (k - 2) else μ k) → (∀ q1, kQ q q1 [0] → q1 0 = bkU μ v z i c → K (nI v) (nI z) w p (nI (274 + 510 * v + 38 + z - 1)) (nI i) 0 r q1) → wp_X11_setsBreak_207 K P fuel (nI v) (nI z) w p (nI (274 + 510 * v + 38 + z - 1)) (nI i) 0 (nI (274 + 510 * v + 47 + 10 * (z - 1) + 2 * i + m - 1)) r q := by
  intro m
  induction m with
  | zero =>
    intro fuel q hm hf hq hK
    obtain ⟨f, rfl⟩ : ∃ f, fuel = f + 1 := ⟨fuel - 1, by omega⟩; rw [wp_X11_setsBreak_207]; unfold wb_X11_setsBreak_207; dsimp only
    simp (disch := omega) only [li_2, li_3, li_4, li_5, li_6, li_7, li_8, li_9, li_10, li_12, li_14, li_20, li_26, li_30, li_31, li_36, li_38, li_47, li_48, li_50, li_57, li_58, li_80, li_98, li_99, li_100, li_102, li_104, li_105, li_108, li_109, li_110, li_114, li_115, li_119, li_122, li_137, li_146, li_147, li_148, li_149, li_150, li_200, li_255, li_256, li_274, li_510, li_512, li_640, li_999, li_1000, li_1024, li_3334, li_5000, li_9999, li_10000, li_23338, li_26672, li_30000, li_99999, li_150000, li_300000, pk_mul, nI_add, pk_sub, nI_clamp, nI_1, nI_p1, nI_a0, nI_0a, nI_m0, nI_m1, cl_0, cl_1, z01, z11, nI_leI, nI_ltI, nI_eq, nz_lt0, nz_le, nz_eq0, nz_pos, nz_le0, nz_eq1, nz_lt1, nz_ge1, nz_le1, nz_gt1, nz_vp, nz_vp0, nz_vp1, six_nI, vix_nI, bix_nI, pix_nI, fix_nI, gix_nI, rix_nI, zix_nI, pix_0, pix_1, bix_0, fix_0, fix_1, rix_1, true_and, and_true]
    refine ⟨fun _ => hK q kQ.rf ?_, fun c => absurd (by omega) c⟩
    rw [hq]
    rfl
  | succ m ih =>
    intro fuel q hm hf hq hK
    obtain ⟨f, rfl⟩ : ∃ f, fuel = f + 1 := ⟨fuel - 1, by omega⟩; rw [wp_X11_setsBreak_207]; unfold wb_X11_setsBreak_207; dsimp only
    simp (disch := omega) only [li_2, li_3, li_4, li_5, li_6, li_7, li_8, li_9, li_10, li_12, li_14, li_20, li_26, li_30, li_31, li_36, li_38, li_47, li_48, li_50, li_57, li_58, li_80, li_98, li_99, li_100, li_102, li_104, li_105, li_108, li_109, li_110, li_114, li_115, li_119, li_122, li_137, li_146, li_147, li_148, li_149, li_150, li_200, li_255, li_256, li_274, li_510, li_512, li_640, li_999, li_1000, li_1024, li_3334, li_5000, li_9999, li_10000, li_23338, li_26672, li_30000, li_99999, li_150000, li_300000, pk_mul, nI_add, pk_sub, nI_clamp, nI_1, nI_p1, nI_a0, nI_0a, nI_m0, nI_m1, cl_0, cl_1, z01, z11, nI_leI, nI_ltI, nI_eq, nz_lt0, nz_le, nz_eq0, nz_pos, nz_le0, nz_eq1, nz_lt1, nz_ge1, nz_le1, nz_gt1, nz_vp, nz_vp0, nz_vp1, six_nI, vix_nI, bix_nI, pix_nI, fix_nI, gix_nI, rix_nI, zix_nI, pix_0, pix_1, bix_0, fix_0, fix_1, rix_1, true_and, and_true]
    refine ⟨fun c => absurd c (by omega), fun _ => ⟨fun c => absurd trivial c, fun _ => ⟨by omega, by omega, fun q27 e27 v28 e28 => ?_⟩⟩⟩
    rw [nI_m _ (by omega)] at e28
    subst e28
    have k27 : kQ q q27 [0] := by rw [e27]; exact kQ.rf.up (by decide) _
    have := ih f q27 (by omega) (by omega) ?_ (fun q1 h1 h2 => hK q1 (k27.tr h1 (fun _ h => h) (fun _ h => h)) h2)
    · exact this
    · rw [e27, va_up_self, hq]
      funext k
      by_cases e : k = 274 + 510 * v + 47 + 10 * (z - 1) + 2 * i + (m + 1) - 1 + 2
      · subst e
        rw [pk_us, if_pos (by omega)]
        dsimp only
        rw [if_neg (by omega)]
        congr 1
      · rw [pk_un e]
        by_cases c1 : 274 + 510 * v + 47 + 10 * (z - 1) + 2 * i + m + 2 ≤ k ∧ k < 274 + 510 * v + 47 + 10 * (z - 1) + 2 * c + 2
        · rw [if_pos c1, if_pos (by omega)]
        · rw [if_neg c1, if_neg (by omega)]
theorem rl_dn {P : Int32 → RST → Prop} {r : Nat → Int32} {μ : Nat → Int32} {v z c i : Nat} (hv : v < 6) (h1 : 1 ≤ z) (h9 : z ≤ 9) (hc : c ≤ 5) (hi : i < c) : ∀ (m x fuel : Nat) (q : Nat → Nat → Int32), x + m = 274 + 510 * v + 47 + 10 * (z - 1) + 2 * (c - 1) → 274 + 510 * v + 47 + 10 * (z - 1) + 2 * i ≤ x → m < fuel → q 0 = (fun k => if k = 274 + 510 * v + 38 + z - 1 then nI (c - 1) else if 274 + 510 * v + 47 + 10 * (z - 1) + 2 * i ≤ k ∧ k < x then μ (k + 2) else μ k) → (∀ q1, kQ q q1 [0] → q1 0 = bkD μ v z i c → P 1 (r, q1)) → wp_X11_setsBreak_150 P fuel (nI v) (nI z) (nI (274 + 510 * v + 38 + z - 1)) (nI x) r q := by
  intro m
  induction m with
  | zero =>
    intro x fuel q hm hx hf hq hK
    have em : q 0 (274 + 510 * v + 38 + z - 1) = nI (c - 1) := by rw [hq]; exact if_pos rfl
    obtain ⟨f, rfl⟩ : ∃ f, fuel = f + 1 := ⟨fuel - 1, by omega⟩; rw [wp_X11_setsBreak_150]; unfold wb_X11_setsBreak_150; dsimp only
    simp (disch := omega) only [li_2, li_3, li_4, li_5, li_6, li_7, li_8, li_9, li_10, li_12, li_14, li_20, li_26, li_30, li_31, li_36, li_38, li_47, li_48, li_50, li_57, li_58, li_80, li_98, li_99, li_100, li_102, li_104, li_105, li_108, li_109, li_110, li_114, li_115, li_119, li_122, li_137, li_146, li_147, li_148, li_149, li_150, li_200, li_255, li_256, li_274, li_510, li_512, li_640, li_999, li_1000, li_1024, li_3334, li_5000, li_9999, li_10000, li_23338, li_26672, li_30000, li_99999, li_150000, li_300000, pk_mul, nI_add, pk_sub, nI_clamp, nI_1, nI_p1, nI_a0, nI_0a, nI_m0, nI_m1, cl_0, cl_1, z01, z11, nI_leI, nI_ltI, nI_eq, nz_lt0, nz_le, nz_eq0, nz_pos, nz_le0, nz_eq1, nz_lt1, nz_ge1, nz_le1, nz_gt1, nz_vp, nz_vp0, nz_vp1, six_nI, vix_nI, bix_nI, pix_nI, fix_nI, gix_nI, rix_nI, zix_nI, pix_0, pix_1, bix_0, fix_0, fix_1, rix_1, true_and, and_true]
    rw [em]
    simp (disch := omega) only [li_2, li_3, li_4, li_5, li_6, li_7, li_8, li_9, li_10, li_12, li_14, li_20, li_26, li_30, li_31, li_36, li_38, li_47, li_48, li_50, li_57, li_58, li_80, li_98, li_99, li_100, li_102, li_104, li_105, li_108, li_109, li_110, li_114, li_115, li_119, li_122, li_137, li_146, li_147, li_148, li_149, li_150, li_200, li_255, li_256, li_274, li_510, li_512, li_640, li_999, li_1000, li_1024, li_3334, li_5000, li_9999, li_10000, li_23338, li_26672, li_30000, li_99999, li_150000, li_300000, pk_mul, nI_add, pk_sub, nI_clamp, nI_1, nI_p1, nI_a0, nI_0a, nI_m0, nI_m1, cl_0, cl_1, z01, z11, nI_leI, nI_ltI, nI_eq, nz_lt0, nz_le, nz_eq0, nz_pos, nz_le0, nz_eq1, nz_lt1, nz_ge1, nz_le1, nz_gt1, nz_vp, nz_vp0, nz_vp1, six_nI, vix_nI, bix_nI, pix_nI, fix_nI, gix_nI, rix_nI, zix_nI, pix_0, pix_1, bix_0, fix_0, fix_1, rix_1, true_and, and_true]
    refine ⟨by omega, fun _ => hK q kQ.rf ?_, fun c => absurd (by omega) c⟩
    rw [hq]
    have : x = 274 + 510 * v + 47 + 10 * (z - 1) + 2 * (c - 1) := by omega
    rw [this]
    rfl
  | succ m ih =>
    intro x fuel q hm hx hf hq hK
    have em : q 0 (274 + 510 * v + 38 + z - 1) = nI (c - 1) := by rw [hq]; exact if_pos rfl
    obtain ⟨f, rfl⟩ : ∃ f, fuel = f + 1 := ⟨fuel - 1, by omega⟩; rw [wp_X11_setsBreak_150]; unfold wb_X11_setsBreak_150; dsimp only
    simp (disch := omega) only [li_2, li_3, li_4, li_5, li_6, li_7, li_8, li_9, li_10, li_12, li_14, li_20, li_26, li_30, li_31, li_36, li_38, li_47, li_48, li_50, li_57, li_58, li_80, li_98, li_99, li_100, li_102, li_104, li_105, li_108, li_109, li_110, li_114, li_115, li_119, li_122, li_137, li_146, li_147, li_148, li_149, li_150, li_200, li_255, li_256, li_274, li_510, li_512, li_640, li_999, li_1000, li_1024, li_3334, li_5000, li_9999, li_10000, li_23338, li_26672, li_30000, li_99999, li_150000, li_300000, pk_mul, nI_add, pk_sub, nI_clamp, nI_1, nI_p1, nI_a0, nI_0a, nI_m0, nI_m1, cl_0, cl_1, z01, z11, nI_leI, nI_ltI, nI_eq, nz_lt0, nz_le, nz_eq0, nz_pos, nz_le0, nz_eq1, nz_lt1, nz_ge1, nz_le1, nz_gt1, nz_vp, nz_vp0, nz_vp1, six_nI, vix_nI, bix_nI, pix_nI, fix_nI, gix_nI, rix_nI, zix_nI, pix_0, pix_1, bix_0, fix_0, fix_1, rix_1, true_and, and_true]
    rw [em]
    simp (disch := omega) only [li_2, li_3, li_4, li_5, li_6, li_7, li_8, li_9, li_10, li_12, li_14, li_20, li_26, li_30, li_31, li_36, li_38, li_47, li_48, li_50, li_57, li_58, li_80, li_98, li_99, li_100, li_102, li_104, li_105, li_108, li_109, li_110, li_114, li_115, li_119, li_122, li_137, li_146, li_147, li_148, li_149, li_150, li_200, li_255, li_256, li_274, li_510, li_512, li_640, li_999, li_1000, li_1024, li_3334, li_5000, li_9999, li_10000, li_23338, li_26672, li_30000, li_99999, li_150000, li_300000, pk_mul, nI_add, pk_sub, nI_clamp, nI_1, nI_p1, nI_a0, nI_0a, nI_m0, nI_m1, cl_0, cl_1, z01, z11, nI_leI, nI_ltI, nI_eq, nz_lt0, nz_le, nz_eq0, nz_pos, nz_le0, nz_eq1, nz_lt1, nz_ge1, nz_le1, nz_gt1, nz_vp, nz_vp0, nz_vp1, six_nI, vix_nI, bix_nI, pix_nI, fix_nI, gix_nI, rix_nI, zix_nI, pix_0, pix_1, bix_0, fix_0, fix_1, rix_1, true_and, and_true]
    refine ⟨by omega, fun c => absurd c (by omega), fun _ => ⟨by omega, by omega, fun q61 e61 v62 e62 => ?_⟩⟩
    subst e62
    have k61 : kQ q q61 [0] := by rw [e61]; exact kQ.rf.up (by decide) _
    refine ih (x + 1) f q61 (by omega) (by omega) (by omega) ?_ (fun q1 h1 h2 => hK q1 (k61.tr h1 (fun _ h => h) (fun _ h => h)) h2)
    rw [e61, va_up_self, hq]
    funext k
    by_cases e : k = x
    · subst e
      have a1 : ¬ (k + 2 = 274 + 510 * v + 38 + z - 1) := by omega
      have a2 : ¬ (274 + 510 * v + 47 + 10 * (z - 1) + 2 * i ≤ k + 2 ∧ k + 2 < k) := by omega
      have a3 : ¬ (k = 274 + 510 * v + 38 + z - 1) := by omega
      have a4 : 274 + 510 * v + 47 + 10 * (z - 1) + 2 * i ≤ k ∧ k < k + 1 := by omega
      rw [pk_us]
      dsimp only
      rw [if_neg a1, if_neg a2, if_neg a3, if_pos a4]
    · rw [pk_un e]
      by_cases c0 : k = 274 + 510 * v + 38 + z - 1
      · rw [if_pos c0, if_pos c0]
      · rw [if_neg c0, if_neg c0]
        by_cases c1 : 274 + 510 * v + 47 + 10 * (z - 1) + 2 * i ≤ k ∧ k < x
        · rw [if_pos c1, if_pos (by omega)]
        · rw [if_neg c1, if_neg (by omega)]
theorem w_sb125 {r : Nat → Int32} {q : Nat → Nat → Int32} {v z c : Nat} {w p : Int32} (hv : v < 6) (h1 : 1 ≤ z) (h9 : z ≤ 9) (hc : c ≤ 5) (ec : q 0 (274 + 510 * v + 38 + z - 1) = nI c) (hi : bxI (q 0) v z w ≤ c) (hB : bkB (q 0) v z w p = true) : wp_X11_setsBreak_125 (fun v1 u => v1 = b2i (bkB (q 0) v z w p) ∧ u.1 = r ∧ kQ q u.2 [0] ∧ (bkB (q 0) v z w p = true → u.2 0 = bkS (q 0) v z w p)) (nI v) (nI z) w p (nI (274 + 510 * v + 38 + z - 1)) (nI (bxI (q 0) v z w)) (b2i (bxB (q 0) v z w)) r q := by
  have ic : iv (q 0 (274 + 510 * v + 38 + z - 1)) = c := by rw [ec]; exact nI_clamp (by omega)
  have hB0 := hB
  unfold bkB at hB
  rw [Bool.and_eq_true] at hB
  generalize hI : bxI (q 0) v z w = i at *
  have hbx : bxB (q 0) v z w = true → i < c := fun h => by
    unfold bxB at h
    rw [hI, ic, Bool.and_eq_true, decide_eq_true_eq] at h
    exact h.1
  unfold wp_X11_setsBreak_125
  simp (disch := omega) only [li_2, li_3, li_4, li_5, li_6, li_7, li_8, li_9, li_10, li_12, li_14, li_20, li_26, li_30, li_31, li_36, li_38, li_47, li_48, li_50, li_57, li_58, li_80, li_98, li_99, li_100, li_102, li_104, li_105, li_108, li_109, li_110, li_114, li_115, li_119, li_122, li_137, li_146, li_147, li_148, li_149, li_150, li_200, li_255, li_256, li_274, li_510, li_512, li_640, li_999, li_1000, li_1024, li_3334, li_5000, li_9999, li_10000, li_23338, li_26672, li_30000, li_99999, li_150000, li_300000, pk_mul, nI_add, pk_sub, nI_clamp, nI_1, nI_p1, nI_a0, nI_0a, nI_m0, nI_m1, cl_0, cl_1, z01, z11, nI_leI, nI_ltI, nI_eq, nz_lt0, nz_le, nz_eq0, nz_pos, nz_le0, nz_eq1, nz_lt1, nz_ge1, nz_le1, nz_gt1, nz_vp, nz_vp0, nz_vp1, six_nI, vix_nI, bix_nI, pix_nI, fix_nI, gix_nI, rix_nI, zix_nI, pix_0, pix_1, bix_0, fix_0, fix_1, rix_1, true_and, and_true]
  rw [ec]
  refine ⟨fun cp => ⟨by omega, fun v22 e22 => ?_⟩, fun cp => ⟨by omega, by omega, fun q55 e55 v56 e56 => ?_⟩⟩
  · have e22' : v22 = nI (274 + 510 * v + 47 + 10 * (z - 1) + 2 * c - 1) := by rw [e22]; simp (disch := omega) only [li_2, li_3, li_4, li_5, li_6, li_7, li_8, li_9, li_10, li_12, li_14, li_20, li_26, li_30, li_31, li_36, li_38, li_47, li_48, li_50, li_57, li_58, li_80, li_98, li_99, li_100, li_102, li_104, li_105, li_108, li_109, li_110, li_114, li_115, li_119, li_122, li_137, li_146, li_147, li_148, li_149, li_150, li_200, li_255, li_256, li_274, li_510, li_512, li_640, li_999, li_1000, li_1024, li_3334, li_5000, li_9999, li_10000, li_23338, li_26672, li_30000, li_99999, li_150000, li_300000, pk_mul, nI_add, pk_sub, nI_clamp, nI_1, nI_p1, nI_a0, nI_0a, nI_m0, nI_m1, cl_0, cl_1, z01, z11]
    clear e22
    subst e22'
    have hS : bkS (q 0) v z w p = if bxB (q 0) v z w = true then upd (upd (q 0) (274 + 510 * v + 47 + 10 * (z - 1) + 2 * i) w) (274 + 510 * v + 47 + 10 * (z - 1) + 2 * i + 1) p else upd (upd (upd (bkU (q 0) v z i c) (274 + 510 * v + 38 + z - 1) (nI c + 1)) (274 + 510 * v + 47 + 10 * (z - 1) + 2 * i) w) (274 + 510 * v + 47 + 10 * (z - 1) + 2 * i + 1) p := by
      unfold bkS
      rw [if_neg cp, hI, ic, ec]
    -- the end: the weight and the rate
    have fin : ∀ (b : Bool) (q1 : Nat → Nat → Int32), kQ q q1 [0] → b = bxB (q 0) v z w → q1 0 (274 + 510 * v + 38 + z - 1) = nI c → (q1 0 = if b = true then q 0 else bkU (q 0) v z i c) → wp_X11_setsBreak_246 (fun v1 u => v1 = b2i (bkB (q 0) v z w p) ∧ u.1 = r ∧ kQ q u.2 [0] ∧ (bkB (q 0) v z w p = true → u.2 0 = bkS (q 0) v z w p)) (nI v) (nI z) w p (nI (274 + 510 * v + 38 + z - 1)) (nI i) (b2i b) r q1 := by
      intro b q1 hk hb e0 hq
      unfold wp_X11_setsBreak_246
      simp (disch := omega) only [li_2, li_3, li_4, li_5, li_6, li_7, li_8, li_9, li_10, li_12, li_14, li_20, li_26, li_30, li_31, li_36, li_38, li_47, li_48, li_50, li_57, li_58, li_80, li_98, li_99, li_100, li_102, li_104, li_105, li_108, li_109, li_110, li_114, li_115, li_119, li_122, li_137, li_146, li_147, li_148, li_149, li_150, li_200, li_255, li_256, li_274, li_510, li_512, li_640, li_999, li_1000, li_1024, li_3334, li_5000, li_9999, li_10000, li_23338, li_26672, li_30000, li_99999, li_150000, li_300000, pk_mul, nI_add, pk_sub, nI_clamp, nI_1, nI_p1, nI_a0, nI_0a, nI_m0, nI_m1, cl_0, cl_1, z01, z11, nI_leI, nI_ltI, nI_eq, nz_lt0, nz_le, nz_eq0, nz_pos, nz_le0, nz_eq1, nz_lt1, nz_ge1, nz_le1, nz_gt1, nz_vp, nz_vp0, nz_vp1, six_nI, vix_nI, bix_nI, pix_nI, fix_nI, gix_nI, rix_nI, zix_nI, pix_0, pix_1, bix_0, fix_0, fix_1, rix_1, true_and, and_true]
      rw [e0]
      refine ⟨by omega, fun c0 => ⟨by omega, fun q41 e41 => ⟨by omega, fun q43 e43 => ⟨by omega, fun q45 e45 => ?_⟩⟩⟩, fun c0 => ⟨by omega, fun q41 e41 => ⟨by omega, fun q43 e43 => ⟨by omega, fun q45 e45 => ?_⟩⟩⟩⟩
      · have hb0 : b = false := (b2i_0 _).mp c0
        refine ⟨by rw [hB0]; rfl, by rw [e45, e43, e41]; exact ((hk.up (by decide) _).up (by decide) _).up (by decide) _, fun _ => ?_⟩
        rw [hS, ← hb, hb0, if_neg (by decide), e45, va_up_self, e43, va_up_self, e41, va_up_self, hq, hb0, if_neg (by decide)]
      · have hb1 : b = true := bx_of rfl c0
        refine ⟨by rw [hB0]; rfl, by rw [e45, e43, e41]; exact ((hk.up (by decide) _).up (by decide) _).up (by decide) _, fun _ => ?_⟩
        rw [hS, ← hb, hb1, if_pos rfl, e45, va_up_self, e43, va_up_self, e41, va_up_self, hq, hb1, if_pos rfl]
        congr 2
        funext k
        by_cases e : k = 274 + 510 * v + 38 + z - 1
        · rw [e, pk_us, ec, Int32.add_zero]
        · rw [pk_un e]
    cases hb : bxB (q 0) v z w with
    | true =>
      refine ⟨1, ?_⟩
      rw [wp_X11_setsBreak_207]; unfold wb_X11_setsBreak_207; dsimp only
      simp (disch := omega) only [li_2, li_3, li_4, li_5, li_6, li_7, li_8, li_9, li_10, li_12, li_14, li_20, li_26, li_30, li_31, li_36, li_38, li_47, li_48, li_50, li_57, li_58, li_80, li_98, li_99, li_100, li_102, li_104, li_105, li_108, li_109, li_110, li_114, li_115, li_119, li_122, li_137, li_146, li_147, li_148, li_149, li_150, li_200, li_255, li_256, li_274, li_510, li_512, li_640, li_999, li_1000, li_1024, li_3334, li_5000, li_9999, li_10000, li_23338, li_26672, li_30000, li_99999, li_150000, li_300000, pk_mul, nI_add, pk_sub, nI_clamp, nI_1, nI_p1, nI_a0, nI_0a, nI_m0, nI_m1, cl_0, cl_1, z01, z11, nI_leI, nI_ltI, nI_eq, nz_lt0, nz_le, nz_eq0, nz_pos, nz_le0, nz_eq1, nz_lt1, nz_ge1, nz_le1, nz_gt1, nz_vp, nz_vp0, nz_vp1, six_nI, vix_nI, bix_nI, pix_nI, fix_nI, gix_nI, rix_nI, zix_nI, pix_0, pix_1, bix_0, fix_0, fix_1, rix_1, true_and, and_true]
      have := hbx hb
      have f1 := fin true q kQ.rf hb.symm ec rfl
      rw [hb] at *
      exact ⟨fun c => absurd c (by omega), fun _ => ⟨fun _ => f1, fun c => absurd c (by decide)⟩⟩
    | false =>
      have hc5 : c ≤ 4 := by
        have := hB.2
        rw [if_neg cp, hb, ec] at this
        rcases Nat.lt_or_ge c 5 with q5 | q5
        · omega
        · have e5 : c = 5 := by omega
          subst e5
          exact absurd this (by decide)
      refine ⟨100, ?_⟩
      have := rl_up (P := fun v1 u => v1 = b2i (bkB (q 0) v z w p) ∧ u.1 = r ∧ kQ q u.2 [0] ∧ (bkB (q 0) v z w p = true → u.2 0 = bkS (q 0) v z w p)) (K := fun y29 y30 y31 y32 y33 y34 y35 r36 q37 => wp_X11_setsBreak_246 (fun v1 u => v1 = b2i (bkB (q 0) v z w p) ∧ u.1 = r ∧ kQ q u.2 [0] ∧ (bkB (q 0) v z w p = true → u.2 0 = bkS (q 0) v z w p)) y29 y30 y31 y32 y33 y34 y35 r36 q37) (r := r) (μ := q 0) (w := w) (p := p) hv h1 h9 hc5 hi (2 * c - 2 * i) 100 q (by omega) (by omega) ?_ (fun q1 k1 k2 => ?_)
      · rw [show 274 + 510 * v + 47 + 10 * (z - 1) + 2 * i + (2 * c - 2 * i) - 1 = 274 + 510 * v + 47 + 10 * (z - 1) + 2 * c - 1 by omega] at this
        exact this
      · funext k
        rw [if_neg (by omega)]
      · have f1 := fin false q1 k1 hb.symm ?_ (by rw [k2]; rfl)
        · exact f1
        · rw [k2]
          unfold bkU
          rw [if_neg (by omega)]
          exact ec
  · have hb : bxB (q 0) v z w = true := by
      have := hB.2
      rw [if_pos cp] at this
      exact this
    have hic := hbx hb
    have e56' : v56 = nI (274 + 510 * v + 47 + 10 * (z - 1) + 2 * i) := by rw [e56]
    clear e56
    subst e56'
    refine ⟨100, ?_⟩
    have k55 : kQ q q55 [0] := by rw [e55]; exact kQ.rf.up (by decide) _
    refine rl_dn (μ := q 0) (c := c) (i := i) hv h1 h9 hc hic (2 * (c - 1) - 2 * i) _ 100 q55 (by omega) (Nat.le_refl _) (by omega) ?_ (fun q1 g1 g2 => ⟨by rw [hB0]; rfl, rfl, k55.tr g1 (fun _ h => h) (fun _ h => h), fun _ => ?_⟩)
    · rw [e55, va_up_self]
      funext k
      by_cases e : k = 274 + 510 * v + 38 + z - 1
      · subst e
        rw [pk_us, if_pos rfl, nI_p1 (by omega)]
      · rw [pk_un e, if_neg e, if_neg (by omega)]
    · dsimp only
      rw [g2]
      unfold bkS
      rw [if_pos cp, hI, ic]
theorem kd_X11_setsBreak (l : Launch) (D : va_G) (T : Nat → ClassId) (m0 : Nat) (a : Nat → Nat) (p0 : Int32) (p1 : Int32) (p2 : Int32) (p3 : Int32) (r : Nat → Int32) (q : Nat → Nat → Int32) (h : WF (q 0) ∧ vix p0 ∧ zix p1 ∧ ∃ n : Nat, n ≤ 9999 ∧ p3 = nI n) : RMi l yX11_setsBreak (ws_X11_setsBreak) rm_X11_setsBreak D T m0 a [.ref m0, .int p0, .int p1, .int p2, .int p3] r q (fun v u => (v = b2i (bkB (q 0) (iv p0) (iv p1) p2 p3) ∧ u.1 = r ∧ kQ q u.2 [0] ∧ (bkB (q 0) (iv p0) (iv p1) p2 p3 = true → u.2 0 = bkS (q 0) (iv p0) (iv p1) p2 p3))) := c_X11_setsBreak l D T m0 a p0 p1 p2 p3 r q _ <|
  (by
    obtain ⟨hw, ⟨v, hv, e0⟩, ⟨z, h1, h9, e1⟩, ⟨p, hp, e3⟩⟩ := h
    subst e0 e1
    obtain ⟨c, hc, ec⟩ := hw.brk hv h1 h9
    have ev : iv (nI v) = v := nI_clamp (by omega)
    have ez : iv (nI z) = z := nI_clamp (by omega)
    have ic : iv (q 0 (274 + 510 * v + 38 + z - 1)) = c := by rw [ec]; exact nI_clamp (by omega)
    rw [ev, ez]
    have hi : bxI (q 0) v z p2 ≤ c := by
      have := (bxF_le (μ := q 0) (v := v) (z := z) (w := p2) (iv (q 0 (274 + 510 * v + 38 + z - 1))) 0).2
      unfold bxI
      omega
    unfold wp_X11_setsBreak
    intro v1 e1
    have e1' : v1 = nI (274 + 510 * v + 38 + z - 1) := by rw [e1]; simp (disch := omega) only [li_2, li_3, li_4, li_5, li_6, li_7, li_8, li_9, li_10, li_12, li_14, li_20, li_26, li_30, li_31, li_36, li_38, li_47, li_48, li_50, li_57, li_58, li_80, li_98, li_99, li_100, li_102, li_104, li_105, li_108, li_109, li_110, li_114, li_115, li_119, li_122, li_137, li_146, li_147, li_148, li_149, li_150, li_200, li_255, li_256, li_274, li_510, li_512, li_640, li_999, li_1000, li_1024, li_3334, li_5000, li_9999, li_10000, li_23338, li_26672, li_30000, li_99999, li_150000, li_300000, pk_mul, nI_add, pk_sub, nI_clamp, nI_1, nI_p1, nI_a0, nI_0a, nI_m0, nI_m1, cl_0, cl_1, z01, z11]
    clear e1
    subst e1'
    refine ⟨100, rl_bx hv h1 h9 hc ec c 0 100 (by omega) (by omega) ?_⟩
    have hI : bxF (q 0) v z p2 c 0 = bxI (q 0) v z p2 := by unfold bxI; rw [ic]
    rw [hI]
    -- the flag
    have main : wp_X11_setsBreak_83 (fun v1 u => v1 = b2i (bkB (q 0) v z p2 p3) ∧ u.1 = r ∧ kQ q u.2 [0] ∧ (bkB (q 0) v z p2 p3 = true → u.2 0 = bkS (q 0) v z p2 p3)) (nI v) (nI z) p2 p3 (nI (274 + 510 * v + 38 + z - 1)) (nI (bxI (q 0) v z p2)) (b2i (bxB (q 0) v z p2)) r q := by
      have yes := fun hB => w_sb125 (r := r) (p := p3) hv h1 h9 hc ec hi hB
      have no : bkB (q 0) v z p2 p3 = false → ((fun (v1 : Int32) (u : RST) => v1 = b2i (bkB (q 0) v z p2 p3) ∧ u.1 = r ∧ kQ q u.2 [0] ∧ (bkB (q 0) v z p2 p3 = true → u.2 0 = bkS (q 0) v z p2 p3)) 0 (r, q)) := fun hB => ⟨by rw [hB]; rfl, rfl, kQ.rf, fun z => by rw [hB] at z; cases z⟩
      generalize hbb : bxB (q 0) v z p2 = b at *
      have e5 : (q 0 (274 + 510 * v + 38 + z - 1) = (5 : Int32)) = (c = 5) := by rw [ec]; exact propext (nI_eq (b := 5) (by omega) (by decide))
      have eb : bkB (q 0) v z p2 p3 = (!decide (99 < p3) && (if p3 = 0 then b else b || !decide (q 0 (274 + 510 * v + 38 + z - 1) = 5))) := by unfold bkB; rw [hbb]
      unfold wp_X11_setsBreak_83
      rw [show vp_in (nI (274 + 510 * v + 38 + z - 1)) 3334 = (274 + 510 * v + 38 + z - 1 < 3334) from nz_vp (by omega) (by decide), nI_clamp (n := 274 + 510 * v + 38 + z - 1) (by omega)]
      refine ⟨fun c1 => no (by rw [eb, decide_eq_true c1]; rfl), fun c1 => ⟨fun c2 => ⟨fun c3 => ?_, fun c3 => ⟨fun c4 => ?_, fun c4 => ⟨by omega, fun c5 => ?_, fun c5 => ?_⟩⟩⟩, fun c2 => ⟨fun c4 => ?_, fun c4 => ⟨fun c3 => ?_, fun c3 => absurd (by rw [c2]; decide) c3⟩⟩⟩⟩
      · exfalso
        rw [e3] at c2 c3
        rw [nz_le0 (by omega)] at c3
        rw [nz_eq0 (by omega)] at c2
        omega
      · have hb : b = true := bx_of rfl c4
        refine yes ?_
        rw [eb, decide_eq_false c1, if_neg c2, hb]; rfl
      · have hb : b = false := (b2i_0 _).mp c4
        refine yes ?_
        rw [eb, decide_eq_false c1, if_neg c2, hb, decide_eq_false c5]; rfl
      · have hb : b = false := (b2i_0 _).mp c4
        refine no ?_
        rw [eb, decide_eq_false c1, if_neg c2, hb, decide_eq_true c5]; rfl
      · have hb : b = false := (b2i_0 _).mp c4
        refine no ?_
        rw [eb, decide_eq_false c1, if_pos c2, hb]; rfl
      · have hb : b = true := bx_of rfl c4
        refine yes ?_
        rw [eb, decide_eq_false c1, if_pos c2, hb]; rfl
    unfold wp_X11_setsBreak_50
    simp (disch := omega) only [li_2, li_3, li_4, li_5, li_6, li_7, li_8, li_9, li_10, li_12, li_14, li_20, li_26, li_30, li_31, li_36, li_38, li_47, li_48, li_50, li_57, li_58, li_80, li_98, li_99, li_100, li_102, li_104, li_105, li_108, li_109, li_110, li_114, li_115, li_119, li_122, li_137, li_146, li_147, li_148, li_149, li_150, li_200, li_255, li_256, li_274, li_510, li_512, li_640, li_999, li_1000, li_1024, li_3334, li_5000, li_9999, li_10000, li_23338, li_26672, li_30000, li_99999, li_150000, li_300000, pk_mul, nI_add, pk_sub, nI_clamp, nI_1, nI_p1, nI_a0, nI_0a, nI_m0, nI_m1, cl_0, cl_1, z01, z11, nI_leI, nI_ltI, nI_eq, nz_lt0, nz_le, nz_eq0, nz_pos, nz_le0, nz_eq1, nz_lt1, nz_ge1, nz_le1, nz_gt1, nz_vp, nz_vp0, nz_vp1, six_nI, vix_nI, bix_nI, pix_nI, fix_nI, gix_nI, rix_nI, zix_nI, pix_0, pix_1, bix_0, fix_0, fix_1, rix_1, true_and, and_true]
    rw [ec]
    simp (disch := omega) only [li_2, li_3, li_4, li_5, li_6, li_7, li_8, li_9, li_10, li_12, li_14, li_20, li_26, li_30, li_31, li_36, li_38, li_47, li_48, li_50, li_57, li_58, li_80, li_98, li_99, li_100, li_102, li_104, li_105, li_108, li_109, li_110, li_114, li_115, li_119, li_122, li_137, li_146, li_147, li_148, li_149, li_150, li_200, li_255, li_256, li_274, li_510, li_512, li_640, li_999, li_1000, li_1024, li_3334, li_5000, li_9999, li_10000, li_23338, li_26672, li_30000, li_99999, li_150000, li_300000, pk_mul, nI_add, pk_sub, nI_clamp, nI_1, nI_p1, nI_a0, nI_0a, nI_m0, nI_m1, cl_0, cl_1, z01, z11, nI_leI, nI_ltI, nI_eq, nz_lt0, nz_le, nz_eq0, nz_pos, nz_le0, nz_eq1, nz_lt1, nz_ge1, nz_le1, nz_gt1, nz_vp, nz_vp0, nz_vp1, six_nI, vix_nI, bix_nI, pix_nI, fix_nI, gix_nI, rix_nI, zix_nI, pix_0, pix_1, bix_0, fix_0, fix_1, rix_1, true_and, and_true]
    refine ⟨by omega, fun c1 => ?_, fun c1 => ⟨by omega, fun c2 => ?_, fun c2 => ?_⟩⟩
    · have hb : bxB (q 0) v z p2 = false := by unfold bxB; rw [ic, decide_eq_false (by omega)]; rfl
      rw [hb] at main; exact main
    · have hb : bxB (q 0) v z p2 = false := by unfold bxB; rw [decide_eq_false c2, Bool.and_false]
      rw [hb] at main; exact main
    · have hb : bxB (q 0) v z p2 = true := by unfold bxB; rw [ic, decide_eq_true (by omega), decide_eq_true c2]; rfl
      rw [hb] at main; exact main)
theorem rl_rm {P : Int32 → RST → Prop} {r : Nat → Int32} {μ : Nat → Int32} {v a : Nat} {x : Int32} (hv : v < 6) (ha : a < 10) (hx : vz x) : ∀ (m j fuel : Nat) (q : Nat → Nat → Int32), j + m = 36 → m < fuel → q 0 = zf μ (274 + 510 * v + 150 + 36 * a) j → (∀ q1, kQ q q1 [0] → q1 0 = zf μ (274 + 510 * v + 150 + 36 * a) 36 → P x (r, q1)) → wp_X11_removes_23 P fuel (nI v) (nI a) x (nI j) r q := by
  intro m
  induction m with
  | zero =>
    intro j fuel q hm hf hq hK
    obtain ⟨f, rfl⟩ : ∃ f, fuel = f + 1 := ⟨fuel - 1, by omega⟩; rw [wp_X11_removes_23]; unfold wb_X11_removes_23; dsimp only
    simp (disch := omega) only [li_2, li_3, li_4, li_5, li_6, li_7, li_8, li_9, li_10, li_12, li_14, li_20, li_26, li_30, li_31, li_36, li_38, li_47, li_48, li_50, li_57, li_58, li_80, li_98, li_99, li_100, li_102, li_104, li_105, li_108, li_109, li_110, li_114, li_115, li_119, li_122, li_137, li_146, li_147, li_148, li_149, li_150, li_200, li_255, li_256, li_274, li_510, li_512, li_640, li_999, li_1000, li_1024, li_3334, li_5000, li_9999, li_10000, li_23338, li_26672, li_30000, li_99999, li_150000, li_300000, pk_mul, nI_add, pk_sub, nI_clamp, nI_1, nI_p1, nI_a0, nI_0a, nI_m0, nI_m1, cl_0, cl_1, z01, z11, nI_leI, nI_ltI, nI_eq, nz_lt0, nz_le, nz_eq0, nz_pos, nz_le0, nz_eq1, nz_lt1, nz_ge1, nz_le1, nz_gt1, nz_vp, nz_vp0, nz_vp1, six_nI, vix_nI, bix_nI, pix_nI, fix_nI, gix_nI, rix_nI, zix_nI, pix_0, pix_1, bix_0, fix_0, fix_1, rix_1, true_and, and_true]
    refine ⟨fun _ => ⟨hx, hK q kQ.rf ?_⟩, fun c => absurd (by omega) c⟩
    rw [hq, show j = 36 by omega]
  | succ m ih =>
    intro j fuel q hm hf hq hK
    obtain ⟨f, rfl⟩ : ∃ f, fuel = f + 1 := ⟨fuel - 1, by omega⟩; rw [wp_X11_removes_23]; unfold wb_X11_removes_23; dsimp only
    simp (disch := omega) only [li_2, li_3, li_4, li_5, li_6, li_7, li_8, li_9, li_10, li_12, li_14, li_20, li_26, li_30, li_31, li_36, li_38, li_47, li_48, li_50, li_57, li_58, li_80, li_98, li_99, li_100, li_102, li_104, li_105, li_108, li_109, li_110, li_114, li_115, li_119, li_122, li_137, li_146, li_147, li_148, li_149, li_150, li_200, li_255, li_256, li_274, li_510, li_512, li_640, li_999, li_1000, li_1024, li_3334, li_5000, li_9999, li_10000, li_23338, li_26672, li_30000, li_99999, li_150000, li_300000, pk_mul, nI_add, pk_sub, nI_clamp, nI_1, nI_p1, nI_a0, nI_0a, nI_m0, nI_m1, cl_0, cl_1, z01, z11, nI_leI, nI_ltI, nI_eq, nz_lt0, nz_le, nz_eq0, nz_pos, nz_le0, nz_eq1, nz_lt1, nz_ge1, nz_le1, nz_gt1, nz_vp, nz_vp0, nz_vp1, six_nI, vix_nI, bix_nI, pix_nI, fix_nI, gix_nI, rix_nI, zix_nI, pix_0, pix_1, bix_0, fix_0, fix_1, rix_1, true_and, and_true]
    refine ⟨fun c => absurd c (by omega), fun _ => ⟨by omega, fun q5 e5 v6 e6 => ?_⟩⟩
    subst e6
    have k5 : kQ q q5 [0] := by rw [e5]; exact kQ.rf.up (by decide) _
    refine ih (j + 1) f q5 (by omega) (by omega) ?_ (fun q1 h1 h2 => hK q1 (k5.tr h1 (fun _ h => h) (fun _ h => h)) h2)
    rw [e5, va_up_self, hq]
    funext k
    unfold zf
    by_cases e : k = 274 + 510 * v + 150 + 36 * a + j
    · subst e
      rw [pk_us, if_pos (by omega)]
    · rw [pk_un e]
      by_cases c : 274 + 510 * v + 150 + 36 * a ≤ k ∧ k < 274 + 510 * v + 150 + 36 * a + j
      · rw [if_pos c, if_pos (by omega)]
      · rw [if_neg c, if_neg (by omega)]
theorem kd_X11_removes (l : Launch) (D : va_G) (T : Nat → ClassId) (m0 : Nat) (a : Nat → Nat) (p0 : Int32) (p1 : Int32) (r : Nat → Int32) (q : Nat → Nat → Int32) (h : vix p0 ∧ six p1) : RMi l yX11_removes (ws_X11_removes) rm_X11_removes D T m0 a [.ref m0, .int p0, .int p1] r q (fun v u => (v = b2i (decide (q 0 (274 + 510 * iv p0 + 150 + 36 * iv p1) = 1)) ∧ u.1 = r ∧ u.2 = va_up q 0 (zf (q 0) (274 + 510 * iv p0 + 150 + 36 * iv p1) 36))) := c_X11_removes l D T m0 a p0 p1 r q _ <|
  (by
    obtain ⟨⟨v, hv, e0⟩, ⟨a, ha, e1⟩⟩ := h
    subst e0 e1
    have ev : iv (nI v) = v := nI_clamp (by omega)
    have ea : iv (nI a) = a := nI_clamp (by omega)
    rw [ev, ea]
    unfold wp_X11_removes
    simp (disch := omega) only [li_2, li_3, li_4, li_5, li_6, li_7, li_8, li_9, li_10, li_12, li_14, li_20, li_26, li_30, li_31, li_36, li_38, li_47, li_48, li_50, li_57, li_58, li_80, li_98, li_99, li_100, li_102, li_104, li_105, li_108, li_109, li_110, li_114, li_115, li_119, li_122, li_137, li_146, li_147, li_148, li_149, li_150, li_200, li_255, li_256, li_274, li_510, li_512, li_640, li_999, li_1000, li_1024, li_3334, li_5000, li_9999, li_10000, li_23338, li_26672, li_30000, li_99999, li_150000, li_300000, pk_mul, nI_add, pk_sub, nI_clamp, nI_1, nI_p1, nI_a0, nI_0a, nI_m0, nI_m1, cl_0, cl_1, z01, z11, nI_leI, nI_ltI, nI_eq, nz_lt0, nz_le, nz_eq0, nz_pos, nz_le0, nz_eq1, nz_lt1, nz_ge1, nz_le1, nz_gt1, nz_vp, nz_vp0, nz_vp1, six_nI, vix_nI, bix_nI, pix_nI, fix_nI, gix_nI, rix_nI, zix_nI, pix_0, pix_1, bix_0, fix_0, fix_1, rix_1, true_and, and_true]
    have fin : ∀ x : Int32, vz x → x = b2i (decide (q 0 (274 + 510 * v + 150 + 36 * a) = 1)) → ∃ k7 : Nat, wp_X11_removes_23 (fun v1 u => v1 = b2i (decide (q 0 (274 + 510 * v + 150 + 36 * a) = 1)) ∧ u.1 = r ∧ u.2 = va_up q 0 (zf (q 0) (274 + 510 * v + 150 + 36 * a) 36)) k7 (nI v) (nI a) x (nI 0) r q := by
      intro x hx he
      refine ⟨100, rl_rm (μ := q 0) hv ha hx 36 0 100 q (by omega) (by omega) ?_ (fun q1 h1 h2 => ⟨he, rfl, ?_⟩)⟩
      · funext k
        unfold zf
        rw [if_neg (by omega)]
      · dsimp only
        funext j
        by_cases e : j = 0
        · rw [e, h2, va_up_self]
        · rw [va_up_ne _ _ e]; exact h1 j (by simpa using e)
    refine ⟨by omega, fun c => ?_, fun c => ?_⟩
    · exact fin 0 vz0 (by rw [decide_eq_false c]; rfl)
    · exact fin 1 vz1 (by rw [decide_eq_true c]; rfl))
/-- the tests' copying -/
theorem rl_se {P : Int32 → RST → Prop} {r : Nat → Int32} {v a s t n : Nat} {x2 x3 rows excl : Int32} {μ w u : Nat → Int32} (hv : v < 6) (ha : a < 10) (hs : s + 8 ≤ 640) (htn : t + n ≤ 80) (et : w (s + 4) = nI t) : ∀ (m j fuel : Nat) (q : Nat → Nat → Int32), q 5 = w → q 6 = u → j + m = 30 → m < fuel → q 0 = (fun k => if 274 + 510 * v + 150 + 36 * a + 6 ≤ k ∧ k < 274 + 510 * v + 150 + 36 * a + 6 + j then (if k - (274 + 510 * v + 150 + 36 * a + 6) < n then u (t + (k - (274 + 510 * v + 150 + 36 * a + 6))) else 0) else (upd (upd (upd (upd (upd (upd μ (274 + 510 * v + 150 + 36 * a) 1) (274 + 510 * v + 150 + 36 * a + 1) x2) (274 + 510 * v + 150 + 36 * a + 2) x3) (274 + 510 * v + 150 + 36 * a + 3) rows) (274 + 510 * v + 150 + 36 * a + 4) (nI n)) (274 + 510 * v + 150 + 36 * a + 5) excl) k) → (∀ q1, kQ q q1 [0] → q1 0 = seF μ v a x2 x3 rows (nI n) (fun j => u (t + j)) excl → P 1 (r, q1)) → wp_X11_sets_163 P fuel (nI s) (nI (274 + 510 * v + 150 + 36 * a)) (nI j) r q := by
  intro m
  induction m with
  | zero =>
    intro j fuel q h5 h6 hm hf hq hK
    obtain ⟨f, rfl⟩ : ∃ f, fuel = f + 1 := ⟨fuel - 1, by omega⟩; rw [wp_X11_sets_163]; unfold wb_X11_sets_163; dsimp only
    simp (disch := omega) only [li_2, li_3, li_4, li_5, li_6, li_7, li_8, li_9, li_10, li_12, li_14, li_20, li_26, li_30, li_31, li_36, li_38, li_47, li_48, li_50, li_57, li_58, li_80, li_98, li_99, li_100, li_102, li_104, li_105, li_108, li_109, li_110, li_114, li_115, li_119, li_122, li_137, li_146, li_147, li_148, li_149, li_150, li_200, li_255, li_256, li_274, li_510, li_512, li_640, li_999, li_1000, li_1024, li_3334, li_5000, li_9999, li_10000, li_23338, li_26672, li_30000, li_99999, li_150000, li_300000, pk_mul, nI_add, pk_sub, nI_clamp, nI_1, nI_p1, nI_a0, nI_0a, nI_m0, nI_m1, cl_0, cl_1, z01, z11, nI_leI, nI_ltI, nI_eq, nz_lt0, nz_le, nz_eq0, nz_pos, nz_le0, nz_eq1, nz_lt1, nz_ge1, nz_le1, nz_gt1, nz_vp, nz_vp0, nz_vp1, six_nI, vix_nI, bix_nI, pix_nI, fix_nI, gix_nI, rix_nI, zix_nI, pix_0, pix_1, bix_0, fix_0, fix_1, rix_1, true_and, and_true]
    refine ⟨fun _ => hK q kQ.rf ?_, fun c => absurd (by omega) c⟩
    rw [hq, show j = 30 by omega]
    unfold seF
    rw [show iv (nI n) = n from nI_clamp (by omega)]
  | succ m ih =>
    intro j fuel q h5 h6 hm hf hq hK
    have e4 : q 0 (274 + 510 * v + 150 + 36 * a + 4) = nI n := by
      rw [hq]
      dsimp only
      rw [if_neg (by omega), pk_un (by omega), pk_us]
    obtain ⟨f, rfl⟩ : ∃ f, fuel = f + 1 := ⟨fuel - 1, by omega⟩; rw [wp_X11_sets_163]; unfold wb_X11_sets_163; dsimp only
    simp (disch := omega) only [li_2, li_3, li_4, li_5, li_6, li_7, li_8, li_9, li_10, li_12, li_14, li_20, li_26, li_30, li_31, li_36, li_38, li_47, li_48, li_50, li_57, li_58, li_80, li_98, li_99, li_100, li_102, li_104, li_105, li_108, li_109, li_110, li_114, li_115, li_119, li_122, li_137, li_146, li_147, li_148, li_149, li_150, li_200, li_255, li_256, li_274, li_510, li_512, li_640, li_999, li_1000, li_1024, li_3334, li_5000, li_9999, li_10000, li_23338, li_26672, li_30000, li_99999, li_150000, li_300000, pk_mul, nI_add, pk_sub, nI_clamp, nI_1, nI_p1, nI_a0, nI_0a, nI_m0, nI_m1, cl_0, cl_1, z01, z11, nI_leI, nI_ltI, nI_eq, nz_lt0, nz_le, nz_eq0, nz_pos, nz_le0, nz_eq1, nz_lt1, nz_ge1, nz_le1, nz_gt1, nz_vp, nz_vp0, nz_vp1, six_nI, vix_nI, bix_nI, pix_nI, fix_nI, gix_nI, rix_nI, zix_nI, pix_0, pix_1, bix_0, fix_0, fix_1, rix_1, true_and, and_true]
    rw [e4, h5, et]
    simp (disch := omega) only [li_2, li_3, li_4, li_5, li_6, li_7, li_8, li_9, li_10, li_12, li_14, li_20, li_26, li_30, li_31, li_36, li_38, li_47, li_48, li_50, li_57, li_58, li_80, li_98, li_99, li_100, li_102, li_104, li_105, li_108, li_109, li_110, li_114, li_115, li_119, li_122, li_137, li_146, li_147, li_148, li_149, li_150, li_200, li_255, li_256, li_274, li_510, li_512, li_640, li_999, li_1000, li_1024, li_3334, li_5000, li_9999, li_10000, li_23338, li_26672, li_30000, li_99999, li_150000, li_300000, pk_mul, nI_add, pk_sub, nI_clamp, nI_1, nI_p1, nI_a0, nI_0a, nI_m0, nI_m1, cl_0, cl_1, z01, z11, nI_leI, nI_ltI, nI_eq, nz_lt0, nz_le, nz_eq0, nz_pos, nz_le0, nz_eq1, nz_lt1, nz_ge1, nz_le1, nz_gt1, nz_vp, nz_vp0, nz_vp1, six_nI, vix_nI, bix_nI, pix_nI, fix_nI, gix_nI, rix_nI, zix_nI, pix_0, pix_1, bix_0, fix_0, fix_1, rix_1, true_and, and_true]
    have step : ∀ (y : Int32) (q30 : Nat → Nat → Int32), y = (if j < n then u (t + j) else 0) → q30 = va_up q 0 (upd (q 0) (274 + 510 * v + 150 + 36 * a + 6 + j) y) → wp_X11_sets_163 P f (nI s) (nI (274 + 510 * v + 150 + 36 * a)) (nI (j + 1)) r q30 := by
      intro y q30 ey e30
      have k5 : kQ q q30 [0] := by rw [e30]; exact kQ.rf.up (by decide) _
      refine ih (j + 1) f q30 ((k5 5 (by decide)).trans h5) ((k5 6 (by decide)).trans h6) (by omega) (by omega) ?_ (fun q1 h1 h2 => hK q1 (k5.tr h1 (fun _ h => h) (fun _ h => h)) h2)
      rw [e30, va_up_self, hq]
      funext k
      by_cases e : k = 274 + 510 * v + 150 + 36 * a + 6 + j
      · subst e
        rw [pk_us, if_pos (by omega), ey, show 274 + 510 * v + 150 + 36 * a + 6 + j - (274 + 510 * v + 150 + 36 * a + 6) = j by omega]
      · rw [pk_un e]
        by_cases c : 274 + 510 * v + 150 + 36 * a + 6 ≤ k ∧ k < 274 + 510 * v + 150 + 36 * a + 6 + j
        · rw [if_pos c, if_pos (show 274 + 510 * v + 150 + 36 * a + 6 ≤ k ∧ k < 274 + 510 * v + 150 + 36 * a + 6 + (j + 1) by omega)]
        · rw [if_neg c, if_neg (show ¬ (274 + 510 * v + 150 + 36 * a + 6 ≤ k ∧ k < 274 + 510 * v + 150 + 36 * a + 6 + (j + 1)) by omega)]
    refine ⟨fun c => absurd c (by omega), fun _ => ⟨by omega, fun c => ⟨by omega, fun q30 e30 v31 e31 => ?_⟩, fun c => ⟨by omega, by omega, by omega, fun q35 e35 v36 e36 => ?_⟩⟩⟩
    · subst e31
      exact step 0 q30 (by rw [if_neg (by omega)]) e30
    · subst e36
      exact step _ q35 (by rw [if_pos (by omega), h6]) e35
theorem kd_X11_sets (l : Launch) (D : va_G) (T : Nat → ClassId) (m0 : Nat) (a : Nat → Nat) (p0 : Int32) (p1 : Int32) (r : Nat → Int32) (q : Nat → Nat → Int32) (h : vix p0 ∧ s8 p1 ∧ six (q 5 (iv p1 + 1)) ∧ seO (q 5) (iv p1)) : RMi l yX11_sets (ws_X11_sets) rm_X11_sets D T m0 a [.ref m0, .int p0, .int p1] r q (fun v u => (v = b2i (seB (q 5 (iv p1 + 2)) (q 5 (iv p1 + 3))) ∧ u.1 = r ∧ kQ q u.2 [0] ∧ (seB (q 5 (iv p1 + 2)) (q 5 (iv p1 + 3)) = true → u.2 0 = seW (q 0) (q 5) (q 6) (iv p0) (iv p1)))) := c_X11_sets l D T m0 a p0 p1 r q _ <|
  (by
    obtain ⟨⟨v, hv, e0⟩, ⟨s, hs, e1⟩, ⟨a, ha, ea⟩, ⟨t, n, htn, e4, e6⟩⟩ := h
    subst e0 e1
    have ev : iv (nI v) = v := nI_clamp (by omega)
    have es : iv (nI s) = s := nI_clamp (by omega)
    rw [es] at ea e4 e6
    rw [ev, es]
    have main : ∀ most : Int32, most = (if q 5 (s + 3) = 1 then (99 : Int32) else if q 5 (s + 3) = 2 then 50 else 9999) → wp_X11_sets_32 (fun v1 u => v1 = b2i (seB (q 5 (s + 2)) (q 5 (s + 3))) ∧ u.1 = r ∧ kQ q u.2 [0] ∧ (seB (q 5 (s + 2)) (q 5 (s + 3)) = true → u.2 0 = seW (q 0) (q 5) (q 6) v s)) (nI v) (nI s) (q 5 (s + 3)) most r q := by
      intro most hmost
      unfold wp_X11_sets_32
      simp (disch := omega) only [li_2, li_3, li_4, li_5, li_6, li_7, li_8, li_9, li_10, li_12, li_14, li_20, li_26, li_30, li_31, li_36, li_38, li_47, li_48, li_50, li_57, li_58, li_80, li_98, li_99, li_100, li_102, li_104, li_105, li_108, li_109, li_110, li_114, li_115, li_119, li_122, li_137, li_146, li_147, li_148, li_149, li_150, li_200, li_255, li_256, li_274, li_510, li_512, li_640, li_999, li_1000, li_1024, li_3334, li_5000, li_9999, li_10000, li_23338, li_26672, li_30000, li_99999, li_150000, li_300000, pk_mul, nI_add, pk_sub, nI_clamp, nI_1, nI_p1, nI_a0, nI_0a, nI_m0, nI_m1, cl_0, cl_1, z01, z11, nI_leI, nI_ltI, nI_eq, nz_lt0, nz_le, nz_eq0, nz_pos, nz_le0, nz_eq1, nz_lt1, nz_ge1, nz_le1, nz_gt1, nz_vp, nz_vp0, nz_vp1, six_nI, vix_nI, bix_nI, pix_nI, fix_nI, gix_nI, rix_nI, zix_nI, pix_0, pix_1, bix_0, fix_0, fix_1, rix_1, true_and, and_true]
      refine ⟨by omega, fun c => ?_, fun c => ⟨?_, kQ.rf, fun z => ?_⟩⟩
      · rw [ea]
        refine ⟨by omega, fun v8 e8 => ?_⟩
        have e8' : v8 = nI (274 + 510 * v + 150 + 36 * a) := by rw [e8]; simp (disch := omega) only [li_2, li_3, li_4, li_5, li_6, li_7, li_8, li_9, li_10, li_12, li_14, li_20, li_26, li_30, li_31, li_36, li_38, li_47, li_48, li_50, li_57, li_58, li_80, li_98, li_99, li_100, li_102, li_104, li_105, li_108, li_109, li_110, li_114, li_115, li_119, li_122, li_137, li_146, li_147, li_148, li_149, li_150, li_200, li_255, li_256, li_274, li_510, li_512, li_640, li_999, li_1000, li_1024, li_3334, li_5000, li_9999, li_10000, li_23338, li_26672, li_30000, li_99999, li_150000, li_300000, pk_mul, nI_add, pk_sub, nI_clamp, nI_1, nI_p1, nI_a0, nI_0a, nI_m0, nI_m1, cl_0, cl_1, z01, z11]
        clear e8
        subst e8'
        simp (disch := omega) only [li_2, li_3, li_4, li_5, li_6, li_7, li_8, li_9, li_10, li_12, li_14, li_20, li_26, li_30, li_31, li_36, li_38, li_47, li_48, li_50, li_57, li_58, li_80, li_98, li_99, li_100, li_102, li_104, li_105, li_108, li_109, li_110, li_114, li_115, li_119, li_122, li_137, li_146, li_147, li_148, li_149, li_150, li_200, li_255, li_256, li_274, li_510, li_512, li_640, li_999, li_1000, li_1024, li_3334, li_5000, li_9999, li_10000, li_23338, li_26672, li_30000, li_99999, li_150000, li_300000, pk_mul, nI_add, pk_sub, nI_clamp, nI_1, nI_p1, nI_a0, nI_0a, nI_m0, nI_m1, cl_0, cl_1, z01, z11, nI_leI, nI_ltI, nI_eq, nz_lt0, nz_le, nz_eq0, nz_pos, nz_le0, nz_eq1, nz_lt1, nz_ge1, nz_le1, nz_gt1, nz_vp, nz_vp0, nz_vp1, six_nI, vix_nI, bix_nI, pix_nI, fix_nI, gix_nI, rix_nI, zix_nI, pix_0, pix_1, bix_0, fix_0, fix_1, rix_1, true_and, and_true]
        refine ⟨by omega, fun q10 e10 => ⟨by omega, by omega, fun q13 e13 => ⟨by omega, fun q15 e15 => ⟨by omega, by omega, fun q18 e18 => ⟨by omega, by omega, by omega, fun q22 e22 => ⟨by omega, by omega, fun q25 e25 => ⟨100, ?_⟩⟩⟩⟩⟩⟩⟩
        have h10 : q10 5 = q 5 := by rw [e10, va_up_ne _ _ (by decide)]
        have h13 : q13 5 = q 5 := by rw [e13, va_up_ne _ _ (by decide)]; exact h10
        have h15 : q15 5 = q 5 := by rw [e15, va_up_ne _ _ (by decide)]; exact h13
        have h18 : q18 5 = q 5 := by rw [e18, va_up_ne _ _ (by decide)]; exact h15
        have h22 : q22 5 = q 5 := by rw [e22, va_up_ne _ _ (by decide)]; exact h18
        have h25 : q25 5 = q 5 := by rw [e25, va_up_ne _ _ (by decide)]; exact h22
        have k25 : kQ q q25 [0] := by
          rw [e25, e22, e18, e15, e13, e10]
          exact (((((kQ.rf.up (by decide) _).up (by decide) _).up (by decide) _).up (by decide) _).up (by decide) _).up (by decide) _
        have hB : seB (q 5 (s + 2)) (q 5 (s + 3)) = true := by
          unfold seB
          rw [← hmost, decide_eq_false (Int32.not_lt.mpr c)]; rfl
        have esub : q 5 (s + 6) - q 5 (s + 4) = nI n := by rw [e4, e6, pk_sub (by omega)]; congr 1; omega
        refine rl_se (μ := q 0) (w := q 5) (u := q 6) (t := t) (n := n) (x2 := q 5 (s + 2)) (x3 := q 5 (s + 3)) (rows := q 5 (s + 5)) (excl := q 5 (s + 7)) hv ha hs htn e4 30 0 100 q25 h25 (k25 6 (by decide)) (by omega) (by omega) ?_ (fun q1 g1 g2 => ⟨by rw [hB]; rfl, rfl, k25.tr g1 (fun _ h => h) (fun _ h => h), fun _ => ?_⟩)
        · rw [h22] at e25
          rw [h18] at e22
          rw [h15] at e18
          rw [h10] at e13
          rw [e25, va_up_self, e22, va_up_self, e18, va_up_self, e15, va_up_self, e13, va_up_self, e10, va_up_self, esub]
          funext k
          rw [if_neg (by omega)]
        · dsimp only
          rw [g2]
          unfold seW
          rw [ea, esub, e4, show iv (nI a) = a from nI_clamp (by omega), show iv (nI t) = t from nI_clamp (by omega)]
      · unfold seB
        rw [← hmost, decide_eq_true (Int32.not_le.mp c)]; rfl
      · unfold seB at z
        rw [← hmost, decide_eq_true (Int32.not_le.mp c)] at z
        cases z
    unfold wp_X11_sets
    rw [show vp_in (nI s + 3) 640 = (s + 3 < 640) by simp (disch := omega) only [li_2, li_3, li_4, li_5, li_6, li_7, li_8, li_9, li_10, li_12, li_14, li_20, li_26, li_30, li_31, li_36, li_38, li_47, li_48, li_50, li_57, li_58, li_80, li_98, li_99, li_100, li_102, li_104, li_105, li_108, li_109, li_110, li_114, li_115, li_119, li_122, li_137, li_146, li_147, li_148, li_149, li_150, li_200, li_255, li_256, li_274, li_510, li_512, li_640, li_999, li_1000, li_1024, li_3334, li_5000, li_9999, li_10000, li_23338, li_26672, li_30000, li_99999, li_150000, li_300000, pk_mul, nI_add, pk_sub, nI_clamp, nI_1, nI_p1, nI_a0, nI_0a, nI_m0, nI_m1, cl_0, cl_1, z01, z11, nI_leI, nI_ltI, nI_eq, nz_lt0, nz_le, nz_eq0, nz_pos, nz_le0, nz_eq1, nz_lt1, nz_ge1, nz_le1, nz_gt1, nz_vp, nz_vp0, nz_vp1, six_nI, vix_nI, bix_nI, pix_nI, fix_nI, gix_nI, rix_nI, zix_nI, pix_0, pix_1, bix_0, fix_0, fix_1, rix_1, true_and, and_true], show Int32.toNatClampNeg (nI s + 3) = s + 3 by simp (disch := omega) only [li_2, li_3, li_4, li_5, li_6, li_7, li_8, li_9, li_10, li_12, li_14, li_20, li_26, li_30, li_31, li_36, li_38, li_47, li_48, li_50, li_57, li_58, li_80, li_98, li_99, li_100, li_102, li_104, li_105, li_108, li_109, li_110, li_114, li_115, li_119, li_122, li_137, li_146, li_147, li_148, li_149, li_150, li_200, li_255, li_256, li_274, li_510, li_512, li_640, li_999, li_1000, li_1024, li_3334, li_5000, li_9999, li_10000, li_23338, li_26672, li_30000, li_99999, li_150000, li_300000, pk_mul, nI_add, pk_sub, nI_clamp, nI_1, nI_p1, nI_a0, nI_0a, nI_m0, nI_m1, cl_0, cl_1, z01, z11, nI_leI, nI_ltI, nI_eq, nz_lt0, nz_le, nz_eq0, nz_pos, nz_le0, nz_eq1, nz_lt1, nz_ge1, nz_le1, nz_gt1, nz_vp, nz_vp0, nz_vp1, six_nI, vix_nI, bix_nI, pix_nI, fix_nI, gix_nI, rix_nI, zix_nI, pix_0, pix_1, bix_0, fix_0, fix_1, rix_1, true_and, and_true]]
    refine ⟨by omega, fun v2 e2 => ?_⟩
    subst e2
    refine ⟨fun c1 => ⟨fun c2 => main _ (by rw [if_neg c1, if_neg c2]), fun c2 => main _ (by rw [if_neg c1, if_pos c2])⟩, fun c1 => main _ (by rw [if_pos c1])⟩)

theorem zin_b (x lo hi : Int32) : zin x lo hi = b2i (decide (¬ zin x lo hi = 0)) := by
  unfold zin
  split
  · rfl
  split
  · rfl
  · rfl
theorem kd_X11_carries (l : Launch) (D : va_G) (T : Nat → ClassId) (m0 : Nat) (a : Nat → Nat) (p0 : Int32) (p1 : Int32) (r : Nat → Int32) (q : Nat → Nat → Int32) (h : WF (q 0) ∧ vix p0 ∧ s8 p1 ∧ crO (q 5) (iv p1)) : RMi l yX11_carries (ws_X11_carries) rm_X11_carries D T m0 a [.ref m0, .int p0, .int p1] r q (fun v u => (v = b2i (crB (q 0) (iv p0) (q 5 (iv p1)) (q 5 (iv p1 + 1)) (q 5 (iv p1 + 2)) (q 5 (iv p1 + 3))) ∧ u.1 = r ∧ kQ q u.2 [0] ∧ (crB (q 0) (iv p0) (q 5 (iv p1)) (q 5 (iv p1 + 1)) (q 5 (iv p1 + 2)) (q 5 (iv p1 + 3)) = true → u.2 0 = crS (q 0) (iv p0) (q 5 (iv p1)) (q 5 (iv p1 + 1)) (q 5 (iv p1 + 2)) (q 5 (iv p1 + 3)) (q 5 (iv p1 + 5)) (q 5 (iv p1 + 6) - q 5 (iv p1 + 4)) (fun j => q 6 (iv (q 5 (iv p1 + 4)) + j)) (q 5 (iv p1 + 7))))) := c_X11_carries l D T m0 a p0 p1 r q _ <|
  (by
    obtain ⟨hw, ⟨v, hv, e0⟩, ⟨s, hs, e1⟩, o1, o2, o3, o4⟩ := h
    subst e0 e1
    have ev : iv (nI v) = v := nI_clamp (by omega)
    have es : iv (nI s) = s := nI_clamp (by omega)
    rw [es] at o1 o2 o3 o4
    rw [ev, es]
    unfold wp_X11_carries
    simp (disch := omega) only [li_2, li_3, li_4, li_5, li_6, li_7, li_8, li_9, li_10, li_12, li_14, li_20, li_26, li_30, li_31, li_36, li_38, li_47, li_48, li_50, li_57, li_58, li_80, li_98, li_99, li_100, li_102, li_104, li_105, li_108, li_109, li_110, li_114, li_115, li_119, li_122, li_137, li_146, li_147, li_148, li_149, li_150, li_200, li_255, li_256, li_274, li_510, li_512, li_640, li_999, li_1000, li_1024, li_3334, li_5000, li_9999, li_10000, li_23338, li_26672, li_30000, li_99999, li_150000, li_300000, pk_mul, nI_add, pk_sub, nI_clamp, nI_1, nI_p1, nI_a0, nI_0a, nI_m0, nI_m1, cl_0, cl_1, z01, z11, nI_leI, nI_ltI, nI_eq, nz_lt0, nz_le, nz_eq0, nz_pos, nz_le0, nz_eq1, nz_lt1, nz_ge1, nz_le1, nz_gt1, nz_vp, nz_vp0, nz_vp1, six_nI, vix_nI, bix_nI, pix_nI, fix_nI, gix_nI, rix_nI, zix_nI, pix_0, pix_1, bix_0, fix_0, fix_1, rix_1, true_and, and_true]
    simp only [du_97, du_98, du_99, du_100, du_102, du_109, du_115, du_122, du_1000, du_9999]
    -- a number that is written
    have wr : ∀ (pl : Nat) (x lo hi v1 : Int32) (r1 : Nat → Int32) (q1 : Nat → Nat → Int32), crB (q 0) v (q 5 s) (q 5 (s + 1)) (q 5 (s + 2)) (q 5 (s + 3)) = decide (¬ zin x lo hi = 0) → (∀ rows tested tv excl, crS (q 0) v (q 5 s) (q 5 (s + 1)) (q 5 (s + 2)) (q 5 (s + 3)) rows tested tv excl = upd (q 0) pl x) → (v1 = zin x lo hi ∧ r1 = r ∧ q1 = va_up q 0 (upd (q 0) pl x)) → vz v1 ∧ v1 = b2i (crB (q 0) v (q 5 s) (q 5 (s + 1)) (q 5 (s + 2)) (q 5 (s + 3))) ∧ r1 = r ∧ kQ q q1 [0] ∧ (crB (q 0) v (q 5 s) (q 5 (s + 1)) (q 5 (s + 2)) (q 5 (s + 3)) = true → q1 0 = crS (q 0) v (q 5 s) (q 5 (s + 1)) (q 5 (s + 2)) (q 5 (s + 3)) (q 5 (s + 5)) (q 5 (s + 6) - q 5 (s + 4)) (fun j => q 6 (iv (q 5 (s + 4)) + j)) (q 5 (s + 7))) := by
      intro pl x lo hi v1 r1 q1 hB hS hh
      obtain ⟨h1, h2, h3⟩ := hh
      refine ⟨by rw [h1, zin_b]; exact b2i_vz _, by rw [hB, h1, ← zin_b], h2, by rw [h3]; exact kQ.rf.up (by decide) _, fun _ => by rw [hS, h3, va_up_self]⟩
    refine ⟨by omega, fun v2 e2 => ⟨fun c => ?_, fun c1 => ⟨fun c => ?_, fun c2 => ⟨fun c => ?_, fun c3 => ⟨fun c => ?_, fun c4 => ⟨fun c => ?_, fun c5 => ⟨fun c => ?_, fun c6 => ⟨fun c => ?_, fun c7 => ⟨fun c => ?_, fun c8 => ?_⟩⟩⟩⟩⟩⟩⟩⟩⟩
    · rw [e2] at c
      obtain ⟨y1, y2⟩ := o3 c
      refine ⟨⟨hv, ⟨s, hs, rfl⟩, y1, y2⟩, fun v4 r5 q6 hh => ?_⟩
      · obtain ⟨h1, h2, h3, h4⟩ := hh
        have hB : crB (q 0) v (q 5 s) (q 5 (s + 1)) (q 5 (s + 2)) (q 5 (s + 3)) = seB (q 5 (s + 2)) (q 5 (s + 3)) := by rw [c]; rfl
        refine ⟨by rw [h1]; exact b2i_vz _, by rw [hB]; exact h1, h2, h3, fun z => ?_⟩
        dsimp only
        rw [h4 (by rw [← hB]; exact z), c]
        rfl
    · rw [e2] at c
      obtain ⟨z, h1, h9, ez⟩ := o1 (Or.inl c)
      obtain ⟨n, hn, en⟩ := o2 c
      refine ⟨by omega, by omega, by omega, ⟨hw, hv, ⟨z, h1, h9, ez⟩, n, hn, en⟩, fun v12 r13 q14 hh => ?_⟩
      obtain ⟨h1, h2, h3, h4⟩ := hh
      have hB : crB (q 0) v (q 5 s) (q 5 (s + 1)) (q 5 (s + 2)) (q 5 (s + 3)) = bkB (q 0) v (iv (q 5 (s + 1))) (q 5 (s + 2)) (q 5 (s + 3)) := by rw [c]; rfl
      refine ⟨by rw [h1]; exact b2i_vz _, by rw [hB]; exact h1, h2, h3, fun z => ?_⟩
      dsimp only
      rw [h4 (by rw [← hB]; exact z), c]
      rfl
    · rw [e2] at c
      refine ⟨by omega, ⟨274 + 510 * v + 149, by omega, rfl⟩, fun v18 r19 q20 hh => ?_⟩
      exact wr _ _ _ _ _ _ _ (by rw [c]; rfl) (fun _ _ _ _ => by rw [c]; rfl) hh
    · rw [e2] at c
      refine ⟨by omega, ⟨274 + 510 * v + 146, by omega, rfl⟩, fun v18 r19 q20 hh => ?_⟩
      exact wr _ _ _ _ _ _ _ (by rw [c]; rfl) (fun _ _ _ _ => by rw [c]; rfl) hh
    · rw [e2] at c
      refine ⟨by omega, ⟨274 + 510 * v + 147, by omega, rfl⟩, fun v18 r19 q20 hh => ?_⟩
      exact wr _ _ _ _ _ _ _ (by rw [c]; rfl) (fun _ _ _ _ => by rw [c]; rfl) hh
    · rw [e2] at c
      obtain ⟨z, h1, h9, ez⟩ := o1 (Or.inr c)
      have ip : (nI (274 + 510 * v + 137) + q 5 (s + 1) - 1) = nI (274 + 510 * v + 137 + z - 1) := by rw [ez, nI_add, nI_p1 (by omega)]
      rw [ip, show iv (nI (274 + 510 * v + 137 + z - 1)) = 274 + 510 * v + 137 + z - 1 from nI_clamp (by omega)]
      refine ⟨by omega, by omega, ⟨274 + 510 * v + 137 + z - 1, by omega, rfl⟩, fun v18 r19 q20 hh => ?_⟩
      exact wr _ _ _ _ _ _ _ (by rw [c]; rfl) (fun _ _ _ _ => by rw [c, ez]; unfold crS; rw [if_neg (by decide), if_neg (by decide), if_pos rfl, show iv (nI z) = z from nI_clamp (by omega)]) hh
    · rw [e2] at c
      refine ⟨by omega, ⟨274 + 510 * v + 148, by omega, rfl⟩, fun v18 r19 q20 hh => ?_⟩
      exact wr _ _ _ _ _ _ _ (by rw [c]; rfl) (fun _ _ _ _ => by rw [c]; rfl) hh
    · rw [e2] at c
      refine ⟨⟨hw, hv, ⟨s, hs, rfl⟩⟩, fun v4 r5 q6 hh => ?_⟩
      obtain ⟨h1, h2, h3, h4⟩ := hh
      have hB : crB (q 0) v (q 5 s) (q 5 (s + 1)) (q 5 (s + 2)) (q 5 (s + 3)) = ptB (q 0) v (q 5 (s + 2)) (q 5 (s + 3)) := by rw [c]; rfl
      refine ⟨by rw [h1]; exact b2i_vz _, by rw [hB]; exact h1, h2, h3, fun z => ?_⟩
      dsimp only
      rw [h4 (by rw [← hB]; exact z), c]
      rfl
    · rw [e2] at c1 c2 c3 c4 c5 c6 c7 c8
      have y1 := o4 ⟨c8, c2, c6, c4, c5, c7, c3, c1⟩
      refine ⟨by omega, ⟨hv, y1⟩, fun v53 r54 q55 hh => ?_⟩
      obtain ⟨h1, h2, h3⟩ := hh
      have hB : crB (q 0) v (q 5 s) (q 5 (s + 1)) (q 5 (s + 2)) (q 5 (s + 3)) = decide (q 0 (274 + 510 * v + 150 + 36 * iv (q 5 (s + 1))) = 1) := by
        unfold crB
        rw [if_neg c8, if_neg c2, if_neg c6, if_neg c4, if_neg c5, if_neg c7, if_neg c3, if_neg c1]
      refine ⟨by rw [h1]; exact b2i_vz _, by rw [hB]; exact h1, h2, by rw [h3]; exact kQ.rf.up (by decide) _, fun z => ?_⟩
      dsimp only
      rw [h3, va_up_self]
      unfold crS
      rw [if_neg c8, if_neg c2, if_neg c6, if_neg c4, if_neg c5, if_neg c7, if_neg c3, if_neg c1])

end S_DRAFT

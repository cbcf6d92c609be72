section S_CAB
/-- places stand for members -/
def plc (n m : Nat) (L : List Nat) : Prop := n < 1024 ∧ m ≤ 8 ∧ asc L m ∧ (∀ i, i < m → gl L i < 10 ∧ n.testBit (gl L i) = true) ∧ ∀ j, n.testBit j = true → ∃ i, i < m ∧ gl L i = j
/-- totals as they are: -1, or not negative and not too great -/
def ttO (T : Nat → Int32) (n : Nat) : Prop := (∀ g, 0 < g → sub g n → T g = -1 ∨ bn (T g) (100000000 * popN g)) ∧ ∀ s, n.testBit s = true → 0 ≤ T (2 ^ s)
/-- the best divisions of a part and of what it stands for -/
def rlB (T T' : Nat → Int32) (n m : Nat) (L : List Nat) (t : T3) (v : Nat) : Prop := t.1 v = (dpZ T n).1 (spr L m v) ∧ t.2.1 v = (dpZ T n).2.1 (spr L m v) ∧ (∀ g, 0 < v → Vc T' v g → (dpZ T n).1 (spr L m v) ≤ T' g + (dpZ T n).1 (spr L m (v - g))) ∧ (0 < v → ∃ g, 0 < g ∧ sub g v ∧ g.testBit (lowN v) = true ∧ t.2.2 v = nI g ∧ ¬ T' g = -1 ∧ (dpZ T n).1 (spr L m v) = T' g + (dpZ T n).1 (spr L m (v - g)) ∧ (dpZ T n).2.1 (spr L m v) = 1 + (dpZ T n).2.1 (spr L m (v - g)) ∧ (dpZ T n).2.2 (spr L m v) = nI (spr L m g))
/-- groups, each with the lowest of what is left -/
def chP : Nat → List Nat → Prop
  | w, [] => w = 0
  | w, g :: l => 0 < w ∧ sub g w ∧ g.testBit (lowN w) = true ∧ chP (w - g) l
/-- the groups one by one -/
def chM (u : Nat → Nat) (F : Nat → Int32) : Nat → List Nat → Prop
  | p, [] => p = 0
  | p, g :: l => 0 < p ∧ F p = nI (u g) ∧ sub (u g) p ∧ chM u F (dif p (u g)) l
theorem plc_mem {n : Nat} (hn : n < 1024) (h8 : (memL n 10 0).length ≤ 8) : plc n (memL n 10 0).length (memL n 10 0) := by
  refine ⟨hn, h8, (mem_asc 10 0).2, fun i hi => ?_, fun j hj => ?_⟩
  · have := (mem_gl (g := n) 10 0 (gl (memL n 10 0) i)).mpr ⟨i, hi, rfl⟩
    exact ⟨by omega, this.2.2⟩
  · have j10 : j < 10 := tb_lt (show n < 2 ^ 10 from hn) hj
    exact (mem_gl (g := n) 10 0 j).mp ⟨Nat.zero_le _, by omega, hj⟩
theorem plc.p {n m : Nat} {L : List Nat} (h : plc n m L) : 2 ^ m ≤ 256 := Nat.pow_le_pow_right (n := 2) (by decide) h.2.1
theorem plc.ok {n m p : Nat} {L : List Nat} (h : plc n m L) (hp : p < 2 ^ m) : spr L m p < 1024 ∧ (0 < p → 0 < spr L m p) := spr_ok m (ns := 10) (fun i hi => (h.2.2.2.1 i hi).1) p hp
theorem plc.sb {n m p : Nat} {L : List Nat} (h : plc n m L) (hp : p < 2 ^ m) : sub (spr L m p) n := sub_tb.mpr fun j hj => by
  obtain ⟨i, h1, h2, _⟩ := (spr_tb m p hp j).mp hj
  rw [← h2]
  exact (h.2.2.2.1 i h1).2
theorem plc.fl {n m : Nat} {L : List Nat} (h : plc n m L) : spr L m (2 ^ m - 1) = n := by
  have hp : 2 ^ m - 1 < 2 ^ m := by have := Nat.two_pow_pos m; omega
  apply Nat.eq_of_testBit_eq
  intro j
  rw [Bool.eq_iff_iff]
  constructor
  · exact sub_tb.mp (h.sb hp) j
  · intro hj
    obtain ⟨i, h1, h2⟩ := h.2.2.2.2 j hj
    exact (spr_tb m _ hp j).mpr ⟨i, h1, h2, by rw [Nat.testBit_two_pow_sub_one, decide_eq_true h1]⟩
theorem plc.one {n m i : Nat} {L : List Nat} (h : plc n m L) (hi : i < m) : spr L m (2 ^ i) = 2 ^ gl L i := by
  have hp : 2 ^ i < 2 ^ m := Nat.pow_lt_pow_right (by decide) hi
  apply Nat.eq_of_testBit_eq
  intro j
  rw [Bool.eq_iff_iff, spr_tb m _ hp, Nat.testBit_two_pow, decide_eq_true_eq]
  constructor
  · rintro ⟨i', h1, h2, h3⟩
    rw [Nat.testBit_two_pow, decide_eq_true_eq] at h3
    rw [h3]; exact h2
  · intro e
    exact ⟨i, hi, e, Nat.testBit_two_pow_self⟩
theorem plc.su {n m h : Nat} {L : List Nat} (hl : plc n m L) (hs : sub h n) : ∃ p, p < 2 ^ m ∧ spr L m p = h := spr_sur m h (fun j hj => hl.2.2.2.2 j (sub_tb.mp hs j hj))
theorem pop_ad {p g : Nat} (h : sub g p) : ∀ k s a b, popFold p k s (a + b) = popFold g k s a + popFold (dif p g) k s b := by
  intro k
  induction k with
  | zero => intro s a b; rfl
  | succ k ih =>
    intro s a b
    rw [popFold, popFold, popFold, dif_tb]
    cases e1 : p.testBit s with
    | true =>
      cases e2 : g.testBit s with
      | true => rw [if_pos rfl, if_pos rfl, if_neg (by decide), show a + b + 1 = (a + 1) + b by omega, ih]
      | false => rw [if_pos rfl, if_neg (by decide), if_pos (by decide), show a + b + 1 = a + (b + 1) by omega, ih]
    | false =>
      cases e2 : g.testBit s with
      | true => exact absurd (sub_tb.mp h s e2) (by rw [e1]; decide)
      | false => rw [if_neg (by decide), if_neg (by decide), if_neg (by decide), ih]
theorem pop_sp {p g : Nat} (h : sub g p) : popN p = popN g + popN (dif p g) := by
  unfold popN
  exact pop_ad h 10 0 0 0
theorem bn.ge {x : Int32} {B : Nat} (h : bn x B) (hB : B < 2 ^ 31) : 0 ≤ x := by
  obtain ⟨k, hk, e⟩ := h
  rw [e]
  exact nI_pos' (by omega)
theorem ttO.v {T : Nat → Int32} {n g : Nat} (h : ttO T n) (h0 : 0 < g) (hs : sub g n) (hn : n < 1024) : (0 ≤ T g ∧ bn (T g) (100000000 * popN g)) ∨ T g = -1 := by
  rcases h.1 g h0 hs with e | e
  · exact Or.inr e
  · have := (pop_1 (Nat.lt_of_le_of_lt (sub_le hs) hn) h0).2
    exact Or.inl ⟨e.ge (by omega), e⟩
theorem n1_neg : ¬ (0 : Int32) ≤ -1 := by decide
theorem dp_bn {T : Nat → Int32} {n : Nat} {D : T3} (hn : n < 1024) (hT : ttO T n) (hQ : ∀ p, 0 < p → sub p n → dpQ T D p) (h0 : D.1 0 = 0) : ∀ B p, p < B → sub p n → bn (D.1 p) (100000000 * popN p) := by
  intro B
  induction B with
  | zero => intro p hp; omega
  | succ B ih =>
    intro p hp hs
    rcases Nat.eq_zero_or_pos p with c | c
    · rw [c, h0]; exact bn.z
    · obtain ⟨g, g0, g1, g2, g3, g4, _⟩ := hQ p c hs
      have p10 : p < 1024 := Nat.lt_of_le_of_lt (sub_le hs) hn
      have hd := dif_lt (low_tb' p10 c) g2
      have hb := ih (dif p g) (by omega) (sub_tr (sub_dif p g) hs)
      rcases hT.v g0 (sub_tr g1 hs) hn with ⟨_, e⟩ | e
      · rw [g4, pop_sp g1, Nat.mul_add]
        exact e.add hb
      · rw [e] at g3; exact absurd g3 n1_neg
theorem dp_st {T : Nat → Int32} {n : Nat} {t : T3} : ∀ k p, p ≤ k → (dpK T n t k).1 p = (dpK T n t p).1 p ∧ (dpK T n t k).2.1 p = (dpK T n t p).2.1 p ∧ (dpK T n t k).2.2 p = (dpK T n t p).2.2 p := by
  intro k
  induction k with
  | zero => intro p hp; rw [show p = 0 by omega]; exact ⟨rfl, rfl, rfl⟩
  | succ k ih =>
    intro p hp
    by_cases e : p = k + 1
    · rw [e]; exact ⟨rfl, rfl, rfl⟩
    · obtain ⟨a, b, c⟩ := ih p (by omega)
      have ek : dpK T n t (k + 1) = if (k + 1) &&& n = k + 1 then dpU T (dpK T n t k) (k + 1) else dpK T n t k := by rw [dpK]
      rw [ek]
      by_cases d : (k + 1) &&& n = k + 1
      · rw [if_pos d]
        unfold dpU upd
        dsimp only
        rw [if_neg e, if_neg e, if_neg e]
        exact ⟨a, b, c⟩
      · rw [if_neg d]; exact ⟨a, b, c⟩
theorem dp_at {T : Nat → Int32} {n p : Nat} {t : T3} (h0 : 0 < p) (hs : sub p n) : ((dpK T n t p).1 p, (dpK T n t p).2.1 p, (dpK T n t p).2.2 p) = dpX T (dpK T n t (p - 1)) p := by
  obtain ⟨k, rfl⟩ : ∃ k, p = k + 1 := ⟨p - 1, by omega⟩
  have ek : dpK T n t (k + 1) = dpU T (dpK T n t k) (k + 1) := by rw [dpK, if_pos (show (k + 1) &&& n = k + 1 from hs)]
  rw [ek, Nat.add_sub_cancel]
  unfold dpU upd
  dsimp only
  rw [if_pos rfl, if_pos rfl, if_pos rfl]
theorem bst.cg {V : Nat → Prop} {f f' c c' : Nat → Int32} {x : X3} (h : bst V f c x) (e : ∀ g, V g → f g = f' g ∧ c g = c' g) : bst V f' c' x := by
  obtain ⟨g, v, ex, m⟩ := h
  refine ⟨g, v, by rw [ex, (e g v).1, (e g v).2], fun h hh => ?_⟩
  rw [← (e g v).1, ← (e g v).2, ← (e h hh).1, ← (e h hh).2]
  exact m h hh
theorem dpZ_Q {T : Nat → Int32} {n : Nat} (hn : n < 1024) (hT : ttO T n) {p : Nat} (h0 : 0 < p) (hs : sub p n) : dpQ T (dpZ T n) p := dp_ok hn hT.2 _ n p (sub_le hs) h0 hs
theorem dpZ_0 {T : Nat → Int32} {n : Nat} : (dpZ T n).1 0 = 0 ∧ (dpZ T n).2.1 0 = 0 := dp_0 n
theorem dpZ_bs {T : Nat → Int32} {n p : Nat} (hn : n < 1024) (hT : ttO T n) (h0 : 0 < p) (hs : sub p n) : bst (Vv T p) (fun g => T g + (dpZ T n).1 (dif p g)) (fun g => 1 + (dpZ T n).2.1 (dif p g)) ((dpZ T n).1 p, (dpZ T n).2.1 p, (dpZ T n).2.2 p) := by
  have p10 : p < 1024 := Nat.lt_of_le_of_lt (sub_le hs) hn
  have hl := low_tb' p10 h0
  obtain ⟨a1, a2, a3⟩ := dp_st (T := T) (n := n) (t := (fun _ => 0, fun _ => 0, fun _ => 0)) n p (sub_le hs)
  have sd : ∀ g, Vv T p g → (dpK T n (fun _ => 0, fun _ => 0, fun _ => 0) (p - 1)).1 (dif p g) = (dpZ T n).1 (dif p g) ∧ (dpK T n (fun _ => 0, fun _ => 0, fun _ => 0) (p - 1)).2.1 (dif p g) = (dpZ T n).2.1 (dif p g) := fun g v => by
    have hd := dif_lt hl v.2.1
    obtain ⟨b1, b2, _⟩ := dp_st (T := T) (n := n) (t := (fun _ => 0, fun _ => 0, fun _ => 0)) n (dif p g) (by have := sub_le hs; omega)
    obtain ⟨c1, c2, _⟩ := dp_st (T := T) (n := n) (t := (fun _ => 0, fun _ => 0, fun _ => 0)) (p - 1) (dif p g) (by omega)
    exact ⟨c1.trans b1.symm, c2.trans b2.symm⟩
  have e : ((dpZ T n).1 p, (dpZ T n).2.1 p, (dpZ T n).2.2 p) = dpX T (dpK T n (fun _ => 0, fun _ => 0, fun _ => 0) (p - 1)) p := by
    rw [← dp_at h0 hs]
    unfold dpZ
    rw [a1, a2, a3]
  rw [e]
  refine (dpX_bs p10 h0 (hT.2 _ (sub_tb.mp hs _ hl)) (fun g v => ?_)).cg (fun g v => ⟨by rw [(sd g v).1], by rw [(sd g v).2]⟩)
  rw [(sd g v).1]
  have hb := dp_bn hn hT (fun q q0 qs => dpZ_Q hn hT q0 qs) dpZ_0.1 (dif p g + 1) (dif p g) (by omega) (sub_tr (sub_dif p g) hs)
  have g0 : 0 < g := by
    rcases Nat.eq_zero_or_pos g with q | q
    · have := v.2.1
      rw [q, Nat.zero_testBit] at this
      exact absurd this (by decide)
    · exact q
  rcases hT.v g0 (sub_tr v.1 hs) hn with ⟨_, eb⟩ | eb
  · have hs9 := eb.add hb
    rw [← Nat.mul_add, ← pop_sp v.1] at hs9
    have := (pop_1 p10 h0).2
    exact hs9.ge (by omega)
  · have := v.2.2
    rw [eb] at this
    exact absurd this n1_neg
theorem fb_st {T T' : Nat → Int32} {n m w : Nat} {L : List Nat} {t : T3} (hl : plc n m L) (hT : ttO T n) (hE : ∀ p, 0 < p → p < 2 ^ m → T' p = T (spr L m p)) (h0 : 0 < w) (hw : w < 2 ^ m) (h : ∀ v, v < w → rlB T T' n m L t v) : rlB T T' n m L (fbS T' w t) w := by
  have h256 := hl.p
  have ha := hl.2.2.1
  have hn := hl.1
  have k1 := tb_lt hw (low_tb' (show w < 1024 by omega) h0)
  have ep : spr L m (2 ^ lowN w) = 2 ^ gl L (lowN w) := hl.one k1
  have g0 : ∀ g, g.testBit (lowN w) = true → 0 < g := fun g q => by
    rcases Nat.eq_zero_or_pos g with z | z
    · rw [z, Nat.zero_testBit] at q; exact absurd q (by decide)
    · exact z
  have low : ∀ g, g < 2 ^ m → (spr L m g).testBit (lowN (spr L m w)) = g.testBit (lowN w) := fun g hg => by
    rw [spr_low ha hl.2.1 (fun i hi => (hl.2.2.2.1 i hi).1) h0 hw, spr_bit ha hg k1]
  have sn := hl.sb hw
  have h1 : ¬ T' (2 ^ lowN w) = -1 := fun z => by
    rw [hE _ (Nat.two_pow_pos _) (Nat.pow_lt_pow_right (by decide) k1), ep] at z
    have := hT.2 _ (hl.2.2.2.1 _ k1).2
    rw [z] at this
    exact n1_neg this
  have neg : ∀ g, 0 < g → g < 2 ^ m → ¬ T' g = -1 → 0 ≤ T (spr L m g) := fun g q1 q2 q3 => by
    rw [hE g q1 q2] at q3
    rcases hT.v ((hl.ok q2).2 q1) (hl.sb q2) hn with ⟨q, _⟩ | q
    · exact q
    · exact absurd q q3
  have B := ffX_bs (B := t.1) (C := t.2.1) (T := T') (show w < 256 by omega) h0 h1
  have hg2 : ∀ g, Vc T' w g → g < 2 ^ m := fun g v => Nat.lt_of_le_of_lt (sub_le v.1) hw
  have D := dpZ_bs hn hT ((hl.ok hw).2 h0) sn
  obtain ⟨g, v, ex, b2⟩ := B.tr (V := Vv T (spr L m w)) (u := spr L m) (f := fun h => T h + (dpZ T n).1 (dif (spr L m w) h)) (c := fun h => 1 + (dpZ T n).2.1 (dif (spr L m w) h)) (fun g v => ⟨(spr_sub ha (hg2 g v) hw).mp v.1, by rw [low g (hg2 g v)]; exact v.2.1, neg g (g0 g v.2.1) (hg2 g v) v.2.2⟩) (fun h v => by
    obtain ⟨g, q1, q2⟩ := hl.su (sub_tr v.1 sn)
    subst q2
    refine ⟨g, ⟨(spr_sub ha q1 hw).mpr v.1, by rw [← low g q1]; exact v.2.1, fun z => ?_⟩, rfl⟩
    have tb := v.2.1
    rw [low g q1] at tb
    have := v.2.2
    rw [← hE g (g0 g tb) q1, z] at this
    exact n1_neg this) (fun g v => by
    have q2 := hg2 g v
    have q0 := g0 g v.2.1
    have ed : w - g = dif w g := dif_s (by omega) v.1
    obtain ⟨r1, r2, _⟩ := h (w - g) (by have := sub_le v.1; omega)
    show T' g + t.1 (w - g) = T (spr L m g) + (dpZ T n).1 (dif (spr L m w) (spr L m g)) ∧ t.2.1 (w - g) + 1 = 1 + (dpZ T n).2.1 (dif (spr L m w) (spr L m g))
    rw [r1, r2, hE g q0 q2, ed, spr_dif ha hw q2]
    exact ⟨rfl, Int32.add_comm _ _⟩) (fun g g' v v' q => spr_le ha q (hg2 g' v'))
  have u := D.uq b2
  have u1 := congrArg (fun z : X3 => z.1) u
  have u2 := congrArg (fun z : X3 => z.2.1) u
  have u3 := congrArg (fun z : X3 => z.2.2) u
  dsimp only at u1 u2 u3
  have q2 := hg2 g v
  have q0 := g0 g v.2.1
  have ed : w - g = dif w g := dif_s (by omega) v.1
  obtain ⟨r1, r2, _⟩ := h (w - g) (by have := sub_le v.1; omega)
  have es : spr L m (w - g) = dif (spr L m w) (spr L m g) := by rw [ed, spr_dif ha hw q2]
  have x1 : (fbS T' w t).1 w = T' g + t.1 (w - g) := by unfold fbS; dsimp only; rw [va_up_self, ex]
  have x2 : (fbS T' w t).2.1 w = t.2.1 (w - g) + 1 := by unfold fbS; dsimp only; rw [va_up_self, ex]
  have x3 : (fbS T' w t).2.2 w = nI g := by unfold fbS; dsimp only; rw [va_up_self, ex]
  refine ⟨?_, ?_, fun g9 _ v9 => ?_, fun _ => ⟨g, q0, v.1, v.2.1, x3, v.2.2, ?_, ?_, u3⟩⟩
  · rw [x1, u1, r1, es, hE g q0 q2]
  · rw [x2, u2, r2, es, Int32.add_comm]
  · have q9 := hg2 g9 v9
    have q8 := g0 g9 v9.2.1
    have ed9 : w - g9 = dif w g9 := dif_s (by omega) v9.1
    obtain ⟨g', _, e', m'⟩ := D
    have e1' := congrArg (fun z : X3 => z.1) e'
    dsimp only at e1'
    have mm := m' (spr L m g9) ⟨(spr_sub ha q9 hw).mp v9.1, by rw [low g9 q9]; exact v9.2.1, neg g9 q8 q9 v9.2.2⟩
    dsimp only at mm
    rw [e1', ed9, spr_dif ha hw q9, hE g9 q8 q9]
    rcases mm with mm | ⟨mm, _⟩
    · exact Int32.le_of_lt mm
    · rw [mm]; exact Int32.le_refl _
  · rw [u1, es, hE g q0 q2]
  · rw [u2, es]
theorem fb_al {T T' : Nat → Int32} {n m : Nat} {L : List Nat} (hl : plc n m L) (hT : ttO T n) (hE : ∀ p, 0 < p → p < 2 ^ m → T' p = T (spr L m p)) : ∀ (k w : Nat) (t : T3), 0 < w → w + k = 2 ^ m → (∀ v, v < w → rlB T T' n m L t v) → ∀ v, v < 2 ^ m → rlB T T' n m L (fbK T' k w t) v := by
  intro k
  induction k with
  | zero => intro w t _ hk h v hv; rw [fbK]; exact h v (by omega)
  | succ k ih =>
    intro w t h0 hk h v hv
    rw [fbK]
    refine ih (w + 1) _ (by omega) (by omega) (fun v hv => ?_) v hv
    by_cases e : v = w
    · subst e
      exact fb_st hl hT hE h0 (by omega) h
    · have hh := h v (by omega)
      unfold rlB at hh ⊢
      unfold fbS
      dsimp only
      rw [va_up_ne _ _ e, va_up_ne _ _ e, va_up_ne _ _ e]
      exact hh
theorem suL_x {T : Nat → Int32} : ∀ (l : List Nat) (x : Int32), suL T l x = x + suL T l 0 := by
  intro l
  induction l with
  | nil => intro x; rw [suL, suL, Int32.add_zero]
  | cons g l ih => intro x; rw [suL, ih, suL, ih (0 + T g), Int32.zero_add, Int32.add_assoc]
/-- the chain of groups -/
theorem br_ch {T T' : Nat → Int32} {n m : Nat} {L : List Nat} {R : T3} (hl : plc n m L) (hR : ∀ v, v < 2 ^ m → rlB T T' n m L R v) : ∀ (B v : Nat), v < B → v < 2 ^ m → ∃ G : List Nat, chn R.2.2 v G ∧ chM (spr L m) (dpZ T n).2.2 (spr L m v) G ∧ R.2.1 v = nI G.length ∧ G.length ≤ popN v ∧ (dpZ T n).1 (spr L m v) = suL T' G 0 ∧ (chP v G ∧ raL T' G = true) ∧ ∀ i, i < G.length → 0 < gl G i ∧ gl G i < 2 ^ m := by
  have h256 := hl.p
  intro B
  induction B with
  | zero => intro v hv; omega
  | succ B ih =>
    intro v hv hm
    obtain ⟨r1, r2, _, r3⟩ := hR v hm
    rcases Nat.eq_zero_or_pos v with c | c
    · subst c
      have e0 : spr L m 0 = 0 := by
        apply Nat.eq_of_testBit_eq
        intro j
        rw [Nat.zero_testBit, Bool.eq_iff_iff, spr_tb m 0 hm]
        exact ⟨fun ⟨i, _, _, h⟩ => by rw [Nat.zero_testBit] at h; exact h, fun h => absurd h (by decide)⟩
      refine ⟨[], trivial, e0, ?_, Nat.zero_le _, ?_, ⟨rfl, rfl⟩, fun i hi => absurd hi (Nat.not_lt_zero i)⟩
      · rw [r2, e0]; exact dpZ_0.2
      · rw [e0]; exact dpZ_0.1
    · obtain ⟨g, g0, g1, gb, g2, g3, g4, g5, g6⟩ := r3 c
      have gle := sub_le g1
      obtain ⟨G, c1, c2, c3', c4, c5, c7, c6⟩ := ih (v - g) (by omega) (by omega)
      have ed : v - g = dif v g := dif_s (by omega) g1
      have es : spr L m (v - g) = dif (spr L m v) (spr L m g) := by rw [ed, spr_dif hl.2.2.1 hm (by omega)]
      have hG8 : G.length < 1024 := by have := (pop_8 (show v - g < 256 by omega)); omega
      refine ⟨g :: G, ⟨by omega, g2, gle, c1⟩, ⟨(hl.ok hm).2 c, g6, (spr_sub hl.2.2.1 (by omega) hm).mp g1, by rw [← es]; exact c2⟩, ?_, ?_, ?_, ⟨⟨c, g1, gb, c7.1⟩, by rw [raL, if_neg g3]; exact c7.2⟩, fun i hi => ?_⟩
      · rw [r2, g5, ← (hR (v - g) (by omega)).2.1, c3', List.length_cons]
        exact (Int32.add_comm _ _).trans (nI_1 _)
      · have p1 := (pop_1 (show g < 1024 by omega) g0).1
        rw [List.length_cons, pop_sp g1, ← ed]
        omega
      · rw [g4, c5, suL, suL_x G (0 + T' g), Int32.zero_add]
      · cases i with
        | zero => exact ⟨g0, by show g < 2 ^ m; omega⟩
        | succ i => rw [gl_c]; exact c6 i (by rw [List.length_cons] at hi; omega)
theorem chM_g {u : Nat → Nat} {F : Nat → Int32} : ∀ (G : List Nat) (p i : Nat), p < 1024 → chM u F p G → i < G.length → F (gpL F i p) = nI (u (gl G i)) := by
  intro G
  induction G with
  | nil => intro p i _ _ hi; exact absurd hi (Nat.not_lt_zero i)
  | cons g G ih =>
    intro p i hp h hi
    obtain ⟨h0, h1, h2, h3⟩ := h
    have ule := sub_le h2
    cases i with
    | zero => exact h1
    | succ i =>
      rw [gl_c, gpL, h1, show iv (nI (u g)) = u g from nI_clamp (by omega)]
      exact ih _ i (Nat.lt_of_le_of_lt (sub_le (sub_dif _ _)) hp) h3 (by rw [List.length_cons] at hi; omega)
/-- the whole of it: what the class's tables say of a set that can be consolidated -/
theorem br_all {μ : Nat → Int32} {T' : Nat → Int32} {n m : Nat} {t0 : T3} (hw : WF μ) (hg : gok μ (nI n)) (hn : n < 1024) (hr : rfF μ n = none) (hm : m = (memL n 10 0).length) (h8 : m ≤ 8) (hE : ∀ p, 0 < p → p < 2 ^ m → T' p = ttF μ (spr (memL n 10 0) m p)) (h0 : t0.1 0 = 0 ∧ t0.2.1 0 = 0) : ttO (ttF μ) n ∧ plc n m (memL n 10 0) ∧ ∃ G : List Nat, G.length ≤ 8 ∧ (fbK T' (2 ^ m - 1) 1 t0).2.1 (2 ^ m - 1) = nI G.length ∧ chn (fbK T' (2 ^ m - 1) 1 t0).2.2 (2 ^ m - 1) G ∧ chM (spr (memL n 10 0) m) (dpZ (ttF μ) n).2.2 n G ∧ (dpZ (ttF μ) n).1 n = suL T' G 0 ∧ (dpZ (ttF μ) n).2.1 n = nI G.length ∧ (chP (2 ^ m - 1) G ∧ raL T' G = true ∧ ∀ v, v < 2 ^ m → ∀ g, 0 < v → Vc T' v g → (dpZ (ttF μ) n).1 (spr (memL n 10 0) m v) ≤ T' g + (dpZ (ttF μ) n).1 (spr (memL n 10 0) m (v - g))) ∧ ∀ i, i < G.length → 0 < gl G i ∧ gl G i < 2 ^ m := by
  subst hm
  have hl := plc_mem hn h8
  have n31 : n < 2 ^ 31 := by omega
  have hT : ttO (ttF μ) n := by
    refine ⟨fun g g0 gs => tt_bn hw ?_ (Nat.lt_of_le_of_lt (sub_le gs) hn), sgO_of hw hg hn hr⟩
    obtain ⟨n', ns, a1, a2, a3, a4, a5⟩ := hg
    have : n = n' := (nI_eq n31 (by have := p2_le a2; omega)).mp a5
    subst this
    exact ⟨g, ns, a1, a2, g0, Nat.lt_of_le_of_lt (sub_le gs) a4, rfl⟩
  have hp := Nat.two_pow_pos (memL n 10 0).length
  have h256 := hl.p
  have e0 : spr (memL n 10 0) (memL n 10 0).length 0 = 0 := by
    apply Nat.eq_of_testBit_eq
    intro j
    rw [Nat.zero_testBit, Bool.eq_iff_iff, spr_tb _ 0 hp]
    exact ⟨fun ⟨i, _, _, h⟩ => by rw [Nat.zero_testBit] at h; exact h, fun h => absurd h (by decide)⟩
  have hR := fb_al hl hT hE (2 ^ (memL n 10 0).length - 1) 1 t0 (by omega) (by omega) (fun v hv => by
    rw [show v = 0 by omega]
    refine ⟨?_, ?_, fun g z => absurd z (by omega), fun z => absurd z (by omega)⟩
    · rw [e0, h0.1]; exact dpZ_0.1.symm
    · rw [e0, h0.2]; exact dpZ_0.2.symm)
  obtain ⟨G, c1, c2, c3', c4, c5, c7, c6⟩ := br_ch hl hR _ (2 ^ (memL n 10 0).length - 1) (Nat.lt_succ_self _) (by omega)
  rw [hl.fl] at c2 c5
  have r2 := (hR (2 ^ (memL n 10 0).length - 1) (by omega)).2.1
  rw [hl.fl] at r2
  refine ⟨hT, hl, G, ?_, c3', c1, c2, c5, r2.symm.trans c3', ⟨c7.1, c7.2, fun v hv => (hR v hv).2.2.1⟩, c6⟩
  have := pop_8 (show 2 ^ (memL n 10 0).length - 1 < 256 by omega)
  omega

end S_CAB

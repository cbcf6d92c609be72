section RELL
/-- the two sides of a run: what the class keeps, what the reference keeps -/
def Rel (mu : Nat → Nat → Int32) (g b : Nat → Int32) (sh : List Int32) (r : Nat → Int32) (q : Nat → Nat → Int32) : Prop := q 0 = mu 0 ∧ q 1 = mu 1 ∧ r 3 = g 222 ∧ r 5 = g 225 ∧ (∀ t k, t < iv (g 225) → k < 3334 → q 3 (3334 * t + k) = mu (2 + (iv (g 224) + 8 - iv (g 225) + t) % 8) k) ∧ r 8 = g 227 ∧ q 4 = b ∧ r 12 = g 229 ∧ r 29 = g 230 ∧ r 30 = g 231 ∧ r 40 = nI sh.length ∧ ∀ j x, sh[j]? = some x → q 12 j = x
def OUT (a : Nat → Nat) (S1 : HS) (r1 : Nat → Int32) (q1 : Nat → Nat → Int32) : Prop := ∃ (mu : Nat → Nat → Int32) (g b : Nat → Int32) (sh : List Int32) (q2 : Nat → Nat → Int32), (∀ j k, k < qlen j → q1 j k = q2 j k) ∧ FrS S1 a mu g b sh ∧ Rel mu g b sh r1 q2
variable {a : Nat → Nat} {S S1 : HS} {mu : Nat → Nat → Int32} {g b : Nat → Int32} {sh : List Int32} {r r1 : Nat → Int32} {q q1 : Nat → Nat → Int32} {k v C V : Int32}
theorem rz_gwf (h : FrS S a mu g b sh) : WF (mu 0) ∧ WFP (mu 0) := ⟨(h.2.1 0 (by omega)).1.1, (h.2.1 0 (by omega)).1.2.2.2⟩
theorem rz_cw8 (h : FrS S a mu g b sh) (hR : Rel mu g b sh r q) : CW8 r := by
  obtain ⟨pe, pc, len, h1, h2, h3, h4, h5, h6, h7⟩ := h.2.2.1.1
  exact ⟨pc, h2, hR.2.2.2.1.trans h5⟩
theorem rz_fw (h : FrS S a mu g b sh) (hR : Rel mu g b sh r q) : FW r := by
  obtain ⟨pe, pc, len, h1, h2, h3, h4, h5, h6, h7⟩ := h.2.2.1.1
  exact ⟨len, h3, hR.2.2.2.2.2.1.trans h6⟩
theorem rz_pw (h : FrS S a mu g b sh) (hR : Rel mu g b sh r q) : PW r q := by
  obtain ⟨-, -, -, hlen, r9, -, -, -, hch, hat⟩ := h.2.2.2.2.2
  refine ⟨sh.length, hlen, hR.2.2.2.2.2.2.2.2.2.2.1, fun i hi => ?_⟩
  have hs : sh[i]? = some sh[i] := List.getElem?_eq_getElem hi
  rw [hR.2.2.2.2.2.2.2.2.2.2.2 i _ hs]
  obtain ⟨c, hc, ec⟩ := hch i
  have e : sh[i] = nI c := (hat i _ hs).symm.trans ec
  rw [e]
  exact vc_n hc
/-- the reference's scratch has changed -/
theorem rz_sc {Lr : List Nat} {Lq : List Nat} (hR : Rel mu g b sh r q) (h1 : kR r r1 Lr) (h2 : kQ q q1 Lq) (n1 : (3 ∉ Lr ∧ 5 ∉ Lr ∧ 8 ∉ Lr) ∧ 12 ∉ Lr ∧ 29 ∉ Lr ∧ 30 ∉ Lr ∧ 40 ∉ Lr) (n2 : 0 ∉ Lq ∧ 1 ∉ Lq ∧ 3 ∉ Lq ∧ 4 ∉ Lq ∧ 12 ∉ Lq) : Rel mu g b sh r1 q1 := by
  obtain ⟨a0, a1, a2, a3, a4, a5, a6, a7, a8, a9, a10, a11⟩ := hR
  obtain ⟨⟨m3, m5, m8⟩, m12, m29, m30, m40⟩ := n1
  obtain ⟨l0, l1, l3, l4, l12⟩ := n2
  exact ⟨(h2 0 l0).trans a0, (h2 1 l1).trans a1, (h1 3 m3).trans a2, (h1 5 m5).trans a3, fun t k ht hk => (congrFun (h2 3 l3) _).trans (a4 t k ht hk), (h1 8 m8).trans a5, (h2 4 l4).trans a6, (h1 12 m12).trans a7, (h1 29 m29).trans a8, (h1 30 m30).trans a9, (h1 40 m40).trans a10, fun j x hx => (congrFun (h2 12 l12) _).trans (a11 j x hx)⟩
theorem rz_id (hR : Rel mu g b sh r q) (h1 : kR r r1 SC) (h2 : q1 = q) : Rel mu g b sh r1 q1 := rz_sc (Lr := SC) (Lq := []) hR h1 (fun j _ => by rw [h2]) (by decide) (by decide)
theorem out_id (hF : FrS S1 a mu g b sh) (hR : Rel mu g b sh r1 q1) : OUT a S1 r1 q1 := ⟨mu, g, b, sh, q1, fun _ _ _ => rfl, hF, hR⟩
/-- the reason is kept -/
theorem rz_kp {Lr : List Nat} {Lq : List Nat} {X Y : Int32} {P : Prop} [Decidable P] (hR : Rel mu g b sh r q) (h1 : kR r r1 Lr) (h2 : kQ q q1 Lq) (e29 : r1 29 = if P then X else r 29) (e30 : r1 30 = if P then Y else r 30) (n1 : (3 ∉ Lr ∧ 5 ∉ Lr ∧ 8 ∉ Lr) ∧ 12 ∉ Lr ∧ 40 ∉ Lr) (n2 : 0 ∉ Lq ∧ 1 ∉ Lq ∧ 3 ∉ Lq ∧ 4 ∉ Lq ∧ 12 ∉ Lq) : Rel mu (if P then kpG g X Y else g) b sh r1 q1 := by
  obtain ⟨a0, a1, a2, a3, a4, a5, a6, a7, a8, a9, a10, a11⟩ := hR
  obtain ⟨⟨m3, m5, m8⟩, m12, m40⟩ := n1
  obtain ⟨l0, l1, l3, l4, l12⟩ := n2
  by_cases hP : P
  · rw [if_pos hP] at e29 e30 ⊢
    exact ⟨(h2 0 l0).trans a0, (h2 1 l1).trans a1, (h1 3 m3).trans a2, (h1 5 m5).trans a3, fun t k ht hk => (congrFun (h2 3 l3) _).trans (a4 t k ht hk), (h1 8 m8).trans a5, (h2 4 l4).trans a6, (h1 12 m12).trans a7, e29, e30, (h1 40 m40).trans a10, fun j x hx => (congrFun (h2 12 l12) _).trans (a11 j x hx)⟩
  · rw [if_neg hP] at e29 e30 ⊢
    exact ⟨(h2 0 l0).trans a0, (h2 1 l1).trans a1, (h1 3 m3).trans a2, (h1 5 m5).trans a3, fun t k ht hk => (congrFun (h2 3 l3) _).trans (a4 t k ht hk), (h1 8 m8).trans a5, (h2 4 l4).trans a6, (h1 12 m12).trans a7, e29.trans a8, e30.trans a9, (h1 40 m40).trans a10, fun j x hx => (congrFun (h2 12 l12) _).trans (a11 j x hx)⟩
/-- a state is remembered, the now changes -/
theorem rz_push {Lr : List Nat} {Lq : List Nat} {F : Nat → Int32} (hG : ∃ pe pc len : Nat, pe < 8 ∧ pc ≤ 8 ∧ len ≤ 80 ∧ g 224 = nI pe ∧ g 225 = nI pc ∧ g 227 = nI len ∧ chO b len) (hR : Rel mu g b sh r q) (h1 : kR r r1 Lr) (h2 : kQ q q1 Lq) (hp : psh (q 3) (q1 3) (q 0) (r 5) (r1 5)) (h0 : q1 0 = F) (n1 : (3 ∉ Lr ∧ 8 ∉ Lr) ∧ 12 ∉ Lr ∧ 29 ∉ Lr ∧ 30 ∉ Lr ∧ 40 ∉ Lr) (n2 : 1 ∉ Lq ∧ 4 ∉ Lq ∧ 12 ∉ Lq) : Rel (fun t => if t = 0 then F else rmU mu g t) (rmG g) b sh r1 q1 := by
  obtain ⟨pe, pc, len, hpe, hpc, hlen, e224, e225, e227, -⟩ := hG
  obtain ⟨a0, a1, a2, a3, a4, a5, a6, a7, a8, a9, a10, a11⟩ := hR
  obtain ⟨⟨m3, m8⟩, m12, m29, m30, m40⟩ := n1
  obtain ⟨l1, l4, l12⟩ := n2
  have ive : iv (g 224) = pe := by rw [e224]; exact nI_clamp (by omega)
  have ivc : iv (g 225) = pc := by rw [e225]; exact nI_clamp (by omega)
  have g224 : rmG g 224 = nI ((pe + 1) % 8) := by unfold rmG; rw [if_pos rfl, ive]
  have g225 : rmG g 225 = nI (if pc < 8 then pc + 1 else 8) := by unfold rmG; rw [if_neg (by decide), if_pos rfl, ivc]
  have gx : ∀ i, i ≠ 224 → i ≠ 225 → rmG g i = g i := fun i h3 h4 => by unfold rmG; rw [if_neg h3, if_neg h4]
  have c8 : (if pc < 8 then pc + 1 else 8) ≤ 8 := by split <;> omega
  have iv225 : iv (rmG g 225) = if pc < 8 then pc + 1 else 8 := by rw [g225]; exact nI_clamp (by omega)
  have iv224 : iv (rmG g 224) = (pe + 1) % 8 := by rw [g224]; exact nI_clamp (by omega)
  have U : ∀ t, t ≠ 0 → rmU mu g t = if t = 2 + pe then mu 0 else mu t := fun t _ => by unfold rmU; rw [ive]
  obtain ⟨n, hn8, en, hn⟩ := hp
  have enp : n = pc := by
    have : nI n = nI pc := en.symm.trans (a3.trans e225)
    exact (nI_eq (by omega) (by omega)).mp this
  subst enp
  refine ⟨h0, ?_, ?_, ?_, fun t k ht hk => ?_, ?_, (h2 4 l4).trans a6, ?_, ?_, ?_, (h1 40 m40).trans a10, fun j x hx => (congrFun (h2 12 l12) _).trans (a11 j x hx)⟩
  · rw [h2 1 l1, a1]
    show mu 1 = if (1 : Nat) = 0 then F else rmU mu g 1
    rw [if_neg (by decide), U 1 (by decide), if_neg (by omega)]
  · rw [h1 3 m3, a2, gx 222 (by decide) (by decide)]
  · rw [g225]
    by_cases c : n < 8
    · rw [if_pos c] at hn ⊢; exact hn.1
    · rw [if_neg c] at hn ⊢; exact hn.1
  · rw [iv225] at ht
    rw [iv225, iv224]
    show q1 3 (3334 * t + k) = (if 2 + ((pe + 1) % 8 + 8 - (if n < 8 then n + 1 else 8) + t) % 8 = 0 then F else rmU mu g (2 + ((pe + 1) % 8 + 8 - (if n < 8 then n + 1 else 8) + t) % 8)) k
    rw [if_neg (by omega), U _ (by omega)]
    rw [ive, ivc] at a4
    by_cases c : n < 8
    · rw [if_pos c] at hn ht ⊢
      obtain ⟨-, hold, hnew⟩ := hn
      by_cases e : t < n
      · have e1 : (pe + 1) % 8 + 8 - (n + 1) + t = (pe + 1) % 8 + 8 - (n + 1) + t := rfl
        have e2 : ((pe + 1) % 8 + 8 - (n + 1) + t) % 8 = (pe + 8 - n + t) % 8 := by omega
        have e3 : ((pe + 1) % 8 + 8 - (n + 1) + t) % 8 ≠ pe := by omega
        rw [if_neg (by omega), e2, hold t k e hk, a4 t k e hk]
      · have et : t = n := by omega
        subst et
        rw [if_pos (by omega), hnew k hk, a0]
    · rw [if_neg c] at hn ht ⊢
      have e8 : n = 8 := by omega
      subst e8
      obtain ⟨-, hold, hnew⟩ := hn
      by_cases e : t < 7
      · have e2 : ((pe + 1) % 8 + 8 - 8 + t) % 8 = (pe + 8 - 8 + (t + 1)) % 8 := by omega
        have e3 : ((pe + 1) % 8 + 8 - 8 + t) % 8 ≠ pe := by omega
        rw [if_neg (by omega), e2, hold t k e hk, a4 (t + 1) k (by omega) hk]
      · have et : t = 7 := by omega
        subst et
        rw [if_pos (by omega), hnew k hk, a0]
  · rw [h1 8 m8, a5, gx 227 (by decide) (by decide)]
  · rw [h1 12 m12, a7, gx 229 (by decide) (by decide)]
  · rw [h1 29 m29, a8, gx 230 (by decide) (by decide)]
  · rw [h1 30 m30, a9, gx 231 (by decide) (by decide)]
/-- a method that remembers a state, or refuses -/
theorem rz_stP {F : Nat → Int32} {A : Int32} {f1 : Nat → Int64} (hF : FrS S a mu g b sh) (hR : Rel mu g b sh r q) (hp : HP C (Int32.toInt64 A) (fun S1 => FrS S1 a (fun t => if t = 0 then F else rmU mu g t) (rmG g) b sh) (fun S1 => FrS S1 a mu g b sh) k S1 f1) (hq : stP r q C F A v r1 q1) : r1 6 = k ∧ (k = 0 → f1 0 = Int32.toInt64 v) ∧ OUT a S1 r1 q1 := by
  obtain ⟨hk, hs, hx⟩ := hp
  obtain ⟨kr, kq, h6, hbad, hok⟩ := hq
  refine ⟨h6.trans hk.symm, fun z => ?_, ?_⟩
  · have hC : C = 0 := hk.symm.trans z
    rw [(hs hC).1, (hok hC).2.2]
  · by_cases hC : C = 0
    · obtain ⟨p1, p2, -⟩ := hok hC
      exact out_id (hs hC).2 (rz_push (Lr := 5 :: SC) (Lq := [0, 3]) hF.2.2.1.1 hR kr kq p1 p2 (by decide) (by decide))
    · obtain ⟨e5, eq⟩ := hbad hC
      refine out_id (hx hC) (rz_sc (Lr := SC) (Lq := []) hR (fun i hi => ?_) (fun j _ => by rw [eq]) (by decide) (by decide))
      by_cases e : i = 5
      · rw [e]; exact e5
      · exact kr i (fun z => by rcases List.mem_cons.mp z with z | z; exact e z; exact hi z)
/-- a method that only reads -/
theorem rz_read {f1 : Nat → Int64} {Lq : List Nat} (hR : Rel mu g b sh r q) (hp : HP C (Int32.toInt64 V) (fun S1 => FrS S1 a mu g b sh) (fun S1 => FrS S1 a mu g b sh) k S1 f1) (kr : kR r r1 SC) (kq : kQ q q1 Lq) (h6 : r1 6 = C) (hv : C = 0 → v = V) (n2 : 0 ∉ Lq ∧ 1 ∉ Lq ∧ 3 ∉ Lq ∧ 4 ∉ Lq ∧ 12 ∉ Lq) : r1 6 = k ∧ (k = 0 → f1 0 = Int32.toInt64 v) ∧ OUT a S1 r1 q1 := by
  obtain ⟨hk, hs, hx⟩ := hp
  have hR1 := rz_sc (Lr := SC) hR kr kq (by decide) n2
  refine ⟨h6.trans hk.symm, fun z => ?_, ?_⟩
  · have hC : C = 0 := hk.symm.trans z
    rw [(hs hC).1, hv hC]
  · by_cases hC : C = 0
    · exact out_id (hs hC).2 hR1
    · exact out_id (hx hC) hR1
/-- a method that reads and may keep a reason -/
theorem rz_keep {f1 : Nat → Int64} {Lq : List Nat} {n X Y : Int32} (hn : ¬ n = 0) (hR : Rel mu g b sh r q) (hp : HP C (Int32.toInt64 V) (fun S1 => FrS S1 a mu g b sh) (fun S1 => FrS S1 a mu (if C = n then kpG g X Y else g) b sh) k S1 f1) (kr : kR r r1 SCK) (kq : kQ q q1 Lq) (h6 : r1 6 = C) (hv : C = 0 → v = V) (e29 : r1 29 = if C = n then X else r 29) (e30 : r1 30 = if C = n then Y else r 30) (n2 : 0 ∉ Lq ∧ 1 ∉ Lq ∧ 3 ∉ Lq ∧ 4 ∉ Lq ∧ 12 ∉ Lq) : r1 6 = k ∧ (k = 0 → f1 0 = Int32.toInt64 v) ∧ OUT a S1 r1 q1 := by
  obtain ⟨hk, hs, hx⟩ := hp
  have hR1 := rz_kp (Lr := SCK) hR kr kq e29 e30 (by decide) n2
  refine ⟨h6.trans hk.symm, fun z => ?_, ?_⟩
  · have hC : C = 0 := hk.symm.trans z
    rw [(hs hC).1, hv hC]
  · by_cases hC : C = 0
    · rw [if_neg (fun z => hn (z.symm.trans hC))] at hR1
      exact out_id (hs hC).2 hR1
    · exact out_id (hx hC) hR1
theorem rz_feed {p0 : Int32} {f1 : Nat → Int64} (hR : Rel mu g b sh r q) (hp : HP (if g 227 = 80 then 1 else 0) (Int32.toInt64 (g 227 + 1)) (fun S1 => FrS S1 a mu (fun i => if i = 227 then g 227 + 1 else g i) (upd b (iv (g 227)) p0) sh) (fun S1 => FrS S1 a mu g b sh) k S1 f1) (hq : kR r r1 (8 :: SC) ∧ kQ q q1 [4] ∧ r1 6 = (if r 8 = 80 then 1 else 0) ∧ r1 8 = (if r 8 = 80 then r 8 else r 8 + 1) ∧ q1 4 = (if r 8 = 80 then q 4 else upd (q 4) (iv (r 8)) p0) ∧ (r1 6 = 0 → v = r1 8)) : r1 6 = k ∧ (k = 0 → f1 0 = Int32.toInt64 v) ∧ OUT a S1 r1 q1 := by
  obtain ⟨a0, a1, a2, a3, a4, a5, a6, a7, a8, a9, a10, a11⟩ := hR
  obtain ⟨hk, hs, hx⟩ := hp
  obtain ⟨kr, kq, h6, h8, h4, hv⟩ := hq
  rw [a5] at h6 h8 h4
  refine ⟨h6.trans hk.symm, fun z => ?_, ?_⟩
  · have hC := hk.symm.trans z
    rw [(hs hC).1, hv (h6.trans hC), h8, if_neg (fun c => by rw [if_pos c] at hC; exact absurd hC (by decide))]
  · by_cases c : g 227 = 80
    · rw [if_pos c] at h8 h4 hx
      exact out_id (hx (by decide)) ⟨(kq 0 (by decide)).trans a0, (kq 1 (by decide)).trans a1, (kr 3 (by decide)).trans a2, (kr 5 (by decide)).trans a3, fun t k ht hk => (congrFun (kq 3 (by decide)) _).trans (a4 t k ht hk), h8, h4.trans a6, (kr 12 (by decide)).trans a7, (kr 29 (by decide)).trans a8, (kr 30 (by decide)).trans a9, (kr 40 (by decide)).trans a10, fun j x hx => (congrFun (kq 12 (by decide)) _).trans (a11 j x hx)⟩
    · rw [if_neg c] at h8 h4 hs
      have hF := (hs rfl).2
      exact out_id hF ⟨(kq 0 (by decide)).trans a0, (kq 1 (by decide)).trans a1, (kr 3 (by decide)).trans a2, (kr 5 (by decide)).trans a3, fun t k ht hk => (congrFun (kq 3 (by decide)) _).trans (a4 t k ht hk), h8, by rw [h4, a6], (kr 12 (by decide)).trans a7, (kr 29 (by decide)).trans a8, (kr 30 (by decide)).trans a9, (kr 40 (by decide)).trans a10, fun j x hx => (congrFun (kq 12 (by decide)) _).trans (a11 j x hx)⟩
/-- the reference's rows, one of them named anew -/
theorem rz_up {j0 : Nat} {row : Nat → Int32} (h : ∀ k, k < qlen j0 → q1 j0 k = row k) : ∀ j k, k < qlen j → q1 j k = (if j = j0 then row else q1 j) k := fun j k hk => by
  by_cases e : j = j0
  · rw [if_pos e, e]; exact h k (by rw [← e]; exact hk)
  · rw [if_neg e]
theorem rz_undo {f1 : Nat → Int64} (hF : FrS S a mu g b sh) (hR : Rel mu g b sh r q) (hp : HP (if g 225 = 0 then 1 else 0) (Int32.toInt64 (g 225 - 1)) (fun S1 => FrS S1 a (fun t => if t = 0 then mu (2 + (iv (g 224) + 7) % 8) else mu t) (fun i => if i = 224 then nI ((iv (g 224) + 7) % 8) else if i = 225 then g 225 - 1 else g i) b sh) (fun S1 => FrS S1 a mu g b sh) k S1 f1) (hq : kR r r1 (5 :: SC) ∧ kQ q q1 [0] ∧ r1 6 = (if r 5 = 0 then 1 else 0) ∧ (r 5 = 0 → r1 5 = r 5 ∧ q1 = q) ∧ (¬ r 5 = 0 → r1 5 = r 5 - 1 ∧ (∀ k, k < 3334 → q1 0 k = q 3 (3334 * (iv (r 5) - 1) + k)) ∧ v = r 5 - 1)) : r1 6 = k ∧ (k = 0 → f1 0 = Int32.toInt64 v) ∧ OUT a S1 r1 q1 := by
  obtain ⟨pe, pc, len, hpe, hpc, hlen, e224, e225, e227, -⟩ := hF.2.2.1.1
  obtain ⟨a0, a1, a2, a3, a4, a5, a6, a7, a8, a9, a10, a11⟩ := hR
  obtain ⟨hk, hs, hx⟩ := hp
  obtain ⟨kr, kq, h6, hbad, hok⟩ := hq
  have ive : iv (g 224) = pe := by rw [e224]; exact nI_clamp (by omega)
  have ivc : iv (g 225) = pc := by rw [e225]; exact nI_clamp (by omega)
  rw [a3] at h6 hbad hok
  refine ⟨h6.trans hk.symm, fun z => ?_, ?_⟩
  · have hC := hk.symm.trans z
    have c : ¬ g 225 = 0 := fun c => by rw [if_pos c] at hC; exact absurd hC (by decide)
    rw [(hs hC).1, (hok c).2.2]
  · by_cases c : g 225 = 0
    · rw [if_pos c] at hx
      obtain ⟨e5, eq⟩ := hbad c
      refine out_id (hx (by decide)) (rz_sc (Lr := SC) (Lq := []) ⟨a0, a1, a2, a3, a4, a5, a6, a7, a8, a9, a10, a11⟩ (fun i hi => ?_) (fun j _ => by rw [eq]) (by decide) (by decide))
      by_cases e : i = 5
      · rw [e, e5]; exact a3.symm
      · exact kr i (fun z => by rcases List.mem_cons.mp z with z | z; exact e z; exact hi z)
    · rw [if_neg c] at hs
      obtain ⟨e5, hrow, -⟩ := hok c
      have hp0 : 0 < pc := by
        rcases Nat.eq_zero_or_pos pc with z | z
        · exact absurd (by rw [e225, z]; exact nI_0) c
        · exact z
      have em : g 225 - 1 = nI (pc - 1) := by
        rw [e225]
        exact sub_k (b := 1) hp0
      rw [ivc] at hrow
      rw [ivc, ive] at a4
      refine ⟨_, _, _, _, fun j => if j = 0 then mu (2 + (pe + 7) % 8) else q1 j, rz_up (j0 := 0) (fun k hk => ?_), (hs rfl).2, ?_⟩
      · rw [hrow k hk, a4 (pc - 1) k (by omega) hk, show (pe + 8 - pc + (pc - 1)) % 8 = (pe + 7) % 8 by omega]
      · refine ⟨?_, ?_, ?_, ?_, fun t k ht hk => ?_, ?_, ?_, ?_, ?_, ?_, ?_, fun j x hx => ?_⟩
        · show (if 0 = 0 then mu (2 + (pe + 7) % 8) else q1 0) = if 0 = 0 then mu (2 + (iv (g 224) + 7) % 8) else mu 0
          rw [if_pos rfl, if_pos rfl, ive]
        · show (if 1 = 0 then mu (2 + (pe + 7) % 8) else q1 1) = if 1 = 0 then mu (2 + (iv (g 224) + 7) % 8) else mu 1
          rw [if_neg (by decide), if_neg (by decide), kq 1 (by decide), a1]
        · exact (kr 3 (by decide)).trans a2
        · show r1 5 = if 225 = 224 then _ else if 225 = 225 then g 225 - 1 else g 225
          rw [if_neg (by decide), if_pos rfl, e5]
        · have i5 : iv (if 225 = 224 then nI ((iv (g 224) + 7) % 8) else if 225 = 225 then g 225 - 1 else g 225) = pc - 1 := by
            rw [if_neg (by decide), if_pos rfl, em]
            exact nI_clamp (by omega)
          have i4 : iv (if 224 = 224 then nI ((iv (g 224) + 7) % 8) else if 224 = 225 then g 225 - 1 else g 224) = (pe + 7) % 8 := by
            rw [if_pos rfl, ive]
            exact nI_clamp (by omega)
          have ht : t < iv (if 225 = 224 then nI ((iv (g 224) + 7) % 8) else if 225 = 225 then g 225 - 1 else g 225) := ht
          show (if 3 = 0 then mu (2 + (pe + 7) % 8) else q1 3) (3334 * t + k) = (if 2 + (iv (if 224 = 224 then nI ((iv (g 224) + 7) % 8) else if 224 = 225 then g 225 - 1 else g 224) + 8 - iv (if 225 = 224 then nI ((iv (g 224) + 7) % 8) else if 225 = 225 then g 225 - 1 else g 225) + t) % 8 = 0 then mu (2 + (iv (g 224) + 7) % 8) else mu (2 + (iv (if 224 = 224 then nI ((iv (g 224) + 7) % 8) else if 224 = 225 then g 225 - 1 else g 224) + 8 - iv (if 225 = 224 then nI ((iv (g 224) + 7) % 8) else if 225 = 225 then g 225 - 1 else g 225) + t) % 8)) k
          rw [i5] at ht ⊢
          rw [i4, if_neg (by decide), if_neg (by omega), kq 3 (by decide), a4 t k (by omega) hk, show (pe + 8 - pc + t) % 8 = ((pe + 7) % 8 + 8 - (pc - 1) + t) % 8 by omega]
        · exact (kr 8 (by decide)).trans a5
        · exact (kq 4 (by decide)).trans a6
        · exact (kr 12 (by decide)).trans a7
        · exact (kr 29 (by decide)).trans a8
        · exact (kr 30 (by decide)).trans a9
        · exact (kr 40 (by decide)).trans a10
        · exact (congrFun (kq 12 (by decide)) _).trans (a11 j x hx)
theorem rz_rest {f1 : Nat → Int64} (hF : FrS S a mu g b sh) (hR : Rel mu g b sh r q) (hp : HP (if g 222 = 0 then 1 else 0) (Int32.toInt64 (mu 1 1)) (fun S1 => FrS S1 a (fun t => if t = 0 then mu 1 else mu t) (fun i => if i = 225 then 0 else g i) b sh) (fun S1 => FrS S1 a mu g b sh) k S1 f1) (hq : kR r r1 (5 :: SC) ∧ kQ q q1 [0] ∧ r1 6 = (if r 3 = 0 then 1 else 0) ∧ (r 3 = 0 → r1 5 = r 5 ∧ q1 = q) ∧ (¬ r 3 = 0 → r1 5 = 0 ∧ (∀ k, k < 3334 → q1 0 k = q 1 k) ∧ v = q1 0 1)) : r1 6 = k ∧ (k = 0 → f1 0 = Int32.toInt64 v) ∧ OUT a S1 r1 q1 := by
  obtain ⟨a0, a1, a2, a3, a4, a5, a6, a7, a8, a9, a10, a11⟩ := hR
  obtain ⟨hk, hs, hx⟩ := hp
  obtain ⟨kr, kq, h6, hbad, hok⟩ := hq
  rw [a2] at h6 hbad hok
  refine ⟨h6.trans hk.symm, fun z => ?_, ?_⟩
  · have hC := hk.symm.trans z
    have c : ¬ g 222 = 0 := fun c => by rw [if_pos c] at hC; exact absurd hC (by decide)
    rw [(hs hC).1, (hok c).2.2, (hok c).2.1 1 (by decide), a1]
  · by_cases c : g 222 = 0
    · rw [if_pos c] at hx
      obtain ⟨e5, eq⟩ := hbad c
      refine out_id (hx (by decide)) (rz_sc (Lr := SC) (Lq := []) ⟨a0, a1, a2, a3, a4, a5, a6, a7, a8, a9, a10, a11⟩ (fun i hi => ?_) (fun j _ => by rw [eq]) (by decide) (by decide))
      by_cases e : i = 5
      · rw [e, e5]
      · exact kr i (fun z => by rcases List.mem_cons.mp z with z | z; exact e z; exact hi z)
    · rw [if_neg c] at hs
      obtain ⟨e5, hrow, -⟩ := hok c
      refine ⟨_, _, _, _, fun j => if j = 0 then q 1 else q1 j, rz_up (j0 := 0) (fun k hk => hrow k hk), (hs rfl).2, ?_⟩
      refine ⟨?_, ?_, ?_, ?_, fun t k ht hk => ?_, ?_, ?_, ?_, ?_, ?_, ?_, fun j x hx => ?_⟩
      · show (if 0 = 0 then q 1 else q1 0) = if 0 = 0 then mu 1 else mu 0
        rw [if_pos rfl, if_pos rfl, a1]
      · show (if 1 = 0 then q 1 else q1 1) = if 1 = 0 then mu 1 else mu 1
        rw [if_neg (by decide), if_neg (by decide), kq 1 (by decide), a1]
      · exact (kr 3 (by decide)).trans a2
      · show r1 5 = if 225 = 225 then 0 else g 225
        rw [if_pos rfl, e5]
      · have ht : t < iv (if 225 = 225 then 0 else g 225) := ht
        rw [if_pos rfl] at ht
        exact absurd ht (Nat.not_lt_zero t)
      · exact (kr 8 (by decide)).trans a5
      · exact (kq 4 (by decide)).trans a6
      · exact (kr 12 (by decide)).trans a7
      · exact (kr 29 (by decide)).trans a8
      · exact (kr 30 (by decide)).trans a9
      · exact (kr 40 (by decide)).trans a10
      · exact (congrFun (kq 12 (by decide)) _).trans (a11 j x hx)
theorem rz_save (hR : Rel mu g b sh r q) (hF1 : FrS S1 a (fun t => if t = 1 then mu 0 else mu t) (fun i => if i = 222 then 1 else g i) b sh) (hq : kR r r1 (3 :: SC) ∧ kQ q q1 [1] ∧ r1 3 = 1 ∧ (∀ k, k < 3334 → q1 1 k = q 0 k) ∧ v = q 0 1) : v = mu 0 1 ∧ OUT a S1 r1 q1 := by
  obtain ⟨a0, a1, a2, a3, a4, a5, a6, a7, a8, a9, a10, a11⟩ := hR
  obtain ⟨kr, kq, h3, hrow, hv⟩ := hq
  refine ⟨by rw [hv, a0], ⟨_, _, _, _, fun j => if j = 1 then q 0 else q1 j, rz_up (j0 := 1) (fun k hk => hrow k hk), hF1, ?_⟩⟩
  refine ⟨?_, ?_, ?_, ?_, fun t k ht hk => ?_, ?_, ?_, ?_, ?_, ?_, ?_, fun j x hx => ?_⟩
  · show (if 0 = 1 then q 0 else q1 0) = if 0 = 1 then mu 0 else mu 0
    rw [if_neg (by decide), if_neg (by decide), kq 0 (by decide), a0]
  · show (if 1 = 1 then q 0 else q1 1) = if 1 = 1 then mu 0 else mu 1
    rw [if_pos rfl, if_pos rfl, a0]
  · exact h3
  · exact (kr 5 (by decide)).trans a3
  · have ht : t < iv (g 225) := ht
    show (if 3 = 1 then q 0 else q1 3) (3334 * t + k) = (if 2 + (iv (g 224) + 8 - iv (g 225) + t) % 8 = 1 then mu 0 else mu (2 + (iv (g 224) + 8 - iv (g 225) + t) % 8)) k
    rw [if_neg (by decide), if_neg (by omega), kq 3 (by decide)]
    exact a4 t k ht hk
  · exact (kr 8 (by decide)).trans a5
  · exact (kq 4 (by decide)).trans a6
  · exact (kr 12 (by decide)).trans a7
  · exact (kr 29 (by decide)).trans a8
  · exact (kr 30 (by decide)).trans a9
  · exact (kr 40 (by decide)).trans a10
  · exact (congrFun (kq 12 (by decide)) _).trans (a11 j x hx)
theorem rz_write {f1 : Nat → Int64} {P : List Int32} (hR : Rel mu g b sh r q) (hp : HP C (Int32.toInt64 (nI P.length)) (fun S1 => FrS S1 a mu g b P) (fun S1 => FrS S1 a mu g b sh) k S1 f1) (hq : kR r r1 (40 :: SC) ∧ kQ q q1 [12] ∧ r1 6 = C ∧ (¬ C = 0 → r1 40 = r 40 ∧ q1 = q) ∧ (C = 0 → v = r1 40 ∧ r1 40 = nI P.length ∧ ∀ j x, P[j]? = some x → q1 12 j = x)) : r1 6 = k ∧ (k = 0 → f1 0 = Int32.toInt64 v) ∧ OUT a S1 r1 q1 := by
  obtain ⟨a0, a1, a2, a3, a4, a5, a6, a7, a8, a9, a10, a11⟩ := hR
  obtain ⟨hk, hs, hx⟩ := hp
  obtain ⟨kr, kq, h6, hbad, hok⟩ := hq
  refine ⟨h6.trans hk.symm, fun z => ?_, ?_⟩
  · have hC := hk.symm.trans z
    rw [(hs hC).1, (hok hC).1, (hok hC).2.1]
  · by_cases hC : C = 0
    · exact out_id (hs hC).2 ⟨(kq 0 (by decide)).trans a0, (kq 1 (by decide)).trans a1, (kr 3 (by decide)).trans a2, (kr 5 (by decide)).trans a3, fun t k ht hk => (congrFun (kq 3 (by decide)) _).trans (a4 t k ht hk), (kr 8 (by decide)).trans a5, (kq 4 (by decide)).trans a6, (kr 12 (by decide)).trans a7, (kr 29 (by decide)).trans a8, (kr 30 (by decide)).trans a9, (hok hC).2.1, (hok hC).2.2⟩
    · obtain ⟨e40, eq⟩ := hbad hC
      refine out_id (hx hC) (rz_sc (Lr := SC) (Lq := []) ⟨a0, a1, a2, a3, a4, a5, a6, a7, a8, a9, a10, a11⟩ (fun i hi => ?_) (fun j _ => by rw [eq]) (by decide) (by decide))
      by_cases e : i = 40
      · rw [e, e40]
      · exact kr i (fun z => by rcases List.mem_cons.mp z with z | z; exact e z; exact hi z)
theorem rz_post {f1 : Nat → Int64} {F : Nat → Int32} {X Y : Int32} (hF : FrS S a mu g b sh) (hR : Rel mu g b sh r q) (hp : HP C (Int32.toInt64 V) (fun S1 => FrS S1 a (fun t => if t = 0 then F else rmU mu g t) (rmG g) b sh) (fun S1 => FrS S1 a mu (if C = 4 then kpG g X Y else g) b sh) k S1 f1) (hq : kQ q q1 [0, 3, 7, 8, 9, 10] ∧ kR r r1 (5 :: SCK) ∧ r1 6 = C ∧ r1 29 = (if C = 4 then X else r 29) ∧ r1 30 = (if C = 4 then Y else r 30) ∧ (¬ C = 0 → r1 5 = r 5 ∧ q1 = q) ∧ (C = 0 → psh (q 3) (q1 3) (mu 0) (r 5) (r1 5) ∧ q1 0 = F ∧ v = V)) : r1 6 = k ∧ (k = 0 → f1 0 = Int32.toInt64 v) ∧ OUT a S1 r1 q1 := by
  obtain ⟨hk, hs, hx⟩ := hp
  obtain ⟨kq, kr, h6, h29, h30, hbad, hok⟩ := hq
  refine ⟨h6.trans hk.symm, fun z => ?_, ?_⟩
  · have hC : C = 0 := hk.symm.trans z
    rw [(hs hC).1, (hok hC).2.2]
  · by_cases hC : C = 0
    · obtain ⟨p1, p2, -⟩ := hok hC
      have n4 : ¬ C = 4 := fun z => absurd (z.symm.trans hC) (by decide)
      rw [if_neg n4] at h29 h30
      refine out_id (hs hC).2 (rz_push (Lr := 5 :: SC) (Lq := [0, 3, 7, 8, 9, 10]) hF.2.2.1.1 hR (fun i hi => ?_) kq (by rw [hR.1]; exact p1) p2 (by decide) (by decide))
      by_cases e : i = 29
      · rw [e]; exact h29
      · by_cases e2 : i = 30
        · rw [e2]; exact h30
        · refine kr i (fun z => ?_)
          rcases List.mem_cons.mp z with z | z
          · exact hi (z ▸ List.mem_cons_self)
          · refine hi (List.mem_cons_of_mem _ ?_)
            rcases List.mem_append.mp (show i ∈ SC ++ [29, 30] from z) with z | z
            · exact z
            · simp only [List.mem_cons, List.not_mem_nil, or_false] at z
              omega
    · obtain ⟨e5, eq⟩ := hbad hC
      refine out_id (hx hC) (rz_kp (Lr := SCK) (Lq := []) hR (fun i hi => ?_) (fun j _ => by rw [eq]) h29 h30 (by decide) (by decide))
      by_cases e : i = 5
      · rw [e]; exact e5
      · exact kr i (fun z => by rcases List.mem_cons.mp z with z | z; exact e z; exact hi z)
theorem rz_amend {p0 : Int32} {f1 : Nat → Int64} (hF : FrS S a mu g b sh) (hR : Rel mu g b sh r q) (hp : HP (amC mu g b p0) (Int32.toInt64 (amV g b)) (fun S1 => FrS S1 a (amMu mu g b p0) (amGs g b) b sh) (fun S1 => FrS S1 a mu (amGx mu g b p0) b sh) k S1 f1) (hq : amP r q p0 v r1 q1) : r1 6 = k ∧ (k = 0 → f1 0 = Int32.toInt64 v) ∧ OUT a S1 r1 q1 := by
  have hG := hF.2.2.1.1
  have hR0 := hR
  obtain ⟨a0, a1, a2, a3, a4, a5, a6, a7, a8, a9, a10, a11⟩ := hR
  obtain ⟨hk, hs, hx⟩ := hp
  obtain ⟨kr, kq, h8, hA, hB, hCC⟩ := hq
  have eA : amF (q 4) (iv (r 8)) = amA g b := by rw [a6, a5]; rfl
  have e8 : iv (r 8) = iv (g 227) := by rw [a5]
  rw [a0] at hA hB hCC
  rw [eA, e8] at hB hCC
  have ug : ∀ i, i ≠ 227 → amU g i = g i := fun i h => by unfold amU; rw [if_neg h]
  have u7 : amU g 227 = 0 := by unfold amU; rw [if_pos rfl]
  -- nothing but the input is spent
  have same : ∀ g9 : Nat → Int32, (∀ i, i ≠ 227 → i ≠ 229 → g9 i = g i) → g9 227 = 0 → r1 12 = g9 229 → r1 5 = r 5 → q1 0 = q 0 → q1 3 = q 3 → Rel mu g9 b sh r1 q1 := fun g9 hg h27 h12 h5 q0 q3 => ⟨q0.trans a0, (kq 1 (by decide)).trans a1, by rw [hg 222 (by decide) (by decide)]; exact (kr 3 (by decide)).trans a2, by rw [hg 225 (by decide) (by decide)]; exact h5.trans a3, fun t k ht hk => by rw [hg 225 (by decide) (by decide)] at ht ⊢; rw [hg 224 (by decide) (by decide), q3]; exact a4 t k ht hk, h8.trans h27.symm, (kq 4 (by decide)).trans a6, h12, by rw [hg 230 (by decide) (by decide)]; exact (kr 29 (by decide)).trans a8, by rw [hg 231 (by decide) (by decide)]; exact (kr 30 (by decide)).trans a9, (kr 40 (by decide)).trans a10, fun j x hx => (congrFun (kq 12 (by decide)) _).trans (a11 j x hx)⟩
  by_cases hz : zin p0 0 (mu 0 0 - 1) = 0
  · obtain ⟨h6, h5, h12, q0, q3⟩ := hA hz
    have eC : amC mu g b p0 = 1 := by unfold amC; rw [if_pos hz]
    have eG : amGx mu g b p0 = amU g := by unfold amGx; rw [if_pos hz]
    rw [eC] at hk hx
    rw [eG] at hx
    refine ⟨h6.trans hk.symm, fun z => absurd (hk.symm.trans z) (by decide), out_id (hx (by decide)) (same _ (fun i h1 _ => ug i h1) u7 ?_ h5 (q0.trans a0.symm) q3)⟩
    rw [ug 229 (by decide), h12]; exact a7
  · by_cases hZ : amZ g b = true
    · have hor : (amA g b).2.2 = true ∨ (amA g b).2.1 < iv (g 227) := by
        unfold amZ at hZ
        rcases Bool.or_eq_true_iff.mp hZ with z | z
        · exact Or.inl z
        · exact Or.inr (of_decide_eq_true z)
      obtain ⟨h6, hv, h5, h12, q0, q3⟩ := hB hz hor
      have eC : amC mu g b p0 = 0 := by unfold amC; rw [if_neg hz, if_pos hZ]
      have eM : amMu mu g b p0 = mu := by unfold amMu; rw [if_pos hZ]
      have eG : amGs g b = amU g := by unfold amGs; rw [if_pos hZ]
      have eV : amV g b = (-100) - nI (amA g b).2.1 := by unfold amV; rw [if_pos hZ]
      rw [eC] at hk hs
      rw [eM, eG] at hs
      refine ⟨h6.trans hk.symm, fun z => ?_, out_id (hs rfl).2 (same _ (fun i h1 _ => ug i h1) u7 ?_ h5 (q0.trans a0.symm) q3)⟩
      · rw [(hs rfl).1, eV, hv]
      · rw [ug 229 (by decide), h12]; exact a7
    · have hZf : (amA g b).2.2 = false ∧ iv (g 227) ≤ (amA g b).2.1 := by
        unfold amZ at hZ
        refine ⟨?_, ?_⟩
        · cases e : (amA g b).2.2 with
          | false => rfl
          | true => exact absurd (by rw [e]; rfl) hZ
        · rcases Nat.lt_or_ge (amA g b).2.1 (iv (g 227)) with z | z
          · exact absurd (by rw [decide_eq_true z, Bool.or_true]) hZ
          · exact z
      obtain ⟨hsome, hnone⟩ := hCC hz hZf.1 hZf.2
      cases hi : (amG (iv p0) (amA g b).1 0 (mu 0)).1 with
      | some i =>
        obtain ⟨h6, h12, h5, q0, q3⟩ := hsome i hi
        have eC : amC mu g b p0 = 2 := by unfold amC; rw [if_neg hz, if_neg hZ, hi]
        have eG : amGx mu g b p0 = fun j => if j = 229 then nI i else amU g j := by unfold amGx; rw [if_neg hz, hi]
        rw [eC] at hk hx
        rw [eG] at hx
        refine ⟨h6.trans hk.symm, fun z => absurd (hk.symm.trans z) (by decide), ⟨_, _, _, _, fun j => if j = 0 then mu 0 else q1 j, rz_up (j0 := 0) (fun k hk => q0 k hk), hx (by decide), ?_⟩⟩
        have gg : ∀ j, j ≠ 227 → j ≠ 229 → (if j = 229 then nI i else amU g j) = g j := fun j h1 h2 => by rw [if_neg h2]; exact ug j h1
        refine ⟨?_, ?_, ?_, ?_, fun t k ht hk => ?_, ?_, ?_, ?_, ?_, ?_, ?_, fun j x hx => ?_⟩
        · show (if 0 = 0 then mu 0 else q1 0) = mu 0
          rw [if_pos rfl]
        · show (if 1 = 0 then mu 0 else q1 1) = mu 1
          rw [if_neg (by decide), kq 1 (by decide), a1]
        · exact ((kr 3 (by decide)).trans a2).trans (gg 222 (by decide) (by decide)).symm
        · exact (h5.trans a3).trans (gg 225 (by decide) (by decide)).symm
        · have ht : t < iv (if 225 = 229 then nI i else amU g 225) := ht
          show (if 3 = 0 then mu 0 else q1 3) (3334 * t + k) = mu (2 + (iv (if 224 = 229 then nI i else amU g 224) + 8 - iv (if 225 = 229 then nI i else amU g 225) + t) % 8) k
          rw [gg 225 (by decide) (by decide)] at ht ⊢
          rw [gg 224 (by decide) (by decide), if_neg (by decide), q3]
          exact a4 t k ht hk
        · show r1 8 = if 227 = 229 then nI i else amU g 227
          rw [if_neg (by decide), u7]; exact h8
        · exact (kq 4 (by decide)).trans a6
        · show r1 12 = if 229 = 229 then nI i else amU g 229
          rw [if_pos rfl]; exact h12
        · exact ((kr 29 (by decide)).trans a8).trans (gg 230 (by decide) (by decide)).symm
        · exact ((kr 30 (by decide)).trans a9).trans (gg 231 (by decide) (by decide)).symm
        · exact (kr 40 (by decide)).trans a10
        · exact (congrFun (kq 12 (by decide)) _).trans (a11 j x hx)
      | none =>
        obtain ⟨h6, h12, hv, q0, hpsh⟩ := hnone hi
        have eC : amC mu g b p0 = 0 := by unfold amC; rw [if_neg hz, if_neg hZ, hi]
        have eM : amMu mu g b p0 = fun t => if t = 0 then (amG (iv p0) (amA g b).1 0 (mu 0)).2 else rmU mu (amU g) t := by unfold amMu; rw [if_neg hZ]
        have eG : amGs g b = rmG (amU g) := by unfold amGs; rw [if_neg hZ]
        have eV : amV g b = nI (amA g b).1.length := by unfold amV; rw [if_neg hZ]
        rw [eC] at hk hs
        rw [eM, eG] at hs
        obtain ⟨pe, pc, len, hpe, hpc, hlen, e224, e225, e227, hch⟩ := hG
        -- as if the input had been spent ahead
        have hR8 : Rel mu (amU g) b sh (va_up r 8 0) q := ⟨a0, a1, by rw [ug 222 (by decide)]; exact a2, by rw [ug 225 (by decide)]; exact a3, fun t k ht hk => by rw [ug 225 (by decide)] at ht ⊢; rw [ug 224 (by decide)]; exact a4 t k ht hk, by rw [u7]; rfl, a6, by rw [ug 229 (by decide)]; exact a7, by rw [ug 230 (by decide)]; exact a8, by rw [ug 231 (by decide)]; exact a9, a10, a11⟩
        refine ⟨h6.trans hk.symm, fun z => ?_, out_id (hs rfl).2 (rz_push (Lr := 5 :: SC) (Lq := [0, 2, 3, 5, 6]) ⟨pe, pc, 0, hpe, hpc, Nat.zero_le _, by rw [ug 224 (by decide)]; exact e224, by rw [ug 225 (by decide)]; exact e225, by rw [u7]; exact nI_0.symm, fun i hi => absurd hi (Nat.not_lt_zero i)⟩ hR8 (fun i hi => ?_) kq (by rw [a0]; exact hpsh) q0 (by decide) (by decide))⟩
        · rw [(hs rfl).1, eV, hv]
        · by_cases e : i = 8
          · rw [e, h8]; rfl
          · have e2 : va_up r 8 0 i = r i := va_up_ne _ _ e
            rw [e2]
            by_cases e3 : i = 12
            · rw [e3]; exact h12
            · refine kr i (fun z => ?_)
              rcases List.mem_cons.mp z with z | z
              · exact hi (z ▸ List.mem_cons_self)
              · rcases List.mem_cons.mp z with z | z
                · exact e z
                · rcases List.mem_cons.mp z with z | z
                  · exact e3 z
                  · exact hi (List.mem_cons_of_mem _ z)
theorem rz_imp {f1 : Nat → Int64} (hR : Rel mu g b sh r q) (hp : HP (imX g) (Int32.toInt64 (g 229)) (fun S1 => FrS S1 a mu g b sh) (fun S1 => FrS S1 a mu g b sh) k S1 f1) (hq : q1 = q ∧ kR r r1 SC ∧ r1 6 = imC r ∧ (imC r = 0 → v = r 12)) : r1 6 = k ∧ (k = 0 → f1 0 = Int32.toInt64 v) ∧ OUT a S1 r1 q1 := by
  obtain ⟨h1, h2, h3, h4⟩ := hq
  have e : imC r = imX g := by unfold imC imX; rw [hR.2.2.2.2.2.2.2.1]
  rw [e] at h3 h4
  exact rz_read (Lq := []) hR hp h2 (fun j _ => congrFun h1 j) h3 (fun z => (h4 z).trans hR.2.2.2.2.2.2.2.1) (by decide)
theorem rz_rfs {p0 : Int32} {f1 : Nat → Int64} (hR : Rel mu g b sh r q) (hp : HP (if g 230 = 0 then 1 else 0) (Int32.toInt64 (if p0 = 0 then g 230 else g 231)) (fun S1 => FrS S1 a mu g b sh) (fun S1 => FrS S1 a mu g b sh) k S1 f1) (hq : v = (if r 29 = 0 then 0 else if ¬ p0 = (0 : Int32) then r 30 else r 29) ∧ r1 = va_up r 6 (if r 29 = 0 then 1 else 0) ∧ q1 = q) : r1 6 = k ∧ (k = 0 → f1 0 = Int32.toInt64 v) ∧ OUT a S1 r1 q1 := by
  obtain ⟨h1, h2, h3⟩ := hq
  have e9 := hR.2.2.2.2.2.2.2.2.1
  have e0 := hR.2.2.2.2.2.2.2.2.2.1
  rw [e9] at h1 h2
  rw [e0] at h1
  refine rz_read (Lq := []) hR hp (fun i hi => ?_) (fun j _ => congrFun h3 j) (by rw [h2, va_up_self]) (fun z => ?_) (by decide)
  · rw [h2]
    exact va_up_ne _ _ (fun e => hi (by rw [e]; decide))
  · have c : ¬ g 230 = 0 := fun c => by rw [if_pos c] at z; exact absurd z (by decide)
    rw [h1, if_neg c]
    by_cases c2 : p0 = 0
    · rw [if_neg (fun z => z c2), if_pos c2]
    · rw [if_pos c2, if_neg c2]
theorem rz_pap {p0 : Int32} {f1 : Nat → Int64} (hF : FrS S a mu g b sh) (hR : Rel mu g b sh r q) (hp : HP (if zin p0 0 (nI sh.length - 1) = 0 then 1 else 0) (Int32.toInt64 (sh.getD (iv p0) 0)) (fun S1 => FrS S1 a mu g b sh) (fun S1 => FrS S1 a mu g b sh) k S1 f1) (hq : q1 = q ∧ kR r r1 SC ∧ r1 6 = ppC r p0 ∧ (ppC r p0 = 0 → v = q 12 (iv p0))) : r1 6 = k ∧ (k = 0 → f1 0 = Int32.toInt64 v) ∧ OUT a S1 r1 q1 := by
  obtain ⟨h1, h2, h3, h4⟩ := hq
  have e : ppC r p0 = if zin p0 0 (nI sh.length - 1) = 0 then 1 else 0 := by unfold ppC; rw [hR.2.2.2.2.2.2.2.2.2.2.1]
  rw [e] at h3 h4
  have hlen : sh.length ≤ 200 := hF.2.2.2.2.2.2.2.2.1
  refine rz_read (Lq := []) hR hp h2 (fun j _ => congrFun h1 j) h3 (fun z => ?_) (by decide)
  have c : ¬ zin p0 0 (nI sh.length - 1) = 0 := fun c => by rw [if_pos c] at z; exact absurd z (by decide)
  obtain ⟨j, hj, ej⟩ := zin_m (by omega) c
  have ej2 : iv p0 = j := by rw [ej]; exact nI_clamp (by omega)
  have hs : sh[j]? = some sh[j] := List.getElem?_eq_getElem hj
  rw [h4 z, ej2, hR.2.2.2.2.2.2.2.2.2.2.2 j _ hs, List.getD_eq_getElem?_getD, hs]
  rfl
theorem rz_mean {C : Int32} {V v : UInt64} {f1 : Nat → UInt64} (hR : Rel mu g b sh r q) (hp : HP C V (fun S1 => FrS S1 a mu g b sh) (fun S1 => FrS S1 a mu g b sh) k S1 f1) (hq : q1 = q ∧ kR r r1 SC ∧ r1 6 = C ∧ (C = 0 → v = V)) : r1 6 = k ∧ (k = 0 → f1 0 = v) ∧ OUT a S1 r1 q1 := by
  obtain ⟨hk, hs, hx⟩ := hp
  obtain ⟨h1, h2, h3, h4⟩ := hq
  have hR1 := rz_id hR h2 h1
  refine ⟨h3.trans hk.symm, fun z => ?_, ?_⟩
  · have hC : C = 0 := hk.symm.trans z
    rw [(hs hC).1, h4 hC]
  · by_cases hC : C = 0
    · exact out_id (hs hC).2 hR1
    · exact out_id (hx hC) hR1
end RELL

section LAWR
variable {p : Program} {l : Launch} {e : Env} {R : Room} {s : State} {m : MethodId} {args : Array Value} {below : List Frame} {meth : Method} {c : Code} {D : va_G} {A : Nat → Prop} {nL KC KS : Nat} {Q : State → Prop}
variable {kc ks pc : Nat} {lv : List (Nat × Value)} {st : List Value} {cc : ByteArray} {own : String} {Ts : List Cond} {T : Nat → ClassId} {S S0 : HS} {L : List Nat} {x ol od m0 b Lx i : Nat} {oe : va_E} {ws w1 w2 : va_W}
variable {ar a : Nat → Nat} {r r1 : Nat → Int32} {q q1 : Nat → Nat → Int32} {f f1 : Nat → Int64} {fd fd1 : Nat → UInt64} {xs : Nat → Int32}
/-- the law's world: the two rows for answers, the reference, the class's pool -/
noncomputable def LWW (T : Nat → ClassId) (ol od m0 : Nat) (ar : Nat → Nat) (f : Nat → Int64) (fd : Nat → UInt64) (S : HS) (L : List Nat) (r : Nat → Int32) (q : Nat → Nat → Int32) : va_W := (od, oD T fd) :: (ol, oJ T f) :: (RW m0 ar T r q ++ CW T S L)
theorem pmJ : (LWW T ol od m0 ar f fd S L r q).Perm (((od, oD T fd) :: RW m0 ar T r q) ++ ((ol, oJ T f) :: CW T S L)) := List.Perm.cons _ List.perm_middle.symm
theorem pmD : (LWW T ol od m0 ar f fd S L r q).Perm (((ol, oJ T f) :: RW m0 ar T r q) ++ ((od, oD T fd) :: CW T S L)) := (List.Perm.swap _ _ _).trans (List.Perm.cons _ List.perm_middle.symm)
theorem pmR : (LWW T ol od m0 ar f fd S L r q).Perm (((od, oD T fd) :: (ol, oJ T f) :: CW T S L) ++ RW m0 ar T r q) := List.Perm.cons _ (List.Perm.cons _ List.perm_append_comm)
theorem pmC : (LWW T ol od m0 ar f fd S L r q).Perm (((od, oD T fd) :: (ol, oJ T f) :: RW m0 ar T r q) ++ CW T S L) := List.Perm.refl _
theorem lw_cg {q' : Nat → Nat → Int32} (h : ∀ j k, k < qlen j → q j k = q' j k) (k : GW p l e R s m args below meth c D A nL KC KS Q (LWW T ol od m0 ar f fd S L r q') kc ks pc lv st) : GW p l e R s m args below meth c D A nL KC KS Q (LWW T ol od m0 ar f fd S L r q) kc ks pc lv st := fun H locs cells slots ls hP hD hS hl hc hs => by
  have hP1 := pw_perm pmR hP
  have hD1 := dw_perm pmR hD
  refine k H locs cells slots ls (pw_perm pmR.symm ((pw_left hP1).app (RW_cg h (pw_right hP1)))) (dw_perm pmR.symm (dw_iff.mpr ?_)) hS hl hc hs
  obtain ⟨h1, h2⟩ := dw_iff.mp hD1
  have e : (((od, oD T fd) :: (ol, oJ T f) :: CW T S L) ++ RW m0 ar T r q').map Prod.fst = (((od, oD T fd) :: (ol, oJ T f) :: CW T S L) ++ RW m0 ar T r q).map Prod.fst := by rw [List.map_append, List.map_append]; rfl
  refine ⟨by rw [e]; exact h1, fun z hz => ?_⟩
  have hm : z.1 ∈ (((od, oD T fd) :: (ol, oJ T f) :: CW T S L) ++ RW m0 ar T r q').map Prod.fst := List.mem_map_of_mem hz
  rw [e] at hm
  obtain ⟨y, hy, ey⟩ := List.mem_map.mp hm
  rw [← ey]
  exact h2 y hy
theorem gl_sld (C : GC p s m args meth c cc own Ts nL D A (zty T)) (hX : va_X b Lx xs s s.heap) (hbl : b < s.heap.size) (hbA : ¬ A b) {v : Int32} (hin : vp_in v Lx) (hdg : decode cc pc = .ok (.iaload, 1)) (kk : GW p l e R s m args below meth c D A nL KC KS Q ws kc ks (pc + 1) lv (.int (xs v.toNatClampNeg) :: st)) : GW p l e R s m args below meth c D A nL KC KS Q ws kc ks pc lv (.int v :: .ref b :: st) := fun H locs cells slots ls hP hD hS hl hc hs => va_sld C.1 C.2.1 hX hbl hbA hS hin hdg (kk H locs cells slots ls hP hD hS hl hc hs)
theorem gl_slen (C : GC p s m args meth c cc own Ts nL D A (zty T)) (hX : va_X b Lx xs s s.heap) (hbl : b < s.heap.size) (hbA : ¬ A b) (hdg : decode cc pc = .ok (.arraylength, 1)) (kk : GW p l e R s m args below meth c D A nL KC KS Q ws kc ks (pc + 1) lv (.int (Int32.ofNat Lx) :: st)) : GW p l e R s m args below meth c D A nL KC KS Q ws kc ks pc lv (.ref b :: st) := fun H locs cells slots ls hP hD hS hl hc hs => va_slen C.1 C.2.1 hX hbl hbA hS hdg (kk H locs cells slots ls hP hD hS hl hc hs)
/-- script[i + k] -/
theorem gl_arg (C : GC p s m args meth c cc own Ts nL D A (zty T)) (hX : va_X b Lx xs s s.heap) (hbl : b < s.heap.size) (hbA : ¬ A b) (hLx : Lx ≤ 3072) (hi : i + 6 ≤ Lx) (k : Nat) (hk : k < 6) (hv : Int32.ofInt (k : Int) = nI k) (j0 j5 : Nat) (h0 : lv[j0]? = some (0, .ref b)) (h5 : lv[j5]? = some (5, .int (nI i))) (d0 : decode cc pc = .ok (.aload_n 0, 1)) (d1 : decode cc (pc + 1) = .ok (.iload 5, 2)) (d3 : decode cc (pc + 3) = .ok (.iconst (k : Int), 1)) (d4 : decode cc (pc + 4) = .ok (.iadd, 1)) (d5 : decode cc (pc + 5) = .ok (.iaload, 1)) (kk : GW p l e R s m args below meth c D A nL KC KS Q ws kc ks (pc + 6) lv (.int (xs (i + k)) :: st)) : GW p l e R s m args below meth c D A nL KC KS Q ws kc ks pc lv st := by
  refine g_aload_n C d0 rfl j0 h0 ?_
  refine g_iload C d1 j5 h5 ?_
  refine g_iconst (v := nI k) C d3 hv ?_
  refine g_iadd C d4 ?_
  rw [nI_add]
  refine gl_sld C hX hbl hbA (vp_in_nI (by omega) (by omega)) d5 ?_
  rw [nI_clamp (by omega)]
  exact kk
theorem gl_ne0 (C : GC p s m args meth c cc own Ts nL D A (zty T)) {x : Int32} (d0 : decode cc pc = .ok (.ifCond .eq 7, 3)) (d3 : decode cc (pc + 3) = .ok (.iconst 1, 1)) (d4 : decode cc (pc + 4) = .ok (.goto 4, 3)) (d7 : decode cc (pc + 7) = .ok (.iconst 0, 1)) (kk : GW p l e R s m args below meth c D A nL KC KS Q ws kc ks (pc + 8) lv (.int (if x = 0 then 0 else 1) :: st)) : GW p l e R s m args below meth c D A nL KC KS Q ws kc ks pc lv (.int x :: st) := by
  refine g_if_eq (tgt := pc + 7) C d0 (by omega) (fun z => ?_) (fun z => ?_)
  · refine g_iconst (v := 0) C d7 (by decide) ?_
    rw [if_pos z] at kk
    exact kk
  · refine g_iconst (v := 1) C d3 (by decide) ?_
    refine g_goto (tgt := pc + 8) C d4 (by omega) ?_
    rw [if_neg z] at kk
    exact kk
theorem ch_ok (x : Int32) : vp_nar .char (x.toUInt32 % 65536).toInt32 = (x.toUInt32 % 65536).toInt32 ∧ vc (x.toUInt32 % 65536).toInt32 ∧ ∃ c : Nat, c < 65536 ∧ (x.toUInt32 % 65536).toInt32 = nI c := by
  have hc : (x.toUInt32 % 65536).toNat < 65536 := by
    rw [UInt32.toNat_mod]
    exact Nat.mod_lt _ (by decide)
  have e : (x.toUInt32 % 65536).toInt32 = nI (x.toUInt32 % 65536).toNat := by
    show (UInt32.toInt32 (x.toUInt32 % 65536)) = UInt32.toInt32 (UInt32.ofNat (x.toUInt32 % 65536).toNat)
    rw [UInt32.ofNat_toNat]
  generalize (x.toUInt32 % 65536).toNat = c at hc e
  rw [e]
  have e3 : (UInt32.ofNat c).toUInt16.toUInt32 = UInt32.ofNat c := by
    apply UInt32.toNat_inj.mp
    rw [UInt16.toNat_toUInt32, UInt32.toNat_toUInt16]
    have : (UInt32.ofNat c).toNat = c % 2 ^ 32 := rfl
    omega
  have n1 : narrow .char (.int (nI c)) = .int (nI c) := by
    show Value.int (UInt32.toInt32 ((UInt32.ofNat c).toUInt16.toUInt32)) = _
    rw [e3]
    rfl
  refine ⟨by unfold vp_nar; rw [n1], ⟨n1, ?_⟩, c, hc, rfl⟩
  show (decide (0 ≤ nI c) && decide (nI c ≤ 65535)) = true
  have h1 : (0 : Int32) ≤ nI c := nI_pos' (by omega)
  have h2 : nI c ≤ (65535 : Int32) := (nI_leI (b := 65535) (by omega) (by decide)).mpr (by omega)
  rw [decide_eq_true h1, decide_eq_true h2]
  rfl
theorem g_dload (C : GC p s m args meth c cc own Ts nL D A (zty T)) {i : Nat} {x : UInt64} (hdg : decode cc pc = .ok (.dload i, 2)) (j : Nat) (hj : lv[j]? = some (i, .double x)) (k : GW p l e R s m args below meth c D A nL KC KS Q ws kc ks (pc + 2) lv (.double x :: st)) : GW p l e R s m args below meth c D A nL KC KS Q ws kc ks pc lv st := fun H locs cells slots ls hP hD hS hl hc hs => lv_dload C.1 C.2.1 hdg (lv_at hl j hj) (k H locs cells slots ls hP hD hS hl hc hs)
theorem g_dstore (C : GC p s m args meth c cc own Ts nL D A (zty T)) {i : Nat} {x : UInt64} {lv' : List (Nat × Value)} (hdg : decode cc pc = .ok (.dstore i, 2)) (hn : i + 1 < nL) (hv : (i, Value.double x) :: lv.filter (fun q => !(q.1 == i) && (!(q.1 == i + 1) && !(q.1 + 1 == i && q.2.category == 2))) = lv') (k : GW p l e R s m args below meth c D A nL KC KS Q ws kc ks (pc + 2) lv' st) : GW p l e R s m args below meth c D A nL KC KS Q ws kc ks pc lv (.double x :: st) := fun H locs cells slots ls hP hD hS hl hc hs => lv_dstore C.1 C.2.1 hdg hl hn hv (fun ls2 hl2 => k H locs cells slots ls2 hP hD hS hl2 hc hs)
theorem g_dcmp (C : GC p s m args meth c cc own Ts nL D A (zty T)) {x y : UInt64} {op : CmpOp} (hdg : decode cc pc = .ok (.dcmp op, 1)) (k : GW p l e R s m args below meth c D A nL KC KS Q ws kc ks (pc + 1) lv (.int (Op.cmpValue (FP.dcmp x y) op) :: st)) : GW p l e R s m args below meth c D A nL KC KS Q ws kc ks pc lv (.double y :: .double x :: st) := fun H locs cells slots ls hP hD hS hl hc hs => lv_dcmp C.1 C.2.1 hdg (k H locs cells slots ls hP hD hS hl hc hs)
theorem lg_same (v : Int64) : lg_cmp v v = 0 := by
  unfold lg_cmp
  simp
/-- behind both calls: the numbers agree, and so do the answers -/
theorem lc_tail {k v : Int32} {z : Nat} {off : Int} {cM : Cond} (C : GC p s m args meth c cc RL (cM :: W0) 9 D A (zty T)) (h6 : r1 6 = k) (hv : k = 0 → f1 0 = Int32.toInt64 v)
    (d0 : decode cc pc = .ok (.istore 7, 2)) (d2 : decode cc (pc + 2) = .ok (.aload_n 2, 1)) (d3 : decode cc (pc + 3) = .ok (.invokevirtual 136, 3)) (d6 : decode cc (pc + 6) = .ok (.iload 6, 2)) (d8 : decode cc (pc + 8) = .ok (.if_icmp .eq 5, 3)) (d13 : decode cc (pc + 13) = .ok (.iload 6, 2)) (d15 : decode cc (pc + 15) = .ok (.ifCond .ne 15, 3)) (d18 : decode cc (pc + 18) = .ok (.aload_n 3, 1)) (d19 : decode cc (pc + 19) = .ok (.iconst 0, 1)) (d20 : decode cc (pc + 20) = .ok (.laload, 1)) (d21 : decode cc (pc + 21) = .ok (.iload 7, 2)) (d23 : decode cc (pc + 23) = .ok (.i2l, 1)) (d24 : decode cc (pc + 24) = .ok (.lcmp, 1)) (d25 : decode cc (pc + 25) = .ok (.ifCond .eq 5, 3)) (d30 : decode cc (pc + 30) = .ok (.goto off, 3)) (hz : ((pc + 30 : Nat) : Int) + off = (z : Int))
    (kk : GW p l e room_1 s m args below meth c D A 9 601024 7293034 Q (LWW T ol od m0 ar f1 fd S L r1 q1) kc ks z [(0, .ref b), (1, .ref x), (2, .ref m0), (3, .ref ol), (4, .ref od), (5, .int (nI i))] []) : GW p l e room_1 s m args below meth c D A 9 601024 7293034 Q (LWW T ol od m0 ar f1 fd S L r1 q1) kc ks pc [(6, .int k), (0, .ref b), (1, .ref x), (2, .ref m0), (3, .ref ol), (4, .ref od), (5, .int (nI i))] [.int v] := by
  refine g_istore (lv' := [(7, .int v), (6, .int k), (0, .ref b), (1, .ref x), (2, .ref m0), (3, .ref ol), (4, .ref od), (5, .int (nI i))]) C d0 (by decide) rfl ?_
  refine g_aload_n C d2 rfl 4 rfl ?_
  refine gw_perm pmR ?_
  refine gl_refi C [] rfl (k_X11_thrown l D T m0 ar r1 q1) (w0_V 0 C.2.2.2.2.1 kw_1936 kw_1937 kw_1938 kw_9 kw_1939 rfl rfl (by decide +kernel) ⟨Nat.le_of_ble_eq_true rfl, Nat.le_of_ble_eq_true rfl⟩) rfl (by decide) (Nat.le_of_ble_eq_true rfl) (Nat.le_of_ble_eq_true rfl) d3 (fun t r2 q2 ht => ?_)
  obtain ⟨et, eu⟩ := ht
  cases eu
  refine gw_perm pmR.symm ?_
  refine g_iload C d6 1 rfl ?_
  refine g_icmp_eq (tgt := pc + 13) C d8 (by omega) (fun _ => ?_) (fun z => absurd (et.trans h6) z)
  refine g_iload C d13 1 rfl ?_
  have fin : ∀ st9, st9 = [] → GW p l e room_1 s m args below meth c D A 9 601024 7293034 Q (LWW T ol od m0 ar f1 fd S L r1 q1) kc ks (pc + 30) [(7, .int v), (6, .int k), (0, .ref b), (1, .ref x), (2, .ref m0), (3, .ref ol), (4, .ref od), (5, .int (nI i))] st9 := fun st9 h9 => by
    subst h9
    refine g_goto (tgt := z) C d30 hz ?_
    refine g_locals [2, 3, 4, 5, 6, 7] rfl ?_
    exact kk
  refine g_if_ne (tgt := pc + 30) C d15 (by omega) (fun _ => fin [] rfl) (fun hk => ?_)
  refine g_aload_n C d18 rfl 5 rfl ?_
  refine g_iconst (v := 0) C d19 (by decide) ?_
  refine gl_lald C 1 rfl d20 ?_
  refine g_iload C d21 0 rfl ?_
  refine g_i2l (v := Int32.toInt64 v) C d23 rfl ?_
  refine g_lcmp C d24 ?_
  rw [hv hk, lg_same]
  exact g_if_eq (tgt := pc + 30) C d25 (by omega) (fun _ => fin [] rfl) (fun z => absurd rfl z)
/-- what holds at the loop's head and at its end -/
def LInv (T : Nat → ClassId) (a : Nat → Nat) (S : HS) (L : List Nat) (mu : Nat → Nat → Int32) (g bb : Nat → Int32) (sh : List Int32) (r : Nat → Int32) (q : Nat → Nat → Int32) : Prop := hL S L ∧ wt S ∧ FrS S a mu g bb sh ∧ Rel mu g bb sh r q ∧ hK S (T 120) = 30 ∧ hN S (T 120) = 0
theorem li_x0 {mu : Nat → Nat → Int32} {g bb : Nat → Int32} {sh : List Int32} (h : FrS S a mu g bb sh) : hK S (a 50) = 11 := h.1.1 50 (by decide)
theorem li_120 {S1 : HS} (h : hK S (T 120) = 30 ∧ hN S (T 120) = 0) (he : ext S S1) : hK S1 (T 120) = 30 ∧ hN S1 (T 120) = 0 := by
  obtain ⟨h1, h2⟩ := he (T 120) (by rw [h.1]; decide)
  exact ⟨h1.trans h.1, h2.trans h.2⟩
/-- on to the loop's end, with what both sides hold now -/
def LK (p : Program) (l : Launch) (e : Env) (s : State) (m : MethodId) (args : Array Value) (below : List Frame) (meth : Method) (c : Code) (D : va_G) (A : Nat → Prop) (Q : State → Prop) (T : Nat → ClassId) (a ar : Nat → Nat) (ol od m0 b i kc ks : Nat) : Prop := ∀ (S : HS) (L : List Nat) (mu : Nat → Nat → Int32) (g bb : Nat → Int32) (sh : List Int32) (r : Nat → Int32) (q : Nat → Nat → Int32) (f : Nat → Int64) (fd : Nat → UInt64), LInv T a S L mu g bb sh r q → GW p l e room_1 s m args below meth c D A 9 601024 7293034 Q (LWW T ol od m0 ar f fd S L r q) kc ks 2328 [(0, .ref b), (1, .ref (a 50)), (2, .ref m0), (3, .ref ol), (4, .ref od), (5, .int (nI i))] []
theorem lk_out {S1 : HS} {L1 : List Nat} (K : LK p l e s m args below meth c D A Q T a ar ol od m0 b i kc ks) (h120 : hK S (T 120) = 30 ∧ hN S (T 120) = 0) (he : ext S S1) (hw : wt S1) (hL1 : hL S1 L1) (ho : OUT a S1 r1 q1) : GW p l e room_1 s m args below meth c D A 9 601024 7293034 Q (LWW T ol od m0 ar f1 fd S1 L1 r1 q1) kc ks 2328 [(0, .ref b), (1, .ref (a 50)), (2, .ref m0), (3, .ref ol), (4, .ref od), (5, .int (nI i))] [] := by
  obtain ⟨mu, g, bb, sh, q2, hcg, hF, hR⟩ := ho
  exact lw_cg hcg (K S1 L1 mu g bb sh r1 q2 f1 fd ⟨hL1, hw, hF, hR, li_120 h120 he⟩)
end LAWR

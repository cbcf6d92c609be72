section S_REFI
variable {p : Program} {l : Launch} {e : Env} {R : Room} {s : State} {m : MethodId} {args : Array Value} {below : List Frame} {meth : Method} {c : Code} {D : va_G} {A : Nat → Prop} {nL KC KS : Nat} {Q : State → Prop}
variable {kc ks pc : Nat} {lv : List (Nat × Value)} {st : List Value} {cc : ByteArray} {own : String} {Ts : List Cond} {T : Nat → ClassId} {m0 : Nat} {a : Nat → Nat} {r : Nat → Int32} {q : Nat → Nat → Int32}
variable {ws rest : va_W}
def R0 : List Value := [.null, .null, .null, .int 0, .null, .int 0, .int 0, .int 0, .int 0, .null, .int 0, .int 0, .int 0, .int 0, .null, .int 0, .null, .int 0, .int 0, .int 0, .int 0, .int 0, .int 0, .int 0, .int 0, .int 0, .int 0, .int 0, .int 0, .int 0, .int 0, .null, .null, .null, .null, .int 0, .int 0, .null, .int 0, .int 0, .int 0, .null]
theorem gi_newi (C : GC p s m args meth c cc own Ts nL D A (zty T)) (hKC : KC ≤ R.cells) (hKS : KS ≤ R.slots) (harr : (Cond.arrayClass .int).before args s = true) {n : Int32} (N : Nat) (hn : ¬ n < 0) (hN : n.toNatClampNeg = N) (hb9 : N ≤ 100000000) (hkc : 1 ≤ kc) (hks : N ≤ ks) (hdg : decode cc pc = .ok (.newarray .int, 2)) (kk : ∀ q : Nat, GW p l e R s m args below meth c D A nL KC KS Q (ws ++ [(q, .inl (T 2, N, .inl (fun _ => 0)))]) (kc - 1) (ks - N) (pc + 2) lv (.ref q :: st)) : GW p l e R s m args below meth c D A nL KC KS Q ws kc ks pc lv (.int n :: st) := by
  intro H locs cells slots ls hP hD hS hl hc hs
  subst hN
  refine va_newa (atype := .int) (ty := .int) (N' := n.toNatClampNeg) (a0 := (n.toNatClampNeg, .inl (fun _ => 0))) C.1 C.2.1 harr rfl C.2.2.2.2.2.1 hP hD hS C.2.2.2.2.2.2.1 (fun cA => rfl) hn rfl (Nat.le_trans (Nat.mul_le_mul hb9 (show componentBytes .int ≤ 4 from by decide)) (by decide)) (by omega) (by omega) hdg (fun q cA H1 hK1 hP1 hD1 hS1 => ?_)
  have hcA : cA = T 2 := by
    have h1 := (hK1.2 (zty T).length (cA, .int) (by simp)).2
    have h2 := (C.2.2.2.2.2.1.2 2 (T 2, .int) rfl).2
    exact Option.some.inj (h1.symm.trans h2)
  subst hcA
  exact kk q H1 locs (cells + 1) (slots + n.toNatClampNeg) ls hP1 hD1 hS1 hl (by omega) (by omega)
theorem gi_newc (C : GC p s m args meth c cc own Ts nL D A (zty T)) (hKC : KC ≤ R.cells) (hKS : KS ≤ R.slots) (harr : (Cond.arrayClass .char).before args s = true) {n : Int32} (N : Nat) (hn : ¬ n < 0) (hN : n.toNatClampNeg = N) (hb9 : N ≤ 100000000) (hkc : 1 ≤ kc) (hks : N ≤ ks) (hdg : decode cc pc = .ok (.newarray .char, 2)) (kk : ∀ q : Nat, GW p l e R s m args below meth c D A nL KC KS Q (ws ++ [(q, .inl (T 1, N, .inl (fun _ => 0)))]) (kc - 1) (ks - N) (pc + 2) lv (.ref q :: st)) : GW p l e R s m args below meth c D A nL KC KS Q ws kc ks pc lv (.int n :: st) := by
  intro H locs cells slots ls hP hD hS hl hc hs
  subst hN
  refine va_newa (atype := .char) (ty := .char) (N' := n.toNatClampNeg) (a0 := (n.toNatClampNeg, .inl (fun _ => 0))) C.1 C.2.1 harr rfl C.2.2.2.2.2.1 hP hD hS C.2.2.2.2.2.2.1 (fun cA => rfl) hn rfl (Nat.le_trans (Nat.mul_le_mul hb9 (show componentBytes .char ≤ 4 from by decide)) (by decide)) (by omega) (by omega) hdg (fun q cA H1 hK1 hP1 hD1 hS1 => ?_)
  have hcA : cA = T 1 := by
    have h1 := (hK1.2 (zty T).length (cA, .char) (by simp)).2
    have h2 := (C.2.2.2.2.2.1.2 1 (T 1, .char) rfl).2
    exact Option.some.inj (h1.symm.trans h2)
  subst hcA
  exact kk q H1 locs (cells + 1) (slots + n.toNatClampNeg) ls hP1 hD1 hS1 hl (by omega) (by omega)
theorem gi_putF (C : GC p s m args meth c cc own Ts nL D A (zty T)) (hin : ∀ w ∈ wsX110, w ∈ Ts) {fs : List Value} (hlen : fs.length = 42) (k : Nat) (hk : k < 42) {v : Value} {ty : FieldType} {idx : Nat} (hlink : (Cond.fieldLink own idx "FreightRaterModel" (TX11 k).2.1 (TX11 k).2.2.1).before args s = true) (hs : (TX11 k).1 = "FreightRaterModel") (hfin : (TX11 k).2.2.2 = true) (hin2 : meth.name = "<init>") (hown : (TX11 k).1 = own) (hd : parseFieldDescriptor (TX11 k).2.2.1 = some ty) (hn : narrow ty v = v) (hfit : fits ty v = true) (hdg : decode cc pc = .ok (.putfield idx, 3)) (kk : GW p l e R s m args below meth c D A nL KC KS Q ((m0, .inr (16, fs.set k v)) :: rest) kc ks (pc + 3) lv st) : GW p l e R s m args below meth c D A nL KC KS Q ((m0, .inr (16, fs)) :: rest) kc ks pc lv (v :: .ref m0 :: st) := fun H locs cells slots ls hP hD hS hl hc hs9 => va_putF (D := D) (ci := 16) (v := v) (ty := ty) (C := RX11) (T := TX11) (N := 42) C.1 C.2.1 C.2.2.2.2.1 hin tyX11 tyX11_ok nmX11 C.2.2.2.1 C.2.2.2.2.2.1 hP hD hS 0 rfl rfl k hk hlink (by rw [hs]; exact fun _ h9 => h9) hfin hin2 hown hd hn hfit (by rw [hlen]; exact hk) hdg (fun H1 locs1 hP1 hD1 hS1 => kk H1 locs1 cells slots ls hP1 hD1 hS1 hl hc hs9)
theorem gi_put (C : GC p s m args meth c cc own Ts nL D A (zty T)) (hin : ∀ w ∈ wsX110, w ∈ Ts) {fs : List Value} (hlen : fs.length = 42) (k : Nat) (hk : k < 42) {v : Value} {ty : FieldType} {idx : Nat} (hlink : (Cond.fieldLink own idx "FreightRaterModel" (TX11 k).2.1 (TX11 k).2.2.1).before args s = true) (hs : (TX11 k).1 = "FreightRaterModel") (hfin : (TX11 k).2.2.2 = false) (hd : parseFieldDescriptor (TX11 k).2.2.1 = some ty) (hn : narrow ty v = v) (hfit : fits ty v = true) (hdg : decode cc pc = .ok (.putfield idx, 3)) (kk : GW p l e R s m args below meth c D A nL KC KS Q ((m0, .inr (16, fs.set k v)) :: rest) kc ks (pc + 3) lv st) : GW p l e R s m args below meth c D A nL KC KS Q ((m0, .inr (16, fs)) :: rest) kc ks pc lv (v :: .ref m0 :: st) := fun H locs cells slots ls hP hD hS hl hc hs9 => va_put (D := D) (ci := 16) (v := v) (ty := ty) (C := RX11) (T := TX11) (N := 42) C.1 C.2.1 C.2.2.2.2.1 hin tyX11 tyX11_ok nmX11 C.2.2.2.1 C.2.2.2.2.2.1 hP hD hS 0 rfl rfl k hk hlink (by rw [hs]; exact fun _ h9 => h9) hfin hd hn hfit (by rw [hlen]; exact hk) hdg (fun H1 locs1 hP1 hD1 hS1 => kk H1 locs1 cells slots ls hP1 hD1 hS1 hl hc hs9)
def niP (u : (Nat → Nat) × RST) : Prop := (∀ j, u.2.1 j = if j = 12 then -1 else 0) ∧ ∀ j k, u.2.2 j k = 0
theorem gi_vret (C : GC p s m args meth c cc own Ts nL D A (zty T)) (hr : meth.sig.returnType = none) (hdg : decode cc pc = .ok (.return_, 1)) (hp : niP (a, (r, q))) : GW p l e R s m args below meth c D A nL KC KS (MQ below (va_Qv niP (fun (u : (Nat → Nat) × RST) t => va_P D vwCl (RW m0 u.1 T u.2.1 u.2.2) t.heap ∧ va_K D vwCl (zty T) t ∧ va_D A (RW m0 u.1 T u.2.1 u.2.2)) A) args s KC KS A) (RW m0 a T r q) kc ks pc lv [] := fun H locs cells slots ls hP hD hS hl hc hs => W.widen (k := KC) (n := KS) (by omega) (by omega) (W.vret C.1 C.2.1 hr (fun t ht hW => ⟨⟨(a, (r, q)), rfl, hp, by rw [ht]; exact hP, va_K.moved hW.alike C.2.2.2.2.2.1, hD⟩, hS.F ht⟩) hS.2.2 hdg C.2.2.2.2.2.2.2)
def RNi (l : Launch) (y : MethodName) (ws : List Cond) (rm : Room) (D : va_G) (T : Nat → ClassId) (m0 mc ms : Nat) : Prop := ∀ sz : Nat, Met l y ws { rm with cells := mc, slots := ms } (va_Pc [.ref m0] (fun U => U.heap.size = sz ∧ va_P D vwCl [(m0, .inr (16, R0))] U.heap ∧ va_K D vwCl (zty T) U ∧ va_D (fun _ => True) [(m0, .inr (16, R0))])) (va_Qv niP (fun (u : (Nat → Nat) × RST) t => va_P D vwCl (RW m0 u.1 T u.2.1 u.2.2) t.heap ∧ va_K D vwCl (zty T) t ∧ va_D (va_A [(m0, .inr (16, R0))] sz) (RW m0 u.1 T u.2.1 u.2.2)) (va_A [(m0, .inr (16, R0))] sz)) mc ms (va_A [(m0, .inr (16, R0))] sz)
abbrev ws_X11_init : List Cond := Cond.code yX11_init cX11_init 1 none :: W0
abbrev rm_X11_init : Room := ({ frames := 2, cells := 0, slots := 0, locals := 60 } : Room)
set_option maxRecDepth 100000 in
set_option maxHeartbeats 4000000 in
theorem t_X11_init {args : Array Value} {c : Code} (mc ms : Nat) (hmc : 13 ≤ mc) (hms : 41780 ≤ ms) (C : GC p s m args meth c cX11_init "FreightRaterModel" (ws_X11_init) 1 D A (zty T)) (hr : meth.sig.returnType = none) (hnm : meth.name = "<init>") : GW p l e { rm_X11_init with cells := mc, slots := ms } s m args below meth c D A 1 mc ms (MQ below (va_Qv niP (fun (u : (Nat → Nat) × RST) t => va_P D vwCl (RW m0 u.1 T u.2.1 u.2.2) t.heap ∧ va_K D vwCl (zty T) t ∧ va_D A (RW m0 u.1 T u.2.1 u.2.2)) A) args s mc ms A) [(m0, .inr (16, R0))] mc ms 0 [(0, .ref m0)] [] := by
  have hw : ∀ {w : Cond}, w ∈ W0 → w.before args s = true := fun h => C.2.2.2.2.1 _ (List.mem_cons_of_mem _ h)
  have hin : ∀ w ∈ wsX110, w ∈ ws_X11_init := iwx_X11
  refine g_aload_n C dX11_init_0 rfl 0 rfl ?_
  refine g_objInit C (hw kw_1808) (hw kw_46) (hw kw_47) dX11_init_1 (Nat.le_of_ble_eq_true rfl) (Nat.le_of_ble_eq_true rfl) ?_
  refine g_aload_n C dX11_init_4 rfl 0 rfl ?_
  refine g_sipush (v := 3334) C dX11_init_5 (by decide) ?_
  refine gi_newi C (Nat.le_refl _) (Nat.le_refl _) (hw kw_91) 3334 (by decide) (by decide) (by decide) (by omega) (by omega) dX11_init_8 (fun q0 => ?_)
  refine gi_putF C hin rfl 0 (by decide) (ty := .array .int) (hw kw_1809) rfl rfl hnm rfl rfl rfl rfl dX11_init_10 ?_
  refine g_aload_n C dX11_init_13 rfl 0 rfl ?_
  refine g_sipush (v := 3334) C dX11_init_14 (by decide) ?_
  refine gi_newi C (Nat.le_refl _) (Nat.le_refl _) (hw kw_91) 3334 (by decide) (by decide) (by decide) (by omega) (by omega) dX11_init_17 (fun q1 => ?_)
  refine gi_putF C hin rfl 1 (by decide) (ty := .array .int) (hw kw_1810) rfl rfl hnm rfl rfl rfl rfl dX11_init_19 ?_
  refine g_aload_n C dX11_init_22 rfl 0 rfl ?_
  refine g_sipush (v := 3334) C dX11_init_23 (by decide) ?_
  refine gi_newi C (Nat.le_refl _) (Nat.le_refl _) (hw kw_91) 3334 (by decide) (by decide) (by decide) (by omega) (by omega) dX11_init_26 (fun q2 => ?_)
  refine gi_putF C hin rfl 2 (by decide) (ty := .array .int) (hw kw_1811) rfl rfl hnm rfl rfl rfl rfl dX11_init_28 ?_
  refine g_aload_n C dX11_init_31 rfl 0 rfl ?_
  refine g_sipush (v := 26672) C dX11_init_32 (by decide) ?_
  refine gi_newi C (Nat.le_refl _) (Nat.le_refl _) (hw kw_91) 26672 (by decide) (by decide) (by decide) (by omega) (by omega) dX11_init_35 (fun q3 => ?_)
  refine gi_putF C hin rfl 4 (by decide) (ty := .array .int) (hw kw_1813) rfl rfl hnm rfl rfl rfl rfl dX11_init_37 ?_
  refine g_aload_n C dX11_init_40 rfl 0 rfl ?_
  refine g_bipush (v := 80) C dX11_init_41 (by decide) ?_
  refine gi_newi C (Nat.le_refl _) (Nat.le_refl _) (hw kw_91) 80 (by decide) (by decide) (by decide) (by omega) (by omega) dX11_init_43 (fun q4 => ?_)
  refine gi_putF C hin rfl 9 (by decide) (ty := .array .int) (hw kw_1818) rfl rfl hnm rfl rfl rfl rfl dX11_init_45 ?_
  refine g_aload_n C dX11_init_48 rfl 0 rfl ?_
  refine g_iconst (v := -1) C dX11_init_49 (by decide) ?_
  refine gi_put C hin rfl 12 (by decide) (ty := .int) (hw kw_1821) rfl rfl rfl rfl rfl dX11_init_50 ?_
  refine g_aload_n C dX11_init_53 rfl 0 rfl ?_
  refine g_sipush (v := 640) C dX11_init_54 (by decide) ?_
  refine gi_newi C (Nat.le_refl _) (Nat.le_refl _) (hw kw_91) 640 (by decide) (by decide) (by decide) (by omega) (by omega) dX11_init_57 (fun q5 => ?_)
  refine gi_putF C hin rfl 14 (by decide) (ty := .array .int) (hw kw_1823) rfl rfl hnm rfl rfl rfl rfl dX11_init_59 ?_
  refine g_aload_n C dX11_init_62 rfl 0 rfl ?_
  refine g_bipush (v := 80) C dX11_init_63 (by decide) ?_
  refine gi_newi C (Nat.le_refl _) (Nat.le_refl _) (hw kw_91) 80 (by decide) (by decide) (by decide) (by omega) (by omega) dX11_init_65 (fun q6 => ?_)
  refine gi_putF C hin rfl 16 (by decide) (ty := .array .int) (hw kw_1825) rfl rfl hnm rfl rfl rfl rfl dX11_init_67 ?_
  refine g_aload_n C dX11_init_70 rfl 0 rfl ?_
  refine g_sipush (v := 1024) C dX11_init_71 (by decide) ?_
  refine gi_newi C (Nat.le_refl _) (Nat.le_refl _) (hw kw_91) 1024 (by decide) (by decide) (by decide) (by omega) (by omega) dX11_init_74 (fun q7 => ?_)
  refine gi_putF C hin rfl 31 (by decide) (ty := .array .int) (hw kw_1840) rfl rfl hnm rfl rfl rfl rfl dX11_init_76 ?_
  refine g_aload_n C dX11_init_79 rfl 0 rfl ?_
  refine g_sipush (v := 1024) C dX11_init_80 (by decide) ?_
  refine gi_newi C (Nat.le_refl _) (Nat.le_refl _) (hw kw_91) 1024 (by decide) (by decide) (by decide) (by omega) (by omega) dX11_init_83 (fun q8 => ?_)
  refine gi_putF C hin rfl 32 (by decide) (ty := .array .int) (hw kw_1841) rfl rfl hnm rfl rfl rfl rfl dX11_init_85 ?_
  refine g_aload_n C dX11_init_88 rfl 0 rfl ?_
  refine g_sipush (v := 1024) C dX11_init_89 (by decide) ?_
  refine gi_newi C (Nat.le_refl _) (Nat.le_refl _) (hw kw_91) 1024 (by decide) (by decide) (by decide) (by omega) (by omega) dX11_init_92 (fun q9 => ?_)
  refine gi_putF C hin rfl 33 (by decide) (ty := .array .int) (hw kw_1842) rfl rfl hnm rfl rfl rfl rfl dX11_init_94 ?_
  refine g_aload_n C dX11_init_97 rfl 0 rfl ?_
  refine g_sipush (v := 1024) C dX11_init_98 (by decide) ?_
  refine gi_newi C (Nat.le_refl _) (Nat.le_refl _) (hw kw_91) 1024 (by decide) (by decide) (by decide) (by omega) (by omega) dX11_init_101 (fun q10 => ?_)
  refine gi_putF C hin rfl 34 (by decide) (ty := .array .int) (hw kw_1843) rfl rfl hnm rfl rfl rfl rfl dX11_init_103 ?_
  refine g_aload_n C dX11_init_106 rfl 0 rfl ?_
  refine g_bipush (v := 10) C dX11_init_107 (by decide) ?_
  refine gi_newi C (Nat.le_refl _) (Nat.le_refl _) (hw kw_91) 10 (by decide) (by decide) (by decide) (by omega) (by omega) dX11_init_109 (fun q11 => ?_)
  refine gi_putF C hin rfl 37 (by decide) (ty := .array .int) (hw kw_1846) rfl rfl hnm rfl rfl rfl rfl dX11_init_111 ?_
  refine g_aload_n C dX11_init_114 rfl 0 rfl ?_
  refine g_sipush (v := 200) C dX11_init_115 (by decide) ?_
  refine gi_newc C (Nat.le_refl _) (Nat.le_refl _) (hw kw_125) 200 (by decide) (by decide) (by decide) (by omega) (by omega) dX11_init_118 (fun q12 => ?_)
  refine gi_putF C hin rfl 41 (by decide) (ty := .array .char) (hw kw_1850) rfl rfl hnm rfl rfl rfl rfl dX11_init_120 ?_
  obtain ⟨a, ea⟩ : ∃ a : Nat → Nat, a = fun j => [q0, q1, q2, q3, q4, q5, q6, q7, q8, q9, q10, q11, q12].getD j 0 := ⟨_, rfl⟩
  have e : ∀ (kc ks pc : Nat) (lv : List (Nat × Value)) (st : List Value) (Q : State → Prop), GW p l e { rm_X11_init with cells := mc, slots := ms } s m args below meth c D A 1 mc ms Q (RW m0 a T (fun j => if j = 12 then -1 else 0) (fun _ _ => 0)) kc ks pc lv st → _ := fun kc ks pc lv st Q h => by rw [ea] at h; exact h
  refine e _ _ _ _ _ _ ?_
  refine g_aload_n C dX11_init_123 rfl 0 rfl ?_
  refine gr_get C hin 0 (hw kw_1809) (by decide) rfl rfl dX11_init_124 ?_
  refine g_iconst (v := 0) C dX11_init_127 (by decide) ?_
  refine g_iconst (v := 0) C dX11_init_128 (by decide) ?_
  refine gr_ast_0 C (by rw [nz_vp0 (by decide)]; decide) dX11_init_129 ?_
  refine gi_vret C hr dX11_init_130 ⟨fun j => rfl, fun j k => ?_⟩
  show va_up (fun _ _ => (0 : Int32)) 0 (upd (fun _ => 0) (Int32.toNatClampNeg 0) 0) j k = 0
  by_cases h : j = 0
  · subst h
    rw [va_up_self]
    unfold upd
    split <;> rfl
  · rw [va_up_ne _ _ h]
theorem k_X11_init (l : Launch) (D : va_G) (T : Nat → ClassId) (m0 mc ms : Nat) (hmc : 13 ≤ mc) (hms : 41780 ≤ ms) : RNi l yX11_init (ws_X11_init) rm_X11_init D T m0 mc ms := by
  intro sz
  refine Met.ofW (cc := cX11_init) (maxL := 1) (ret := none) (by decide) rfl ?_
  intro p e s m args below meth c s₁ B hml hv
  obtain ⟨rfl, hsz, hP, hK, hD0⟩ := hv
  have hts := atoms_spec (ws := ws_X11_init) B.pre
  have hown : s.vm.findClass "FreightRaterModel" = some m.cls := findClass_of_methodNamed B.named
  subst hsz
  have hD := hD0.self (sz := s.heap.size)
  have hA : ∀ x : Nat, s.heap.size ≤ x → va_A [(m0, .inr (16, R0))] s.heap.size x := fun x h => Or.inr h
  have hl := lv_entry [.ref m0] (n := 1) (Nat.le_of_ble_eq_true rfl)
  rw [lg_entry_eq]
  generalize (lg_sl [.ref m0] ++ List.replicate (1 - (lg_sl [.ref m0]).length) Slot.unset).toArray = ls at hl ⊢
  exact t_X11_init mc ms hmc hms ⟨B.exec, B.bytes, hml, hown, hts, hK, hA, B.notSynchronized⟩ B.returns (name_of_methodNamed B.named B.method).1 s.heap [] 0 0 ls hP hD va_S.rf hl (by omega) (by omega)
end S_REFI

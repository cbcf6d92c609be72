section S_RHS
abbrev ws_X11_readZone : List Cond := Cond.code yX11_readZone cX11_readZone 3 none :: W0
abbrev rm_X11_readZone : Room := ({ frames := 3, cells := 0, slots := 0, locals := 66 } : Room)
def wp_X11_readZone_50 (P : RST → Prop) (x1 : Int32) (x2 : Int32) (s0 : Int32) (s1 : Int32) (r : Nat → Int32) (q : Nat → Nat → Int32) : Prop := vp_in s1 640 ∧ (∀ q14 : Nat → Nat → Int32, q14 = va_up q 5 (upd (q 5) (Int32.toNatClampNeg s1) s0) → ((x2 = 109 → (P (r, q14))) ∧ (¬ x2 = 109 → ((¬ (r 11) = 0 → (P (r, q14))) ∧ ((r 11) = 0 → ((¬ x2 = 122 → ((psO r ∧ ¬ 42 = (-1 : Int32)) ∧ (∀ (r19 : Nat → Int32) (q20 : Nat → Nat → Int32), (q20 = q14 ∧ kR r r19 [10, 11] ∧ psO r19 ∧ pσ r19 = ndS (q14 4) (iv (r 8)) (pσ r) 42) → (((r19 11) = 0 → ((psO r19) ∧ (∀ (v23 : Int32) (r24 : Nat → Int32) (q25 : Nat → Nat → Int32), (v23 = (nbF (q20 4) (iv (r19 8)) (pσ r19)).1 ∧ q25 = q20 ∧ kR r19 r24 [10, 11] ∧ psO r24 ∧ pσ r24 = (nbF (q20 4) (iv (r19 8)) (pσ r19)).2) → (vp_in (x1 + 3) 640 ∧ (∀ q28 : Nat → Nat → Int32, q28 = va_up q25 5 (upd (q25 5) (Int32.toNatClampNeg (x1 + 3)) v23) → (P (r24, q28))))))) ∧ (¬ (r19 11) = 0 → (vp_in (x1 + 3) 640 ∧ (∀ q30 : Nat → Nat → Int32, q30 = va_up q20 5 (upd (q20 5) (Int32.toNatClampNeg (x1 + 3)) 0) → (P (r19, q30))))))))) ∧ (x2 = 122 → ((psO r ∧ ¬ 45 = (-1 : Int32)) ∧ (∀ (r32 : Nat → Int32) (q33 : Nat → Nat → Int32), (q33 = q14 ∧ kR r r32 [10, 11] ∧ psO r32 ∧ pσ r32 = ndS (q14 4) (iv (r 8)) (pσ r) 45) → (((r32 11) = 0 → ((psO r32) ∧ (∀ (v36 : Int32) (r37 : Nat → Int32) (q38 : Nat → Nat → Int32), (v36 = (nbF (q33 4) (iv (r32 8)) (pσ r32)).1 ∧ q38 = q33 ∧ kR r32 r37 [10, 11] ∧ psO r37 ∧ pσ r37 = (nbF (q33 4) (iv (r32 8)) (pσ r32)).2) → (vp_in (x1 + 3) 640 ∧ (∀ q41 : Nat → Nat → Int32, q41 = va_up q38 5 (upd (q38 5) (Int32.toNatClampNeg (x1 + 3)) v36) → (P (r37, q41))))))) ∧ (¬ (r32 11) = 0 → (vp_in (x1 + 3) 640 ∧ (∀ q43 : Nat → Nat → Int32, q43 = va_up q33 5 (upd (q33 5) (Int32.toNatClampNeg (x1 + 3)) 0) → (P (r32, q43)))))))))))))))
set_option maxRecDepth 100000 in
set_option maxHeartbeats 4000000 in
theorem t_X11_readZone_50 {p : Program} {l : Launch} {e : Env} {s : State} {m : MethodId} {args : Array Value} {below : List Frame} {meth : Method} {c : Code} {D : va_G} {A : Nat → Prop} {T : Nat → ClassId} {m0 : Nat} {a : Nat → Nat} (C : GC p s m args meth c cX11_readZone "FreightRaterModel" (ws_X11_readZone) 3 D A (zty T)) (hr : meth.sig.returnType = none) (P : RST → Prop) : ∀ (x1 : Int32) (x2 : Int32) (s0 : Int32) (s1 : Int32) (r : Nat → Int32) (q : Nat → Nat → Int32), wp_X11_readZone_50  P x1 x2 s0 s1 r q → GW p l e rm_X11_readZone s m args below meth c D A 3 0 0 (MQ below (va_Qv P (RE D T m0 a A) A) args s 0 0 A) (RW m0 a T r q) 0 0 50 [(0, .ref m0), (1, .int x1), (2, .int x2)] [.int s0, .int s1, .ref (a 5)] := by
  have hw : ∀ {w : Cond}, w ∈ W0 → w.before args s = true := fun h => C.2.2.2.2.1 _ (List.mem_cons_of_mem _ h)
  intro x1 x2 s0 s1 r q h
  unfold wp_X11_readZone_50 at h
  obtain ⟨g13, h⟩ := h
  refine gr_ast_5 C g13 dX11_readZone_50 ?_
  refine gr_nq (fun q14 eq14 => ?_)
  replace h := h q14 eq14
  refine g_iload_n C dX11_readZone_51 rfl 2 rfl ?_
  refine g_bipush (v := 109) C dX11_readZone_52 (by decide) ?_
  refine g_icmp_eq (tgt := 104) C dX11_readZone_54 (by decide) (fun z15 => ?_) (fun z15 => ?_)
  · replace h := h.1 z15
    exact gr_vret C hr dX11_readZone_104 h
  · replace h := h.2 z15
    refine g_aload_n C dX11_readZone_57 rfl 0 rfl ?_
    refine gr_get C iwx_X11 11 (hw kw_1820) (by decide) rfl rfl dX11_readZone_58 ?_
    refine g_if_ne (tgt := 104) C dX11_readZone_61 (by decide) (fun z16 => ?_) (fun z16 => ?_)
    · replace h := h.1 z16
      exact gr_vret C hr dX11_readZone_104 h
    · replace h := h.2 z16
      refine g_aload_n C dX11_readZone_64 rfl 0 rfl ?_
      refine g_iload_n C dX11_readZone_65 rfl 2 rfl ?_
      refine g_bipush (v := 122) C dX11_readZone_66 (by decide) ?_
      refine g_icmp_ne (tgt := 76) C dX11_readZone_68 (by decide) (fun z17 => ?_) (fun z17 => ?_)
      · replace h := h.1 z17
        refine g_bipush (v := 42) C dX11_readZone_76 (by decide) ?_
        obtain ⟨g21, h⟩ := h
        refine gr_callvV C [.int 42] rfl (k_X11_need l D T m0 a 42 r q14 g21) (w0_V 1 C.2.2.2.2.1 kw_2050 kw_2052 ks_65 kw_9 kw_2053 rfl rfl (by decide +kernel) ⟨by decide, by decide⟩) rfl (Nat.le_of_ble_eq_true rfl) (Nat.zero_le _) (Nat.zero_le _) dX11_readZone_78 (fun r19 q20 hp => ?_)
        replace h := h r19 q20 hp
        refine g_aload_n C dX11_readZone_81 rfl 0 rfl ?_
        refine gr_get C iwx_X11 14 (hw kw_1823) (by decide) rfl rfl dX11_readZone_82 ?_
        refine g_iload_n C dX11_readZone_85 rfl 1 rfl ?_
        refine g_iconst (v := 3) C dX11_readZone_86 (by decide) ?_
        refine g_iadd C dX11_readZone_87 ?_
        refine g_aload_n C dX11_readZone_88 rfl 0 rfl ?_
        refine gr_get C iwx_X11 11 (hw kw_1820) (by decide) rfl rfl dX11_readZone_89 ?_
        refine g_if_eq (tgt := 99) C dX11_readZone_92 (by decide) (fun z22 => ?_) (fun z22 => ?_)
        · replace h := h.1 z22
          refine g_aload_n C dX11_readZone_99 rfl 0 rfl ?_
          obtain ⟨g26, h⟩ := h
          refine gr_calliV C [] rfl (k_X11_number l D T m0 a  r19 q20 g26) (w0_V 0 C.2.2.2.2.1 kw_2058 kw_2060 ks_67 kw_9 kw_2061 rfl rfl (by decide +kernel) ⟨by decide, by decide⟩) rfl (Nat.le_of_ble_eq_true rfl) (Nat.zero_le _) (Nat.zero_le _) dX11_readZone_100 (fun v23 r24 q25 hp => ?_)
          replace h := h v23 r24 q25 hp
          obtain ⟨g27, h⟩ := h
          refine gr_ast_5 C g27 dX11_readZone_103 ?_
          refine gr_nq (fun q28 eq28 => ?_)
          replace h := h q28 eq28
          exact gr_vret C hr dX11_readZone_104 h
        · replace h := h.2 z22
          refine g_iconst (v := 0) C dX11_readZone_95 (by decide) ?_
          refine g_goto (tgt := 103) C dX11_readZone_96 (by decide) ?_
          obtain ⟨g29, h⟩ := h
          refine gr_ast_5 C g29 dX11_readZone_103 ?_
          refine gr_nq (fun q30 eq30 => ?_)
          replace h := h q30 eq30
          exact gr_vret C hr dX11_readZone_104 h
      · replace h := h.2 z17
        refine g_bipush (v := 45) C dX11_readZone_71 (by decide) ?_
        refine g_goto (tgt := 78) C dX11_readZone_73 (by decide) ?_
        obtain ⟨g34, h⟩ := h
        refine gr_callvV C [.int 45] rfl (k_X11_need l D T m0 a 45 r q14 g34) (w0_V 1 C.2.2.2.2.1 kw_2050 kw_2052 ks_65 kw_9 kw_2053 rfl rfl (by decide +kernel) ⟨by decide, by decide⟩) rfl (Nat.le_of_ble_eq_true rfl) (Nat.zero_le _) (Nat.zero_le _) dX11_readZone_78 (fun r32 q33 hp => ?_)
        replace h := h r32 q33 hp
        refine g_aload_n C dX11_readZone_81 rfl 0 rfl ?_
        refine gr_get C iwx_X11 14 (hw kw_1823) (by decide) rfl rfl dX11_readZone_82 ?_
        refine g_iload_n C dX11_readZone_85 rfl 1 rfl ?_
        refine g_iconst (v := 3) C dX11_readZone_86 (by decide) ?_
        refine g_iadd C dX11_readZone_87 ?_
        refine g_aload_n C dX11_readZone_88 rfl 0 rfl ?_
        refine gr_get C iwx_X11 11 (hw kw_1820) (by decide) rfl rfl dX11_readZone_89 ?_
        refine g_if_eq (tgt := 99) C dX11_readZone_92 (by decide) (fun z35 => ?_) (fun z35 => ?_)
        · replace h := h.1 z35
          refine g_aload_n C dX11_readZone_99 rfl 0 rfl ?_
          obtain ⟨g39, h⟩ := h
          refine gr_calliV C [] rfl (k_X11_number l D T m0 a  r32 q33 g39) (w0_V 0 C.2.2.2.2.1 kw_2058 kw_2060 ks_67 kw_9 kw_2061 rfl rfl (by decide +kernel) ⟨by decide, by decide⟩) rfl (Nat.le_of_ble_eq_true rfl) (Nat.zero_le _) (Nat.zero_le _) dX11_readZone_100 (fun v36 r37 q38 hp => ?_)
          replace h := h v36 r37 q38 hp
          obtain ⟨g40, h⟩ := h
          refine gr_ast_5 C g40 dX11_readZone_103 ?_
          refine gr_nq (fun q41 eq41 => ?_)
          replace h := h q41 eq41
          exact gr_vret C hr dX11_readZone_104 h
        · replace h := h.2 z35
          refine g_iconst (v := 0) C dX11_readZone_95 (by decide) ?_
          refine g_goto (tgt := 103) C dX11_readZone_96 (by decide) ?_
          obtain ⟨g42, h⟩ := h
          refine gr_ast_5 C g42 dX11_readZone_103 ?_
          refine gr_nq (fun q43 eq43 => ?_)
          replace h := h q43 eq43
          exact gr_vret C hr dX11_readZone_104 h
def wp_X11_readZone (P : RST → Prop) (p0 : Int32) (p1 : Int32) (r : Nat → Int32) (q : Nat → Nat → Int32) : Prop := (psO r ∧ dix 1 9) ∧ (∀ (v1 : Int32) (r2 : Nat → Int32) (q3 : Nat → Nat → Int32), (v1 = dgV (q 4) (iv (r 8)) (pσ r) 1 9 ∧ q3 = q ∧ kR r r2 [10, 11] ∧ psO r2 ∧ pσ r2 = dgS (q 4) (iv (r 8)) (pσ r) 1 9) → (vp_in (p0 + 1) 640 ∧ (∀ q6 : Nat → Nat → Int32, q6 = va_up q3 5 (upd (q3 5) (Int32.toNatClampNeg (p0 + 1)) v1) → ((¬ (r2 11) = 0 → (((r2 11) = 0 → ((psO r2) ∧ (∀ (v9 : Int32) (r10 : Nat → Int32) (q11 : Nat → Nat → Int32), (v9 = (nbF (q6 4) (iv (r2 8)) (pσ r2)).1 ∧ q11 = q6 ∧ kR r2 r10 [10, 11] ∧ psO r10 ∧ pσ r10 = (nbF (q6 4) (iv (r2 8)) (pσ r2)).2) → (wp_X11_readZone_50  P p0 p1 v9 (p0 + 2) r10 q11)))) ∧ (¬ (r2 11) = 0 → (wp_X11_readZone_50  P p0 p1 0 (p0 + 2) r2 q6)))) ∧ ((r2 11) = 0 → ((psO r2 ∧ ¬ 58 = (-1 : Int32)) ∧ (∀ (r45 : Nat → Int32) (q46 : Nat → Nat → Int32), (q46 = q6 ∧ kR r2 r45 [10, 11] ∧ psO r45 ∧ pσ r45 = ndS (q6 4) (iv (r2 8)) (pσ r2) 58) → (((r45 11) = 0 → ((psO r45) ∧ (∀ (v49 : Int32) (r50 : Nat → Int32) (q51 : Nat → Nat → Int32), (v49 = (nbF (q46 4) (iv (r45 8)) (pσ r45)).1 ∧ q51 = q46 ∧ kR r45 r50 [10, 11] ∧ psO r50 ∧ pσ r50 = (nbF (q46 4) (iv (r45 8)) (pσ r45)).2) → (wp_X11_readZone_50  P p0 p1 v49 (p0 + 2) r50 q51)))) ∧ (¬ (r45 11) = 0 → (wp_X11_readZone_50  P p0 p1 0 (p0 + 2) r45 q46))))))))))
set_option maxRecDepth 100000 in
set_option maxHeartbeats 4000000 in
theorem t_X11_readZone {p : Program} {l : Launch} {e : Env} {s : State} {m : MethodId} {args : Array Value} {below : List Frame} {meth : Method} {c : Code} {D : va_G} {A : Nat → Prop} {T : Nat → ClassId} {m0 : Nat} {a : Nat → Nat} (C : GC p s m args meth c cX11_readZone "FreightRaterModel" (ws_X11_readZone) 3 D A (zty T)) (hr : meth.sig.returnType = none) (P : RST → Prop) : ∀ (p0 : Int32) (p1 : Int32) (r : Nat → Int32) (q : Nat → Nat → Int32), wp_X11_readZone P p0 p1 r q → GW p l e rm_X11_readZone s m args below meth c D A 3 0 0 (MQ below (va_Qv P (RE D T m0 a A) A) args s 0 0 A) (RW m0 a T r q) 0 0 0 [(0, .ref m0), (1, .int p0), (2, .int p1)] [] := by
  have hw : ∀ {w : Cond}, w ∈ W0 → w.before args s = true := fun h => C.2.2.2.2.1 _ (List.mem_cons_of_mem _ h)
  intro p0 p1 r q h
  unfold wp_X11_readZone at h
  refine g_aload_n C dX11_readZone_0 rfl 0 rfl ?_
  refine gr_get C iwx_X11 14 (hw kw_1823) (by decide) rfl rfl dX11_readZone_1 ?_
  refine g_iload_n C dX11_readZone_4 rfl 1 rfl ?_
  refine g_iconst (v := 1) C dX11_readZone_5 (by decide) ?_
  refine g_iadd C dX11_readZone_6 ?_
  refine g_aload_n C dX11_readZone_7 rfl 0 rfl ?_
  refine g_iconst (v := 1) C dX11_readZone_8 (by decide) ?_
  refine g_bipush (v := 9) C dX11_readZone_9 (by decide) ?_
  obtain ⟨g4, h⟩ := h
  refine gr_calliV C [.int 1, .int 9] rfl (k_X11_digit l D T m0 a 1 9 r q g4) (w0_V 2 C.2.2.2.2.1 kw_2046 kw_2048 ks_64 kw_9 kw_2049 rfl rfl (by decide +kernel) ⟨by decide, by decide⟩) rfl (Nat.le_of_ble_eq_true rfl) (Nat.zero_le _) (Nat.zero_le _) dX11_readZone_11 (fun v1 r2 q3 hp => ?_)
  replace h := h v1 r2 q3 hp
  obtain ⟨g5, h⟩ := h
  refine gr_ast_5 C g5 dX11_readZone_14 ?_
  refine gr_nq (fun q6 eq6 => ?_)
  replace h := h q6 eq6
  refine g_aload_n C dX11_readZone_15 rfl 0 rfl ?_
  refine gr_get C iwx_X11 11 (hw kw_1820) (by decide) rfl rfl dX11_readZone_16 ?_
  refine g_if_ne (tgt := 28) C dX11_readZone_19 (by decide) (fun z7 => ?_) (fun z7 => ?_)
  · replace h := h.1 z7
    refine g_aload_n C dX11_readZone_28 rfl 0 rfl ?_
    refine gr_get C iwx_X11 14 (hw kw_1823) (by decide) rfl rfl dX11_readZone_29 ?_
    refine g_iload_n C dX11_readZone_32 rfl 1 rfl ?_
    refine g_iconst (v := 2) C dX11_readZone_33 (by decide) ?_
    refine g_iadd C dX11_readZone_34 ?_
    refine g_aload_n C dX11_readZone_35 rfl 0 rfl ?_
    refine gr_get C iwx_X11 11 (hw kw_1820) (by decide) rfl rfl dX11_readZone_36 ?_
    refine g_if_eq (tgt := 46) C dX11_readZone_39 (by decide) (fun z8 => ?_) (fun z8 => ?_)
    · replace h := h.1 z8
      refine g_aload_n C dX11_readZone_46 rfl 0 rfl ?_
      obtain ⟨g12, h⟩ := h
      refine gr_calliV C [] rfl (k_X11_number l D T m0 a  r2 q6 g12) (w0_V 0 C.2.2.2.2.1 kw_2058 kw_2060 ks_67 kw_9 kw_2061 rfl rfl (by decide +kernel) ⟨by decide, by decide⟩) rfl (Nat.le_of_ble_eq_true rfl) (Nat.zero_le _) (Nat.zero_le _) dX11_readZone_47 (fun v9 r10 q11 hp => ?_)
      replace h := h v9 r10 q11 hp
      refine g_locals [0, 1, 2] rfl ?_
      refine t_X11_readZone_50 C hr  P  p0 p1 v9 (p0 + 2) r10 q11 h
    · replace h := h.2 z8
      refine g_iconst (v := 0) C dX11_readZone_42 (by decide) ?_
      refine g_goto (tgt := 50) C dX11_readZone_43 (by decide) ?_
      refine g_locals [0, 1, 2] rfl ?_
      refine t_X11_readZone_50 C hr  P  p0 p1 0 (p0 + 2) r2 q6 h
  · replace h := h.2 z7
    refine g_aload_n C dX11_readZone_22 rfl 0 rfl ?_
    refine g_bipush (v := 58) C dX11_readZone_23 (by decide) ?_
    obtain ⟨g47, h⟩ := h
    refine gr_callvV C [.int 58] rfl (k_X11_need l D T m0 a 58 r2 q6 g47) (w0_V 1 C.2.2.2.2.1 kw_2050 kw_2052 ks_65 kw_9 kw_2053 rfl rfl (by decide +kernel) ⟨by decide, by decide⟩) rfl (Nat.le_of_ble_eq_true rfl) (Nat.zero_le _) (Nat.zero_le _) dX11_readZone_25 (fun r45 q46 hp => ?_)
    replace h := h r45 q46 hp
    refine g_aload_n C dX11_readZone_28 rfl 0 rfl ?_
    refine gr_get C iwx_X11 14 (hw kw_1823) (by decide) rfl rfl dX11_readZone_29 ?_
    refine g_iload_n C dX11_readZone_32 rfl 1 rfl ?_
    refine g_iconst (v := 2) C dX11_readZone_33 (by decide) ?_
    refine g_iadd C dX11_readZone_34 ?_
    refine g_aload_n C dX11_readZone_35 rfl 0 rfl ?_
    refine gr_get C iwx_X11 11 (hw kw_1820) (by decide) rfl rfl dX11_readZone_36 ?_
    refine g_if_eq (tgt := 46) C dX11_readZone_39 (by decide) (fun z48 => ?_) (fun z48 => ?_)
    · replace h := h.1 z48
      refine g_aload_n C dX11_readZone_46 rfl 0 rfl ?_
      obtain ⟨g52, h⟩ := h
      refine gr_calliV C [] rfl (k_X11_number l D T m0 a  r45 q46 g52) (w0_V 0 C.2.2.2.2.1 kw_2058 kw_2060 ks_67 kw_9 kw_2061 rfl rfl (by decide +kernel) ⟨by decide, by decide⟩) rfl (Nat.le_of_ble_eq_true rfl) (Nat.zero_le _) (Nat.zero_le _) dX11_readZone_47 (fun v49 r50 q51 hp => ?_)
      replace h := h v49 r50 q51 hp
      refine g_locals [0, 1, 2] rfl ?_
      refine t_X11_readZone_50 C hr  P  p0 p1 v49 (p0 + 2) r50 q51 h
    · replace h := h.2 z48
      refine g_iconst (v := 0) C dX11_readZone_42 (by decide) ?_
      refine g_goto (tgt := 50) C dX11_readZone_43 (by decide) ?_
      refine g_locals [0, 1, 2] rfl ?_
      refine t_X11_readZone_50 C hr  P  p0 p1 0 (p0 + 2) r45 q46 h
theorem c_X11_readZone (l : Launch) (D : va_G) (T : Nat → ClassId) (m0 : Nat) (a : Nat → Nat) (p0 : Int32) (p1 : Int32) (r : Nat → Int32) (q : Nat → Nat → Int32) (P : RST → Prop) (h : wp_X11_readZone P p0 p1 r q) : RMv l yX11_readZone (ws_X11_readZone) rm_X11_readZone D T m0 a [.ref m0, .int p0, .int p1] r q P := gr_metv (by decide) rfl rfl (Nat.le_of_ble_eq_true rfl) (fun p e s m args below meth c A C hr => t_X11_readZone C hr P p0 p1 r q h)
theorem nd_bad {b : Nat → Int32} {n : Nat} {σ : PS} {c : Int32} (h : σ.2 = true) : ndS b n σ c = σ := by
  have ht : tkB b n σ c = false := by unfold tkB; rw [h]; rfl
  unfold ndS
  rw [tkS_no ht, ht]
  exact Prod.ext rfl h.symm
theorem nb_bad {b : Nat → Int32} {n : Nat} {σ : PS} (h : σ.2 = true) : nbF b n σ = (0, σ) := by
  obtain ⟨a, c⟩ := σ
  dsimp only at h
  subst h
  unfold nbF nbL
  have hd : dgS b n (a, true) 0 9 = (a, true) := by unfold dgS dgB; rfl
  rw [hd]
  have : dgB b n (a, true) 0 9 = false := rfl
  rw [if_neg (by rw [this]; decide)]
  unfold dgV
  rw [if_neg (by rw [this]; decide)]
theorem dix19 : dix 1 9 := ⟨1, 9, by decide, by decide, rfl, rfl⟩
/-- a statement's row of eight is kept outside and at its kind -/
def kS (w w1 : Nat → Int32) (s : Nat) : Prop := ∀ i, i ≤ s ∨ s + 8 ≤ i → w1 i = w i
theorem kS.rf {w : Nat → Int32} {s : Nat} : kS w w s := fun _ _ => rfl
theorem kS.up {w w1 : Nat → Int32} {s i : Nat} (h : kS w w1 s) (h1 : s < i) (h2 : i < s + 8) (x : Int32) : kS w (upd w1 i x) s := fun j hj => by rw [pk_un (by omega)]; exact h j hj
theorem kS.tr {w w1 w2 : Nat → Int32} {s : Nat} (h : kS w w1 s) (h2 : kS w1 w2 s) : kS w w2 s := fun j hj => (h2 j hj).trans (h j hj)
def s8 (p : Int32) : Prop := ∃ s : Nat, s + 8 ≤ 640 ∧ p = nI s
/-- a zone's statement behind its letter -/
def zoR (b : Nat → Int32) (n : Nat) (kd : Int32) (σ : PS) : (Int32 × Int32 × Int32) × PS :=
  if kd = 109 then ((dgV b n σ 1 9, (nbF b n (ndS b n (dgS b n σ 1 9) 58)).1, 0), (nbF b n (ndS b n (dgS b n σ 1 9) 58)).2)
  else ((dgV b n σ 1 9, (nbF b n (ndS b n (dgS b n σ 1 9) 58)).1, (nbF b n (ndS b n (nbF b n (ndS b n (dgS b n σ 1 9) 58)).2 (if kd = 122 then 45 else 42))).1), (nbF b n (ndS b n (nbF b n (ndS b n (dgS b n σ 1 9) 58)).2 (if kd = 122 then 45 else 42))).2)
def zoP (r : Nat → Int32) (q : Nat → Nat → Int32) (s : Nat) (kd : Int32) (r1 : Nat → Int32) (q1 : Nat → Nat → Int32) : Prop := kR r r1 [10, 11] ∧ kQ q q1 [5] ∧ psO r1 ∧ pσ r1 = (zoR (q 4) (iv (r 8)) kd (pσ r)).2 ∧ ((pσ r1).2 = false → kS (q 5) (q1 5) s ∧ q1 5 (s + 1) = (zoR (q 4) (iv (r 8)) kd (pσ r)).1.1 ∧ q1 5 (s + 2) = (zoR (q 4) (iv (r 8)) kd (pσ r)).1.2.1 ∧ (¬ kd = 109 → q1 5 (s + 3) = (zoR (q 4) (iv (r 8)) kd (pσ r)).1.2.2))
theorem bd_of {r : Nat → Int32} (h : vz (r 11)) (c : ¬ r 11 = 0) : (pσ r).2 = true := by
  cases hs : (pσ r).2 with
  | true => rfl
  | false => exact absurd ((pb_of h).mpr hs) c
theorem w_zo50 {P : RST → Prop} {r0 r : Nat → Int32} {q0 q : Nat → Nat → Int32} {s : Nat} {kd v : Int32} (hs : s + 8 ≤ 640) (hkd : kd = 122 ∨ kd = 98 ∨ kd = 109) (hP : ∀ r1 q1, zoP r0 q0 s kd r1 q1 → P (r1, q1)) (hk : kR r0 r [10, 11]) (hq : kQ q0 q [5]) (hp : psO r) (hσ : pσ r = (nbF (q0 4) (iv (r0 8)) (ndS (q0 4) (iv (r0 8)) (dgS (q0 4) (iv (r0 8)) (pσ r0) 1 9) 58)).2) (hG : (pσ r).2 = false → kS (q0 5) (q 5) s ∧ q 5 (s + 1) = dgV (q0 4) (iv (r0 8)) (pσ r0) 1 9 ∧ v = (nbF (q0 4) (iv (r0 8)) (ndS (q0 4) (iv (r0 8)) (dgS (q0 4) (iv (r0 8)) (pσ r0) 1 9) 58)).1) : wp_X11_readZone_50 P (nI s) kd v (nI s + 2) r q := by
  have e8 : iv (r 8) = iv (r0 8) := by rw [hk 8 (by decide)]
  have e4 : q 4 = q0 4 := hq 4 (by decide)
  have mb := pb_of hp.2.2
  unfold wp_X11_readZone_50
  simp (disch := omega) only [li_2, li_3, li_4, li_5, li_6, li_7, li_8, li_9, li_10, li_12, li_14, li_20, li_26, li_30, li_31, li_36, li_38, li_47, li_48, li_50, li_57, li_58, li_80, li_98, li_99, li_100, li_102, li_104, li_105, li_108, li_109, li_110, li_114, li_115, li_119, li_122, li_137, li_146, li_147, li_148, li_149, li_150, li_200, li_255, li_256, li_274, li_510, li_512, li_640, li_999, li_1000, li_1024, li_3334, li_5000, li_9999, li_10000, li_23338, li_26672, li_30000, li_99999, li_150000, li_300000, pk_mul, nI_add, pk_sub, nI_clamp, nI_1, nI_p1, nI_a0, nI_0a, nI_m0, nI_m1, cl_0, cl_1, z01, z11, nI_leI, nI_ltI, nI_eq, nz_lt0, nz_le, nz_eq0, nz_pos, nz_le0, nz_eq1, nz_lt1, nz_ge1, nz_le1, nz_gt1, nz_vp, nz_vp0, nz_vp1, six_nI, vix_nI, bix_nI, pix_nI, fix_nI, gix_nI, rix_nI, zix_nI, pix_0, pix_1, bix_0, fix_0, fix_1, rix_1, true_and, and_true]
  simp only [du_109, du_122, du_42, du_45]
  refine ⟨by omega, fun q14 e14 => ?_⟩
  have e44 : q14 4 = q0 4 := by rw [e14, va_up_ne _ _ (by decide)]; exact e4
  have k14 : kQ q0 q14 [5] := by rw [e14]; exact hq.up (by decide) _
  have G14 : (pσ r).2 = false → kS (q0 5) (q14 5) s ∧ q14 5 (s + 1) = dgV (q0 4) (iv (r0 8)) (pσ r0) 1 9 ∧ q14 5 (s + 2) = (nbF (q0 4) (iv (r0 8)) (ndS (q0 4) (iv (r0 8)) (dgS (q0 4) (iv (r0 8)) (pσ r0) 1 9) 58)).1 := fun z => by
    obtain ⟨g1, g2, g3⟩ := hG z
    rw [e14, va_up_self]
    exact ⟨g1.up (by omega) (by omega) _, by rw [pk_un (by omega)]; exact g2, by rw [pk_us]; exact g3⟩
  have k109 : (122 : Int32) = 109 ↔ False := by decide
  refine ⟨fun c => hP _ _ ?_, fun c => ⟨fun c2 => hP _ _ ?_, fun c2 => ?_⟩⟩
  · refine ⟨hk, k14, hp, by unfold zoR; rw [if_pos c]; exact hσ, fun z => ?_⟩
    obtain ⟨g1, g2, g3⟩ := G14 z
    unfold zoR
    rw [if_pos c]
    exact ⟨g1, g2, g3, fun y => absurd c y⟩
  · have hb := bd_of hp.2.2 c2
    refine ⟨hk, k14, hp, ?_, fun z => by rw [hb] at z; cases z⟩
    unfold zoR
    rw [if_neg c]
    dsimp only
    rw [← hσ, nd_bad hb, nb_bad hb]
  · have hR : (zoR (q0 4) (iv (r0 8)) kd (pσ r0)) = ((dgV (q0 4) (iv (r0 8)) (pσ r0) 1 9, (nbF (q0 4) (iv (r0 8)) (ndS (q0 4) (iv (r0 8)) (dgS (q0 4) (iv (r0 8)) (pσ r0) 1 9) 58)).1, (nbF (q0 4) (iv (r0 8)) (ndS (q0 4) (iv (r0 8)) (pσ r) (if kd = 122 then 45 else 42))).1), (nbF (q0 4) (iv (r0 8)) (ndS (q0 4) (iv (r0 8)) (pσ r) (if kd = 122 then 45 else 42))).2) := by
      unfold zoR
      rw [if_neg c, ← hσ]
    have hg := mb.mp c2
    have go : ∀ ch : Int32, ¬ ch = -1 → ch = (if kd = 122 then 45 else 42) → (psO r ∧ ¬ ch = -1) ∧ (∀ (r19 : Nat → Int32) (q20 : Nat → Nat → Int32), (q20 = q14 ∧ kR r r19 [10, 11] ∧ psO r19 ∧ pσ r19 = ndS (q14 4) (iv (r 8)) (pσ r) ch) → (((r19 11) = 0 → ((psO r19) ∧ (∀ (v23 : Int32) (r24 : Nat → Int32) (q25 : Nat → Nat → Int32), (v23 = (nbF (q20 4) (iv (r19 8)) (pσ r19)).1 ∧ q25 = q20 ∧ kR r19 r24 [10, 11] ∧ psO r24 ∧ pσ r24 = (nbF (q20 4) (iv (r19 8)) (pσ r19)).2) → (s + 3 < 640 ∧ (∀ q28 : Nat → Nat → Int32, q28 = va_up q25 5 (upd (q25 5) (s + 3) v23) → (P (r24, q28))))))) ∧ (¬ (r19 11) = 0 → (s + 3 < 640 ∧ (∀ q30 : Nat → Nat → Int32, q30 = va_up q20 5 (upd (q20 5) (s + 3) 0) → (P (r19, q30))))))) := by
      intro ch hc1 hc2
      refine ⟨⟨hp, hc1⟩, fun r19 q20 hh => ?_⟩
      obtain ⟨a2, a3, a4, a5⟩ := hh
      subst a2
      rw [e44, e8] at a5
      rw [← hc2] at hR
      have e198 : iv (r19 8) = iv (r0 8) := by rw [a3 8 (by decide)]; exact e8
      have k19 : kR r0 r19 [10, 11] := hk.tr a3 (fun _ h => h) (fun _ h => h)
      refine ⟨fun y => ⟨a4, fun v23 r24 q25 hh => ?_⟩, fun y => ⟨by omega, fun q30 e30 => hP _ _ ?_⟩⟩
      · obtain ⟨d1, d2, d3, d4, d5⟩ := hh
        subst d2
        rw [e44, e198, a5] at d1 d5
        refine ⟨by omega, fun q28 e28 => hP _ _ ?_⟩
        unfold zoP
        rw [hR]
        refine ⟨k19.tr d3 (fun _ h => h) (fun _ h => h), by rw [e28]; exact k14.up (by decide) _, d4, d5, fun z => ?_⟩
        obtain ⟨g1, g2, g3⟩ := G14 hg
        rw [e28, va_up_self]
        exact ⟨g1.up (by omega) (by omega) _, by rw [pk_un (by omega)]; exact g2, by rw [pk_un (by omega)]; exact g3, fun _ => by rw [pk_us]; exact d1⟩
      · have hb := bd_of a4.2.2 y
        unfold zoP
        rw [hR]
        refine ⟨k19, by rw [e30]; exact k14.up (by decide) _, a4, ?_, fun z => by rw [hb] at z; cases z⟩
        dsimp only
        rw [← a5, nb_bad hb]
    refine ⟨fun c3 => ?_, fun c3 => ?_⟩
    · exact go 42 (by decide) (by rw [if_neg c3])
    · exact go 45 (by decide) (by rw [if_pos c3])
theorem k_X11_readZone (l : Launch) (D : va_G) (T : Nat → ClassId) (m0 : Nat) (a : Nat → Nat) (p0 : Int32) (p1 : Int32) (r : Nat → Int32) (q : Nat → Nat → Int32) (h : psO r ∧ s8 p0 ∧ (p1 = 122 ∨ p1 = 98 ∨ p1 = 109)) : RMv l yX11_readZone (ws_X11_readZone) rm_X11_readZone D T m0 a [.ref m0, .int p0, .int p1] r q (fun u => (zoP r q (iv p0) p1 u.1 u.2)) := c_X11_readZone l D T m0 a p0 p1 r q _ <|
  (by
    obtain ⟨hp, ⟨s, hs, e0⟩, hkd⟩ := h
    subst e0
    have es : iv (nI s) = s := nI_clamp (by omega)
    rw [es]
    unfold wp_X11_readZone
    refine ⟨⟨hp, dix19⟩, fun v1 r2 q3 hh => ?_⟩
    obtain ⟨a1, a2, a3, a4, a5⟩ := hh
    subst a2
    have mb := pb_of a4.2.2
    have e8 : iv (r2 8) = iv (r 8) := by rw [a3 8 (by decide)]
    rw [nI_1, nz_vp (by omega) (by decide), nI_clamp (n := s + 1) (by omega)]
    refine ⟨by omega, fun q6 e6 => ?_⟩
    have e64 : q6 4 = q3 4 := by rw [e6, va_up_ne _ _ (by decide)]
    have k6 : kQ q3 q6 [5] := by rw [e6]; exact kQ.rf.up (by decide) _
    have G6 : kS (q3 5) (q6 5) s ∧ q6 5 (s + 1) = dgV (q3 4) (iv (r 8)) (pσ r) 1 9 := by
      rw [e6, va_up_self]
      exact ⟨kS.rf.up (by omega) (by omega) _, by rw [pk_us]; exact a1⟩
    refine ⟨fun c => ⟨fun z => absurd z c, fun _ => ?_⟩, fun c => ⟨⟨a4, by decide⟩, fun r45 q46 hh => ?_⟩⟩
    · have hb := bd_of a4.2.2 c
      refine w_zo50 hs hkd (fun _ _ z => z) a3 k6 a4 ?_ (fun z => by rw [hb] at z; cases z)
      rw [← a5, nd_bad hb, nb_bad hb]
    · obtain ⟨d2, d3, d4, d5⟩ := hh
      subst d2
      rw [e64, e8] at d5
      have k45 : kR r r45 [10, 11] := a3.tr d3 (fun _ h => h) (fun _ h => h)
      have e458 : iv (r45 8) = iv (r 8) := by rw [k45 8 (by decide)]
      refine ⟨fun c2 => ⟨d4, fun v49 r50 q51 hh => ?_⟩, fun c2 => ?_⟩
      · obtain ⟨b1, b2, b3, b4, b5⟩ := hh
        subst b2
        rw [e64, e458] at b1 b5
        refine w_zo50 hs hkd (fun _ _ z => z) (k45.tr b3 (fun _ h => h) (fun _ h => h)) k6 b4 ?_ (fun _ => ⟨G6.1, G6.2, ?_⟩)
        · rw [← a5, ← d5]; exact b5
        · rw [← a5, ← d5]; exact b1
      · have hb := bd_of d4.2.2 c2
        refine w_zo50 hs hkd (fun _ _ z => z) k45 k6 d4 ?_ (fun z => by rw [hb] at z; cases z)
        rw [← a5, ← d5, nb_bad hb])

end S_RHS

section S_RYS
abbrev ws_X11_post : List Cond := Cond.code yX11_post cX11_post 3 (some .int) :: W0
abbrev rm_X11_post : Room := ({ frames := 8, cells := 0, slots := 0, locals := 183 } : Room)
def wb_X11_post_74 (rec : Int32 → Int32 → (Nat → Int32) → (Nat → Nat → Int32) → Prop) (P : Int32 → RST → Prop) (x1 : Int32) (x2 : Int32) (r : Nat → Int32) (q : Nat → Nat → Int32) : Prop := (x2 = 0 → (vp_in x1 1024 ∧ (P (q 8 (Int32.toNatClampNeg x1)) (r, q)))) ∧ (¬ x2 = 0 → (vp_in x2 1024 ∧ ((WF (q 0) ∧ gok (q 0) (q 10 (Int32.toNatClampNeg x2)) ∧ sg0 (q 0) (iv (q 10 (Int32.toNatClampNeg x2))) ∧ bn (q 7 (iv (q 10 (Int32.toNatClampNeg x2)))) 1000000000) ∧ (∀ (r25 : Nat → Int32) (q26 : Nat → Nat → Int32), (kR r r25 [17, 18, 19, 20, 21, 22, 23] ∧ kQ q q26 [0] ∧ q26 0 = shrF (q 0) (iv (q 10 (Int32.toNatClampNeg x2))) (iv (q 7 (iv (q 10 (Int32.toNatClampNeg x2)))))) → (vp_in 3 3334 ∧ (vp_in 3 3334 ∧ (∀ q30 : Nat → Nat → Int32, q30 = va_up q26 0 (upd (q26 0) (Int32.toNatClampNeg 3) ((q26 0 (Int32.toNatClampNeg 3)) + 1)) → (vp_in x2 1024 ∧ (∀ v32 : Int32, v32 = (x2 &&& ((q30 10 (Int32.toNatClampNeg x2)) ^^^ (-1))) → (rec x1 v32 r25 q30))))))))))
def wp_X11_post_74 (P : Int32 → RST → Prop) : Nat → Int32 → Int32 → (Nat → Int32) → (Nat → Nat → Int32) → Prop
  | 0 => fun _ _ _ _ => False
  | n + 1 => fun x1 x2 r q => wb_X11_post_74 (wp_X11_post_74  P n)  P x1 x2 r q
set_option maxRecDepth 100000 in
set_option maxHeartbeats 4000000 in
theorem t_X11_post_74 {p : Program} {l : Launch} {e : Env} {s : State} {m : MethodId} {args : Array Value} {below : List Frame} {meth : Method} {c : Code} {D : va_G} {A : Nat → Prop} {T : Nat → ClassId} {m0 : Nat} {a : Nat → Nat} (C : GC p s m args meth c cX11_post "FreightRaterModel" (ws_X11_post) 3 D A (zty T)) (hr : meth.sig.returnType = (some .int)) (P : Int32 → RST → Prop) : ∀ (n : Nat) (x1 : Int32) (x2 : Int32) (r : Nat → Int32) (q : Nat → Nat → Int32), wp_X11_post_74  P n x1 x2 r q → GW p l e rm_X11_post s m args below meth c D A 3 0 0 (MQ below (va_Qi P (RE D T m0 a A) A) args s 0 0 A) (RW m0 a T r q) 0 0 74 [(0, .ref m0), (1, .int x1), (2, .int x2)] [] := by
  have hw : ∀ {w : Cond}, w ∈ W0 → w.before args s = true := fun h => C.2.2.2.2.1 _ (List.mem_cons_of_mem _ h)
  intro n
  induction n with
  | zero => intro x1 x2 r q h; exact h.elim
  | succ n ih =>
    intro x1 x2 r q h
    replace h : wb_X11_post_74 (wp_X11_post_74  P n)  P x1 x2 r q := h
    unfold wb_X11_post_74 at h
    refine g_iload_n C dX11_post_74 rfl 2 rfl ?_
    refine g_if_eq (tgt := 112) C dX11_post_75 (by decide) (fun z21 => ?_) (fun z21 => ?_)
    · replace h := h.1 z21
      refine g_aload_n C dX11_post_112 rfl 0 rfl ?_
      refine gr_get C iwx_X11 32 (hw kw_1841) (by decide) rfl rfl dX11_post_113 ?_
      refine g_iload_n C dX11_post_116 rfl 1 rfl ?_
      obtain ⟨g22, h⟩ := h
      refine gr_ald_8 C g22 dX11_post_117 ?_
      exact gr_iret C hr dX11_post_118 h
    · replace h := h.2 z21
      refine g_aload_n C dX11_post_78 rfl 0 rfl ?_
      refine g_aload_n C dX11_post_79 rfl 0 rfl ?_
      refine gr_get C iwx_X11 34 (hw kw_1843) (by decide) rfl rfl dX11_post_80 ?_
      refine g_iload_n C dX11_post_83 rfl 2 rfl ?_
      obtain ⟨g23, h⟩ := h
      refine gr_ald_10 C g23 dX11_post_84 ?_
      obtain ⟨g27, h⟩ := h
      refine gr_callvV C [.int (q 10 (Int32.toNatClampNeg x2))] rfl (k_X11_shares l D T m0 a (q 10 (Int32.toNatClampNeg x2)) r q g27) (w0_V 1 C.2.2.2.2.1 kw_2295 kw_2297 ks_104 kw_9 kw_2298 rfl rfl (by decide +kernel) ⟨by decide, by decide⟩) rfl (Nat.le_of_ble_eq_true rfl) (Nat.zero_le _) (Nat.zero_le _) dX11_post_85 (fun r25 q26 hp => ?_)
      replace h := h r25 q26 hp
      refine g_aload_n C dX11_post_88 rfl 0 rfl ?_
      refine gr_get C iwx_X11 0 (hw kw_1809) (by decide) rfl rfl dX11_post_89 ?_
      refine g_iconst (v := 3) C dX11_post_92 (by decide) ?_
      refine g_dup2 C dX11_post_93 rfl rfl ?_
      obtain ⟨g28, h⟩ := h
      refine gr_ald_0 C g28 dX11_post_94 ?_
      refine g_iconst (v := 1) C dX11_post_95 (by decide) ?_
      refine g_iadd C dX11_post_96 ?_
      obtain ⟨g29, h⟩ := h
      refine gr_ast_0 C g29 dX11_post_97 ?_
      refine gr_nq (fun q30 eq30 => ?_)
      replace h := h q30 eq30
      refine g_iload_n C dX11_post_98 rfl 2 rfl ?_
      refine g_aload_n C dX11_post_99 rfl 0 rfl ?_
      refine gr_get C iwx_X11 34 (hw kw_1843) (by decide) rfl rfl dX11_post_100 ?_
      refine g_iload_n C dX11_post_103 rfl 2 rfl ?_
      obtain ⟨g31, h⟩ := h
      refine gr_ald_10 C g31 dX11_post_104 ?_
      refine g_iconst (v := -1) C dX11_post_105 (by decide) ?_
      refine g_ixor C dX11_post_106 ?_
      refine g_iand C dX11_post_107 ?_
      refine g_topi (fun v32 ev32 => ?_)
      replace h := h v32 ev32
      refine g_istore_n (lv' := [(2, .int v32), (0, .ref m0), (1, .int x1)]) C dX11_post_108 rfl (by decide) rfl ?_
      refine g_goto (tgt := 74) C dX11_post_109 (by decide) ?_
      refine g_locals [1, 2, 0] rfl ?_
      exact ih x1 v32 r25 q30 h
def wp_X11_post (P : Int32 → RST → Prop) (p0 : Int32) (r : Nat → Int32) (q : Nat → Nat → Int32) : Prop := (WF (q 0) ∧ rix 8) ∧ (∀ (v1 : Int32) (r2 : Nat → Int32) (q3 : Nat → Nat → Int32), (v1 = lckF (q 0) p0 (iv 8) ∧ r2 = va_up r 35 0 ∧ q3 = q) → (∀ r5 : Nat → Int32, r5 = va_up r2 6 v1 → ((¬ (r5 6) = 0 → (((r5 6) ≤ 0 → ((WF (q3 0) ∧ gok (q3 0) p0) ∧ (∀ (v8 : Int32) (r9 : Nat → Int32) (q10 : Nat → Nat → Int32), (q10 = q3 ∧ kR r5 r9 [17, 18, 19, 20, 21, 22, 23, 35] ∧ v8 = (match rfF (q3 0) (iv p0) with | none => 0 | some _ => 1) ∧ ∀ s, rfF (q3 0) (iv p0) = some s → r9 35 = nI (rsnD (q3 0) (2 ^ s)).1 ∧ r9 17 = (rsnD (q3 0) (2 ^ s)).2) → ((v8 = 0 → ((CW8 r9) ∧ (∀ (r14 : Nat → Int32) (q15 : Nat → Nat → Int32), (kR r9 r14 [5] ∧ kQ q10 q15 [3] ∧ psh (q10 3) (q15 3) (q10 0) (r9 5) (r14 5)) → ((WF (q15 0) ∧ gok (q15 0) p0 ∧ sgO (q15 0) (iv p0)) ∧ (∀ (r18 : Nat → Int32) (q19 : Nat → Nat → Int32), (lbP r14 q15 (iv p0) r18 q19) → (∃ k33 : Nat, wp_X11_post_74  P k33 p0 p0 r18 q19)))))) ∧ (¬ v8 = 0 → (∀ (v34 : Int32) (r35 : Nat → Int32) (q36 : Nat → Nat → Int32), (v34 = 0 ∧ q36 = q10 ∧ r35 = va_up (va_up (va_up r9 29 (r9 35)) 30 (r9 17)) 6 4) → (P v34 (r35, q36)))))))) ∧ (¬ (r5 6) ≤ 0 → (P 0 (r5, q3))))) ∧ ((r5 6) = 0 → ((WF (q3 0)) ∧ ((((posF (q3 0)) &&& p0) = 0 → (((r5 6) ≤ 0 → ((WF (q3 0) ∧ gok (q3 0) p0) ∧ (∀ (v40 : Int32) (r41 : Nat → Int32) (q42 : Nat → Nat → Int32), (q42 = q3 ∧ kR r5 r41 [17, 18, 19, 20, 21, 22, 23, 35] ∧ v40 = (match rfF (q3 0) (iv p0) with | none => 0 | some _ => 1) ∧ ∀ s, rfF (q3 0) (iv p0) = some s → r41 35 = nI (rsnD (q3 0) (2 ^ s)).1 ∧ r41 17 = (rsnD (q3 0) (2 ^ s)).2) → ((v40 = 0 → ((CW8 r41) ∧ (∀ (r46 : Nat → Int32) (q47 : Nat → Nat → Int32), (kR r41 r46 [5] ∧ kQ q42 q47 [3] ∧ psh (q42 3) (q47 3) (q42 0) (r41 5) (r46 5)) → ((WF (q47 0) ∧ gok (q47 0) p0 ∧ sgO (q47 0) (iv p0)) ∧ (∀ (r50 : Nat → Int32) (q51 : Nat → Nat → Int32), (lbP r46 q47 (iv p0) r50 q51) → (∃ k53 : Nat, wp_X11_post_74  P k53 p0 p0 r50 q51)))))) ∧ (¬ v40 = 0 → (∀ (v54 : Int32) (r55 : Nat → Int32) (q56 : Nat → Nat → Int32), (v54 = 0 ∧ q56 = q42 ∧ r55 = va_up (va_up (va_up r41 29 (r41 35)) 30 (r41 17)) 6 4) → (P v54 (r55, q56)))))))) ∧ (¬ (r5 6) ≤ 0 → (P 0 (r5, q3))))) ∧ (¬ ((posF (q3 0)) &&& p0) = 0 → (∀ r57 : Nat → Int32, r57 = va_up r5 6 3 → (((r57 6) ≤ 0 → ((WF (q3 0) ∧ gok (q3 0) p0) ∧ (∀ (v59 : Int32) (r60 : Nat → Int32) (q61 : Nat → Nat → Int32), (q61 = q3 ∧ kR r57 r60 [17, 18, 19, 20, 21, 22, 23, 35] ∧ v59 = (match rfF (q3 0) (iv p0) with | none => 0 | some _ => 1) ∧ ∀ s, rfF (q3 0) (iv p0) = some s → r60 35 = nI (rsnD (q3 0) (2 ^ s)).1 ∧ r60 17 = (rsnD (q3 0) (2 ^ s)).2) → ((v59 = 0 → ((CW8 r60) ∧ (∀ (r65 : Nat → Int32) (q66 : Nat → Nat → Int32), (kR r60 r65 [5] ∧ kQ q61 q66 [3] ∧ psh (q61 3) (q66 3) (q61 0) (r60 5) (r65 5)) → ((WF (q66 0) ∧ gok (q66 0) p0 ∧ sgO (q66 0) (iv p0)) ∧ (∀ (r69 : Nat → Int32) (q70 : Nat → Nat → Int32), (lbP r65 q66 (iv p0) r69 q70) → (∃ k72 : Nat, wp_X11_post_74  P k72 p0 p0 r69 q70)))))) ∧ (¬ v59 = 0 → (∀ (v73 : Int32) (r74 : Nat → Int32) (q75 : Nat → Nat → Int32), (v73 = 0 ∧ q75 = q61 ∧ r74 = va_up (va_up (va_up r60 29 (r60 35)) 30 (r60 17)) 6 4) → (P v73 (r74, q75)))))))) ∧ (¬ (r57 6) ≤ 0 → (P 0 (r57, q3))))))))))))
set_option maxRecDepth 100000 in
set_option maxHeartbeats 4000000 in
theorem t_X11_post {p : Program} {l : Launch} {e : Env} {s : State} {m : MethodId} {args : Array Value} {below : List Frame} {meth : Method} {c : Code} {D : va_G} {A : Nat → Prop} {T : Nat → ClassId} {m0 : Nat} {a : Nat → Nat} (C : GC p s m args meth c cX11_post "FreightRaterModel" (ws_X11_post) 3 D A (zty T)) (hr : meth.sig.returnType = (some .int)) (P : Int32 → RST → Prop) : ∀ (p0 : Int32) (r : Nat → Int32) (q : Nat → Nat → Int32), wp_X11_post P p0 r q → GW p l e rm_X11_post s m args below meth c D A 3 0 0 (MQ below (va_Qi P (RE D T m0 a A) A) args s 0 0 A) (RW m0 a T r q) 0 0 0 [(0, .ref m0), (1, .int p0)] [] := by
  have hw : ∀ {w : Cond}, w ∈ W0 → w.before args s = true := fun h => C.2.2.2.2.1 _ (List.mem_cons_of_mem _ h)
  intro p0 r q h
  unfold wp_X11_post at h
  refine g_aload_n C dX11_post_0 rfl 0 rfl ?_
  refine g_aload_n C dX11_post_1 rfl 0 rfl ?_
  refine g_iload_n C dX11_post_2 rfl 1 rfl ?_
  refine g_bipush (v := 8) C dX11_post_3 (by decide) ?_
  obtain ⟨g4, h⟩ := h
  refine gr_calliV C [.int p0, .int 8] rfl (k_X11_lacks l D T m0 a p0 8 r q g4) (w0_V 2 C.2.2.2.2.1 kw_2247 kw_2249 ks_96 kw_9 kw_2250 rfl rfl (by decide +kernel) ⟨by decide, by decide⟩) rfl (Nat.le_of_ble_eq_true rfl) (Nat.zero_le _) (Nat.zero_le _) dX11_post_5 (fun v1 r2 q3 hp => ?_)
  replace h := h v1 r2 q3 hp
  refine gr_put_6 C iwx_X11 (hw kw_1815) dX11_post_8 ?_
  refine gr_nr (fun r5 er5 => ?_)
  replace h := h r5 er5
  refine g_aload_n C dX11_post_11 rfl 0 rfl ?_
  refine gr_get C iwx_X11 6 (hw kw_1815) (by decide) rfl rfl dX11_post_12 ?_
  refine g_if_ne (tgt := 32) C dX11_post_15 (by decide) (fun z6 => ?_) (fun z6 => ?_)
  · replace h := h.1 z6
    refine g_aload_n C dX11_post_32 rfl 0 rfl ?_
    refine gr_get C iwx_X11 6 (hw kw_1815) (by decide) rfl rfl dX11_post_33 ?_
    refine g_if_le (tgt := 41) C dX11_post_36 (by decide) (fun z7 => ?_) (fun z7 => ?_)
    · replace h := h.1 z7
      refine g_aload_n C dX11_post_41 rfl 0 rfl ?_
      refine g_iload_n C dX11_post_42 rfl 1 rfl ?_
      obtain ⟨g11, h⟩ := h
      refine gr_calliV C [.int p0] rfl (k_X11_hasRefused l D T m0 a p0 r5 q3 g11) (w0_V 1 C.2.2.2.2.1 kw_2251 kw_2253 ks_97 kw_9 kw_2254 rfl rfl (by decide +kernel) ⟨by decide, by decide⟩) rfl (Nat.le_of_ble_eq_true rfl) (Nat.zero_le _) (Nat.zero_le _) dX11_post_43 (fun v8 r9 q10 hp => ?_)
      replace h := h v8 r9 q10 hp
      refine g_if_eq (tgt := 59) C dX11_post_46 (by decide) (fun z12 => ?_) (fun z12 => ?_)
      · replace h := h.1 z12
        refine g_aload_n C dX11_post_59 rfl 0 rfl ?_
        refine g_aload_n C dX11_post_60 rfl 0 rfl ?_
        refine gr_get C iwx_X11 0 (hw kw_1809) (by decide) rfl rfl dX11_post_61 ?_
        obtain ⟨g16, h⟩ := h
        refine gr_callvV C [.ref (a 0)] rfl (k_X11_keepAs_0 l D T m0 a  r9 q10 g16) (w0_V 1 C.2.2.2.2.1 kw_1958 kw_1960 ks_52 kw_9 kw_1961 rfl rfl (by decide +kernel) ⟨by decide, by decide⟩) rfl (Nat.le_of_ble_eq_true rfl) (Nat.zero_le _) (Nat.zero_le _) dX11_post_64 (fun r14 q15 hp => ?_)
        replace h := h r14 q15 hp
        refine g_aload_n C dX11_post_67 rfl 0 rfl ?_
        refine g_iload_n C dX11_post_68 rfl 1 rfl ?_
        obtain ⟨g20, h⟩ := h
        refine gr_callvV C [.int p0] rfl (k_X11_layBest l D T m0 a p0 r14 q15 g20) (w0_V 1 C.2.2.2.2.1 kw_2255 kw_2257 ks_98 kw_9 kw_2258 rfl rfl (by decide +kernel) ⟨by decide, by decide⟩) rfl (Nat.le_of_ble_eq_true rfl) (Nat.zero_le _) (Nat.zero_le _) dX11_post_69 (fun r18 q19 hp => ?_)
        replace h := h r18 q19 hp
        refine g_iload_n C dX11_post_72 rfl 1 rfl ?_
        refine g_istore_n (lv' := [(2, .int p0), (0, .ref m0), (1, .int p0)]) C dX11_post_73 rfl (by decide) rfl ?_
        refine g_locals [1, 2, 0] rfl ?_
        obtain ⟨k33, h⟩ := h
        refine t_X11_post_74 C hr  P  k33 p0 p0 r18 q19 h
      · replace h := h.2 z12
        refine g_aload_n C dX11_post_49 rfl 0 rfl ?_
        refine g_aload_n C dX11_post_50 rfl 0 rfl ?_
        refine gr_get C iwx_X11 35 (hw kw_1844) (by decide) rfl rfl dX11_post_51 ?_
        refine g_iconst (v := 4) C dX11_post_54 (by decide) ?_
        refine gr_calliV C [.int (r9 35), .int 4] rfl (k_X11_keepsReason l D T m0 a (r9 35) 4 r9 q10) (w0_V 2 C.2.2.2.2.1 kw_2204 kw_2206 ks_92 kw_9 kw_2207 rfl rfl (by decide +kernel) ⟨by decide, by decide⟩) rfl (Nat.le_of_ble_eq_true rfl) (Nat.zero_le _) (Nat.zero_le _) dX11_post_55 (fun v34 r35 q36 hp => ?_)
        replace h := h v34 r35 q36 hp
        exact gr_iret C hr dX11_post_58 h
    · replace h := h.2 z7
      refine g_iconst (v := 0) C dX11_post_39 (by decide) ?_
      exact gr_iret C hr dX11_post_40 h
  · replace h := h.2 z6
    refine g_aload_n C dX11_post_18 rfl 0 rfl ?_
    obtain ⟨g37, h⟩ := h
    refine gr_callVf C [] rfl (k_X11_posted l D T m0 a  r5 q3 g37) (w0_V 0 C.2.2.2.2.1 kw_2291 kw_2293 ks_103 kw_9 kw_2294 rfl rfl (by decide +kernel) ⟨by decide, by decide⟩) rfl (Nat.le_of_ble_eq_true rfl) (Nat.zero_le _) (Nat.zero_le _) dX11_post_19 ?_
    refine g_iload_n C dX11_post_22 rfl 1 rfl ?_
    refine g_iand C dX11_post_23 ?_
    refine g_if_eq (tgt := 32) C dX11_post_24 (by decide) (fun z38 => ?_) (fun z38 => ?_)
    · replace h := h.1 z38
      refine g_aload_n C dX11_post_32 rfl 0 rfl ?_
      refine gr_get C iwx_X11 6 (hw kw_1815) (by decide) rfl rfl dX11_post_33 ?_
      refine g_if_le (tgt := 41) C dX11_post_36 (by decide) (fun z39 => ?_) (fun z39 => ?_)
      · replace h := h.1 z39
        refine g_aload_n C dX11_post_41 rfl 0 rfl ?_
        refine g_iload_n C dX11_post_42 rfl 1 rfl ?_
        obtain ⟨g43, h⟩ := h
        refine gr_calliV C [.int p0] rfl (k_X11_hasRefused l D T m0 a p0 r5 q3 g43) (w0_V 1 C.2.2.2.2.1 kw_2251 kw_2253 ks_97 kw_9 kw_2254 rfl rfl (by decide +kernel) ⟨by decide, by decide⟩) rfl (Nat.le_of_ble_eq_true rfl) (Nat.zero_le _) (Nat.zero_le _) dX11_post_43 (fun v40 r41 q42 hp => ?_)
        replace h := h v40 r41 q42 hp
        refine g_if_eq (tgt := 59) C dX11_post_46 (by decide) (fun z44 => ?_) (fun z44 => ?_)
        · replace h := h.1 z44
          refine g_aload_n C dX11_post_59 rfl 0 rfl ?_
          refine g_aload_n C dX11_post_60 rfl 0 rfl ?_
          refine gr_get C iwx_X11 0 (hw kw_1809) (by decide) rfl rfl dX11_post_61 ?_
          obtain ⟨g48, h⟩ := h
          refine gr_callvV C [.ref (a 0)] rfl (k_X11_keepAs_0 l D T m0 a  r41 q42 g48) (w0_V 1 C.2.2.2.2.1 kw_1958 kw_1960 ks_52 kw_9 kw_1961 rfl rfl (by decide +kernel) ⟨by decide, by decide⟩) rfl (Nat.le_of_ble_eq_true rfl) (Nat.zero_le _) (Nat.zero_le _) dX11_post_64 (fun r46 q47 hp => ?_)
          replace h := h r46 q47 hp
          refine g_aload_n C dX11_post_67 rfl 0 rfl ?_
          refine g_iload_n C dX11_post_68 rfl 1 rfl ?_
          obtain ⟨g52, h⟩ := h
          refine gr_callvV C [.int p0] rfl (k_X11_layBest l D T m0 a p0 r46 q47 g52) (w0_V 1 C.2.2.2.2.1 kw_2255 kw_2257 ks_98 kw_9 kw_2258 rfl rfl (by decide +kernel) ⟨by decide, by decide⟩) rfl (Nat.le_of_ble_eq_true rfl) (Nat.zero_le _) (Nat.zero_le _) dX11_post_69 (fun r50 q51 hp => ?_)
          replace h := h r50 q51 hp
          refine g_iload_n C dX11_post_72 rfl 1 rfl ?_
          refine g_istore_n (lv' := [(2, .int p0), (0, .ref m0), (1, .int p0)]) C dX11_post_73 rfl (by decide) rfl ?_
          refine g_locals [1, 2, 0] rfl ?_
          obtain ⟨k53, h⟩ := h
          refine t_X11_post_74 C hr  P  k53 p0 p0 r50 q51 h
        · replace h := h.2 z44
          refine g_aload_n C dX11_post_49 rfl 0 rfl ?_
          refine g_aload_n C dX11_post_50 rfl 0 rfl ?_
          refine gr_get C iwx_X11 35 (hw kw_1844) (by decide) rfl rfl dX11_post_51 ?_
          refine g_iconst (v := 4) C dX11_post_54 (by decide) ?_
          refine gr_calliV C [.int (r41 35), .int 4] rfl (k_X11_keepsReason l D T m0 a (r41 35) 4 r41 q42) (w0_V 2 C.2.2.2.2.1 kw_2204 kw_2206 ks_92 kw_9 kw_2207 rfl rfl (by decide +kernel) ⟨by decide, by decide⟩) rfl (Nat.le_of_ble_eq_true rfl) (Nat.zero_le _) (Nat.zero_le _) dX11_post_55 (fun v54 r55 q56 hp => ?_)
          replace h := h v54 r55 q56 hp
          exact gr_iret C hr dX11_post_58 h
      · replace h := h.2 z39
        refine g_iconst (v := 0) C dX11_post_39 (by decide) ?_
        exact gr_iret C hr dX11_post_40 h
    · replace h := h.2 z38
      refine g_aload_n C dX11_post_27 rfl 0 rfl ?_
      refine g_iconst (v := 3) C dX11_post_28 (by decide) ?_
      refine gr_put_6 C iwx_X11 (hw kw_1815) dX11_post_29 ?_
      refine gr_nr (fun r57 er57 => ?_)
      replace h := h r57 er57
      refine g_aload_n C dX11_post_32 rfl 0 rfl ?_
      refine gr_get C iwx_X11 6 (hw kw_1815) (by decide) rfl rfl dX11_post_33 ?_
      refine g_if_le (tgt := 41) C dX11_post_36 (by decide) (fun z58 => ?_) (fun z58 => ?_)
      · replace h := h.1 z58
        refine g_aload_n C dX11_post_41 rfl 0 rfl ?_
        refine g_iload_n C dX11_post_42 rfl 1 rfl ?_
        obtain ⟨g62, h⟩ := h
        refine gr_calliV C [.int p0] rfl (k_X11_hasRefused l D T m0 a p0 r57 q3 g62) (w0_V 1 C.2.2.2.2.1 kw_2251 kw_2253 ks_97 kw_9 kw_2254 rfl rfl (by decide +kernel) ⟨by decide, by decide⟩) rfl (Nat.le_of_ble_eq_true rfl) (Nat.zero_le _) (Nat.zero_le _) dX11_post_43 (fun v59 r60 q61 hp => ?_)
        replace h := h v59 r60 q61 hp
        refine g_if_eq (tgt := 59) C dX11_post_46 (by decide) (fun z63 => ?_) (fun z63 => ?_)
        · replace h := h.1 z63
          refine g_aload_n C dX11_post_59 rfl 0 rfl ?_
          refine g_aload_n C dX11_post_60 rfl 0 rfl ?_
          refine gr_get C iwx_X11 0 (hw kw_1809) (by decide) rfl rfl dX11_post_61 ?_
          obtain ⟨g67, h⟩ := h
          refine gr_callvV C [.ref (a 0)] rfl (k_X11_keepAs_0 l D T m0 a  r60 q61 g67) (w0_V 1 C.2.2.2.2.1 kw_1958 kw_1960 ks_52 kw_9 kw_1961 rfl rfl (by decide +kernel) ⟨by decide, by decide⟩) rfl (Nat.le_of_ble_eq_true rfl) (Nat.zero_le _) (Nat.zero_le _) dX11_post_64 (fun r65 q66 hp => ?_)
          replace h := h r65 q66 hp
          refine g_aload_n C dX11_post_67 rfl 0 rfl ?_
          refine g_iload_n C dX11_post_68 rfl 1 rfl ?_
          obtain ⟨g71, h⟩ := h
          refine gr_callvV C [.int p0] rfl (k_X11_layBest l D T m0 a p0 r65 q66 g71) (w0_V 1 C.2.2.2.2.1 kw_2255 kw_2257 ks_98 kw_9 kw_2258 rfl rfl (by decide +kernel) ⟨by decide, by decide⟩) rfl (Nat.le_of_ble_eq_true rfl) (Nat.zero_le _) (Nat.zero_le _) dX11_post_69 (fun r69 q70 hp => ?_)
          replace h := h r69 q70 hp
          refine g_iload_n C dX11_post_72 rfl 1 rfl ?_
          refine g_istore_n (lv' := [(2, .int p0), (0, .ref m0), (1, .int p0)]) C dX11_post_73 rfl (by decide) rfl ?_
          refine g_locals [1, 2, 0] rfl ?_
          obtain ⟨k72, h⟩ := h
          refine t_X11_post_74 C hr  P  k72 p0 p0 r69 q70 h
        · replace h := h.2 z63
          refine g_aload_n C dX11_post_49 rfl 0 rfl ?_
          refine g_aload_n C dX11_post_50 rfl 0 rfl ?_
          refine gr_get C iwx_X11 35 (hw kw_1844) (by decide) rfl rfl dX11_post_51 ?_
          refine g_iconst (v := 4) C dX11_post_54 (by decide) ?_
          refine gr_calliV C [.int (r60 35), .int 4] rfl (k_X11_keepsReason l D T m0 a (r60 35) 4 r60 q61) (w0_V 2 C.2.2.2.2.1 kw_2204 kw_2206 ks_92 kw_9 kw_2207 rfl rfl (by decide +kernel) ⟨by decide, by decide⟩) rfl (Nat.le_of_ble_eq_true rfl) (Nat.zero_le _) (Nat.zero_le _) dX11_post_55 (fun v73 r74 q75 hp => ?_)
          replace h := h v73 r74 q75 hp
          exact gr_iret C hr dX11_post_58 h
      · replace h := h.2 z58
        refine g_iconst (v := 0) C dX11_post_39 (by decide) ?_
        exact gr_iret C hr dX11_post_40 h
theorem c_X11_post (l : Launch) (D : va_G) (T : Nat → ClassId) (m0 : Nat) (a : Nat → Nat) (p0 : Int32) (r : Nat → Int32) (q : Nat → Nat → Int32) (P : Int32 → RST → Prop) (h : wp_X11_post P p0 r q) : RMi l yX11_post (ws_X11_post) rm_X11_post D T m0 a [.ref m0, .int p0] r q P := gr_meti (by decide) rfl rfl (Nat.le_of_ble_eq_true rfl) (fun p e s m args below meth c A C hr => t_X11_post C hr P p0 r q h)
theorem rl_po {P : Int32 → RST → Prop} {μ : Nat → Int32} {n ns : Nat} {T : Nat → Int32} {t : T3} (hw : WF μ) (hn : n < 1024) (hns : μ 1 = nI ns) (hns10 : ns ≤ 10) (hlt : n < 2 ^ ns) (h0 : sg0 μ n) (hQ : ∀ p, 0 < p → sub p n → dpQ T t p) (hT : ∀ p, 0 < p → sub p n → bn (T p) 1000000000 ∨ T p = -1) : ∀ (k left fuel : Nat) (r : Nat → Int32) (q : Nat → Nat → Int32), left ≤ k → k < fuel → sub left n → eqS μ (q 0) → WF (q 0) → (∀ p, 0 < p → sub p n → q 7 p = T p) → (∀ p, 0 < p → sub p n → q 10 p = t.2.2 p) → (∀ r1 q1, kR r r1 [17, 18, 19, 20, 21, 22, 23] → kQ q q1 [0] → q1 0 = poF T t.2.2 k left (q 0) → P (q 8 n) (r1, q1)) → wp_X11_post_74 P fuel (nI n) (nI left) r q := by
  intro k
  induction k with
  | zero =>
    intro left fuel r q hl hf hs he hwq h7 h10 hP
    have e : left = 0 := by omega
    subst e
    obtain ⟨f, rfl⟩ : ∃ f, fuel = f + 1 := ⟨fuel - 1, by omega⟩; rw [wp_X11_post_74]; unfold wb_X11_post_74; dsimp only
    rw [nz_vp (a := n) (by omega) (by decide), nI_clamp (n := n) (by omega)]
    exact ⟨fun _ => ⟨hn, hP r q kR.rf kQ.rf rfl⟩, fun z9 => absurd rfl z9⟩
  | succ k ih =>
    intro left fuel r q hl hf hs he hwq h7 h10 hP
    have hll : left < 1024 := Nat.lt_of_le_of_lt (sub_le hs) hn
    rw [poF] at hP
    obtain ⟨f, rfl⟩ : ∃ f, fuel = f + 1 := ⟨fuel - 1, by omega⟩; rw [wp_X11_post_74]; unfold wb_X11_post_74; dsimp only
    rw [nz_vp (a := n) (by omega) (by decide), nI_clamp (n := n) (by omega), nz_eq0 (by omega), nz_vp (a := left) (by omega) (by decide), nI_clamp (n := left) (by omega)]
    refine ⟨fun c => ⟨hn, ?_⟩, fun c => ⟨hll, ?_⟩⟩
    · rw [if_pos c] at hP
      exact hP r q kR.rf kQ.rf rfl
    · rw [if_neg c] at hP
      obtain ⟨g, g0, g1, g2, g3, g4, g5, g6⟩ := hQ left (by omega) hs
      have hgn : sub g n := sub_tr g1 hs
      have hg1024 : g < 1024 := Nat.lt_of_le_of_lt (sub_le hgn) hn
      have hgok : gok (q 0) (nI g) := ⟨g, ns, (he 1 (by decide) (fun s _ => by omega)).trans hns, hns10, g0, sub_lt hgn hlt, rfl⟩
      have e10 : q 10 left = nI g := (h10 left (by omega) hs).trans g6
      have ig : iv (nI g) = g := nI_clamp (by omega)
      have hTg : bn (T g) 1000000000 := by
        rcases hT g g0 hgn with h | h
        · exact h
        · rw [h] at g3; exact absurd g3 (by decide)
      rw [e10, ig]
      rw [g6, ig] at hP
      refine ⟨⟨hwq, hgok, fun s hs9 => by rw [rsn_eq he hw]; exact h0 s (sub_tb.mp hgn s hs9), by rw [h7 g g0 hgn]; exact hTg⟩, fun r25 q26 hh => ?_⟩
      obtain ⟨a1, a2, a3⟩ := hh
      rw [h7 g g0 hgn] at a3
      have e1026 : q26 10 = q 10 := a2 10 (by decide)
      rw [show vp_in 3 3334 = (3 < 3334) from nz_vp (a := 3) (N := 3334) (by decide) (by decide)]
      refine ⟨by decide, by decide, fun q29 e29 => ⟨hll, fun v31 e31 => ?_⟩⟩
      have k29 : kQ q q29 [0] := by rw [e29]; exact a2.up (by decide) _
      have i3 : Int32.toNatClampNeg 3 = 3 := by decide
      have e290 : q29 0 = upd (shrF (q 0) g (iv (T g))) 3 (shrF (q 0) g (iv (T g)) 3 + 1) := by rw [e29, va_up_self, i3, a3]
      rw [k29 10 (by decide), e10, nI_dif] at e31
      subst e31
      obtain ⟨m, hm, em⟩ := hTg
      have iTg : iv (T g) = m := by rw [em]; exact nI_clamp (by omega)
      obtain ⟨o1, o2⟩ := shr_ok hwq (g := g) (a := m) hm
      rw [← iTg] at o1 o2
      refine ih (dif left g) f r25 q29 ?_ (by omega) (sub_tr (sub_dif left g) hs) (by rw [e290]; exact (he.tr o1).u3 _) (by rw [e290]; exact up3_wf o2) (fun p hp hps => by rw [k29 7 (by decide)]; exact h7 p hp hps) (fun p hp hps => by rw [k29 10 (by decide)]; exact h10 p hp hps) (fun r1 q1 b1 b2 b3 => ?_)
      · have := dif_lt (low_tb' hll (by omega)) g2
        omega
      · rw [e290] at b3
        have := hP r1 q1 (a1.tr b1 (fun _ h => h) (fun _ h => h)) (k29.tr b2 (fun _ h => h) (fun _ h => h)) b3
        rw [k29 8 (by decide)]
        exact this
theorem k_X11_post (l : Launch) (D : va_G) (T : Nat → ClassId) (m0 : Nat) (a : Nat → Nat) (p0 : Int32) (r : Nat → Int32) (q : Nat → Nat → Int32) (h : WF (q 0) ∧ CW8 r) : RMi l yX11_post (ws_X11_post) rm_X11_post D T m0 a [.ref m0, .int p0] r q (fun v u => (kQ q u.2 [0, 3, 7, 8, 9, 10] ∧ kR r u.1 (5 :: SCK) ∧ u.1 6 = poC (q 0) p0 ∧ u.1 29 = (if poC (q 0) p0 = 4 then rfR (q 0) (iv p0) else r 29) ∧ u.1 30 = (if poC (q 0) p0 = 4 then rfT (q 0) (iv p0) else r 30) ∧ (¬ poC (q 0) p0 = 0 → u.1 5 = r 5 ∧ u.2 = q) ∧ (poC (q 0) p0 = 0 → psh (q 3) (u.2 3) (q 0) (r 5) (u.1 5) ∧ u.2 0 = poF (ttF (q 0)) (dpZ (ttF (q 0)) (iv p0)).2.2 1024 (iv p0) (q 0) ∧ v = (dpZ (ttF (q 0)) (iv p0)).1 (iv p0)))) := c_X11_post l D T m0 a p0 r q _ <|
  (by
    obtain ⟨hw, hc8⟩ := h
    unfold wp_X11_post
    refine ⟨⟨hw, ⟨8, by decide, rfl⟩⟩, fun v1 r2 q3 hh => ?_⟩
    obtain ⟨a1, a2, a3⟩ := hh
    subst a3
    rw [show iv 8 = 8 from rfl] at a1
    have k2 : kR r r2 (5 :: SCK) := by rw [a2]; exact kR.rf.up (by decide) _
    refine fun r5 e5 => ?_
    have k5 : kR r r5 (5 :: SCK) := by rw [e5]; exact k2.up (by decide) _
    have s5 : r5 6 = lckF (q3 0) p0 8 := by rw [e5, va_up_self, a1]
    have f5 : ∀ j, j ≠ 6 → j ≠ 35 → r5 j = r j := fun j h1 h2 => by rw [e5, va_up_ne _ _ h1, a2, va_up_ne _ _ h2]
    -- a code
    have bad : ∀ (r6 : Nat → Int32) (c v : Int32), kR r r6 (5 :: SCK) → r6 6 = c → poC (q3 0) p0 = c → ¬ c ≤ 0 → ¬ c = 4 → r6 5 = r 5 → r6 29 = r 29 → r6 30 = r 30 → (kQ q3 q3 [0, 3, 7, 8, 9, 10] ∧ kR r r6 (5 :: SCK) ∧ r6 6 = poC (q3 0) p0 ∧ r6 29 = (if poC (q3 0) p0 = 4 then rfR (q3 0) (iv p0) else r 29) ∧ r6 30 = (if poC (q3 0) p0 = 4 then rfT (q3 0) (iv p0) else r 30) ∧ (¬ poC (q3 0) p0 = 0 → r6 5 = r 5 ∧ q3 = q3) ∧ (poC (q3 0) p0 = 0 → psh (q3 3) (q3 3) (q3 0) (r 5) (r6 5) ∧ q3 0 = poF (ttF (q3 0)) (dpZ (ttF (q3 0)) (iv p0)).2.2 1024 (iv p0) (q3 0) ∧ v = (dpZ (ttF (q3 0)) (iv p0)).1 (iv p0))) := by
      intro r6 c v k6 s6 hC hc hc4 t5 t29 t30
      refine ⟨kQ.rf, k6, by rw [s6, hC], by rw [hC, if_neg hc4]; exact t29, by rw [hC, if_neg hc4]; exact t30, fun _ => ⟨t5, rfl⟩, fun z9 => ?_⟩
      rw [hC] at z9
      exact absurd (by rw [z9]; decide) hc
    rw [s5]
    have hl4 : ¬ lckF (q3 0) p0 8 = 4 := by rcases lck_v (μ := q3 0) (g := p0) (m := 8) with h | h | h <;> rw [h] <;> decide
    refine ⟨fun c => ⟨fun z9 => absurd (lck_p.mp z9) c, fun z9 => bad r5 _ 0 k5 s5 (by unfold poC; rw [if_neg c]) z9 hl4 (f5 5 (by decide) (by decide)) (f5 29 (by decide) (by decide)) (f5 30 (by decide) (by decide))⟩, fun c => ⟨hw, fun c2 => ⟨fun _ => ?_, fun z9 => absurd (lck_p.mpr c) z9⟩, fun c2 r56 e56 => ?_⟩⟩
    · have hg := lck_0 hw c
      obtain ⟨n, hn, h0, en, ien⟩ := hg.n
      refine ⟨⟨hw, hg⟩, fun v39 r40 q41 hr => ?_⟩
      obtain ⟨b1, b2, b3, b4⟩ := hr
      subst b1
      have k40 : kR r r40 (5 :: SCK) := k5.tr b2 (fun _ h => h) (by decide)
      have f40 : ∀ j, j ≠ 6 → j ≠ 35 → j ∉ [17, 18, 19, 20, 21, 22, 23, 35] → r40 j = r j := fun j h1 h2 h3 => (b2 j h3).trans (f5 j h1 h2)
      have cw : CW8 r40 := by
        obtain ⟨m, hm, em⟩ := hc8
        exact ⟨m, hm, (f40 5 (by decide) (by decide) (by decide)).trans em⟩
      cases hr9 : rfF (q41 0) (iv p0) with
      | some s =>
        rw [hr9] at b3
        have hC : poC (q41 0) p0 = 4 := by unfold poC; rw [if_pos c, if_pos c2, hr9]
        refine ⟨fun z9 => absurd (show (1 : Int32) = 0 from b3.symm.trans z9) (by decide), fun _ v53 r54 q55 hk => ?_⟩
        obtain ⟨d1, d2, d3⟩ := hk
        subst d2
        obtain ⟨g1, g2⟩ := b4 s hr9
        refine ⟨kQ.rf, by (try dsimp only); rw [d3]; exact ((k40.up (by decide) _).up (by decide) _).up (by decide) _, ?_, ?_, ?_, fun _ => ⟨?_, rfl⟩, fun z9 => absurd (hC.symm.trans z9) (by decide)⟩
        · (try dsimp only); rw [d3, va_up_self, hC]
        · (try dsimp only)
          rw [hC, if_pos rfl, d3, va_up_ne _ _ (by decide), va_up_ne _ _ (by decide), va_up_self, g1]
          unfold rfR; rw [hr9]
        · (try dsimp only)
          rw [hC, if_pos rfl, d3, va_up_ne _ _ (by decide), va_up_self, g2]
          unfold rfT; rw [hr9]
        · (try dsimp only)
          rw [d3, va_up_ne _ _ (by decide), va_up_ne _ _ (by decide), va_up_ne _ _ (by decide)]
          exact f40 5 (by decide) (by decide) (by decide)
      | none =>
        rw [hr9] at b3
        have hC : poC (q41 0) p0 = 0 := by unfold poC; rw [if_pos c, if_pos c2, hr9]
        have hrn : rfF (q41 0) n = none := by rw [← ien]; exact hr9
        have hsg : sgO (q41 0) n := sgO_of hw (by rw [← en]; exact hg) hn hrn
        have hsg0 : sg0 (q41 0) n := sg0_of (by rw [← en]; exact hg) hn hrn
        refine ⟨fun _ => ⟨cw, fun r45 q46 hk => ?_⟩, fun z9 => absurd b3 z9⟩
        obtain ⟨d1, d2, d3⟩ := hk
        have q46e : q46 0 = q41 0 := d2 0 (by decide)
        rw [q46e]
        refine ⟨⟨hw, hg, by rw [ien]; exact hsg⟩, fun r49 q50 hl => ?_⟩
        obtain ⟨l1, l2, l3, l4⟩ := hl
        rw [ien, q46e] at l3 l4
        have q50e : q50 0 = q41 0 := (l1 0 (by decide)).trans q46e
        obtain ⟨m, ns, hns, hns10, _, hlt, e⟩ := hg
        have em : m = n := by
          have h1 : nI n = nI m := en.symm.trans e
          exact ((nI_eq (by omega) (by have := p2_le hns10; omega)).mp h1).symm
        subst em
        have hgk : gok (q41 0) (nI m) := ⟨m, ns, hns, hns10, h0, hlt, rfl⟩
        rw [en]
        rw [en] at hC
        refine ⟨2000, rl_po (μ := q41 0) (T := ttF (q41 0)) (t := dpZ (ttF (q41 0)) m) hw hn hns hns10 hlt hsg0 (fun p hp hs => dp_ok hn hsg _ m p (sub_le hs) hp hs) (fun p hp hs => ?_) 1024 m 2000 r49 q50 (by omega) (by omega) (sub_rf m) (by rw [q50e]; exact eqS.rf) (by rw [q50e]; exact hw) l3 (fun p hp hs => (l4 p hs).2.2 hp) (fun r1 q1 g1 g2 g3 => ?_)⟩
        · have hpk : gok (q41 0) (nI p) := ⟨p, ns, hns, hns10, hp, sub_lt hs hlt, rfl⟩
          have hp9 : p < 1024 := Nat.lt_of_le_of_lt (sub_le hs) hn
          rcases tt_bn hw hpk hp9 with h | h
          · exact Or.inr h
          · exact Or.inl (h.mn (by have := (pop_1 hp9 hp).2; omega))
        · have m1 : kQ q41 q1 [0, 3, 7, 8, 9, 10] := (d2.tr l1 (L := [0, 3, 7, 8, 9, 10]) (by decide) (by decide)).tr g2 (fun _ h => h) (by decide)
          have n1 : kR r r1 (5 :: SCK) := ((k40.tr d1 (fun _ h => h) (by decide)).tr l2 (fun _ h => h) (by decide)).tr g1 (fun _ h => h) (by decide)
          have f1 : ∀ j, j ∉ [5, 6, 7, 17, 18, 19, 20, 21, 22, 23, 24, 25, 26, 27, 28, 35] → r1 j = r j := fun j hj => by
            have e1 := g1 j (fun z9 => hj (by revert z9; simp; omega))
            have e2 := l2 j (fun z9 => hj (by revert z9; simp; omega))
            have e3 := d1 j (fun z9 => hj (by revert z9; simp; omega))
            rw [e1, e2, e3]
            exact f40 j (fun z9 => hj (by rw [z9]; decide)) (fun z9 => hj (by rw [z9]; decide)) (fun z9 => hj (by revert z9; simp; omega))
          rw [show iv (nI m) = m from nI_clamp (by omega)]
          refine ⟨m1, n1, ?_, ?_, ?_, fun z9 => absurd hC z9, fun _ => ⟨?_, ?_, ?_⟩⟩
          · (try dsimp only); rw [hC, g1 6 (by decide), l2 6 (by decide), d1 6 (by decide), b2 6 (by decide), s5, c]
          · (try dsimp only); rw [hC, if_neg (by decide)]; exact f1 29 (by decide)
          · (try dsimp only); rw [hC, if_neg (by decide)]; exact f1 30 (by decide)
          · (try dsimp only)
            rw [g1 5 (by decide), l2 5 (by decide), g2 3 (by decide), l1 3 (by decide), ← f40 5 (by decide) (by decide) (by decide)]
            exact d3
          · (try dsimp only); rw [g3, q50e]
          · exact (l4 m (sub_rf m)).1
    · have hC : poC (q3 0) p0 = 3 := by unfold poC; rw [if_pos c, if_neg c2]
      refine ⟨fun z9 => absurd z9 (by rw [e56, va_up_self]; decide), fun _ => bad r56 3 0 (by rw [e56]; exact k5.up (by decide) _) (by rw [e56, va_up_self]) hC (by decide) (by decide) ?_ ?_ ?_⟩
      · rw [e56, va_up_ne _ _ (by decide)]; exact f5 5 (by decide) (by decide)
      · rw [e56, va_up_ne _ _ (by decide)]; exact f5 29 (by decide) (by decide)
      · rw [e56, va_up_ne _ _ (by decide)]; exact f5 30 (by decide) (by decide))

end S_RYS

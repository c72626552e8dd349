def vX9_codeAt (Q : Int → bS → Prop) (a1 : Int) (σ : bS) : Prop := ((256 ≤ a1 → ((0 ≤ (((250 * (σ 10 33)) + a1) - 256) ∧ (((250 * (σ 10 33)) + a1) - 256) < 2000) ∧ (Q (σ 63 (((250 * (σ 10 33)) + a1) - 256)) σ))) ∧ (¬ 256 ≤ a1 → ((0 ≤ a1 ∧ a1 < 256) ∧ (Q (σ 62 a1) σ))))
theorem mono_vX9_codeAt {Q Q9 : Int → bS → Prop} {a1 : Int} {σ : bS} (hQ : ∀ r σ, Q r σ → Q9 r σ) : vX9_codeAt Q a1 σ → vX9_codeAt Q9 a1 σ := (bm_and (bm_imp (bm_r (hQ _ _))) (bm_imp (bm_r (hQ _ _))))
theorem wX9_codeAt_e {p : Program} {l : Launch} {e : Env} {s : State} {m : MethodId} {args : Array Value} {below : List Frame} {meth : Method} {c : Code} {G : bG} {σ0 : bS} {Q : Int → bS → Prop} {a1 : Int} {σ : bS} (S : CallFix p m c cX9_codeAt 2 s args bT "BankLinkerModel") (hr : meth.sig.returnType = some .int) (hlk : meth.locks = false) (ha1 : bR a1) (hσ : bRG σ) (h : vX9_codeAt Q a1 σ) : bA p l e { frames := 0, cells := 0, slots := 0, locals := 0 } s m args below meth c 0 0 (bQi below args s G σ0 Q) G (va_A (bk_w G σ0) s.heap.size) 2 0 [(0, .ref (G.2.2 10)), (1, .int (bI a1))] [] σ := by
  unfold vX9_codeAt at h
  refine br_iload_n S 1 dX9_codeAt_0 rfl rfl ?_
  refine br_sipush S dX9_codeAt_1 rfl ?_
  refine br_ic_ge S 16 ha1 (by decide) dX9_codeAt_4 (by decide) (fun c1 => ?_) (fun c1 => ?_)
  · replace h := h.1 c1
    refine br_aload_n S 0 dX9_codeAt_16 rfl rfl ?_
    refine br_get (f := 18) (N := 37) (C := RX9) (T := TX9) S inT_X9 wd_4_12 (by decide) rfl rfl (by decide) rfl dX9_codeAt_17 ?_
    refine br_sipush S dX9_codeAt_20 rfl ?_
    refine br_aload_n S 0 dX9_codeAt_23 rfl rfl ?_
    refine br_get (f := 33) (N := 37) (C := RX9) (T := TX9) S inT_X9 wd_4_27 (by decide) rfl rfl (by decide) rfl dX9_codeAt_24 ?_
    refine br_imul S dX9_codeAt_27 ?_
    refine br_iload_n S 1 dX9_codeAt_28 rfl rfl ?_
    refine br_iadd S dX9_codeAt_29 ?_
    refine br_sipush S dX9_codeAt_30 rfl ?_
    refine br_isub S dX9_codeAt_33 ?_
    obtain ⟨g2, h⟩ := h
    refine br_iald (n := 2000) S ⟨by decide, by decide, fun _ => rfl⟩ g2.1 g2.2 dX9_codeAt_34 ?_
    exact br_iret S hr hlk (hσ 63 (((250 * (σ 10 33)) + a1) - 256)) hσ dX9_codeAt_35 h
  · replace h := h.2 c1
    refine br_aload_n S 0 dX9_codeAt_7 rfl rfl ?_
    refine br_get (f := 17) (N := 37) (C := RX9) (T := TX9) S inT_X9 wd_4_11 (by decide) rfl rfl (by decide) rfl dX9_codeAt_8 ?_
    refine br_iload_n S 1 dX9_codeAt_11 rfl rfl ?_
    obtain ⟨g3, h⟩ := h
    refine br_iald (n := 256) S ⟨by decide, by decide, fun _ => rfl⟩ g3.1 g3.2 dX9_codeAt_12 ?_
    refine br_goto S 35 dX9_codeAt_13 (by decide) ?_
    exact br_iret S hr hlk (hσ 62 a1) hσ dX9_codeAt_35 h
theorem mono_X9_codeAt {Q Q9 : Int → bS → Prop} {a1 : Int} {σ : bS} (hQ : ∀ r σ, Q r σ → Q9 r σ) : vX9_codeAt Q a1 σ → vX9_codeAt Q9 a1 σ := mono_vX9_codeAt hQ
theorem mX9_codeAt (l : Launch) (G : bG) (σ : bS) (a1 : Int) (ha1 : bR a1) {Q : Int → bS → Prop} (h : vX9_codeAt Q a1 σ) : bk_Mi l yX9_codeAt (Cond.code yX9_codeAt cX9_codeAt 2 (some .int) :: bT) { frames := 0, cells := 0, slots := 0, locals := 0 } G σ [.ref (G.2.2 10), .int (bI a1)] Q := by
  refine bk_Mi.of (cc := cX9_codeAt) (maxL := 2) (ret := some .int) (by decide) rfl (Nat.le_of_ble_eq_true rfl) ?_
  intro p e s m args below meth c S hr hlk hσ
  exact wX9_codeAt_e S hr hlk ha1 hσ h
def vX9_send_36 (Q : bS → Prop) (x1 : Int) (σ : bS) : Prop := ((0 ≤ ((5 * x1) + 2) ∧ ((5 * x1) + 2) < 10) ∧ (bR ((σ 64 ((5 * x1) + 2)) + 1) ∧ (∀ σ3 : bS, σ3 = bup σ 64 ((5 * x1) + 2) ((σ 64 ((5 * x1) + 2)) + 1) → (Q σ3))))
theorem mono_vX9_send_36 {Q Q9 : bS → Prop} {x1 : Int} {σ : bS} (hQ : ∀ σ, Q σ → Q9 σ) : vX9_send_36 Q x1 σ → vX9_send_36 Q9 x1 σ := (bm_r (bm_r (bm_all fun _ => bm_imp (hQ _))))
theorem wX9_send_36 {p : Program} {l : Launch} {e : Env} {s : State} {m : MethodId} {args : Array Value} {below : List Frame} {meth : Method} {c : Code} {G : bG} {σ0 : bS} {Q : bS → Prop} {x1 : Int} {σ : bS} (S : CallFix p m c cX9_send 3 s args bT "BankLinkerModel") (hr : meth.sig.returnType = none) (hlk : meth.locks = false) (hx1 : bR x1) (hσ : bRG σ) (h : vX9_send_36 Q x1 σ) : bA p l e { frames := 0, cells := 0, slots := 0, locals := 0 } s m args below meth c 0 0 (bQv below args s G σ0 Q) G (va_A (bk_w G σ0) s.heap.size) 3 36 [(0, .ref (G.2.2 10)), (1, .int (bI x1))] [] σ := by
  unfold vX9_send_36 at h
  refine br_aload_n S 0 dX9_send_36 rfl rfl ?_
  refine br_get (f := 26) (N := 37) (C := RX9) (T := TX9) S inT_X9 wd_4_20 (by decide) rfl rfl (by decide) rfl dX9_send_37 ?_
  refine br_iconst S dX9_send_40 ?_
  refine br_iload_n S 1 dX9_send_41 rfl rfl ?_
  refine br_imul S dX9_send_42 ?_
  refine br_iconst S dX9_send_43 ?_
  refine br_iadd S dX9_send_44 ?_
  refine br_dup2 S dX9_send_45 rfl rfl ?_
  obtain ⟨g1, h⟩ := h
  refine br_iald (n := 10) S ⟨by decide, by decide, fun _ => rfl⟩ g1.1 g1.2 dX9_send_46 ?_
  refine br_iconst S dX9_send_47 ?_
  refine br_iadd S dX9_send_48 ?_
  obtain ⟨g2, h⟩ := h
  obtain ⟨σ3, e4⟩ : ∃ τ, τ = bup σ 64 ((5 * x1) + 2) ((σ 64 ((5 * x1) + 2)) + 1) := ⟨_, rfl⟩
  replace h := h σ3 e4
  have hσ3 : bRG σ3 := by rw [e4]; exact bup_rg hσ g2
  refine br_iast (n := 10) S ⟨by decide, by decide, fun _ => rfl⟩ g1.1 g1.2 dX9_send_49 ?_
  refine bA.to rfl rfl e4.symm ?_
  exact br_vret S hr hlk hσ3 dX9_send_50 h
def vX9_send (Q : bS → Prop) (a1 : Int) (a2 : Int) (σ : bS) : Prop := ((0 ≤ ((5 * a1) + 2) ∧ ((5 * a1) + 2) < 10) ∧ ((100 ≤ (σ 64 ((5 * a1) + 2)) → (vX9_send_36 Q a1 σ)) ∧ (¬ 100 ≤ (σ 64 ((5 * a1) + 2)) → ((0 ≤ ((100 * a1) + (σ 64 ((5 * a1) + 2))) ∧ ((100 * a1) + (σ 64 ((5 * a1) + 2))) < 200) ∧ (∀ σ4 : bS, σ4 = bup σ 65 ((100 * a1) + (σ 64 ((5 * a1) + 2))) a2 → (vX9_send_36 Q a1 σ4))))))
theorem mono_vX9_send {Q Q9 : bS → Prop} {a1 : Int} {a2 : Int} {σ : bS} (hQ : ∀ σ, Q σ → Q9 σ) : vX9_send Q a1 a2 σ → vX9_send Q9 a1 a2 σ := (bm_r (bm_and (bm_imp (mono_vX9_send_36 hQ)) (bm_imp (bm_r (bm_all fun _ => bm_imp (mono_vX9_send_36 hQ))))))
theorem wX9_send_e {p : Program} {l : Launch} {e : Env} {s : State} {m : MethodId} {args : Array Value} {below : List Frame} {meth : Method} {c : Code} {G : bG} {σ0 : bS} {Q : bS → Prop} {a1 : Int} {a2 : Int} {σ : bS} (S : CallFix p m c cX9_send 3 s args bT "BankLinkerModel") (hr : meth.sig.returnType = none) (hlk : meth.locks = false) (ha1 : bR a1) (ha2 : bR a2) (hσ : bRG σ) (h : vX9_send Q a1 a2 σ) : bA p l e { frames := 0, cells := 0, slots := 0, locals := 0 } s m args below meth c 0 0 (bQv below args s G σ0 Q) G (va_A (bk_w G σ0) s.heap.size) 3 0 [(0, .ref (G.2.2 10)), (1, .int (bI a1)), (2, .int (bI a2))] [] σ := by
  unfold vX9_send at h
  refine br_aload_n S 0 dX9_send_0 rfl rfl ?_
  refine br_get (f := 26) (N := 37) (C := RX9) (T := TX9) S inT_X9 wd_4_20 (by decide) rfl rfl (by decide) rfl dX9_send_1 ?_
  refine br_iconst S dX9_send_4 ?_
  refine br_iload_n S 1 dX9_send_5 rfl rfl ?_
  refine br_imul S dX9_send_6 ?_
  refine br_iconst S dX9_send_7 ?_
  refine br_iadd S dX9_send_8 ?_
  obtain ⟨g1, h⟩ := h
  refine br_iald (n := 10) S ⟨by decide, by decide, fun _ => rfl⟩ g1.1 g1.2 dX9_send_9 ?_
  refine br_bipush S dX9_send_10 rfl ?_
  refine br_ic_ge S 36 (hσ 64 ((5 * a1) + 2)) (by decide) dX9_send_12 (by decide) (fun c2 => ?_) (fun c2 => ?_)
  · replace h := h.1 c2
    exact bA.perm [0, 1] rfl <| wX9_send_36 S hr hlk ha1 hσ h
  · replace h := h.2 c2
    refine br_aload_n S 0 dX9_send_15 rfl rfl ?_
    refine br_get (f := 27) (N := 37) (C := RX9) (T := TX9) S inT_X9 wd_4_21 (by decide) rfl rfl (by decide) rfl dX9_send_16 ?_
    refine br_bipush S dX9_send_19 rfl ?_
    refine br_iload_n S 1 dX9_send_21 rfl rfl ?_
    refine br_imul S dX9_send_22 ?_
    refine br_aload_n S 0 dX9_send_23 rfl rfl ?_
    refine br_get (f := 26) (N := 37) (C := RX9) (T := TX9) S inT_X9 wd_4_20 (by decide) rfl rfl (by decide) rfl dX9_send_24 ?_
    refine br_iconst S dX9_send_27 ?_
    refine br_iload_n S 1 dX9_send_28 rfl rfl ?_
    refine br_imul S dX9_send_29 ?_
    refine br_iconst S dX9_send_30 ?_
    refine br_iadd S dX9_send_31 ?_
    refine br_iald (n := 10) S ⟨by decide, by decide, fun _ => rfl⟩ g1.1 g1.2 dX9_send_32 ?_
    refine br_iadd S dX9_send_33 ?_
    refine br_iload_n S 2 dX9_send_34 rfl rfl ?_
    obtain ⟨g3, h⟩ := h
    obtain ⟨σ4, e5⟩ : ∃ τ, τ = bup σ 65 ((100 * a1) + (σ 64 ((5 * a1) + 2))) a2 := ⟨_, rfl⟩
    replace h := h σ4 e5
    have hσ4 : bRG σ4 := by rw [e5]; exact bup_rg hσ ha2
    refine br_iast (n := 200) S ⟨by decide, by decide, fun _ => rfl⟩ g3.1 g3.2 dX9_send_35 ?_
    refine bA.to rfl rfl e5.symm ?_
    exact bA.perm [0, 1] rfl <| wX9_send_36 S hr hlk ha1 hσ4 h
theorem mono_X9_send {Q Q9 : bS → Prop} {a1 : Int} {a2 : Int} {σ : bS} (hQ : ∀ σ, Q σ → Q9 σ) : vX9_send Q a1 a2 σ → vX9_send Q9 a1 a2 σ := mono_vX9_send hQ
theorem mX9_send (l : Launch) (G : bG) (σ : bS) (a1 : Int) (ha1 : bR a1) (a2 : Int) (ha2 : bR a2) {Q : bS → Prop} (h : vX9_send Q a1 a2 σ) : bk_Mv l yX9_send (Cond.code yX9_send cX9_send 3 (none) :: bT) { frames := 0, cells := 0, slots := 0, locals := 0 } G σ [.ref (G.2.2 10), .int (bI a1), .int (bI a2)] Q := by
  refine bk_Mv.of (cc := cX9_send) (maxL := 3) (ret := none) (by decide) rfl (Nat.le_of_ble_eq_true rfl) ?_
  intro p e s m args below meth c S hr hlk hσ
  exact wX9_send_e S hr hlk ha1 ha2 hσ h
def bX9_begin_2 (Q : bS → Prop) (P2 : Int → Int → bS → Prop) (x1 : Int) (x2 : Int) (σ : bS) : Prop := ((5 ≤ x2 → (∀ σ2 : bS, σ2 = bup σ 10 30 0 → (Q σ2))) ∧ (¬ 5 ≤ x2 → ((0 ≤ ((5 * x1) + x2) ∧ ((5 * x1) + x2) < 10) ∧ (∀ σ5 : bS, σ5 = bup σ 64 ((5 * x1) + x2) 0 → (bR (x2 + 1) ∧ (P2 x1 (x2 + 1) σ5))))))
theorem mono_bX9_begin_2 {Q Q9 : bS → Prop} {P2 P29 : Int → Int → bS → Prop} {x1 : Int} {x2 : Int} {σ : bS} (hQ : ∀ σ, Q σ → Q9 σ) (hP2 : ∀ x1 x2 σ, P2 x1 x2 σ → P29 x1 x2 σ) : bX9_begin_2 Q P2 x1 x2 σ → bX9_begin_2 Q9 P29 x1 x2 σ := (bm_and (bm_imp (bm_all fun _ => bm_imp (hQ _))) (bm_imp (bm_r (bm_all fun _ => bm_imp (bm_r (hP2 _ _ _))))))
theorem wX9_begin_2 {p : Program} {l : Launch} {e : Env} {s : State} {m : MethodId} {args : Array Value} {below : List Frame} {meth : Method} {c : Code} {G : bG} {σ0 : bS} {Q : bS → Prop} {P2 : Int → Int → bS → Prop} {x1 : Int} {x2 : Int} {σ : bS} (S : CallFix p m c cX9_begin 3 s args bT "BankLinkerModel") (hr : meth.sig.returnType = none) (hlk : meth.locks = false) (hP2 : ∀ (x1 : Int) (x2 : Int) (σ : bS), bR x1 → bR x2 → bRG σ → P2 x1 x2 σ → bA p l e { frames := 0, cells := 0, slots := 0, locals := 0 } s m args below meth c 0 0 (bQv below args s G σ0 Q) G (va_A (bk_w G σ0) s.heap.size) 3 2 [(0, .ref (G.2.2 10)), (1, .int (bI x1)), (2, .int (bI x2))] [] σ) (hx1 : bR x1) (hx2 : bR x2) (hσ : bRG σ) (h : bX9_begin_2 Q P2 x1 x2 σ) : bA p l e { frames := 0, cells := 0, slots := 0, locals := 0 } s m args below meth c 0 0 (bQv below args s G σ0 Q) G (va_A (bk_w G σ0) s.heap.size) 3 2 [(0, .ref (G.2.2 10)), (1, .int (bI x1)), (2, .int (bI x2))] [] σ := by
  unfold bX9_begin_2 at h
  refine br_iload_n S 2 dX9_begin_2 rfl rfl ?_
  refine br_iconst S dX9_begin_3 ?_
  refine br_ic_ge S 24 hx2 (by decide) dX9_begin_4 (by decide) (fun c1 => ?_) (fun c1 => ?_)
  · replace h := h.1 c1
    refine br_aload_n S 0 dX9_begin_24 rfl rfl ?_
    refine br_iconst S dX9_begin_25 ?_
    obtain ⟨σ2, e3⟩ : ∃ τ, τ = bup σ 10 30 0 := ⟨_, rfl⟩
    replace h := h σ2 e3
    have hσ2 : bRG σ2 := by rw [e3]; exact bup_rg hσ (by decide)
    refine br_put (f := 30) (N := 37) (C := RX9) (T := TX9) S tyX9 tyX9_ok nmX9 inT_X9 wd_4_24 (by decide) rfl (pf_10_30 _ _ _) rfl (by decide) (Nat.le_of_ble_eq_true rfl) rfl rfl rfl rfl dX9_begin_26 ?_
    refine bA.to rfl rfl e3.symm ?_
    exact br_vret S hr hlk hσ2 dX9_begin_29 h
  · replace h := h.2 c1
    refine br_aload_n S 0 dX9_begin_7 rfl rfl ?_
    refine br_get (f := 26) (N := 37) (C := RX9) (T := TX9) S inT_X9 wd_4_20 (by decide) rfl rfl (by decide) rfl dX9_begin_8 ?_
    refine br_iconst S dX9_begin_11 ?_
    refine br_iload_n S 1 dX9_begin_12 rfl rfl ?_
    refine br_imul S dX9_begin_13 ?_
    refine br_iload_n S 2 dX9_begin_14 rfl rfl ?_
    refine br_iadd S dX9_begin_15 ?_
    refine br_iconst S dX9_begin_16 ?_
    obtain ⟨g4, h⟩ := h
    obtain ⟨σ5, e6⟩ : ∃ τ, τ = bup σ 64 ((5 * x1) + x2) 0 := ⟨_, rfl⟩
    replace h := h σ5 e6
    have hσ5 : bRG σ5 := by rw [e6]; exact bup_rg hσ (by decide)
    refine br_iast (n := 10) S ⟨by decide, by decide, fun _ => rfl⟩ g4.1 g4.2 dX9_begin_17 ?_
    refine bA.to rfl rfl e6.symm ?_
    refine br_iinc S 2 [(2, .int (bI (x2 + 1))), (0, .ref (G.2.2 10)), (1, .int (bI x1))] dX9_begin_18 rfl (by decide) rfl ?_
    refine br_goto S 2 dX9_begin_21 (by decide) ?_
    obtain ⟨g7, h⟩ := h
    exact bA.perm [1, 2, 0] rfl <| hP2 x1 (x2 + 1) σ5 hx1 g7 hσ5 h
def eX9_begin (Q : bS → Prop) (P2 : Int → Int → bS → Prop) (a1 : Int) (σ : bS) : Prop := (P2 a1 0 σ)
theorem mono_eX9_begin {Q Q9 : bS → Prop} {P2 P29 : Int → Int → bS → Prop} {a1 : Int} {σ : bS} (hQ : ∀ σ, Q σ → Q9 σ) (hP2 : ∀ x1 x2 σ, P2 x1 x2 σ → P29 x1 x2 σ) : eX9_begin Q P2 a1 σ → eX9_begin Q9 P29 a1 σ := (hP2 _ _ _)
theorem wX9_begin_e {p : Program} {l : Launch} {e : Env} {s : State} {m : MethodId} {args : Array Value} {below : List Frame} {meth : Method} {c : Code} {G : bG} {σ0 : bS} {Q : bS → Prop} {P2 : Int → Int → bS → Prop} {a1 : Int} {σ : bS} (S : CallFix p m c cX9_begin 3 s args bT "BankLinkerModel") (hr : meth.sig.returnType = none) (hlk : meth.locks = false) (hP2 : ∀ (x1 : Int) (x2 : Int) (σ : bS), bR x1 → bR x2 → bRG σ → P2 x1 x2 σ → bA p l e { frames := 0, cells := 0, slots := 0, locals := 0 } s m args below meth c 0 0 (bQv below args s G σ0 Q) G (va_A (bk_w G σ0) s.heap.size) 3 2 [(0, .ref (G.2.2 10)), (1, .int (bI x1)), (2, .int (bI x2))] [] σ) (ha1 : bR a1) (hσ : bRG σ) (h : eX9_begin Q P2 a1 σ) : bA p l e { frames := 0, cells := 0, slots := 0, locals := 0 } s m args below meth c 0 0 (bQv below args s G σ0 Q) G (va_A (bk_w G σ0) s.heap.size) 3 0 [(0, .ref (G.2.2 10)), (1, .int (bI a1))] [] σ := by
  unfold eX9_begin at h
  refine br_iconst S dX9_begin_0 ?_
  refine br_istore_n S [(2, .int (bI 0)), (0, .ref (G.2.2 10)), (1, .int (bI a1))] dX9_begin_1 rfl (by decide) rfl ?_
  exact bA.perm [1, 2, 0] rfl <| hP2 a1 0 σ ha1 (by decide) hσ h
def LX9_begin_2 (Q : bS → Prop) (x1 : Int) (x2 : Int) (σ : bS) : Prop := ∀ (P2 : Int → Int → bS → Prop), (∀ x1 x2 σ, bX9_begin_2 Q P2 x1 x2 σ → P2 x1 x2 σ) → P2 x1 x2 σ
theorem LX9_begin_2_in {Q : bS → Prop} {x1 : Int} {x2 : Int} {σ : bS} (h : bX9_begin_2 Q (LX9_begin_2 Q) x1 x2 σ) : LX9_begin_2 Q x1 x2 σ := fun P2 H2 => H2 _ _ _ (mono_bX9_begin_2 (fun _ h => h) (fun _ _ _ h => h P2 H2) h)
theorem mono_LX9_begin_2 {Q Q9 : bS → Prop} {x1 : Int} {x2 : Int} {σ : bS} (hQ : ∀ σ, Q σ → Q9 σ) (h : LX9_begin_2 Q x1 x2 σ) : LX9_begin_2 Q9 x1 x2 σ := fun P2 H2 => h P2 (fun _ _ _ hb => H2 _ _ _ (mono_bX9_begin_2 hQ (fun _ _ _ h => h) hb))
def vX9_begin (Q : bS → Prop) (a1 : Int) (σ : bS) : Prop := eX9_begin Q (LX9_begin_2 Q) a1 σ
theorem mono_vX9_begin {Q Q9 : bS → Prop} {a1 : Int} {σ : bS} (hQ : ∀ σ, Q σ → Q9 σ) : vX9_begin Q a1 σ → vX9_begin Q9 a1 σ := mono_eX9_begin hQ (fun _ _ _ h => mono_LX9_begin_2 hQ h)
theorem mono_X9_begin {Q Q9 : bS → Prop} {a1 : Int} {σ : bS} (hQ : ∀ σ, Q σ → Q9 σ) : vX9_begin Q a1 σ → vX9_begin Q9 a1 σ := mono_vX9_begin hQ
theorem mX9_begin (l : Launch) (G : bG) (σ : bS) (a1 : Int) (ha1 : bR a1) {Q : bS → Prop} (h : vX9_begin Q a1 σ) : bk_Mv l yX9_begin (Cond.code yX9_begin cX9_begin 3 (none) :: bT) { frames := 0, cells := 0, slots := 0, locals := 0 } G σ [.ref (G.2.2 10), .int (bI a1)] Q := by
  refine bk_Mv.of (cc := cX9_begin) (maxL := 3) (ret := none) (by decide) rfl (Nat.le_of_ble_eq_true rfl) ?_
  intro p e s m args below meth c S hr hlk hσ
  let K2 : Int → Int → bS → Prop := fun x1 x2 τ => bR x1 → bR x2 → bRG τ → bA p l e { frames := 0, cells := 0, slots := 0, locals := 0 } s m args below meth c 0 0 (bQv below args s G σ Q) G (va_A (bk_w G σ) s.heap.size) 3 2 [(0, .ref (G.2.2 10)), (1, .int (bI x1)), (2, .int (bI x2))] [] τ
  have C2 : ∀ x1 x2 τ, bX9_begin_2 Q K2 x1 x2 τ → K2 x1 x2 τ := fun x1 x2 τ hb hx1 hx2 hτ => wX9_begin_2 S hr hlk (fun x1 x2 σ hx1 hx2 hσ h => h hx1 hx2 hσ) hx1 hx2 hτ hb
  exact wX9_begin_e S hr hlk (fun x1 x2 σ hx1 hx2 hσ h => h K2 C2 hx1 hx2 hσ) ha1 hσ h
def vX9_push_51 (Q : bS → Prop) (s0 : Int) (s1 : Int) (σ : bS) : Prop := ((0 ≤ s1 ∧ s1 < 10) ∧ (∀ σ2 : bS, σ2 = bup σ 64 s1 s0 → (Q σ2)))
theorem mono_vX9_push_51 {Q Q9 : bS → Prop} {s0 : Int} {s1 : Int} {σ : bS} (hQ : ∀ σ, Q σ → Q9 σ) : vX9_push_51 Q s0 s1 σ → vX9_push_51 Q9 s0 s1 σ := (bm_r (bm_all fun _ => bm_imp (hQ _)))
theorem wX9_push_51 {p : Program} {l : Launch} {e : Env} {s : State} {m : MethodId} {args : Array Value} {below : List Frame} {meth : Method} {c : Code} {G : bG} {σ0 : bS} {Q : bS → Prop} {s0 : Int} {s1 : Int} {σ : bS} (S : CallFix p m c cX9_push 2 s args bT "BankLinkerModel") (hr : meth.sig.returnType = none) (hlk : meth.locks = false) (hs0 : bR s0) (hs1 : bR s1) (hσ : bRG σ) (h : vX9_push_51 Q s0 s1 σ) : bA p l e { frames := 0, cells := 0, slots := 0, locals := 0 } s m args below meth c 0 0 (bQv below args s G σ0 Q) G (va_A (bk_w G σ0) s.heap.size) 2 51 [] [.int (bI s0), .int (bI s1), .ref (G.2.2 64)] σ := by
  unfold vX9_push_51 at h
  obtain ⟨g1, h⟩ := h
  obtain ⟨σ2, e3⟩ : ∃ τ, τ = bup σ 64 s1 s0 := ⟨_, rfl⟩
  replace h := h σ2 e3
  have hσ2 : bRG σ2 := by rw [e3]; exact bup_rg hσ hs0
  refine br_iast (n := 10) S ⟨by decide, by decide, fun _ => rfl⟩ g1.1 g1.2 dX9_push_51 ?_
  refine bA.to rfl rfl e3.symm ?_
  exact br_vret S hr hlk hσ2 dX9_push_52 h
def vX9_push (Q : bS → Prop) (a1 : Int) (σ : bS) : Prop := ((0 ≤ (σ 10 30) ∧ (σ 10 30) < 512) ∧ (∀ σ2 : bS, σ2 = bup σ 67 (σ 10 30) a1 → (bR ((σ2 10 30) + 1) ∧ (∀ σ5 : bS, σ5 = bup σ2 10 30 ((σ2 10 30) + 1) → (((σ5 10 30) ≤ (σ5 64 3) → (vX9_push_51 Q (σ5 64 3) 3 σ5)) ∧ (¬ (σ5 10 30) ≤ (σ5 64 3) → (vX9_push_51 Q (σ5 10 30) 3 σ5)))))))
theorem mono_vX9_push {Q Q9 : bS → Prop} {a1 : Int} {σ : bS} (hQ : ∀ σ, Q σ → Q9 σ) : vX9_push Q a1 σ → vX9_push Q9 a1 σ := (bm_r (bm_all fun _ => bm_imp (bm_r (bm_all fun _ => bm_imp (bm_and (bm_imp (mono_vX9_push_51 hQ)) (bm_imp (mono_vX9_push_51 hQ)))))))
theorem wX9_push_e {p : Program} {l : Launch} {e : Env} {s : State} {m : MethodId} {args : Array Value} {below : List Frame} {meth : Method} {c : Code} {G : bG} {σ0 : bS} {Q : bS → Prop} {a1 : Int} {σ : bS} (S : CallFix p m c cX9_push 2 s args bT "BankLinkerModel") (hr : meth.sig.returnType = none) (hlk : meth.locks = false) (ha1 : bR a1) (hσ : bRG σ) (h : vX9_push Q a1 σ) : bA p l e { frames := 0, cells := 0, slots := 0, locals := 0 } s m args below meth c 0 0 (bQv below args s G σ0 Q) G (va_A (bk_w G σ0) s.heap.size) 2 0 [(0, .ref (G.2.2 10)), (1, .int (bI a1))] [] σ := by
  unfold vX9_push at h
  refine br_aload_n S 0 dX9_push_0 rfl rfl ?_
  refine br_get (f := 29) (N := 37) (C := RX9) (T := TX9) S inT_X9 wd_4_23 (by decide) rfl rfl (by decide) rfl dX9_push_1 ?_
  refine br_aload_n S 0 dX9_push_4 rfl rfl ?_
  refine br_get (f := 30) (N := 37) (C := RX9) (T := TX9) S inT_X9 wd_4_24 (by decide) rfl rfl (by decide) rfl dX9_push_5 ?_
  refine br_iload_n S 1 dX9_push_8 rfl rfl ?_
  obtain ⟨g1, h⟩ := h
  obtain ⟨σ2, e3⟩ : ∃ τ, τ = bup σ 67 (σ 10 30) a1 := ⟨_, rfl⟩
  replace h := h σ2 e3
  have hσ2 : bRG σ2 := by rw [e3]; exact bup_rg hσ ha1
  refine br_iast (n := 512) S ⟨by decide, by decide, fun _ => rfl⟩ g1.1 g1.2 dX9_push_9 ?_
  refine bA.to rfl rfl e3.symm ?_
  refine br_aload_n S 0 dX9_push_10 rfl rfl ?_
  refine br_dup S dX9_push_11 rfl ?_
  refine br_get (f := 30) (N := 37) (C := RX9) (T := TX9) S inT_X9 wd_4_24 (by decide) rfl rfl (by decide) rfl dX9_push_12 ?_
  refine br_iconst S dX9_push_15 ?_
  refine br_iadd S dX9_push_16 ?_
  obtain ⟨g4, h⟩ := h
  obtain ⟨σ5, e6⟩ : ∃ τ, τ = bup σ2 10 30 ((σ2 10 30) + 1) := ⟨_, rfl⟩
  replace h := h σ5 e6
  have hσ5 : bRG σ5 := by rw [e6]; exact bup_rg hσ2 g4
  refine br_put (f := 30) (N := 37) (C := RX9) (T := TX9) S tyX9 tyX9_ok nmX9 inT_X9 wd_4_24 (by decide) rfl (pf_10_30 _ _ _) rfl (by decide) (Nat.le_of_ble_eq_true rfl) rfl rfl rfl rfl dX9_push_17 ?_
  refine bA.to rfl rfl e6.symm ?_
  refine br_aload_n S 0 dX9_push_20 rfl rfl ?_
  refine br_get (f := 26) (N := 37) (C := RX9) (T := TX9) S inT_X9 wd_4_20 (by decide) rfl rfl (by decide) rfl dX9_push_21 ?_
  refine br_iconst S dX9_push_24 ?_
  refine br_aload_n S 0 dX9_push_25 rfl rfl ?_
  refine br_get (f := 30) (N := 37) (C := RX9) (T := TX9) S inT_X9 wd_4_24 (by decide) rfl rfl (by decide) rfl dX9_push_26 ?_
  refine br_aload_n S 0 dX9_push_29 rfl rfl ?_
  refine br_get (f := 26) (N := 37) (C := RX9) (T := TX9) S inT_X9 wd_4_20 (by decide) rfl rfl (by decide) rfl dX9_push_30 ?_
  refine br_iconst S dX9_push_33 ?_
  refine br_iald (n := 10) S ⟨by decide, by decide, fun _ => rfl⟩ (by decide) (by decide) dX9_push_34 ?_
  refine br_ic_le S 45 (hσ5 10 30) (hσ5 64 3) dX9_push_35 (by decide) (fun c7 => ?_) (fun c7 => ?_)
  · replace h := h.1 c7
    refine br_aload_n S 0 dX9_push_45 rfl rfl ?_
    refine br_get (f := 26) (N := 37) (C := RX9) (T := TX9) S inT_X9 wd_4_20 (by decide) rfl rfl (by decide) rfl dX9_push_46 ?_
    refine br_iconst S dX9_push_49 ?_
    refine br_iald (n := 10) S ⟨by decide, by decide, fun _ => rfl⟩ (by decide) (by decide) dX9_push_50 ?_
    exact bA.perm [] rfl <| wX9_push_51 S hr hlk (hσ5 64 3) (by decide) hσ5 h
  · replace h := h.2 c7
    refine br_aload_n S 0 dX9_push_38 rfl rfl ?_
    refine br_get (f := 30) (N := 37) (C := RX9) (T := TX9) S inT_X9 wd_4_24 (by decide) rfl rfl (by decide) rfl dX9_push_39 ?_
    refine br_goto S 51 dX9_push_42 (by decide) ?_
    exact bA.perm [] rfl <| wX9_push_51 S hr hlk (hσ5 10 30) (by decide) hσ5 h
theorem mono_X9_push {Q Q9 : bS → Prop} {a1 : Int} {σ : bS} (hQ : ∀ σ, Q σ → Q9 σ) : vX9_push Q a1 σ → vX9_push Q9 a1 σ := mono_vX9_push hQ
theorem mX9_push (l : Launch) (G : bG) (σ : bS) (a1 : Int) (ha1 : bR a1) {Q : bS → Prop} (h : vX9_push Q a1 σ) : bk_Mv l yX9_push (Cond.code yX9_push cX9_push 2 (none) :: bT) { frames := 0, cells := 0, slots := 0, locals := 0 } G σ [.ref (G.2.2 10), .int (bI a1)] Q := by
  refine bk_Mv.of (cc := cX9_push) (maxL := 2) (ret := none) (by decide) rfl (Nat.le_of_ble_eq_true rfl) ?_
  intro p e s m args below meth c S hr hlk hσ
  exact wX9_push_e S hr hlk ha1 hσ h
def vX9_step_285 (Q : Int → bS → Prop) (P416 : Int → Int → bS → Prop) (s0 : Int) (s1 : Int) (σ : bS) : Prop := (bR (s1 + s0) ∧ (∀ σ2 : bS, σ2 = bup σ 10 32 (s1 + s0) → (Q 0 σ2)))
theorem mono_vX9_step_285 {Q Q9 : Int → bS → Prop} {P416 P4169 : Int → Int → bS → Prop} {s0 : Int} {s1 : Int} {σ : bS} (hQ : ∀ r σ, Q r σ → Q9 r σ) (hP416 : ∀ x2 x4 σ, P416 x2 x4 σ → P4169 x2 x4 σ) : vX9_step_285 Q P416 s0 s1 σ → vX9_step_285 Q9 P4169 s0 s1 σ := (bm_r (bm_all fun _ => bm_imp (hQ _ _)))
theorem wX9_step_285 {p : Program} {l : Launch} {e : Env} {s : State} {m : MethodId} {args : Array Value} {below : List Frame} {meth : Method} {c : Code} {G : bG} {σ0 : bS} {Q : Int → bS → Prop} {P416 : Int → Int → bS → Prop} {s0 : Int} {s1 : Int} {σ : bS} (S : CallFix p m c cX9_step 5 s args bT "BankLinkerModel") (hr : meth.sig.returnType = some .boolean) (hlk : meth.locks = false) (hP416 : ∀ (x2 : Int) (x4 : Int) (σ : bS), bR x2 → bR x4 → bRG σ → P416 x2 x4 σ → bA p l e { frames := 1, cells := 0, slots := 0, locals := 22 } s m args below meth c 0 0 (bQi below args s G σ0 Q) G (va_A (bk_w G σ0) s.heap.size) 5 416 [(0, .ref (G.2.2 10)), (2, .int (bI x2)), (4, .int (bI x4))] [] σ) (hs0 : bR s0) (hs1 : bR s1) (hσ : bRG σ) (h : vX9_step_285 Q P416 s0 s1 σ) : bA p l e { frames := 1, cells := 0, slots := 0, locals := 22 } s m args below meth c 0 0 (bQi below args s G σ0 Q) G (va_A (bk_w G σ0) s.heap.size) 5 285 [] [.int (bI s0), .int (bI s1), .ref (G.2.2 10)] σ := by
  unfold vX9_step_285 at h
  refine br_iadd S dX9_step_285 ?_
  obtain ⟨g1, h⟩ := h
  obtain ⟨σ2, e3⟩ : ∃ τ, τ = bup σ 10 32 (s1 + s0) := ⟨_, rfl⟩
  replace h := h σ2 e3
  have hσ2 : bRG σ2 := by rw [e3]; exact bup_rg hσ g1
  refine br_put (f := 32) (N := 37) (C := RX9) (T := TX9) S tyX9 tyX9_ok nmX9 inT_X9 wd_4_26 (by decide) rfl (pf_10_32 _ _ _) rfl (by decide) (Nat.le_of_ble_eq_true rfl) rfl rfl rfl rfl dX9_step_286 ?_
  refine bA.to rfl rfl e3.symm ?_
  refine br_iconst S dX9_step_289 ?_
  exact br_zret S hr hlk (by decide) hσ2 dX9_step_290 h
def vX9_step_311 (Q : Int → bS → Prop) (P416 : Int → Int → bS → Prop) (s0 : Int) (s1 : Int) (σ : bS) : Prop := (bR (s1 + s0) ∧ (∀ σ2 : bS, σ2 = bup σ 10 32 (s1 + s0) → (Q 0 σ2)))
theorem mono_vX9_step_311 {Q Q9 : Int → bS → Prop} {P416 P4169 : Int → Int → bS → Prop} {s0 : Int} {s1 : Int} {σ : bS} (hQ : ∀ r σ, Q r σ → Q9 r σ) (hP416 : ∀ x2 x4 σ, P416 x2 x4 σ → P4169 x2 x4 σ) : vX9_step_311 Q P416 s0 s1 σ → vX9_step_311 Q9 P4169 s0 s1 σ := (bm_r (bm_all fun _ => bm_imp (hQ _ _)))
theorem wX9_step_311 {p : Program} {l : Launch} {e : Env} {s : State} {m : MethodId} {args : Array Value} {below : List Frame} {meth : Method} {c : Code} {G : bG} {σ0 : bS} {Q : Int → bS → Prop} {P416 : Int → Int → bS → Prop} {s0 : Int} {s1 : Int} {σ : bS} (S : CallFix p m c cX9_step 5 s args bT "BankLinkerModel") (hr : meth.sig.returnType = some .boolean) (hlk : meth.locks = false) (hP416 : ∀ (x2 : Int) (x4 : Int) (σ : bS), bR x2 → bR x4 → bRG σ → P416 x2 x4 σ → bA p l e { frames := 1, cells := 0, slots := 0, locals := 22 } s m args below meth c 0 0 (bQi below args s G σ0 Q) G (va_A (bk_w G σ0) s.heap.size) 5 416 [(0, .ref (G.2.2 10)), (2, .int (bI x2)), (4, .int (bI x4))] [] σ) (hs0 : bR s0) (hs1 : bR s1) (hσ : bRG σ) (h : vX9_step_311 Q P416 s0 s1 σ) : bA p l e { frames := 1, cells := 0, slots := 0, locals := 22 } s m args below meth c 0 0 (bQi below args s G σ0 Q) G (va_A (bk_w G σ0) s.heap.size) 5 311 [] [.int (bI s0), .int (bI s1), .ref (G.2.2 10)] σ := by
  unfold vX9_step_311 at h
  refine br_iadd S dX9_step_311 ?_
  obtain ⟨g1, h⟩ := h
  obtain ⟨σ2, e3⟩ : ∃ τ, τ = bup σ 10 32 (s1 + s0) := ⟨_, rfl⟩
  replace h := h σ2 e3
  have hσ2 : bRG σ2 := by rw [e3]; exact bup_rg hσ g1
  refine br_put (f := 32) (N := 37) (C := RX9) (T := TX9) S tyX9 tyX9_ok nmX9 inT_X9 wd_4_26 (by decide) rfl (pf_10_32 _ _ _) rfl (by decide) (Nat.le_of_ble_eq_true rfl) rfl rfl rfl rfl dX9_step_312 ?_
  refine bA.to rfl rfl e3.symm ?_
  refine br_iconst S dX9_step_315 ?_
  exact br_zret S hr hlk (by decide) hσ2 dX9_step_316 h
def vX9_step_95 (Q : Int → bS → Prop) (P416 : Int → Int → bS → Prop) (x1 : Int) (x2 : Int) (s0 : Int) (s1 : Int) (σ : bS) : Prop := (bR (s1 + s0) ∧ (∀ σ2 : bS, σ2 = bup σ 10 32 (s1 + s0) → (((x1 < 0 ∨ 11 < x1) → (P416 x2 0 σ2)) ∧ (x1 = 0 → (∀ σ6 : bS, σ6 = bup σ2 10 31 x2 → (Q 0 σ6))) ∧ (x1 = 1 → (∀ σ8 : bS, σ8 = bup σ2 10 31 (((σ2 10 31) + x2) % 256) → (Q 0 σ8))) ∧ (x1 = 2 → (vX9_send (fun σ11 => (Q 0 σ11)) 0 (σ2 10 31) σ2)) ∧ (x1 = 3 → ((0 ≤ x2 ∧ x2 < 256) ∧ (∀ σ13 : bS, σ13 = bup σ2 10 31 (σ2 66 x2) → (Q 0 σ13)))) ∧ (x1 = 4 → ((0 ≤ x2 ∧ x2 < 256) ∧ (∀ σ16 : bS, σ16 = bup σ2 66 x2 (σ2 10 31) → (Q 0 σ16)))) ∧ (x1 = 5 → (bR ((σ2 10 32) - 1) ∧ (vX9_codeAt (fun z19 σ20 => (vX9_push (fun σ22 => (bR (x2 + (256 * z19)) ∧ (∀ σ24 : bS, σ24 = bup σ22 10 32 (x2 + (256 * z19)) → (Q 0 σ24)))) (σ20 10 32) σ20)) ((σ2 10 32) - 1) σ2))) ∧ (x1 = 6 → ((¬ (σ2 10 31) = 0 → (vX9_step_285 Q P416 0 (σ2 10 32) σ2)) ∧ ((σ2 10 31) = 0 → ((x2 ≤ 127 → (vX9_step_285 Q P416 x2 (σ2 10 32) σ2)) ∧ (¬ x2 ≤ 127 → (bR (x2 - 256) ∧ (vX9_step_285 Q P416 (x2 - 256) (σ2 10 32) σ2))))))) ∧ (x1 = 7 → ((x2 ≤ 127 → (vX9_step_311 Q P416 x2 (σ2 10 32) σ2)) ∧ (¬ x2 ≤ 127 → (bR (x2 - 256) ∧ (vX9_step_311 Q P416 (x2 - 256) (σ2 10 32) σ2))))) ∧ (x1 = 8 → ((¬ (σ2 10 30) = 0 → (bR ((σ2 10 30) - 1) ∧ (∀ σ33 : bS, σ33 = bup σ2 10 30 ((σ2 10 30) - 1) → ((0 ≤ (σ33 10 30) ∧ (σ33 10 30) < 512) ∧ (∀ σ36 : bS, σ36 = bup σ33 10 32 (σ33 67 (σ33 10 30)) → (Q 0 σ36)))))) ∧ ((σ2 10 30) = 0 → (Q 1 σ2)))) ∧ (x1 = 9 → (vX9_push (fun σ39 => (Q 0 σ39)) (σ2 10 33) σ2)) ∧ (x1 = 10 → (∀ σ40 : bS, σ40 = bup σ2 10 33 x2 → (bR ((σ40 64 4) + 1) ∧ (∀ σ43 : bS, σ43 = bup σ40 64 4 ((σ40 64 4) + 1) → (Q 0 σ43))))) ∧ (x1 = 11 → (bR ((σ2 10 30) - 1) ∧ (∀ σ46 : bS, σ46 = bup σ2 10 30 ((σ2 10 30) - 1) → ((0 ≤ (σ46 10 30) ∧ (σ46 10 30) < 512) ∧ (∀ σ49 : bS, σ49 = bup σ46 10 33 (σ46 67 (σ46 10 30)) → (bR ((σ49 64 4) + 1) ∧ (∀ σ52 : bS, σ52 = bup σ49 64 4 ((σ49 64 4) + 1) → (Q 0 σ52)))))))))))
theorem mono_vX9_step_95 {Q Q9 : Int → bS → Prop} {P416 P4169 : Int → Int → bS → Prop} {x1 : Int} {x2 : Int} {s0 : Int} {s1 : Int} {σ : bS} (hQ : ∀ r σ, Q r σ → Q9 r σ) (hP416 : ∀ x2 x4 σ, P416 x2 x4 σ → P4169 x2 x4 σ) : vX9_step_95 Q P416 x1 x2 s0 s1 σ → vX9_step_95 Q9 P4169 x1 x2 s0 s1 σ := (bm_r (bm_all fun _ => bm_imp (bm_and (bm_imp (hP416 _ _ _)) (bm_and (bm_imp (bm_all fun _ => bm_imp (hQ _ _))) (bm_and (bm_imp (bm_all fun _ => bm_imp (hQ _ _))) (bm_and (bm_imp (mono_X9_send (fun _ => (hQ _ _)))) (bm_and (bm_imp (bm_r (bm_all fun _ => bm_imp (hQ _ _)))) (bm_and (bm_imp (bm_r (bm_all fun _ => bm_imp (hQ _ _)))) (bm_and (bm_imp (bm_r (mono_X9_codeAt (fun _ _ => (mono_X9_push (fun _ => (bm_r (bm_all fun _ => bm_imp (hQ _ _))))))))) (bm_and (bm_imp (bm_and (bm_imp (mono_vX9_step_285 hQ hP416)) (bm_imp (bm_and (bm_imp (mono_vX9_step_285 hQ hP416)) (bm_imp (bm_r (mono_vX9_step_285 hQ hP416))))))) (bm_and (bm_imp (bm_and (bm_imp (mono_vX9_step_311 hQ hP416)) (bm_imp (bm_r (mono_vX9_step_311 hQ hP416))))) (bm_and (bm_imp (bm_and (bm_imp (bm_r (bm_all fun _ => bm_imp (bm_r (bm_all fun _ => bm_imp (hQ _ _)))))) (bm_imp (hQ _ _)))) (bm_and (bm_imp (mono_X9_push (fun _ => (hQ _ _)))) (bm_and (bm_imp (bm_all fun _ => bm_imp (bm_r (bm_all fun _ => bm_imp (hQ _ _))))) (bm_imp (bm_r (bm_all fun _ => bm_imp (bm_r (bm_all fun _ => bm_imp (bm_r (bm_all fun _ => bm_imp (hQ _ _))))))))))))))))))))))
theorem wX9_step_95 {p : Program} {l : Launch} {e : Env} {s : State} {m : MethodId} {args : Array Value} {below : List Frame} {meth : Method} {c : Code} {G : bG} {σ0 : bS} {Q : Int → bS → Prop} {P416 : Int → Int → bS → Prop} {x1 : Int} {x2 : Int} {s0 : Int} {s1 : Int} {σ : bS} (S : CallFix p m c cX9_step 5 s args bT "BankLinkerModel") (hr : meth.sig.returnType = some .boolean) (hlk : meth.locks = false) (hP416 : ∀ (x2 : Int) (x4 : Int) (σ : bS), bR x2 → bR x4 → bRG σ → P416 x2 x4 σ → bA p l e { frames := 1, cells := 0, slots := 0, locals := 22 } s m args below meth c 0 0 (bQi below args s G σ0 Q) G (va_A (bk_w G σ0) s.heap.size) 5 416 [(0, .ref (G.2.2 10)), (2, .int (bI x2)), (4, .int (bI x4))] [] σ) (hx1 : bR x1) (hx2 : bR x2) (hs0 : bR s0) (hs1 : bR s1) (hσ : bRG σ) (h : vX9_step_95 Q P416 x1 x2 s0 s1 σ) : bA p l e { frames := 1, cells := 0, slots := 0, locals := 22 } s m args below meth c 0 0 (bQi below args s G σ0 Q) G (va_A (bk_w G σ0) s.heap.size) 5 95 [(0, .ref (G.2.2 10)), (1, .int (bI x1)), (2, .int (bI x2))] [.int (bI s0), .int (bI s1), .ref (G.2.2 10)] σ := by
  unfold vX9_step_95 at h
  refine br_iadd S dX9_step_95 ?_
  obtain ⟨g1, h⟩ := h
  obtain ⟨σ2, e3⟩ : ∃ τ, τ = bup σ 10 32 (s1 + s0) := ⟨_, rfl⟩
  replace h := h σ2 e3
  have hσ2 : bRG σ2 := by rw [e3]; exact bup_rg hσ g1
  refine br_put (f := 32) (N := 37) (C := RX9) (T := TX9) S tyX9 tyX9_ok nmX9 inT_X9 wd_4_26 (by decide) rfl (pf_10_32 _ _ _) rfl (by decide) (Nat.le_of_ble_eq_true rfl) rfl rfl rfl rfl dX9_step_96 ?_
  refine bA.to rfl rfl e3.symm ?_
  refine br_iload_n S 1 dX9_step_99 rfl rfl ?_
  by_cases c4 : x1 < 0 ∨ 11 < x1
  · replace h := h.1 c4
    refine br_tblO S 413 hx1 c4 dX9_step_100 (by decide) ?_
    refine br_iconst S dX9_step_413 ?_
    refine br_istore S [(4, .int (bI 0)), (0, .ref (G.2.2 10)), (1, .int (bI x1)), (2, .int (bI x2))] dX9_step_414 (by decide) rfl ?_
    exact bA.perm [1, 3, 0] rfl <| hP416 x2 0 σ2 hx2 (by decide) hσ2 h
  · rcases (show x1 = 0 ∨ x1 = 1 ∨ x1 = 2 ∨ x1 = 3 ∨ x1 = 4 ∨ x1 = 5 ∨ x1 = 6 ∨ x1 = 7 ∨ x1 = 8 ∨ x1 = 9 ∨ x1 = 10 ∨ x1 = 11 by omega) with c5 | c5 | c5 | c5 | c5 | c5 | c5 | c5 | c5 | c5 | c5 | c5
    · replace h := h.2.1 c5
      refine br_tblI S 164 0 hx1 c5 (by decide) rfl dX9_step_100 (by decide) ?_
      refine br_aload_n S 0 dX9_step_164 rfl rfl ?_
      refine br_iload_n S 2 dX9_step_165 rfl rfl ?_
      obtain ⟨σ6, e7⟩ : ∃ τ, τ = bup σ2 10 31 x2 := ⟨_, rfl⟩
      replace h := h σ6 e7
      have hσ6 : bRG σ6 := by rw [e7]; exact bup_rg hσ2 hx2
      refine br_put (f := 31) (N := 37) (C := RX9) (T := TX9) S tyX9 tyX9_ok nmX9 inT_X9 wd_4_25 (by decide) rfl (pf_10_31 _ _ _) rfl (by decide) (Nat.le_of_ble_eq_true rfl) rfl rfl rfl rfl dX9_step_166 ?_
      refine bA.to rfl rfl e7.symm ?_
      refine br_iconst S dX9_step_169 ?_
      exact br_zret S hr hlk (by decide) hσ6 dX9_step_170 h
    · replace h := h.2.2.1 c5
      refine br_tblI S 171 1 hx1 c5 (by decide) rfl dX9_step_100 (by decide) ?_
      refine br_aload_n S 0 dX9_step_171 rfl rfl ?_
      refine br_aload_n S 0 dX9_step_172 rfl rfl ?_
      refine br_get (f := 31) (N := 37) (C := RX9) (T := TX9) S inT_X9 wd_4_25 (by decide) rfl rfl (by decide) rfl dX9_step_173 ?_
      refine br_iload_n S 2 dX9_step_176 rfl rfl ?_
      refine br_iadd S dX9_step_177 ?_
      refine br_sipush S dX9_step_178 rfl ?_
      refine br_and255 S dX9_step_181 ?_
      obtain ⟨σ8, e9⟩ : ∃ τ, τ = bup σ2 10 31 (((σ2 10 31) + x2) % 256) := ⟨_, rfl⟩
      replace h := h σ8 e9
      have hσ8 : bRG σ8 := by rw [e9]; exact bup_rg hσ2 (bR_mod256 _)
      refine br_put (f := 31) (N := 37) (C := RX9) (T := TX9) S tyX9 tyX9_ok nmX9 inT_X9 wd_4_25 (by decide) rfl (pf_10_31 _ _ _) rfl (by decide) (Nat.le_of_ble_eq_true rfl) rfl rfl rfl rfl dX9_step_182 ?_
      refine bA.to rfl rfl e9.symm ?_
      refine br_iconst S dX9_step_185 ?_
      exact br_zret S hr hlk (by decide) hσ8 dX9_step_186 h
    · replace h := h.2.2.2.1 c5
      refine br_tblI S 187 2 hx1 c5 (by decide) rfl dX9_step_100 (by decide) ?_
      refine br_aload_n S 0 dX9_step_187 rfl rfl ?_
      refine br_iconst S dX9_step_188 ?_
      refine br_aload_n S 0 dX9_step_189 rfl rfl ?_
      refine br_get (f := 31) (N := 37) (C := RX9) (T := TX9) S inT_X9 wd_4_25 (by decide) rfl rfl (by decide) rfl dX9_step_190 ?_
      refine br_callVv (As := [.int (bI 0), .int (bI (σ2 10 31))]) (rest := []) S (cwV_X9_send S.2.2.2.2 wd_5_7 ⟨by decide, by decide⟩) (mX9_send l G σ2 0 (by decide) (σ2 10 31) (hσ2 10 31) h) (by decide) rfl rfl rfl hσ2 rfl rfl (Nat.le_of_ble_eq_true rfl) ⟨by decide, by decide⟩ dX9_step_193 (fun σ11 hσ11 h => ?_)
      refine br_iconst S dX9_step_196 ?_
      exact br_zret S hr hlk (by decide) hσ11 dX9_step_197 h
    · replace h := h.2.2.2.2.1 c5
      refine br_tblI S 198 3 hx1 c5 (by decide) rfl dX9_step_100 (by decide) ?_
      refine br_aload_n S 0 dX9_step_198 rfl rfl ?_
      refine br_aload_n S 0 dX9_step_199 rfl rfl ?_
      refine br_get (f := 28) (N := 37) (C := RX9) (T := TX9) S inT_X9 wd_4_22 (by decide) rfl rfl (by decide) rfl dX9_step_200 ?_
      refine br_iload_n S 2 dX9_step_203 rfl rfl ?_
      obtain ⟨g12, h⟩ := h
      refine br_iald (n := 256) S ⟨by decide, by decide, fun _ => rfl⟩ g12.1 g12.2 dX9_step_204 ?_
      obtain ⟨σ13, e14⟩ : ∃ τ, τ = bup σ2 10 31 (σ2 66 x2) := ⟨_, rfl⟩
      replace h := h σ13 e14
      have hσ13 : bRG σ13 := by rw [e14]; exact bup_rg hσ2 (hσ2 66 x2)
      refine br_put (f := 31) (N := 37) (C := RX9) (T := TX9) S tyX9 tyX9_ok nmX9 inT_X9 wd_4_25 (by decide) rfl (pf_10_31 _ _ _) rfl (by decide) (Nat.le_of_ble_eq_true rfl) rfl rfl rfl rfl dX9_step_205 ?_
      refine bA.to rfl rfl e14.symm ?_
      refine br_iconst S dX9_step_208 ?_
      exact br_zret S hr hlk (by decide) hσ13 dX9_step_209 h
    · replace h := h.2.2.2.2.2.1 c5
      refine br_tblI S 210 4 hx1 c5 (by decide) rfl dX9_step_100 (by decide) ?_
      refine br_aload_n S 0 dX9_step_210 rfl rfl ?_
      refine br_get (f := 28) (N := 37) (C := RX9) (T := TX9) S inT_X9 wd_4_22 (by decide) rfl rfl (by decide) rfl dX9_step_211 ?_
      refine br_iload_n S 2 dX9_step_214 rfl rfl ?_
      refine br_aload_n S 0 dX9_step_215 rfl rfl ?_
      refine br_get (f := 31) (N := 37) (C := RX9) (T := TX9) S inT_X9 wd_4_25 (by decide) rfl rfl (by decide) rfl dX9_step_216 ?_
      obtain ⟨g15, h⟩ := h
      obtain ⟨σ16, e17⟩ : ∃ τ, τ = bup σ2 66 x2 (σ2 10 31) := ⟨_, rfl⟩
      replace h := h σ16 e17
      have hσ16 : bRG σ16 := by rw [e17]; exact bup_rg hσ2 (hσ2 10 31)
      refine br_iast (n := 256) S ⟨by decide, by decide, fun _ => rfl⟩ g15.1 g15.2 dX9_step_219 ?_
      refine bA.to rfl rfl e17.symm ?_
      refine br_iconst S dX9_step_220 ?_
      exact br_zret S hr hlk (by decide) hσ16 dX9_step_221 h
    · replace h := h.2.2.2.2.2.2.1 c5
      refine br_tblI S 222 5 hx1 c5 (by decide) rfl dX9_step_100 (by decide) ?_
      refine br_iload_n S 2 dX9_step_222 rfl rfl ?_
      refine br_sipush S dX9_step_223 rfl ?_
      refine br_aload_n S 0 dX9_step_226 rfl rfl ?_
      refine br_aload_n S 0 dX9_step_227 rfl rfl ?_
      refine br_get (f := 32) (N := 37) (C := RX9) (T := TX9) S inT_X9 wd_4_26 (by decide) rfl rfl (by decide) rfl dX9_step_228 ?_
      refine br_iconst S dX9_step_231 ?_
      refine br_isub S dX9_step_232 ?_
      obtain ⟨g18, h⟩ := h
      refine br_callV (As := [.int (bI ((σ2 10 32) - 1))]) (rest := [.int (bI 256), .int (bI x2)]) S (cwV_X9_codeAt S.2.2.2.2 wd_5_3 ⟨by decide, by decide⟩) (mX9_codeAt l G σ2 ((σ2 10 32) - 1) g18 h) (by decide) rfl rfl rfl hσ2 rfl rfl (Nat.le_of_ble_eq_true rfl) ⟨by decide, by decide⟩ dX9_step_233 (fun z19 σ20 hz19 hσ20 h => ?_)
      refine br_imul S dX9_step_236 ?_
      refine br_iadd S dX9_step_237 ?_
      refine br_istore_n S [(3, .int (bI (x2 + (256 * z19)))), (0, .ref (G.2.2 10)), (1, .int (bI x1)), (2, .int (bI x2))] dX9_step_238 rfl (by decide) rfl ?_
      refine br_aload_n S 1 dX9_step_239 rfl rfl ?_
      refine br_aload_n S 1 dX9_step_240 rfl rfl ?_
      refine br_get (f := 32) (N := 37) (C := RX9) (T := TX9) S inT_X9 wd_4_26 (by decide) rfl rfl (by decide) rfl dX9_step_241 ?_
      refine br_callVv (As := [.int (bI (σ20 10 32))]) (rest := []) S (cwV_X9_push S.2.2.2.2 wd_5_11 ⟨by decide, by decide⟩) (mX9_push l G σ20 (σ20 10 32) (hσ20 10 32) h) (by decide) rfl rfl rfl hσ20 rfl rfl (Nat.le_of_ble_eq_true rfl) ⟨by decide, by decide⟩ dX9_step_244 (fun σ22 hσ22 h => ?_)
      refine br_aload_n S 1 dX9_step_247 rfl rfl ?_
      refine br_iload_n S 0 dX9_step_248 rfl rfl ?_
      obtain ⟨g23, h⟩ := h
      obtain ⟨σ24, e25⟩ : ∃ τ, τ = bup σ22 10 32 (x2 + (256 * z19)) := ⟨_, rfl⟩
      replace h := h σ24 e25
      have hσ24 : bRG σ24 := by rw [e25]; exact bup_rg hσ22 g23
      refine br_put (f := 32) (N := 37) (C := RX9) (T := TX9) S tyX9 tyX9_ok nmX9 inT_X9 wd_4_26 (by decide) rfl (pf_10_32 _ _ _) rfl (by decide) (Nat.le_of_ble_eq_true rfl) rfl rfl rfl rfl dX9_step_249 ?_
      refine bA.to rfl rfl e25.symm ?_
      refine br_iconst S dX9_step_252 ?_
      exact br_zret S hr hlk (by decide) hσ24 dX9_step_253 h
    · replace h := h.2.2.2.2.2.2.2.1 c5
      refine br_tblI S 254 6 hx1 c5 (by decide) rfl dX9_step_100 (by decide) ?_
      refine br_aload_n S 0 dX9_step_254 rfl rfl ?_
      refine br_dup S dX9_step_255 rfl ?_
      refine br_get (f := 32) (N := 37) (C := RX9) (T := TX9) S inT_X9 wd_4_26 (by decide) rfl rfl (by decide) rfl dX9_step_256 ?_
      refine br_aload_n S 0 dX9_step_259 rfl rfl ?_
      refine br_get (f := 31) (N := 37) (C := RX9) (T := TX9) S inT_X9 wd_4_25 (by decide) rfl rfl (by decide) rfl dX9_step_260 ?_
      refine br_if_ne S 284 (hσ2 10 31) dX9_step_263 (by decide) (fun c26 => ?_) (fun c26 => ?_)
      · replace h := h.1 c26
        refine br_iconst S dX9_step_284 ?_
        exact bA.perm [] rfl <| wX9_step_285 S hr hlk hP416 (by decide) (hσ2 10 32) hσ2 h
      · replace h := h.2 c26
        refine br_iload_n S 2 dX9_step_266 rfl rfl ?_
        refine br_bipush S dX9_step_267 rfl ?_
        refine br_ic_le S 280 hx2 (by decide) dX9_step_269 (by decide) (fun c27 => ?_) (fun c27 => ?_)
        · replace h := h.1 c27
          refine br_iload_n S 2 dX9_step_280 rfl rfl ?_
          refine br_goto S 285 dX9_step_281 (by decide) ?_
          exact bA.perm [] rfl <| wX9_step_285 S hr hlk hP416 hx2 (hσ2 10 32) hσ2 h
        · replace h := h.2 c27
          refine br_iload_n S 2 dX9_step_272 rfl rfl ?_
          refine br_sipush S dX9_step_273 rfl ?_
          refine br_isub S dX9_step_276 ?_
          refine br_goto S 285 dX9_step_277 (by decide) ?_
          obtain ⟨g28, h⟩ := h
          exact bA.perm [] rfl <| wX9_step_285 S hr hlk hP416 g28 (hσ2 10 32) hσ2 h
    · replace h := h.2.2.2.2.2.2.2.2.1 c5
      refine br_tblI S 291 7 hx1 c5 (by decide) rfl dX9_step_100 (by decide) ?_
      refine br_aload_n S 0 dX9_step_291 rfl rfl ?_
      refine br_dup S dX9_step_292 rfl ?_
      refine br_get (f := 32) (N := 37) (C := RX9) (T := TX9) S inT_X9 wd_4_26 (by decide) rfl rfl (by decide) rfl dX9_step_293 ?_
      refine br_iload_n S 2 dX9_step_296 rfl rfl ?_
      refine br_bipush S dX9_step_297 rfl ?_
      refine br_ic_le S 310 hx2 (by decide) dX9_step_299 (by decide) (fun c29 => ?_) (fun c29 => ?_)
      · replace h := h.1 c29
        refine br_iload_n S 2 dX9_step_310 rfl rfl ?_
        exact bA.perm [] rfl <| wX9_step_311 S hr hlk hP416 hx2 (hσ2 10 32) hσ2 h
      · replace h := h.2 c29
        refine br_iload_n S 2 dX9_step_302 rfl rfl ?_
        refine br_sipush S dX9_step_303 rfl ?_
        refine br_isub S dX9_step_306 ?_
        refine br_goto S 311 dX9_step_307 (by decide) ?_
        obtain ⟨g30, h⟩ := h
        exact bA.perm [] rfl <| wX9_step_311 S hr hlk hP416 g30 (hσ2 10 32) hσ2 h
    · replace h := h.2.2.2.2.2.2.2.2.2.1 c5
      refine br_tblI S 317 8 hx1 c5 (by decide) rfl dX9_step_100 (by decide) ?_
      refine br_aload_n S 0 dX9_step_317 rfl rfl ?_
      refine br_get (f := 30) (N := 37) (C := RX9) (T := TX9) S inT_X9 wd_4_24 (by decide) rfl rfl (by decide) rfl dX9_step_318 ?_
      refine br_if_ne S 326 (hσ2 10 30) dX9_step_321 (by decide) (fun c31 => ?_) (fun c31 => ?_)
      · replace h := h.1 c31
        refine br_aload_n S 0 dX9_step_326 rfl rfl ?_
        refine br_dup S dX9_step_327 rfl ?_
        refine br_get (f := 30) (N := 37) (C := RX9) (T := TX9) S inT_X9 wd_4_24 (by decide) rfl rfl (by decide) rfl dX9_step_328 ?_
        refine br_iconst S dX9_step_331 ?_
        refine br_isub S dX9_step_332 ?_
        obtain ⟨g32, h⟩ := h
        obtain ⟨σ33, e34⟩ : ∃ τ, τ = bup σ2 10 30 ((σ2 10 30) - 1) := ⟨_, rfl⟩
        replace h := h σ33 e34
        have hσ33 : bRG σ33 := by rw [e34]; exact bup_rg hσ2 g32
        refine br_put (f := 30) (N := 37) (C := RX9) (T := TX9) S tyX9 tyX9_ok nmX9 inT_X9 wd_4_24 (by decide) rfl (pf_10_30 _ _ _) rfl (by decide) (Nat.le_of_ble_eq_true rfl) rfl rfl rfl rfl dX9_step_333 ?_
        refine bA.to rfl rfl e34.symm ?_
        refine br_aload_n S 0 dX9_step_336 rfl rfl ?_
        refine br_aload_n S 0 dX9_step_337 rfl rfl ?_
        refine br_get (f := 29) (N := 37) (C := RX9) (T := TX9) S inT_X9 wd_4_23 (by decide) rfl rfl (by decide) rfl dX9_step_338 ?_
        refine br_aload_n S 0 dX9_step_341 rfl rfl ?_
        refine br_get (f := 30) (N := 37) (C := RX9) (T := TX9) S inT_X9 wd_4_24 (by decide) rfl rfl (by decide) rfl dX9_step_342 ?_
        obtain ⟨g35, h⟩ := h
        refine br_iald (n := 512) S ⟨by decide, by decide, fun _ => rfl⟩ g35.1 g35.2 dX9_step_345 ?_
        obtain ⟨σ36, e37⟩ : ∃ τ, τ = bup σ33 10 32 (σ33 67 (σ33 10 30)) := ⟨_, rfl⟩
        replace h := h σ36 e37
        have hσ36 : bRG σ36 := by rw [e37]; exact bup_rg hσ33 (hσ33 67 (σ33 10 30))
        refine br_put (f := 32) (N := 37) (C := RX9) (T := TX9) S tyX9 tyX9_ok nmX9 inT_X9 wd_4_26 (by decide) rfl (pf_10_32 _ _ _) rfl (by decide) (Nat.le_of_ble_eq_true rfl) rfl rfl rfl rfl dX9_step_346 ?_
        refine bA.to rfl rfl e37.symm ?_
        refine br_iconst S dX9_step_349 ?_
        exact br_zret S hr hlk (by decide) hσ36 dX9_step_350 h
      · replace h := h.2 c31
        refine br_iconst S dX9_step_324 ?_
        exact br_zret S hr hlk (by decide) hσ2 dX9_step_325 h
    · replace h := h.2.2.2.2.2.2.2.2.2.2.1 c5
      refine br_tblI S 351 9 hx1 c5 (by decide) rfl dX9_step_100 (by decide) ?_
      refine br_aload_n S 0 dX9_step_351 rfl rfl ?_
      refine br_aload_n S 0 dX9_step_352 rfl rfl ?_
      refine br_get (f := 33) (N := 37) (C := RX9) (T := TX9) S inT_X9 wd_4_27 (by decide) rfl rfl (by decide) rfl dX9_step_353 ?_
      refine br_callVv (As := [.int (bI (σ2 10 33))]) (rest := []) S (cwV_X9_push S.2.2.2.2 wd_5_11 ⟨by decide, by decide⟩) (mX9_push l G σ2 (σ2 10 33) (hσ2 10 33) h) (by decide) rfl rfl rfl hσ2 rfl rfl (Nat.le_of_ble_eq_true rfl) ⟨by decide, by decide⟩ dX9_step_356 (fun σ39 hσ39 h => ?_)
      refine br_iconst S dX9_step_359 ?_
      exact br_zret S hr hlk (by decide) hσ39 dX9_step_360 h
    · replace h := h.2.2.2.2.2.2.2.2.2.2.2.1 c5
      refine br_tblI S 361 10 hx1 c5 (by decide) rfl dX9_step_100 (by decide) ?_
      refine br_aload_n S 0 dX9_step_361 rfl rfl ?_
      refine br_iload_n S 2 dX9_step_362 rfl rfl ?_
      obtain ⟨σ40, e41⟩ : ∃ τ, τ = bup σ2 10 33 x2 := ⟨_, rfl⟩
      replace h := h σ40 e41
      have hσ40 : bRG σ40 := by rw [e41]; exact bup_rg hσ2 hx2
      refine br_put (f := 33) (N := 37) (C := RX9) (T := TX9) S tyX9 tyX9_ok nmX9 inT_X9 wd_4_27 (by decide) rfl (pf_10_33 _ _ _) rfl (by decide) (Nat.le_of_ble_eq_true rfl) rfl rfl rfl rfl dX9_step_363 ?_
      refine bA.to rfl rfl e41.symm ?_
      refine br_aload_n S 0 dX9_step_366 rfl rfl ?_
      refine br_get (f := 26) (N := 37) (C := RX9) (T := TX9) S inT_X9 wd_4_20 (by decide) rfl rfl (by decide) rfl dX9_step_367 ?_
      refine br_iconst S dX9_step_370 ?_
      refine br_dup2 S dX9_step_371 rfl rfl ?_
      refine br_iald (n := 10) S ⟨by decide, by decide, fun _ => rfl⟩ (by decide) (by decide) dX9_step_372 ?_
      refine br_iconst S dX9_step_373 ?_
      refine br_iadd S dX9_step_374 ?_
      obtain ⟨g42, h⟩ := h
      obtain ⟨σ43, e44⟩ : ∃ τ, τ = bup σ40 64 4 ((σ40 64 4) + 1) := ⟨_, rfl⟩
      replace h := h σ43 e44
      have hσ43 : bRG σ43 := by rw [e44]; exact bup_rg hσ40 g42
      refine br_iast (n := 10) S ⟨by decide, by decide, fun _ => rfl⟩ (by decide) (by decide) dX9_step_375 ?_
      refine bA.to rfl rfl e44.symm ?_
      refine br_iconst S dX9_step_376 ?_
      exact br_zret S hr hlk (by decide) hσ43 dX9_step_377 h
    · replace h := h.2.2.2.2.2.2.2.2.2.2.2.2 c5
      refine br_tblI S 378 11 hx1 c5 (by decide) rfl dX9_step_100 (by decide) ?_
      refine br_aload_n S 0 dX9_step_378 rfl rfl ?_
      refine br_dup S dX9_step_379 rfl ?_
      refine br_get (f := 30) (N := 37) (C := RX9) (T := TX9) S inT_X9 wd_4_24 (by decide) rfl rfl (by decide) rfl dX9_step_380 ?_
      refine br_iconst S dX9_step_383 ?_
      refine br_isub S dX9_step_384 ?_
      obtain ⟨g45, h⟩ := h
      obtain ⟨σ46, e47⟩ : ∃ τ, τ = bup σ2 10 30 ((σ2 10 30) - 1) := ⟨_, rfl⟩
      replace h := h σ46 e47
      have hσ46 : bRG σ46 := by rw [e47]; exact bup_rg hσ2 g45
      refine br_put (f := 30) (N := 37) (C := RX9) (T := TX9) S tyX9 tyX9_ok nmX9 inT_X9 wd_4_24 (by decide) rfl (pf_10_30 _ _ _) rfl (by decide) (Nat.le_of_ble_eq_true rfl) rfl rfl rfl rfl dX9_step_385 ?_
      refine bA.to rfl rfl e47.symm ?_
      refine br_aload_n S 0 dX9_step_388 rfl rfl ?_
      refine br_aload_n S 0 dX9_step_389 rfl rfl ?_
      refine br_get (f := 29) (N := 37) (C := RX9) (T := TX9) S inT_X9 wd_4_23 (by decide) rfl rfl (by decide) rfl dX9_step_390 ?_
      refine br_aload_n S 0 dX9_step_393 rfl rfl ?_
      refine br_get (f := 30) (N := 37) (C := RX9) (T := TX9) S inT_X9 wd_4_24 (by decide) rfl rfl (by decide) rfl dX9_step_394 ?_
      obtain ⟨g48, h⟩ := h
      refine br_iald (n := 512) S ⟨by decide, by decide, fun _ => rfl⟩ g48.1 g48.2 dX9_step_397 ?_
      obtain ⟨σ49, e50⟩ : ∃ τ, τ = bup σ46 10 33 (σ46 67 (σ46 10 30)) := ⟨_, rfl⟩
      replace h := h σ49 e50
      have hσ49 : bRG σ49 := by rw [e50]; exact bup_rg hσ46 (hσ46 67 (σ46 10 30))
      refine br_put (f := 33) (N := 37) (C := RX9) (T := TX9) S tyX9 tyX9_ok nmX9 inT_X9 wd_4_27 (by decide) rfl (pf_10_33 _ _ _) rfl (by decide) (Nat.le_of_ble_eq_true rfl) rfl rfl rfl rfl dX9_step_398 ?_
      refine bA.to rfl rfl e50.symm ?_
      refine br_aload_n S 0 dX9_step_401 rfl rfl ?_
      refine br_get (f := 26) (N := 37) (C := RX9) (T := TX9) S inT_X9 wd_4_20 (by decide) rfl rfl (by decide) rfl dX9_step_402 ?_
      refine br_iconst S dX9_step_405 ?_
      refine br_dup2 S dX9_step_406 rfl rfl ?_
      refine br_iald (n := 10) S ⟨by decide, by decide, fun _ => rfl⟩ (by decide) (by decide) dX9_step_407 ?_
      refine br_iconst S dX9_step_408 ?_
      refine br_iadd S dX9_step_409 ?_
      obtain ⟨g51, h⟩ := h
      obtain ⟨σ52, e53⟩ : ∃ τ, τ = bup σ49 64 4 ((σ49 64 4) + 1) := ⟨_, rfl⟩
      replace h := h σ52 e53
      have hσ52 : bRG σ52 := by rw [e53]; exact bup_rg hσ49 g51
      refine br_iast (n := 10) S ⟨by decide, by decide, fun _ => rfl⟩ (by decide) (by decide) dX9_step_410 ?_
      refine bA.to rfl rfl e53.symm ?_
      refine br_iconst S dX9_step_411 ?_
      exact br_zret S hr hlk (by decide) hσ52 dX9_step_412 h
def vX9_step_75 (Q : Int → bS → Prop) (P416 : Int → Int → bS → Prop) (x1 : Int) (x2 : Int) (s0 : Int) (σ : bS) : Prop := (vX9_step_95 Q P416 x1 x2 1 s0 σ)
theorem mono_vX9_step_75 {Q Q9 : Int → bS → Prop} {P416 P4169 : Int → Int → bS → Prop} {x1 : Int} {x2 : Int} {s0 : Int} {σ : bS} (hQ : ∀ r σ, Q r σ → Q9 r σ) (hP416 : ∀ x2 x4 σ, P416 x2 x4 σ → P4169 x2 x4 σ) : vX9_step_75 Q P416 x1 x2 s0 σ → vX9_step_75 Q9 P4169 x1 x2 s0 σ := (mono_vX9_step_95 hQ hP416)
theorem wX9_step_75 {p : Program} {l : Launch} {e : Env} {s : State} {m : MethodId} {args : Array Value} {below : List Frame} {meth : Method} {c : Code} {G : bG} {σ0 : bS} {Q : Int → bS → Prop} {P416 : Int → Int → bS → Prop} {x1 : Int} {x2 : Int} {s0 : Int} {σ : bS} (S : CallFix p m c cX9_step 5 s args bT "BankLinkerModel") (hr : meth.sig.returnType = some .boolean) (hlk : meth.locks = false) (hP416 : ∀ (x2 : Int) (x4 : Int) (σ : bS), bR x2 → bR x4 → bRG σ → P416 x2 x4 σ → bA p l e { frames := 1, cells := 0, slots := 0, locals := 22 } s m args below meth c 0 0 (bQi below args s G σ0 Q) G (va_A (bk_w G σ0) s.heap.size) 5 416 [(0, .ref (G.2.2 10)), (2, .int (bI x2)), (4, .int (bI x4))] [] σ) (hx1 : bR x1) (hx2 : bR x2) (hs0 : bR s0) (hσ : bRG σ) (h : vX9_step_75 Q P416 x1 x2 s0 σ) : bA p l e { frames := 1, cells := 0, slots := 0, locals := 22 } s m args below meth c 0 0 (bQi below args s G σ0 Q) G (va_A (bk_w G σ0) s.heap.size) 5 75 [(0, .ref (G.2.2 10)), (1, .int (bI x1)), (2, .int (bI x2))] [.int (bI s0), .ref (G.2.2 10)] σ := by
  unfold vX9_step_75 at h
  refine br_iconst S dX9_step_75 ?_
  refine br_goto S 95 dX9_step_76 (by decide) ?_
  exact wX9_step_95 S hr hlk hP416 hx1 hx2 (by decide) hs0 hσ h
def vX9_step_90 (Q : Int → bS → Prop) (P416 : Int → Int → bS → Prop) (x1 : Int) (x2 : Int) (s0 : Int) (σ : bS) : Prop := (vX9_step_95 Q P416 x1 x2 3 s0 σ)
theorem mono_vX9_step_90 {Q Q9 : Int → bS → Prop} {P416 P4169 : Int → Int → bS → Prop} {x1 : Int} {x2 : Int} {s0 : Int} {σ : bS} (hQ : ∀ r σ, Q r σ → Q9 r σ) (hP416 : ∀ x2 x4 σ, P416 x2 x4 σ → P4169 x2 x4 σ) : vX9_step_90 Q P416 x1 x2 s0 σ → vX9_step_90 Q9 P4169 x1 x2 s0 σ := (mono_vX9_step_95 hQ hP416)
theorem wX9_step_90 {p : Program} {l : Launch} {e : Env} {s : State} {m : MethodId} {args : Array Value} {below : List Frame} {meth : Method} {c : Code} {G : bG} {σ0 : bS} {Q : Int → bS → Prop} {P416 : Int → Int → bS → Prop} {x1 : Int} {x2 : Int} {s0 : Int} {σ : bS} (S : CallFix p m c cX9_step 5 s args bT "BankLinkerModel") (hr : meth.sig.returnType = some .boolean) (hlk : meth.locks = false) (hP416 : ∀ (x2 : Int) (x4 : Int) (σ : bS), bR x2 → bR x4 → bRG σ → P416 x2 x4 σ → bA p l e { frames := 1, cells := 0, slots := 0, locals := 22 } s m args below meth c 0 0 (bQi below args s G σ0 Q) G (va_A (bk_w G σ0) s.heap.size) 5 416 [(0, .ref (G.2.2 10)), (2, .int (bI x2)), (4, .int (bI x4))] [] σ) (hx1 : bR x1) (hx2 : bR x2) (hs0 : bR s0) (hσ : bRG σ) (h : vX9_step_90 Q P416 x1 x2 s0 σ) : bA p l e { frames := 1, cells := 0, slots := 0, locals := 22 } s m args below meth c 0 0 (bQi below args s G σ0 Q) G (va_A (bk_w G σ0) s.heap.size) 5 90 [(0, .ref (G.2.2 10)), (1, .int (bI x1)), (2, .int (bI x2))] [.int (bI s0), .ref (G.2.2 10)] σ := by
  unfold vX9_step_90 at h
  refine br_iconst S dX9_step_90 ?_
  refine br_goto S 95 dX9_step_91 (by decide) ?_
  exact wX9_step_95 S hr hlk hP416 hx1 hx2 (by decide) hs0 hσ h
def vX9_step_46 (Q : Int → bS → Prop) (P416 : Int → Int → bS → Prop) (x1 : Int) (s0 : Int) (σ : bS) : Prop := ((x1 = 2 → (vX9_step_75 Q P416 x1 s0 (σ 10 32) σ)) ∧ (¬ x1 = 2 → ((x1 = 8 → (vX9_step_75 Q P416 x1 s0 (σ 10 32) σ)) ∧ (¬ x1 = 8 → ((x1 = 9 → (vX9_step_75 Q P416 x1 s0 (σ 10 32) σ)) ∧ (¬ x1 = 9 → ((¬ x1 = 11 → ((x1 = 5 → (vX9_step_90 Q P416 x1 s0 (σ 10 32) σ)) ∧ (¬ x1 = 5 → ((¬ x1 = 12 → (vX9_step_95 Q P416 x1 s0 2 (σ 10 32) σ)) ∧ (x1 = 12 → (vX9_step_90 Q P416 x1 s0 (σ 10 32) σ)))))) ∧ (x1 = 11 → (vX9_step_75 Q P416 x1 s0 (σ 10 32) σ)))))))))
theorem mono_vX9_step_46 {Q Q9 : Int → bS → Prop} {P416 P4169 : Int → Int → bS → Prop} {x1 : Int} {s0 : Int} {σ : bS} (hQ : ∀ r σ, Q r σ → Q9 r σ) (hP416 : ∀ x2 x4 σ, P416 x2 x4 σ → P4169 x2 x4 σ) : vX9_step_46 Q P416 x1 s0 σ → vX9_step_46 Q9 P4169 x1 s0 σ := (bm_and (bm_imp (mono_vX9_step_75 hQ hP416)) (bm_imp (bm_and (bm_imp (mono_vX9_step_75 hQ hP416)) (bm_imp (bm_and (bm_imp (mono_vX9_step_75 hQ hP416)) (bm_imp (bm_and (bm_imp (bm_and (bm_imp (mono_vX9_step_90 hQ hP416)) (bm_imp (bm_and (bm_imp (mono_vX9_step_95 hQ hP416)) (bm_imp (mono_vX9_step_90 hQ hP416)))))) (bm_imp (mono_vX9_step_75 hQ hP416)))))))))
theorem wX9_step_46 {p : Program} {l : Launch} {e : Env} {s : State} {m : MethodId} {args : Array Value} {below : List Frame} {meth : Method} {c : Code} {G : bG} {σ0 : bS} {Q : Int → bS → Prop} {P416 : Int → Int → bS → Prop} {x1 : Int} {s0 : Int} {σ : bS} (S : CallFix p m c cX9_step 5 s args bT "BankLinkerModel") (hr : meth.sig.returnType = some .boolean) (hlk : meth.locks = false) (hP416 : ∀ (x2 : Int) (x4 : Int) (σ : bS), bR x2 → bR x4 → bRG σ → P416 x2 x4 σ → bA p l e { frames := 1, cells := 0, slots := 0, locals := 22 } s m args below meth c 0 0 (bQi below args s G σ0 Q) G (va_A (bk_w G σ0) s.heap.size) 5 416 [(0, .ref (G.2.2 10)), (2, .int (bI x2)), (4, .int (bI x4))] [] σ) (hx1 : bR x1) (hs0 : bR s0) (hσ : bRG σ) (h : vX9_step_46 Q P416 x1 s0 σ) : bA p l e { frames := 1, cells := 0, slots := 0, locals := 22 } s m args below meth c 0 0 (bQi below args s G σ0 Q) G (va_A (bk_w G σ0) s.heap.size) 5 46 [(0, .ref (G.2.2 10)), (1, .int (bI x1))] [.int (bI s0)] σ := by
  unfold vX9_step_46 at h
  refine br_istore_n S [(2, .int (bI s0)), (0, .ref (G.2.2 10)), (1, .int (bI x1))] dX9_step_46 rfl (by decide) rfl ?_
  refine br_aload_n S 1 dX9_step_47 rfl rfl ?_
  refine br_dup S dX9_step_48 rfl ?_
  refine br_get (f := 32) (N := 37) (C := RX9) (T := TX9) S inT_X9 wd_4_26 (by decide) rfl rfl (by decide) rfl dX9_step_49 ?_
  refine br_iload_n S 2 dX9_step_52 rfl rfl ?_
  refine br_iconst S dX9_step_53 ?_
  refine br_ic_eq S 75 hx1 (by decide) dX9_step_54 (by decide) (fun c1 => ?_) (fun c1 => ?_)
  · replace h := h.1 c1
    exact bA.perm [1, 2, 0] rfl <| wX9_step_75 S hr hlk hP416 hx1 hs0 (hσ 10 32) hσ h
  · replace h := h.2 c1
    refine br_iload_n S 2 dX9_step_57 rfl rfl ?_
    refine br_bipush S dX9_step_58 rfl ?_
    refine br_ic_eq S 75 hx1 (by decide) dX9_step_60 (by decide) (fun c2 => ?_) (fun c2 => ?_)
    · replace h := h.1 c2
      exact bA.perm [1, 2, 0] rfl <| wX9_step_75 S hr hlk hP416 hx1 hs0 (hσ 10 32) hσ h
    · replace h := h.2 c2
      refine br_iload_n S 2 dX9_step_63 rfl rfl ?_
      refine br_bipush S dX9_step_64 rfl ?_
      refine br_ic_eq S 75 hx1 (by decide) dX9_step_66 (by decide) (fun c3 => ?_) (fun c3 => ?_)
      · replace h := h.1 c3
        exact bA.perm [1, 2, 0] rfl <| wX9_step_75 S hr hlk hP416 hx1 hs0 (hσ 10 32) hσ h
      · replace h := h.2 c3
        refine br_iload_n S 2 dX9_step_69 rfl rfl ?_
        refine br_bipush S dX9_step_70 rfl ?_
        refine br_ic_ne S 79 hx1 (by decide) dX9_step_72 (by decide) (fun c4 => ?_) (fun c4 => ?_)
        · replace h := h.1 c4
          refine br_iload_n S 2 dX9_step_79 rfl rfl ?_
          refine br_iconst S dX9_step_80 ?_
          refine br_ic_eq S 90 hx1 (by decide) dX9_step_81 (by decide) (fun c5 => ?_) (fun c5 => ?_)
          · replace h := h.1 c5
            exact bA.perm [1, 2, 0] rfl <| wX9_step_90 S hr hlk hP416 hx1 hs0 (hσ 10 32) hσ h
          · replace h := h.2 c5
            refine br_iload_n S 2 dX9_step_84 rfl rfl ?_
            refine br_bipush S dX9_step_85 rfl ?_
            refine br_ic_ne S 94 hx1 (by decide) dX9_step_87 (by decide) (fun c6 => ?_) (fun c6 => ?_)
            · replace h := h.1 c6
              refine br_iconst S dX9_step_94 ?_
              exact bA.perm [1, 2, 0] rfl <| wX9_step_95 S hr hlk hP416 hx1 hs0 (by decide) (hσ 10 32) hσ h
            · replace h := h.2 c6
              exact bA.perm [1, 2, 0] rfl <| wX9_step_90 S hr hlk hP416 hx1 hs0 (hσ 10 32) hσ h
        · replace h := h.2 c4
          exact bA.perm [1, 2, 0] rfl <| wX9_step_75 S hr hlk hP416 hx1 hs0 (hσ 10 32) hσ h
def vX9_step_32 (Q : Int → bS → Prop) (P416 : Int → Int → bS → Prop) (x1 : Int) (σ : bS) : Prop := (vX9_step_46 Q P416 x1 0 σ)
theorem mono_vX9_step_32 {Q Q9 : Int → bS → Prop} {P416 P4169 : Int → Int → bS → Prop} {x1 : Int} {σ : bS} (hQ : ∀ r σ, Q r σ → Q9 r σ) (hP416 : ∀ x2 x4 σ, P416 x2 x4 σ → P4169 x2 x4 σ) : vX9_step_32 Q P416 x1 σ → vX9_step_32 Q9 P4169 x1 σ := (mono_vX9_step_46 hQ hP416)
theorem wX9_step_32 {p : Program} {l : Launch} {e : Env} {s : State} {m : MethodId} {args : Array Value} {below : List Frame} {meth : Method} {c : Code} {G : bG} {σ0 : bS} {Q : Int → bS → Prop} {P416 : Int → Int → bS → Prop} {x1 : Int} {σ : bS} (S : CallFix p m c cX9_step 5 s args bT "BankLinkerModel") (hr : meth.sig.returnType = some .boolean) (hlk : meth.locks = false) (hP416 : ∀ (x2 : Int) (x4 : Int) (σ : bS), bR x2 → bR x4 → bRG σ → P416 x2 x4 σ → bA p l e { frames := 1, cells := 0, slots := 0, locals := 22 } s m args below meth c 0 0 (bQi below args s G σ0 Q) G (va_A (bk_w G σ0) s.heap.size) 5 416 [(0, .ref (G.2.2 10)), (2, .int (bI x2)), (4, .int (bI x4))] [] σ) (hx1 : bR x1) (hσ : bRG σ) (h : vX9_step_32 Q P416 x1 σ) : bA p l e { frames := 1, cells := 0, slots := 0, locals := 22 } s m args below meth c 0 0 (bQi below args s G σ0 Q) G (va_A (bk_w G σ0) s.heap.size) 5 32 [(0, .ref (G.2.2 10)), (1, .int (bI x1))] [] σ := by
  unfold vX9_step_32 at h
  refine br_iconst S dX9_step_32 ?_
  refine br_goto S 46 dX9_step_33 (by decide) ?_
  exact wX9_step_46 S hr hlk hP416 hx1 (by decide) hσ h
def bX9_step_416 (Q : Int → bS → Prop) (P416 : Int → Int → bS → Prop) (x2 : Int) (x4 : Int) (σ : bS) : Prop := (bR ((σ 10 32) - 1) ∧ (vX9_codeAt (fun z2 σ3 => ((z2 ≤ x4 → (Q 0 σ3)) ∧ (¬ z2 ≤ x4 → ((0 ≤ (x2 + x4) ∧ (x2 + x4) < 256) ∧ (∀ σ6 : bS, σ6 = bup σ3 66 (x2 + x4) 0 → (bR (x4 + 1) ∧ (P416 x2 (x4 + 1) σ6))))))) ((σ 10 32) - 1) σ))
theorem mono_bX9_step_416 {Q Q9 : Int → bS → Prop} {P416 P4169 : Int → Int → bS → Prop} {x2 : Int} {x4 : Int} {σ : bS} (hQ : ∀ r σ, Q r σ → Q9 r σ) (hP416 : ∀ x2 x4 σ, P416 x2 x4 σ → P4169 x2 x4 σ) : bX9_step_416 Q P416 x2 x4 σ → bX9_step_416 Q9 P4169 x2 x4 σ := (bm_r (mono_X9_codeAt (fun _ _ => (bm_and (bm_imp (hQ _ _)) (bm_imp (bm_r (bm_all fun _ => bm_imp (bm_r (hP416 _ _ _)))))))))
theorem wX9_step_416 {p : Program} {l : Launch} {e : Env} {s : State} {m : MethodId} {args : Array Value} {below : List Frame} {meth : Method} {c : Code} {G : bG} {σ0 : bS} {Q : Int → bS → Prop} {P416 : Int → Int → bS → Prop} {x2 : Int} {x4 : Int} {σ : bS} (S : CallFix p m c cX9_step 5 s args bT "BankLinkerModel") (hr : meth.sig.returnType = some .boolean) (hlk : meth.locks = false) (hP416 : ∀ (x2 : Int) (x4 : Int) (σ : bS), bR x2 → bR x4 → bRG σ → P416 x2 x4 σ → bA p l e { frames := 1, cells := 0, slots := 0, locals := 22 } s m args below meth c 0 0 (bQi below args s G σ0 Q) G (va_A (bk_w G σ0) s.heap.size) 5 416 [(0, .ref (G.2.2 10)), (2, .int (bI x2)), (4, .int (bI x4))] [] σ) (hx2 : bR x2) (hx4 : bR x4) (hσ : bRG σ) (h : bX9_step_416 Q P416 x2 x4 σ) : bA p l e { frames := 1, cells := 0, slots := 0, locals := 22 } s m args below meth c 0 0 (bQi below args s G σ0 Q) G (va_A (bk_w G σ0) s.heap.size) 5 416 [(0, .ref (G.2.2 10)), (2, .int (bI x2)), (4, .int (bI x4))] [] σ := by
  unfold bX9_step_416 at h
  refine br_iload S 2 dX9_step_416 rfl ?_
  refine br_aload_n S 0 dX9_step_418 rfl rfl ?_
  refine br_aload_n S 0 dX9_step_419 rfl rfl ?_
  refine br_get (f := 32) (N := 37) (C := RX9) (T := TX9) S inT_X9 wd_4_26 (by decide) rfl rfl (by decide) rfl dX9_step_420 ?_
  refine br_iconst S dX9_step_423 ?_
  refine br_isub S dX9_step_424 ?_
  obtain ⟨g1, h⟩ := h
  refine br_callV (As := [.int (bI ((σ 10 32) - 1))]) (rest := [.int (bI x4)]) S (cwV_X9_codeAt S.2.2.2.2 wd_5_3 ⟨by decide, by decide⟩) (mX9_codeAt l G σ ((σ 10 32) - 1) g1 h) (by decide) rfl rfl rfl hσ rfl rfl (Nat.le_of_ble_eq_true rfl) ⟨by decide, by decide⟩ dX9_step_425 (fun z2 σ3 hz2 hσ3 h => ?_)
  refine br_ic_ge S 447 hx4 hz2 dX9_step_428 (by decide) (fun c4 => ?_) (fun c4 => ?_)
  · replace h := h.1 c4
    refine br_iconst S dX9_step_447 ?_
    exact br_zret S hr hlk (by decide) hσ3 dX9_step_448 h
  · replace h := h.2 c4
    refine br_aload_n S 0 dX9_step_431 rfl rfl ?_
    refine br_get (f := 28) (N := 37) (C := RX9) (T := TX9) S inT_X9 wd_4_22 (by decide) rfl rfl (by decide) rfl dX9_step_432 ?_
    refine br_iload_n S 1 dX9_step_435 rfl rfl ?_
    refine br_iload S 2 dX9_step_436 rfl ?_
    refine br_iadd S dX9_step_438 ?_
    refine br_iconst S dX9_step_439 ?_
    obtain ⟨g5, h⟩ := h
    obtain ⟨σ6, e7⟩ : ∃ τ, τ = bup σ3 66 (x2 + x4) 0 := ⟨_, rfl⟩
    replace h := h σ6 e7
    have hσ6 : bRG σ6 := by rw [e7]; exact bup_rg hσ3 (by decide)
    refine br_iast (n := 256) S ⟨by decide, by decide, fun _ => rfl⟩ g5.1 g5.2 dX9_step_440 ?_
    refine bA.to rfl rfl e7.symm ?_
    refine br_iinc S 2 [(4, .int (bI (x4 + 1))), (0, .ref (G.2.2 10)), (2, .int (bI x2))] dX9_step_441 rfl (by decide) rfl ?_
    refine br_goto S 416 dX9_step_444 (by decide) ?_
    obtain ⟨g8, h⟩ := h
    exact bA.perm [1, 2, 0] rfl <| hP416 x2 (x4 + 1) σ6 hx2 g8 hσ6 h
def eX9_step (Q : Int → bS → Prop) (P416 : Int → Int → bS → Prop) (σ : bS) : Prop := (vX9_codeAt (fun z1 σ2 => ((z1 = 2 → (vX9_step_32 Q P416 z1 σ2)) ∧ (¬ z1 = 2 → ((z1 = 8 → (vX9_step_32 Q P416 z1 σ2)) ∧ (¬ z1 = 8 → ((z1 = 9 → (vX9_step_32 Q P416 z1 σ2)) ∧ (¬ z1 = 9 → ((¬ z1 = 11 → (bR ((σ2 10 32) + 1) ∧ (vX9_codeAt (fun z8 σ9 => (vX9_step_46 Q P416 z1 z8 σ9)) ((σ2 10 32) + 1) σ2))) ∧ (z1 = 11 → (vX9_step_32 Q P416 z1 σ2)))))))))) (σ 10 32) σ)
theorem mono_eX9_step {Q Q9 : Int → bS → Prop} {P416 P4169 : Int → Int → bS → Prop} {σ : bS} (hQ : ∀ r σ, Q r σ → Q9 r σ) (hP416 : ∀ x2 x4 σ, P416 x2 x4 σ → P4169 x2 x4 σ) : eX9_step Q P416 σ → eX9_step Q9 P4169 σ := (mono_X9_codeAt (fun _ _ => (bm_and (bm_imp (mono_vX9_step_32 hQ hP416)) (bm_imp (bm_and (bm_imp (mono_vX9_step_32 hQ hP416)) (bm_imp (bm_and (bm_imp (mono_vX9_step_32 hQ hP416)) (bm_imp (bm_and (bm_imp (bm_r (mono_X9_codeAt (fun _ _ => (mono_vX9_step_46 hQ hP416))))) (bm_imp (mono_vX9_step_32 hQ hP416)))))))))))
theorem wX9_step_e {p : Program} {l : Launch} {e : Env} {s : State} {m : MethodId} {args : Array Value} {below : List Frame} {meth : Method} {c : Code} {G : bG} {σ0 : bS} {Q : Int → bS → Prop} {P416 : Int → Int → bS → Prop} {σ : bS} (S : CallFix p m c cX9_step 5 s args bT "BankLinkerModel") (hr : meth.sig.returnType = some .boolean) (hlk : meth.locks = false) (hP416 : ∀ (x2 : Int) (x4 : Int) (σ : bS), bR x2 → bR x4 → bRG σ → P416 x2 x4 σ → bA p l e { frames := 1, cells := 0, slots := 0, locals := 22 } s m args below meth c 0 0 (bQi below args s G σ0 Q) G (va_A (bk_w G σ0) s.heap.size) 5 416 [(0, .ref (G.2.2 10)), (2, .int (bI x2)), (4, .int (bI x4))] [] σ) (hσ : bRG σ) (h : eX9_step Q P416 σ) : bA p l e { frames := 1, cells := 0, slots := 0, locals := 22 } s m args below meth c 0 0 (bQi below args s G σ0 Q) G (va_A (bk_w G σ0) s.heap.size) 5 0 [(0, .ref (G.2.2 10))] [] σ := by
  unfold eX9_step at h
  refine br_aload_n S 0 dX9_step_0 rfl rfl ?_
  refine br_aload_n S 0 dX9_step_1 rfl rfl ?_
  refine br_get (f := 32) (N := 37) (C := RX9) (T := TX9) S inT_X9 wd_4_26 (by decide) rfl rfl (by decide) rfl dX9_step_2 ?_
  refine br_callV (As := [.int (bI (σ 10 32))]) (rest := []) S (cwV_X9_codeAt S.2.2.2.2 wd_5_3 ⟨by decide, by decide⟩) (mX9_codeAt l G σ (σ 10 32) (hσ 10 32) h) (by decide) rfl rfl rfl hσ rfl rfl (Nat.le_of_ble_eq_true rfl) ⟨by decide, by decide⟩ dX9_step_5 (fun z1 σ2 hz1 hσ2 h => ?_)
  refine br_istore_n S [(1, .int (bI z1)), (0, .ref (G.2.2 10))] dX9_step_8 rfl (by decide) rfl ?_
  refine br_iload_n S 0 dX9_step_9 rfl rfl ?_
  refine br_iconst S dX9_step_10 ?_
  refine br_ic_eq S 32 hz1 (by decide) dX9_step_11 (by decide) (fun c3 => ?_) (fun c3 => ?_)
  · replace h := h.1 c3
    exact bA.perm [1, 0] rfl <| wX9_step_32 S hr hlk hP416 hz1 hσ2 h
  · replace h := h.2 c3
    refine br_iload_n S 0 dX9_step_14 rfl rfl ?_
    refine br_bipush S dX9_step_15 rfl ?_
    refine br_ic_eq S 32 hz1 (by decide) dX9_step_17 (by decide) (fun c4 => ?_) (fun c4 => ?_)
    · replace h := h.1 c4
      exact bA.perm [1, 0] rfl <| wX9_step_32 S hr hlk hP416 hz1 hσ2 h
    · replace h := h.2 c4
      refine br_iload_n S 0 dX9_step_20 rfl rfl ?_
      refine br_bipush S dX9_step_21 rfl ?_
      refine br_ic_eq S 32 hz1 (by decide) dX9_step_23 (by decide) (fun c5 => ?_) (fun c5 => ?_)
      · replace h := h.1 c5
        exact bA.perm [1, 0] rfl <| wX9_step_32 S hr hlk hP416 hz1 hσ2 h
      · replace h := h.2 c5
        refine br_iload_n S 0 dX9_step_26 rfl rfl ?_
        refine br_bipush S dX9_step_27 rfl ?_
        refine br_ic_ne S 36 hz1 (by decide) dX9_step_29 (by decide) (fun c6 => ?_) (fun c6 => ?_)
        · replace h := h.1 c6
          refine br_aload_n S 1 dX9_step_36 rfl rfl ?_
          refine br_aload_n S 1 dX9_step_37 rfl rfl ?_
          refine br_get (f := 32) (N := 37) (C := RX9) (T := TX9) S inT_X9 wd_4_26 (by decide) rfl rfl (by decide) rfl dX9_step_38 ?_
          refine br_iconst S dX9_step_41 ?_
          refine br_iadd S dX9_step_42 ?_
          obtain ⟨g7, h⟩ := h
          refine br_callV (As := [.int (bI ((σ2 10 32) + 1))]) (rest := []) S (cwV_X9_codeAt S.2.2.2.2 wd_5_3 ⟨by decide, by decide⟩) (mX9_codeAt l G σ2 ((σ2 10 32) + 1) g7 h) (by decide) rfl rfl rfl hσ2 rfl rfl (Nat.le_of_ble_eq_true rfl) ⟨by decide, by decide⟩ dX9_step_43 (fun z8 σ9 hz8 hσ9 h => ?_)
          exact bA.perm [1, 0] rfl <| wX9_step_46 S hr hlk hP416 hz1 hz8 hσ9 h
        · replace h := h.2 c6
          exact bA.perm [1, 0] rfl <| wX9_step_32 S hr hlk hP416 hz1 hσ2 h
def LX9_step_416 (Q : Int → bS → Prop) (x2 : Int) (x4 : Int) (σ : bS) : Prop := ∀ (P416 : Int → Int → bS → Prop), (∀ x2 x4 σ, bX9_step_416 Q P416 x2 x4 σ → P416 x2 x4 σ) → P416 x2 x4 σ
theorem LX9_step_416_in {Q : Int → bS → Prop} {x2 : Int} {x4 : Int} {σ : bS} (h : bX9_step_416 Q (LX9_step_416 Q) x2 x4 σ) : LX9_step_416 Q x2 x4 σ := fun P416 H416 => H416 _ _ _ (mono_bX9_step_416 (fun _ _ h => h) (fun _ _ _ h => h P416 H416) h)
theorem mono_LX9_step_416 {Q Q9 : Int → bS → Prop} {x2 : Int} {x4 : Int} {σ : bS} (hQ : ∀ r σ, Q r σ → Q9 r σ) (h : LX9_step_416 Q x2 x4 σ) : LX9_step_416 Q9 x2 x4 σ := fun P416 H416 => h P416 (fun _ _ _ hb => H416 _ _ _ (mono_bX9_step_416 hQ (fun _ _ _ h => h) hb))
def vX9_step (Q : Int → bS → Prop) (σ : bS) : Prop := eX9_step Q (LX9_step_416 Q) σ
theorem mono_vX9_step {Q Q9 : Int → bS → Prop} {σ : bS} (hQ : ∀ r σ, Q r σ → Q9 r σ) : vX9_step Q σ → vX9_step Q9 σ := mono_eX9_step hQ (fun _ _ _ h => mono_LX9_step_416 hQ h)
theorem mono_X9_step {Q Q9 : Int → bS → Prop} {σ : bS} (hQ : ∀ r σ, Q r σ → Q9 r σ) : vX9_step Q σ → vX9_step Q9 σ := mono_vX9_step hQ
theorem mX9_step (l : Launch) (G : bG) (σ : bS) {Q : Int → bS → Prop} (h : vX9_step Q σ) : bk_Mi l yX9_step (Cond.code yX9_step cX9_step 5 (some .boolean) :: bT) { frames := 1, cells := 0, slots := 0, locals := 22 } G σ [.ref (G.2.2 10)] Q := by
  refine bk_Mi.of (cc := cX9_step) (maxL := 5) (ret := some .boolean) (by decide) rfl (Nat.le_of_ble_eq_true rfl) ?_
  intro p e s m args below meth c S hr hlk hσ
  let K416 : Int → Int → bS → Prop := fun x2 x4 τ => bR x2 → bR x4 → bRG τ → bA p l e { frames := 1, cells := 0, slots := 0, locals := 22 } s m args below meth c 0 0 (bQi below args s G σ Q) G (va_A (bk_w G σ) s.heap.size) 5 416 [(0, .ref (G.2.2 10)), (2, .int (bI x2)), (4, .int (bI x4))] [] τ
  have C416 : ∀ x2 x4 τ, bX9_step_416 Q K416 x2 x4 τ → K416 x2 x4 τ := fun x2 x4 τ hb hx2 hx4 hτ => wX9_step_416 S hr hlk (fun x2 x4 σ hx2 hx4 hσ h => h hx2 hx4 hσ) hx2 hx4 hτ hb
  exact wX9_step_e S hr hlk (fun x2 x4 σ hx2 hx4 hσ h => h K416 C416 hx2 hx4 hσ) hσ h
def vX9_run_109 (Q : Int → bS → Prop) (P58 : Int → Int → Int → Int → bS → Prop) (P125 : Int → Int → bS → Prop) (x1 : Int) (x3 : Int) (s0 : Int) (σ : bS) : Prop := (∀ σ1 : bS, σ1 = bup σ 10 33 s0 → ((0 ≤ x1 ∧ x1 < 30) ∧ (∀ σ4 : bS, σ4 = bup σ1 10 32 (σ1 58 x1) → (P125 x3 0 σ4))))
theorem mono_vX9_run_109 {Q Q9 : Int → bS → Prop} {P58 P589 : Int → Int → Int → Int → bS → Prop} {P125 P1259 : Int → Int → bS → Prop} {x1 : Int} {x3 : Int} {s0 : Int} {σ : bS} (hQ : ∀ r σ, Q r σ → Q9 r σ) (hP58 : ∀ x1 x2 x3 x4 σ, P58 x1 x2 x3 x4 σ → P589 x1 x2 x3 x4 σ) (hP125 : ∀ x3 x4 σ, P125 x3 x4 σ → P1259 x3 x4 σ) : vX9_run_109 Q P58 P125 x1 x3 s0 σ → vX9_run_109 Q9 P589 P1259 x1 x3 s0 σ := (bm_all fun _ => bm_imp (bm_r (bm_all fun _ => bm_imp (hP125 _ _ _))))
theorem wX9_run_109 {p : Program} {l : Launch} {e : Env} {s : State} {m : MethodId} {args : Array Value} {below : List Frame} {meth : Method} {c : Code} {G : bG} {σ0 : bS} {Q : Int → bS → Prop} {P58 : Int → Int → Int → Int → bS → Prop} {P125 : Int → Int → bS → Prop} {x1 : Int} {x3 : Int} {s0 : Int} {σ : bS} (S : CallFix p m c cX9_run 5 s args bT "BankLinkerModel") (hr : meth.sig.returnType = some .int) (hlk : meth.locks = false) (hP58 : ∀ (x1 : Int) (x2 : Int) (x3 : Int) (x4 : Int) (σ : bS), bR x1 → bR x2 → bR x3 → bR x4 → bRG σ → P58 x1 x2 x3 x4 σ → bA p l e { frames := 2, cells := 0, slots := 0, locals := 46 } s m args below meth c 0 0 (bQi below args s G σ0 Q) G (va_A (bk_w G σ0) s.heap.size) 5 58 [(0, .ref (G.2.2 10)), (1, .int (bI x1)), (2, .int (bI x2)), (3, .int (bI x3)), (4, .int (bI x4))] [] σ) (hP125 : ∀ (x3 : Int) (x4 : Int) (σ : bS), bR x3 → bR x4 → bRG σ → P125 x3 x4 σ → bA p l e { frames := 2, cells := 0, slots := 0, locals := 46 } s m args below meth c 0 0 (bQi below args s G σ0 Q) G (va_A (bk_w G σ0) s.heap.size) 5 125 [(0, .ref (G.2.2 10)), (3, .int (bI x3)), (4, .int (bI x4))] [] σ) (hx1 : bR x1) (hx3 : bR x3) (hs0 : bR s0) (hσ : bRG σ) (h : vX9_run_109 Q P58 P125 x1 x3 s0 σ) : bA p l e { frames := 2, cells := 0, slots := 0, locals := 46 } s m args below meth c 0 0 (bQi below args s G σ0 Q) G (va_A (bk_w G σ0) s.heap.size) 5 109 [(0, .ref (G.2.2 10)), (1, .int (bI x1)), (3, .int (bI x3))] [.int (bI s0), .ref (G.2.2 10)] σ := by
  unfold vX9_run_109 at h
  obtain ⟨σ1, e2⟩ : ∃ τ, τ = bup σ 10 33 s0 := ⟨_, rfl⟩
  replace h := h σ1 e2
  have hσ1 : bRG σ1 := by rw [e2]; exact bup_rg hσ hs0
  refine br_put (f := 33) (N := 37) (C := RX9) (T := TX9) S tyX9 tyX9_ok nmX9 inT_X9 wd_4_27 (by decide) rfl (pf_10_33 _ _ _) rfl (by decide) (Nat.le_of_ble_eq_true rfl) rfl rfl rfl rfl dX9_run_109 ?_
  refine bA.to rfl rfl e2.symm ?_
  refine br_aload_n S 0 dX9_run_112 rfl rfl ?_
  refine br_aload_n S 0 dX9_run_113 rfl rfl ?_
  refine br_get (f := 13) (N := 37) (C := RX9) (T := TX9) S inT_X9 wd_4_7 (by decide) rfl rfl (by decide) rfl dX9_run_114 ?_
  refine br_iload_n S 1 dX9_run_117 rfl rfl ?_
  obtain ⟨g3, h⟩ := h
  refine br_iald (n := 30) S ⟨by decide, by decide, fun _ => rfl⟩ g3.1 g3.2 dX9_run_118 ?_
  obtain ⟨σ4, e5⟩ : ∃ τ, τ = bup σ1 10 32 (σ1 58 x1) := ⟨_, rfl⟩
  replace h := h σ4 e5
  have hσ4 : bRG σ4 := by rw [e5]; exact bup_rg hσ1 (hσ1 58 x1)
  refine br_put (f := 32) (N := 37) (C := RX9) (T := TX9) S tyX9 tyX9_ok nmX9 inT_X9 wd_4_26 (by decide) rfl (pf_10_32 _ _ _) rfl (by decide) (Nat.le_of_ble_eq_true rfl) rfl rfl rfl rfl dX9_run_119 ?_
  refine bA.to rfl rfl e5.symm ?_
  refine br_iconst S dX9_run_122 ?_
  refine br_istore S [(4, .int (bI 0)), (0, .ref (G.2.2 10)), (1, .int (bI x1)), (3, .int (bI x3))] dX9_run_123 (by decide) rfl ?_
  exact bA.perm [1, 3, 0] rfl <| hP125 x3 0 σ4 hx3 (by decide) hσ4 h
def bX9_run_58 (Q : Int → bS → Prop) (P58 : Int → Int → Int → Int → bS → Prop) (P125 : Int → Int → bS → Prop) (x1 : Int) (x2 : Int) (x3 : Int) (x4 : Int) (σ : bS) : Prop := ((256 ≤ x4 → (∀ σ2 : bS, σ2 = bup σ 10 31 x2 → (vX9_isCommon (fun z4 σ5 => ((z4 = 0 → ((0 ≤ x1 ∧ x1 < 30) ∧ ((0 ≤ (σ5 50 x1) ∧ (σ5 50 x1) < 12) ∧ (vX9_run_109 Q P58 P125 x1 x3 (σ5 56 (σ5 50 x1)) σ5)))) ∧ (¬ z4 = 0 → (vX9_run_109 Q P58 P125 x1 x3 0 σ5)))) x1 σ2))) ∧ (¬ 256 ≤ x4 → ((0 ≤ x4 ∧ x4 < 256) ∧ (∀ σ10 : bS, σ10 = bup σ 66 x4 0 → (bR (x4 + 1) ∧ (P58 x1 x2 x3 (x4 + 1) σ10))))))
theorem mono_bX9_run_58 {Q Q9 : Int → bS → Prop} {P58 P589 : Int → Int → Int → Int → bS → Prop} {P125 P1259 : Int → Int → bS → Prop} {x1 : Int} {x2 : Int} {x3 : Int} {x4 : Int} {σ : bS} (hQ : ∀ r σ, Q r σ → Q9 r σ) (hP58 : ∀ x1 x2 x3 x4 σ, P58 x1 x2 x3 x4 σ → P589 x1 x2 x3 x4 σ) (hP125 : ∀ x3 x4 σ, P125 x3 x4 σ → P1259 x3 x4 σ) : bX9_run_58 Q P58 P125 x1 x2 x3 x4 σ → bX9_run_58 Q9 P589 P1259 x1 x2 x3 x4 σ := (bm_and (bm_imp (bm_all fun _ => bm_imp (mono_X9_isCommon (fun _ _ => (bm_and (bm_imp (bm_r (bm_r (mono_vX9_run_109 hQ hP58 hP125)))) (bm_imp (mono_vX9_run_109 hQ hP58 hP125))))))) (bm_imp (bm_r (bm_all fun _ => bm_imp (bm_r (hP58 _ _ _ _ _))))))
theorem wX9_run_58 {p : Program} {l : Launch} {e : Env} {s : State} {m : MethodId} {args : Array Value} {below : List Frame} {meth : Method} {c : Code} {G : bG} {σ0 : bS} {Q : Int → bS → Prop} {P58 : Int → Int → Int → Int → bS → Prop} {P125 : Int → Int → bS → Prop} {x1 : Int} {x2 : Int} {x3 : Int} {x4 : Int} {σ : bS} (S : CallFix p m c cX9_run 5 s args bT "BankLinkerModel") (hr : meth.sig.returnType = some .int) (hlk : meth.locks = false) (hP58 : ∀ (x1 : Int) (x2 : Int) (x3 : Int) (x4 : Int) (σ : bS), bR x1 → bR x2 → bR x3 → bR x4 → bRG σ → P58 x1 x2 x3 x4 σ → bA p l e { frames := 2, cells := 0, slots := 0, locals := 46 } s m args below meth c 0 0 (bQi below args s G σ0 Q) G (va_A (bk_w G σ0) s.heap.size) 5 58 [(0, .ref (G.2.2 10)), (1, .int (bI x1)), (2, .int (bI x2)), (3, .int (bI x3)), (4, .int (bI x4))] [] σ) (hP125 : ∀ (x3 : Int) (x4 : Int) (σ : bS), bR x3 → bR x4 → bRG σ → P125 x3 x4 σ → bA p l e { frames := 2, cells := 0, slots := 0, locals := 46 } s m args below meth c 0 0 (bQi below args s G σ0 Q) G (va_A (bk_w G σ0) s.heap.size) 5 125 [(0, .ref (G.2.2 10)), (3, .int (bI x3)), (4, .int (bI x4))] [] σ) (hx1 : bR x1) (hx2 : bR x2) (hx3 : bR x3) (hx4 : bR x4) (hσ : bRG σ) (h : bX9_run_58 Q P58 P125 x1 x2 x3 x4 σ) : bA p l e { frames := 2, cells := 0, slots := 0, locals := 46 } s m args below meth c 0 0 (bQi below args s G σ0 Q) G (va_A (bk_w G σ0) s.heap.size) 5 58 [(0, .ref (G.2.2 10)), (1, .int (bI x1)), (2, .int (bI x2)), (3, .int (bI x3)), (4, .int (bI x4))] [] σ := by
  unfold bX9_run_58 at h
  refine br_iload S 4 dX9_run_58 rfl ?_
  refine br_sipush S dX9_run_60 rfl ?_
  refine br_ic_ge S 80 hx4 (by decide) dX9_run_63 (by decide) (fun c1 => ?_) (fun c1 => ?_)
  · replace h := h.1 c1
    refine br_aload_n S 0 dX9_run_80 rfl rfl ?_
    refine br_iload_n S 2 dX9_run_81 rfl rfl ?_
    obtain ⟨σ2, e3⟩ : ∃ τ, τ = bup σ 10 31 x2 := ⟨_, rfl⟩
    replace h := h σ2 e3
    have hσ2 : bRG σ2 := by rw [e3]; exact bup_rg hσ hx2
    refine br_put (f := 31) (N := 37) (C := RX9) (T := TX9) S tyX9 tyX9_ok nmX9 inT_X9 wd_4_25 (by decide) rfl (pf_10_31 _ _ _) rfl (by decide) (Nat.le_of_ble_eq_true rfl) rfl rfl rfl rfl dX9_run_82 ?_
    refine bA.to rfl rfl e3.symm ?_
    refine br_aload_n S 0 dX9_run_85 rfl rfl ?_
    refine br_aload_n S 0 dX9_run_86 rfl rfl ?_
    refine br_iload_n S 1 dX9_run_87 rfl rfl ?_
    refine br_callV (As := [.int (bI x1)]) (rest := [.ref (G.2.2 10)]) S (cwV_X9_isCommon S.2.2.2.2 wd_4_192 ⟨by decide, by decide⟩) (mX9_isCommon l G σ2 x1 hx1 h) (by decide) rfl rfl rfl hσ2 rfl rfl (Nat.le_of_ble_eq_true rfl) ⟨by decide, by decide⟩ dX9_run_88 (fun z4 σ5 hz4 hσ5 h => ?_)
    refine br_if_eq S 98 hz4 dX9_run_91 (by decide) (fun c6 => ?_) (fun c6 => ?_)
    · replace h := h.1 c6
      refine br_aload_n S 0 dX9_run_98 rfl rfl ?_
      refine br_get (f := 11) (N := 37) (C := RX9) (T := TX9) S inT_X9 wd_4_5 (by decide) rfl rfl (by decide) rfl dX9_run_99 ?_
      refine br_aload_n S 0 dX9_run_102 rfl rfl ?_
      refine br_get (f := 4) (N := 37) (C := RX9) (T := TX9) S inT_X9 wd_3_238 (by decide) rfl rfl (by decide) rfl dX9_run_103 ?_
      refine br_iload_n S 1 dX9_run_106 rfl rfl ?_
      obtain ⟨g7, h⟩ := h
      refine br_iald (n := 30) S ⟨by decide, by decide, fun _ => rfl⟩ g7.1 g7.2 dX9_run_107 ?_
      obtain ⟨g8, h⟩ := h
      refine br_iald (n := 12) S ⟨by decide, by decide, fun _ => rfl⟩ g8.1 g8.2 dX9_run_108 ?_
      exact bA.perm [0, 1, 3] rfl <| wX9_run_109 S hr hlk hP58 hP125 hx1 hx3 (hσ5 56 (σ5 50 x1)) hσ5 h
    · replace h := h.2 c6
      refine br_iconst S dX9_run_94 ?_
      refine br_goto S 109 dX9_run_95 (by decide) ?_
      exact bA.perm [0, 1, 3] rfl <| wX9_run_109 S hr hlk hP58 hP125 hx1 hx3 (by decide) hσ5 h
  · replace h := h.2 c1
    refine br_aload_n S 0 dX9_run_66 rfl rfl ?_
    refine br_get (f := 28) (N := 37) (C := RX9) (T := TX9) S inT_X9 wd_4_22 (by decide) rfl rfl (by decide) rfl dX9_run_67 ?_
    refine br_iload S 4 dX9_run_70 rfl ?_
    refine br_iconst S dX9_run_72 ?_
    obtain ⟨g9, h⟩ := h
    obtain ⟨σ10, e11⟩ : ∃ τ, τ = bup σ 66 x4 0 := ⟨_, rfl⟩
    replace h := h σ10 e11
    have hσ10 : bRG σ10 := by rw [e11]; exact bup_rg hσ (by decide)
    refine br_iast (n := 256) S ⟨by decide, by decide, fun _ => rfl⟩ g9.1 g9.2 dX9_run_73 ?_
    refine bA.to rfl rfl e11.symm ?_
    refine br_iinc S 4 [(4, .int (bI (x4 + 1))), (0, .ref (G.2.2 10)), (1, .int (bI x1)), (2, .int (bI x2)), (3, .int (bI x3))] dX9_run_74 rfl (by decide) rfl ?_
    refine br_goto S 58 dX9_run_77 (by decide) ?_
    obtain ⟨g12, h⟩ := h
    exact bA.perm [1, 2, 3, 4, 0] rfl <| hP58 x1 x2 x3 (x4 + 1) σ10 hx1 hx2 hx3 g12 hσ10 h
def vX9_run_159 (Q : Int → bS → Prop) (P58 : Int → Int → Int → Int → bS → Prop) (P125 : Int → Int → bS → Prop) (x4 : Int) (σ : bS) : Prop := (∀ σ1 : bS, σ1 = bup σ 64 1 (σ 10 31) → ((x4 = 0 → (Q (-5) σ1)) ∧ (¬ x4 = 0 → (Q 1 σ1))))
theorem mono_vX9_run_159 {Q Q9 : Int → bS → Prop} {P58 P589 : Int → Int → Int → Int → bS → Prop} {P125 P1259 : Int → Int → bS → Prop} {x4 : Int} {σ : bS} (hQ : ∀ r σ, Q r σ → Q9 r σ) (hP58 : ∀ x1 x2 x3 x4 σ, P58 x1 x2 x3 x4 σ → P589 x1 x2 x3 x4 σ) (hP125 : ∀ x3 x4 σ, P125 x3 x4 σ → P1259 x3 x4 σ) : vX9_run_159 Q P58 P125 x4 σ → vX9_run_159 Q9 P589 P1259 x4 σ := (bm_all fun _ => bm_imp (bm_and (bm_imp (hQ _ _)) (bm_imp (hQ _ _))))
theorem wX9_run_159 {p : Program} {l : Launch} {e : Env} {s : State} {m : MethodId} {args : Array Value} {below : List Frame} {meth : Method} {c : Code} {G : bG} {σ0 : bS} {Q : Int → bS → Prop} {P58 : Int → Int → Int → Int → bS → Prop} {P125 : Int → Int → bS → Prop} {x4 : Int} {σ : bS} (S : CallFix p m c cX9_run 5 s args bT "BankLinkerModel") (hr : meth.sig.returnType = some .int) (hlk : meth.locks = false) (hP58 : ∀ (x1 : Int) (x2 : Int) (x3 : Int) (x4 : Int) (σ : bS), bR x1 → bR x2 → bR x3 → bR x4 → bRG σ → P58 x1 x2 x3 x4 σ → bA p l e { frames := 2, cells := 0, slots := 0, locals := 46 } s m args below meth c 0 0 (bQi below args s G σ0 Q) G (va_A (bk_w G σ0) s.heap.size) 5 58 [(0, .ref (G.2.2 10)), (1, .int (bI x1)), (2, .int (bI x2)), (3, .int (bI x3)), (4, .int (bI x4))] [] σ) (hP125 : ∀ (x3 : Int) (x4 : Int) (σ : bS), bR x3 → bR x4 → bRG σ → P125 x3 x4 σ → bA p l e { frames := 2, cells := 0, slots := 0, locals := 46 } s m args below meth c 0 0 (bQi below args s G σ0 Q) G (va_A (bk_w G σ0) s.heap.size) 5 125 [(0, .ref (G.2.2 10)), (3, .int (bI x3)), (4, .int (bI x4))] [] σ) (hx4 : bR x4) (hσ : bRG σ) (h : vX9_run_159 Q P58 P125 x4 σ) : bA p l e { frames := 2, cells := 0, slots := 0, locals := 46 } s m args below meth c 0 0 (bQi below args s G σ0 Q) G (va_A (bk_w G σ0) s.heap.size) 5 159 [(0, .ref (G.2.2 10)), (4, .int (bI x4))] [] σ := by
  unfold vX9_run_159 at h
  refine br_aload_n S 0 dX9_run_159 rfl rfl ?_
  refine br_get (f := 26) (N := 37) (C := RX9) (T := TX9) S inT_X9 wd_4_20 (by decide) rfl rfl (by decide) rfl dX9_run_160 ?_
  refine br_iconst S dX9_run_163 ?_
  refine br_aload_n S 0 dX9_run_164 rfl rfl ?_
  refine br_get (f := 31) (N := 37) (C := RX9) (T := TX9) S inT_X9 wd_4_25 (by decide) rfl rfl (by decide) rfl dX9_run_165 ?_
  obtain ⟨σ1, e2⟩ : ∃ τ, τ = bup σ 64 1 (σ 10 31) := ⟨_, rfl⟩
  replace h := h σ1 e2
  have hσ1 : bRG σ1 := by rw [e2]; exact bup_rg hσ (hσ 10 31)
  refine br_iast (n := 10) S ⟨by decide, by decide, fun _ => rfl⟩ (by decide) (by decide) dX9_run_168 ?_
  refine bA.to rfl rfl e2.symm ?_
  refine br_iload S 1 dX9_run_169 rfl ?_
  refine br_if_eq S 178 hx4 dX9_run_171 (by decide) (fun c3 => ?_) (fun c3 => ?_)
  · replace h := h.1 c3
    refine br_bipush S dX9_run_178 rfl ?_
    exact br_iret S hr hlk (by decide) hσ1 dX9_run_180 h
  · replace h := h.2 c3
    refine br_iconst S dX9_run_174 ?_
    refine br_goto S 180 dX9_run_175 (by decide) ?_
    exact br_iret S hr hlk (by decide) hσ1 dX9_run_180 h
def bX9_run_125 (Q : Int → bS → Prop) (P58 : Int → Int → Int → Int → bS → Prop) (P125 : Int → Int → bS → Prop) (x3 : Int) (x4 : Int) (σ : bS) : Prop := ((¬ x4 = 0 → (vX9_run_159 Q P58 P125 x4 σ)) ∧ (x4 = 0 → ((x3 ≤ (σ 64 0) → (vX9_run_159 Q P58 P125 x4 σ)) ∧ (¬ x3 ≤ (σ 64 0) → (bR ((σ 64 0) + 1) ∧ (∀ σ4 : bS, σ4 = bup σ 64 0 ((σ 64 0) + 1) → (vX9_step (fun z6 σ7 => (P125 x3 z6 σ7))  σ4)))))))
theorem mono_bX9_run_125 {Q Q9 : Int → bS → Prop} {P58 P589 : Int → Int → Int → Int → bS → Prop} {P125 P1259 : Int → Int → bS → Prop} {x3 : Int} {x4 : Int} {σ : bS} (hQ : ∀ r σ, Q r σ → Q9 r σ) (hP58 : ∀ x1 x2 x3 x4 σ, P58 x1 x2 x3 x4 σ → P589 x1 x2 x3 x4 σ) (hP125 : ∀ x3 x4 σ, P125 x3 x4 σ → P1259 x3 x4 σ) : bX9_run_125 Q P58 P125 x3 x4 σ → bX9_run_125 Q9 P589 P1259 x3 x4 σ := (bm_and (bm_imp (mono_vX9_run_159 hQ hP58 hP125)) (bm_imp (bm_and (bm_imp (mono_vX9_run_159 hQ hP58 hP125)) (bm_imp (bm_r (bm_all fun _ => bm_imp (mono_X9_step (fun _ _ => (hP125 _ _ _)))))))))
theorem wX9_run_125 {p : Program} {l : Launch} {e : Env} {s : State} {m : MethodId} {args : Array Value} {below : List Frame} {meth : Method} {c : Code} {G : bG} {σ0 : bS} {Q : Int → bS → Prop} {P58 : Int → Int → Int → Int → bS → Prop} {P125 : Int → Int → bS → Prop} {x3 : Int} {x4 : Int} {σ : bS} (S : CallFix p m c cX9_run 5 s args bT "BankLinkerModel") (hr : meth.sig.returnType = some .int) (hlk : meth.locks = false) (hP58 : ∀ (x1 : Int) (x2 : Int) (x3 : Int) (x4 : Int) (σ : bS), bR x1 → bR x2 → bR x3 → bR x4 → bRG σ → P58 x1 x2 x3 x4 σ → bA p l e { frames := 2, cells := 0, slots := 0, locals := 46 } s m args below meth c 0 0 (bQi below args s G σ0 Q) G (va_A (bk_w G σ0) s.heap.size) 5 58 [(0, .ref (G.2.2 10)), (1, .int (bI x1)), (2, .int (bI x2)), (3, .int (bI x3)), (4, .int (bI x4))] [] σ) (hP125 : ∀ (x3 : Int) (x4 : Int) (σ : bS), bR x3 → bR x4 → bRG σ → P125 x3 x4 σ → bA p l e { frames := 2, cells := 0, slots := 0, locals := 46 } s m args below meth c 0 0 (bQi below args s G σ0 Q) G (va_A (bk_w G σ0) s.heap.size) 5 125 [(0, .ref (G.2.2 10)), (3, .int (bI x3)), (4, .int (bI x4))] [] σ) (hx3 : bR x3) (hx4 : bR x4) (hσ : bRG σ) (h : bX9_run_125 Q P58 P125 x3 x4 σ) : bA p l e { frames := 2, cells := 0, slots := 0, locals := 46 } s m args below meth c 0 0 (bQi below args s G σ0 Q) G (va_A (bk_w G σ0) s.heap.size) 5 125 [(0, .ref (G.2.2 10)), (3, .int (bI x3)), (4, .int (bI x4))] [] σ := by
  unfold bX9_run_125 at h
  refine br_iload S 2 dX9_run_125 rfl ?_
  refine br_if_ne S 159 hx4 dX9_run_127 (by decide) (fun c1 => ?_) (fun c1 => ?_)
  · replace h := h.1 c1
    exact bA.perm [0, 2] rfl <| wX9_run_159 S hr hlk hP58 hP125 hx4 hσ h
  · replace h := h.2 c1
    refine br_aload_n S 0 dX9_run_130 rfl rfl ?_
    refine br_get (f := 26) (N := 37) (C := RX9) (T := TX9) S inT_X9 wd_4_20 (by decide) rfl rfl (by decide) rfl dX9_run_131 ?_
    refine br_iconst S dX9_run_134 ?_
    refine br_iald (n := 10) S ⟨by decide, by decide, fun _ => rfl⟩ (by decide) (by decide) dX9_run_135 ?_
    refine br_iload_n S 1 dX9_run_136 rfl rfl ?_
    refine br_ic_ge S 159 (hσ 64 0) hx3 dX9_run_137 (by decide) (fun c2 => ?_) (fun c2 => ?_)
    · replace h := h.1 c2
      exact bA.perm [0, 2] rfl <| wX9_run_159 S hr hlk hP58 hP125 hx4 hσ h
    · replace h := h.2 c2
      refine br_aload_n S 0 dX9_run_140 rfl rfl ?_
      refine br_get (f := 26) (N := 37) (C := RX9) (T := TX9) S inT_X9 wd_4_20 (by decide) rfl rfl (by decide) rfl dX9_run_141 ?_
      refine br_iconst S dX9_run_144 ?_
      refine br_dup2 S dX9_run_145 rfl rfl ?_
      refine br_iald (n := 10) S ⟨by decide, by decide, fun _ => rfl⟩ (by decide) (by decide) dX9_run_146 ?_
      refine br_iconst S dX9_run_147 ?_
      refine br_iadd S dX9_run_148 ?_
      obtain ⟨g3, h⟩ := h
      obtain ⟨σ4, e5⟩ : ∃ τ, τ = bup σ 64 0 ((σ 64 0) + 1) := ⟨_, rfl⟩
      replace h := h σ4 e5
      have hσ4 : bRG σ4 := by rw [e5]; exact bup_rg hσ g3
      refine br_iast (n := 10) S ⟨by decide, by decide, fun _ => rfl⟩ (by decide) (by decide) dX9_run_149 ?_
      refine bA.to rfl rfl e5.symm ?_
      refine br_aload_n S 0 dX9_run_150 rfl rfl ?_
      refine br_callV (As := []) (rest := []) S (cwV_X9_step S.2.2.2.2 wd_4_239 ⟨by decide, by decide⟩) (mX9_step l G σ4 h) (by decide) rfl rfl rfl hσ4 rfl rfl (Nat.le_of_ble_eq_true rfl) ⟨by decide, by decide⟩ dX9_run_151 (fun z6 σ7 hz6 hσ7 h => ?_)
      refine br_istore S [(4, .int (bI z6)), (0, .ref (G.2.2 10)), (3, .int (bI x3))] dX9_run_154 (by decide) rfl ?_
      refine br_goto S 125 dX9_run_156 (by decide) ?_
      exact bA.perm [1, 2, 0] rfl <| hP125 x3 z6 σ7 hx3 hz6 hσ7 h
def eX9_run (Q : Int → bS → Prop) (P58 : Int → Int → Int → Int → bS → Prop) (P125 : Int → Int → bS → Prop) (a1 : Int) (a2 : Int) (a3 : Int) (σ : bS) : Prop := (∀ σ1 : bS, σ1 = bup σ 10 0 0 → (vX9_isRoutine (fun z3 σ4 => ((z3 = 0 → (Q (-2) σ4)) ∧ (¬ z3 = 0 → (vX9_in (fun z6 σ7 => ((z6 = 0 → (Q (-2) σ7)) ∧ (¬ z6 = 0 → (vX9_in (fun z9 σ10 => ((¬ z9 = 0 → ((¬ (σ10 10 10) = 0 → (vX9_begin (fun σ14 => (P58 a1 a2 a3 0 σ14)) 0 σ10)) ∧ ((σ10 10 10) = 0 → (Q (-3) σ10)))) ∧ (z9 = 0 → (Q (-2) σ10)))) a3 1 3000 σ7)))) a2 0 255 σ4)))) a1 σ1))
theorem mono_eX9_run {Q Q9 : Int → bS → Prop} {P58 P589 : Int → Int → Int → Int → bS → Prop} {P125 P1259 : Int → Int → bS → Prop} {a1 : Int} {a2 : Int} {a3 : Int} {σ : bS} (hQ : ∀ r σ, Q r σ → Q9 r σ) (hP58 : ∀ x1 x2 x3 x4 σ, P58 x1 x2 x3 x4 σ → P589 x1 x2 x3 x4 σ) (hP125 : ∀ x3 x4 σ, P125 x3 x4 σ → P1259 x3 x4 σ) : eX9_run Q P58 P125 a1 a2 a3 σ → eX9_run Q9 P589 P1259 a1 a2 a3 σ := (bm_all fun _ => bm_imp (mono_X9_isRoutine (fun _ _ => (bm_and (bm_imp (hQ _ _)) (bm_imp (mono_X9_in (fun _ _ => (bm_and (bm_imp (hQ _ _)) (bm_imp (mono_X9_in (fun _ _ => (bm_and (bm_imp (bm_and (bm_imp (mono_X9_begin (fun _ => (hP58 _ _ _ _ _)))) (bm_imp (hQ _ _)))) (bm_imp (hQ _ _))))))))))))))
theorem wX9_run_e {p : Program} {l : Launch} {e : Env} {s : State} {m : MethodId} {args : Array Value} {below : List Frame} {meth : Method} {c : Code} {G : bG} {σ0 : bS} {Q : Int → bS → Prop} {P58 : Int → Int → Int → Int → bS → Prop} {P125 : Int → Int → bS → Prop} {a1 : Int} {a2 : Int} {a3 : Int} {σ : bS} (S : CallFix p m c cX9_run 5 s args bT "BankLinkerModel") (hr : meth.sig.returnType = some .int) (hlk : meth.locks = false) (hP58 : ∀ (x1 : Int) (x2 : Int) (x3 : Int) (x4 : Int) (σ : bS), bR x1 → bR x2 → bR x3 → bR x4 → bRG σ → P58 x1 x2 x3 x4 σ → bA p l e { frames := 2, cells := 0, slots := 0, locals := 46 } s m args below meth c 0 0 (bQi below args s G σ0 Q) G (va_A (bk_w G σ0) s.heap.size) 5 58 [(0, .ref (G.2.2 10)), (1, .int (bI x1)), (2, .int (bI x2)), (3, .int (bI x3)), (4, .int (bI x4))] [] σ) (hP125 : ∀ (x3 : Int) (x4 : Int) (σ : bS), bR x3 → bR x4 → bRG σ → P125 x3 x4 σ → bA p l e { frames := 2, cells := 0, slots := 0, locals := 46 } s m args below meth c 0 0 (bQi below args s G σ0 Q) G (va_A (bk_w G σ0) s.heap.size) 5 125 [(0, .ref (G.2.2 10)), (3, .int (bI x3)), (4, .int (bI x4))] [] σ) (ha1 : bR a1) (ha2 : bR a2) (ha3 : bR a3) (hσ : bRG σ) (h : eX9_run Q P58 P125 a1 a2 a3 σ) : bA p l e { frames := 2, cells := 0, slots := 0, locals := 46 } s m args below meth c 0 0 (bQi below args s G σ0 Q) G (va_A (bk_w G σ0) s.heap.size) 5 0 [(0, .ref (G.2.2 10)), (1, .int (bI a1)), (2, .int (bI a2)), (3, .int (bI a3))] [] σ := by
  unfold eX9_run at h
  refine br_aload_n S 0 dX9_run_0 rfl rfl ?_
  refine br_iconst S dX9_run_1 ?_
  obtain ⟨σ1, e2⟩ : ∃ τ, τ = bup σ 10 0 0 := ⟨_, rfl⟩
  replace h := h σ1 e2
  have hσ1 : bRG σ1 := by rw [e2]; exact bup_rg hσ (by decide)
  refine br_put (f := 0) (N := 37) (C := RX9) (T := TX9) S tyX9 tyX9_ok nmX9 inT_X9 wd_3_234 (by decide) rfl (pf_10_0 _ _ _) rfl (by decide) (Nat.le_of_ble_eq_true rfl) rfl rfl rfl rfl dX9_run_2 ?_
  refine bA.to rfl rfl e2.symm ?_
  refine br_aload_n S 0 dX9_run_5 rfl rfl ?_
  refine br_iload_n S 1 dX9_run_6 rfl rfl ?_
  refine br_callV (As := [.int (bI a1)]) (rest := []) S (cwV_X9_isRoutine S.2.2.2.2 wd_4_123 ⟨by decide, by decide⟩) (mX9_isRoutine l G σ1 a1 ha1 h) (by decide) rfl rfl rfl hσ1 rfl rfl (Nat.le_of_ble_eq_true rfl) ⟨by decide, by decide⟩ dX9_run_7 (fun z3 σ4 hz3 hσ4 h => ?_)
  refine br_if_eq S 37 hz3 dX9_run_10 (by decide) (fun c5 => ?_) (fun c5 => ?_)
  · replace h := h.1 c5
    refine br_bipush S dX9_run_37 rfl ?_
    exact br_iret S hr hlk (by decide) hσ4 dX9_run_39 h
  · replace h := h.2 c5
    refine br_iload_n S 2 dX9_run_13 rfl rfl ?_
    refine br_i2l S ha2 dX9_run_14 ?_
    refine br_lconst (z := 0) S dX9_run_15 rfl ?_
    refine br_ldc2 (z := 255) S wd_4_132 rfl dX9_run_16 ?_
    refine br_callS (As := [.long (bL a2), .long (bL 0), .long (bL 255)]) (rest := []) S (cwS_X9_in S.2.2.2.2 wd_4_111 ⟨by decide, by decide⟩) (mX9_in l G σ4 a2 ha2 0 (by decide) 255 (by decide) h) hσ4 rfl rfl (Nat.le_of_ble_eq_true rfl) ⟨by decide, by decide⟩ dX9_run_19 (fun z6 σ7 hz6 hσ7 h => ?_)
    refine br_if_eq S 37 hz6 dX9_run_22 (by decide) (fun c8 => ?_) (fun c8 => ?_)
    · replace h := h.1 c8
      refine br_bipush S dX9_run_37 rfl ?_
      exact br_iret S hr hlk (by decide) hσ7 dX9_run_39 h
    · replace h := h.2 c8
      refine br_iload_n S 3 dX9_run_25 rfl rfl ?_
      refine br_i2l S ha3 dX9_run_26 ?_
      refine br_lconst (z := 1) S dX9_run_27 rfl ?_
      refine br_ldc2 (z := 3000) S wd_4_234 rfl dX9_run_28 ?_
      refine br_callS (As := [.long (bL a3), .long (bL 1), .long (bL 3000)]) (rest := []) S (cwS_X9_in S.2.2.2.2 wd_4_111 ⟨by decide, by decide⟩) (mX9_in l G σ7 a3 ha3 1 (by decide) 3000 (by decide) h) hσ7 rfl rfl (Nat.le_of_ble_eq_true rfl) ⟨by decide, by decide⟩ dX9_run_31 (fun z9 σ10 hz9 hσ10 h => ?_)
      refine br_if_ne S 40 hz9 dX9_run_34 (by decide) (fun c11 => ?_) (fun c11 => ?_)
      · replace h := h.1 c11
        refine br_aload_n S 0 dX9_run_40 rfl rfl ?_
        refine br_get (f := 10) (N := 37) (C := RX9) (T := TX9) S inT_X9 wd_4_4 (by decide) rfl rfl (by decide) rfl dX9_run_41 ?_
        refine br_if_ne S 50 (hσ10 10 10) dX9_run_44 (by decide) (fun c12 => ?_) (fun c12 => ?_)
        · replace h := h.1 c12
          refine br_aload_n S 0 dX9_run_50 rfl rfl ?_
          refine br_iconst S dX9_run_51 ?_
          refine br_callVv (As := [.int (bI 0)]) (rest := []) S (cwV_X9_begin S.2.2.2.2 wd_4_235 ⟨by decide, by decide⟩) (mX9_begin l G σ10 0 (by decide) h) (by decide) rfl rfl rfl hσ10 rfl rfl (Nat.le_of_ble_eq_true rfl) ⟨by decide, by decide⟩ dX9_run_52 (fun σ14 hσ14 h => ?_)
          refine br_iconst S dX9_run_55 ?_
          refine br_istore S [(4, .int (bI 0)), (0, .ref (G.2.2 10)), (1, .int (bI a1)), (2, .int (bI a2)), (3, .int (bI a3))] dX9_run_56 (by decide) rfl ?_
          exact bA.perm [1, 2, 3, 4, 0] rfl <| hP58 a1 a2 a3 0 σ14 ha1 ha2 ha3 (by decide) hσ14 h
        · replace h := h.2 c12
          refine br_bipush S dX9_run_47 rfl ?_
          exact br_iret S hr hlk (by decide) hσ10 dX9_run_49 h
      · replace h := h.2 c11
        refine br_bipush S dX9_run_37 rfl ?_
        exact br_iret S hr hlk (by decide) hσ10 dX9_run_39 h
def LX9_run_58 (Q : Int → bS → Prop) (x1 : Int) (x2 : Int) (x3 : Int) (x4 : Int) (σ : bS) : Prop := ∀ (P58 : Int → Int → Int → Int → bS → Prop) (P125 : Int → Int → bS → Prop), (∀ x1 x2 x3 x4 σ, bX9_run_58 Q P58 P125 x1 x2 x3 x4 σ → P58 x1 x2 x3 x4 σ) → (∀ x3 x4 σ, bX9_run_125 Q P58 P125 x3 x4 σ → P125 x3 x4 σ) → P58 x1 x2 x3 x4 σ
def LX9_run_125 (Q : Int → bS → Prop) (x3 : Int) (x4 : Int) (σ : bS) : Prop := ∀ (P58 : Int → Int → Int → Int → bS → Prop) (P125 : Int → Int → bS → Prop), (∀ x1 x2 x3 x4 σ, bX9_run_58 Q P58 P125 x1 x2 x3 x4 σ → P58 x1 x2 x3 x4 σ) → (∀ x3 x4 σ, bX9_run_125 Q P58 P125 x3 x4 σ → P125 x3 x4 σ) → P125 x3 x4 σ
theorem LX9_run_58_in {Q : Int → bS → Prop} {x1 : Int} {x2 : Int} {x3 : Int} {x4 : Int} {σ : bS} (h : bX9_run_58 Q (LX9_run_58 Q) (LX9_run_125 Q) x1 x2 x3 x4 σ) : LX9_run_58 Q x1 x2 x3 x4 σ := fun P58 P125 H58 H125 => H58 _ _ _ _ _ (mono_bX9_run_58 (fun _ _ h => h) (fun _ _ _ _ _ h => h P58 P125 H58 H125) (fun _ _ _ h => h P58 P125 H58 H125) h)
theorem mono_LX9_run_58 {Q Q9 : Int → bS → Prop} {x1 : Int} {x2 : Int} {x3 : Int} {x4 : Int} {σ : bS} (hQ : ∀ r σ, Q r σ → Q9 r σ) (h : LX9_run_58 Q x1 x2 x3 x4 σ) : LX9_run_58 Q9 x1 x2 x3 x4 σ := fun P58 P125 H58 H125 => h P58 P125 (fun _ _ _ _ _ hb => H58 _ _ _ _ _ (mono_bX9_run_58 hQ (fun _ _ _ _ _ h => h) (fun _ _ _ h => h) hb)) (fun _ _ _ hb => H125 _ _ _ (mono_bX9_run_125 hQ (fun _ _ _ _ _ h => h) (fun _ _ _ h => h) hb))
theorem LX9_run_125_in {Q : Int → bS → Prop} {x3 : Int} {x4 : Int} {σ : bS} (h : bX9_run_125 Q (LX9_run_58 Q) (LX9_run_125 Q) x3 x4 σ) : LX9_run_125 Q x3 x4 σ := fun P58 P125 H58 H125 => H125 _ _ _ (mono_bX9_run_125 (fun _ _ h => h) (fun _ _ _ _ _ h => h P58 P125 H58 H125) (fun _ _ _ h => h P58 P125 H58 H125) h)
theorem mono_LX9_run_125 {Q Q9 : Int → bS → Prop} {x3 : Int} {x4 : Int} {σ : bS} (hQ : ∀ r σ, Q r σ → Q9 r σ) (h : LX9_run_125 Q x3 x4 σ) : LX9_run_125 Q9 x3 x4 σ := fun P58 P125 H58 H125 => h P58 P125 (fun _ _ _ _ _ hb => H58 _ _ _ _ _ (mono_bX9_run_58 hQ (fun _ _ _ _ _ h => h) (fun _ _ _ h => h) hb)) (fun _ _ _ hb => H125 _ _ _ (mono_bX9_run_125 hQ (fun _ _ _ _ _ h => h) (fun _ _ _ h => h) hb))
def vX9_run (Q : Int → bS → Prop) (a1 : Int) (a2 : Int) (a3 : Int) (σ : bS) : Prop := eX9_run Q (LX9_run_58 Q) (LX9_run_125 Q) a1 a2 a3 σ
theorem mono_vX9_run {Q Q9 : Int → bS → Prop} {a1 : Int} {a2 : Int} {a3 : Int} {σ : bS} (hQ : ∀ r σ, Q r σ → Q9 r σ) : vX9_run Q a1 a2 a3 σ → vX9_run Q9 a1 a2 a3 σ := mono_eX9_run hQ (fun _ _ _ _ _ h => mono_LX9_run_58 hQ h) (fun _ _ _ h => mono_LX9_run_125 hQ h)
theorem mono_X9_run {Q Q9 : Int → bS → Prop} {a1 : Int} {a2 : Int} {a3 : Int} {σ : bS} (hQ : ∀ r σ, Q r σ → Q9 r σ) : vX9_run Q a1 a2 a3 σ → vX9_run Q9 a1 a2 a3 σ := mono_vX9_run hQ
theorem mX9_run (l : Launch) (G : bG) (σ : bS) (a1 : Int) (ha1 : bR a1) (a2 : Int) (ha2 : bR a2) (a3 : Int) (ha3 : bR a3) {Q : Int → bS → Prop} (h : vX9_run Q a1 a2 a3 σ) : bk_Mi l yX9_run (Cond.code yX9_run cX9_run 5 (some .int) :: bT) { frames := 2, cells := 0, slots := 0, locals := 46 } G σ [.ref (G.2.2 10), .int (bI a1), .int (bI a2), .int (bI a3)] Q := by
  refine bk_Mi.of (cc := cX9_run) (maxL := 5) (ret := some .int) (by decide) rfl (Nat.le_of_ble_eq_true rfl) ?_
  intro p e s m args below meth c S hr hlk hσ
  let K58 : Int → Int → Int → Int → bS → Prop := fun x1 x2 x3 x4 τ => bR x1 → bR x2 → bR x3 → bR x4 → bRG τ → bA p l e { frames := 2, cells := 0, slots := 0, locals := 46 } s m args below meth c 0 0 (bQi below args s G σ Q) G (va_A (bk_w G σ) s.heap.size) 5 58 [(0, .ref (G.2.2 10)), (1, .int (bI x1)), (2, .int (bI x2)), (3, .int (bI x3)), (4, .int (bI x4))] [] τ
  let K125 : Int → Int → bS → Prop := fun x3 x4 τ => bR x3 → bR x4 → bRG τ → bA p l e { frames := 2, cells := 0, slots := 0, locals := 46 } s m args below meth c 0 0 (bQi below args s G σ Q) G (va_A (bk_w G σ) s.heap.size) 5 125 [(0, .ref (G.2.2 10)), (3, .int (bI x3)), (4, .int (bI x4))] [] τ
  have C58 : ∀ x1 x2 x3 x4 τ, bX9_run_58 Q K58 K125 x1 x2 x3 x4 τ → K58 x1 x2 x3 x4 τ := fun x1 x2 x3 x4 τ hb hx1 hx2 hx3 hx4 hτ => wX9_run_58 S hr hlk (fun x1 x2 x3 x4 σ hx1 hx2 hx3 hx4 hσ h => h hx1 hx2 hx3 hx4 hσ) (fun x3 x4 σ hx3 hx4 hσ h => h hx3 hx4 hσ) hx1 hx2 hx3 hx4 hτ hb
  have C125 : ∀ x3 x4 τ, bX9_run_125 Q K58 K125 x3 x4 τ → K125 x3 x4 τ := fun x3 x4 τ hb hx3 hx4 hτ => wX9_run_125 S hr hlk (fun x1 x2 x3 x4 σ hx1 hx2 hx3 hx4 hσ h => h hx1 hx2 hx3 hx4 hσ) (fun x3 x4 σ hx3 hx4 hσ h => h hx3 hx4 hσ) hx3 hx4 hτ hb
  exact wX9_run_e S hr hlk (fun x1 x2 x3 x4 σ hx1 hx2 hx3 hx4 hσ h => h K58 K125 C58 C125 hx1 hx2 hx3 hx4 hσ) (fun x3 x4 σ hx3 hx4 hσ h => h K58 K125 C58 C125 hx3 hx4 hσ) ha1 ha2 ha3 hσ h
def vX9_enter_97 (Q : bS → Prop) (P22 : Int → bS → Prop) (s0 : Int) (s1 : Int) (σ : bS) : Prop := ((0 ≤ s1 ∧ s1 < 10) ∧ (∀ σ2 : bS, σ2 = bup σ 64 s1 s0 → (Q σ2)))
theorem mono_vX9_enter_97 {Q Q9 : bS → Prop} {P22 P229 : Int → bS → Prop} {s0 : Int} {s1 : Int} {σ : bS} (hQ : ∀ σ, Q σ → Q9 σ) (hP22 : ∀ x2 σ, P22 x2 σ → P229 x2 σ) : vX9_enter_97 Q P22 s0 s1 σ → vX9_enter_97 Q9 P229 s0 s1 σ := (bm_r (bm_all fun _ => bm_imp (hQ _)))
theorem wX9_enter_97 {p : Program} {l : Launch} {e : Env} {s : State} {m : MethodId} {args : Array Value} {below : List Frame} {meth : Method} {c : Code} {G : bG} {σ0 : bS} {Q : bS → Prop} {P22 : Int → bS → Prop} {s0 : Int} {s1 : Int} {σ : bS} (S : CallFix p m c cX9_enter 3 s args bT "BankLinkerModel") (hr : meth.sig.returnType = none) (hlk : meth.locks = false) (hP22 : ∀ (x2 : Int) (σ : bS), bR x2 → bRG σ → P22 x2 σ → bA p l e { frames := 0, cells := 0, slots := 0, locals := 0 } s m args below meth c 0 0 (bQv below args s G σ0 Q) G (va_A (bk_w G σ0) s.heap.size) 3 22 [(0, .ref (G.2.2 10)), (2, .int (bI x2))] [] σ) (hs0 : bR s0) (hs1 : bR s1) (hσ : bRG σ) (h : vX9_enter_97 Q P22 s0 s1 σ) : bA p l e { frames := 0, cells := 0, slots := 0, locals := 0 } s m args below meth c 0 0 (bQv below args s G σ0 Q) G (va_A (bk_w G σ0) s.heap.size) 3 97 [] [.int (bI s0), .int (bI s1), .ref (G.2.2 64)] σ := by
  unfold vX9_enter_97 at h
  obtain ⟨g1, h⟩ := h
  obtain ⟨σ2, e3⟩ : ∃ τ, τ = bup σ 64 s1 s0 := ⟨_, rfl⟩
  replace h := h σ2 e3
  have hσ2 : bRG σ2 := by rw [e3]; exact bup_rg hσ hs0
  refine br_iast (n := 10) S ⟨by decide, by decide, fun _ => rfl⟩ g1.1 g1.2 dX9_enter_97 ?_
  refine bA.to rfl rfl e3.symm ?_
  exact br_vret S hr hlk hσ2 dX9_enter_98 h
def bX9_enter_22 (Q : bS → Prop) (P22 : Int → bS → Prop) (x2 : Int) (σ : bS) : Prop := ((9 ≤ x2 → (bR ((σ 10 30) + 1) ∧ (∀ σ3 : bS, σ3 = bup σ 10 30 ((σ 10 30) + 1) → (bR ((σ3 10 30) - 1) ∧ ((((σ3 10 30) - 1) ≤ (σ3 64 8) → (vX9_enter_97 Q P22 (σ3 64 8) 8 σ3)) ∧ (¬ ((σ3 10 30) - 1) ≤ (σ3 64 8) → (vX9_enter_97 Q P22 ((σ3 10 30) - 1) 8 σ3))))))) ∧ (¬ 9 ≤ x2 → ((0 ≤ ((9 * (σ 10 30)) + x2) ∧ ((9 * (σ 10 30)) + x2) < 549) ∧ (∀ σ8 : bS, σ8 = bup σ 70 ((9 * (σ 10 30)) + x2) 0 → (bR (x2 + 1) ∧ (P22 (x2 + 1) σ8))))))
theorem mono_bX9_enter_22 {Q Q9 : bS → Prop} {P22 P229 : Int → bS → Prop} {x2 : Int} {σ : bS} (hQ : ∀ σ, Q σ → Q9 σ) (hP22 : ∀ x2 σ, P22 x2 σ → P229 x2 σ) : bX9_enter_22 Q P22 x2 σ → bX9_enter_22 Q9 P229 x2 σ := (bm_and (bm_imp (bm_r (bm_all fun _ => bm_imp (bm_r (bm_and (bm_imp (mono_vX9_enter_97 hQ hP22)) (bm_imp (mono_vX9_enter_97 hQ hP22))))))) (bm_imp (bm_r (bm_all fun _ => bm_imp (bm_r (hP22 _ _))))))
theorem wX9_enter_22 {p : Program} {l : Launch} {e : Env} {s : State} {m : MethodId} {args : Array Value} {below : List Frame} {meth : Method} {c : Code} {G : bG} {σ0 : bS} {Q : bS → Prop} {P22 : Int → bS → Prop} {x2 : Int} {σ : bS} (S : CallFix p m c cX9_enter 3 s args bT "BankLinkerModel") (hr : meth.sig.returnType = none) (hlk : meth.locks = false) (hP22 : ∀ (x2 : Int) (σ : bS), bR x2 → bRG σ → P22 x2 σ → bA p l e { frames := 0, cells := 0, slots := 0, locals := 0 } s m args below meth c 0 0 (bQv below args s G σ0 Q) G (va_A (bk_w G σ0) s.heap.size) 3 22 [(0, .ref (G.2.2 10)), (2, .int (bI x2))] [] σ) (hx2 : bR x2) (hσ : bRG σ) (h : bX9_enter_22 Q P22 x2 σ) : bA p l e { frames := 0, cells := 0, slots := 0, locals := 0 } s m args below meth c 0 0 (bQv below args s G σ0 Q) G (va_A (bk_w G σ0) s.heap.size) 3 22 [(0, .ref (G.2.2 10)), (2, .int (bI x2))] [] σ := by
  unfold bX9_enter_22 at h
  refine br_iload_n S 1 dX9_enter_22 rfl rfl ?_
  refine br_bipush S dX9_enter_23 rfl ?_
  refine br_ic_ge S 49 hx2 (by decide) dX9_enter_25 (by decide) (fun c1 => ?_) (fun c1 => ?_)
  · replace h := h.1 c1
    refine br_aload_n S 0 dX9_enter_49 rfl rfl ?_
    refine br_dup S dX9_enter_50 rfl ?_
    refine br_get (f := 30) (N := 37) (C := RX9) (T := TX9) S inT_X9 wd_4_24 (by decide) rfl rfl (by decide) rfl dX9_enter_51 ?_
    refine br_iconst S dX9_enter_54 ?_
    refine br_iadd S dX9_enter_55 ?_
    obtain ⟨g2, h⟩ := h
    obtain ⟨σ3, e4⟩ : ∃ τ, τ = bup σ 10 30 ((σ 10 30) + 1) := ⟨_, rfl⟩
    replace h := h σ3 e4
    have hσ3 : bRG σ3 := by rw [e4]; exact bup_rg hσ g2
    refine br_put (f := 30) (N := 37) (C := RX9) (T := TX9) S tyX9 tyX9_ok nmX9 inT_X9 wd_4_24 (by decide) rfl (pf_10_30 _ _ _) rfl (by decide) (Nat.le_of_ble_eq_true rfl) rfl rfl rfl rfl dX9_enter_56 ?_
    refine bA.to rfl rfl e4.symm ?_
    refine br_aload_n S 0 dX9_enter_59 rfl rfl ?_
    refine br_get (f := 26) (N := 37) (C := RX9) (T := TX9) S inT_X9 wd_4_20 (by decide) rfl rfl (by decide) rfl dX9_enter_60 ?_
    refine br_bipush S dX9_enter_63 rfl ?_
    refine br_aload_n S 0 dX9_enter_65 rfl rfl ?_
    refine br_get (f := 30) (N := 37) (C := RX9) (T := TX9) S inT_X9 wd_4_24 (by decide) rfl rfl (by decide) rfl dX9_enter_66 ?_
    refine br_iconst S dX9_enter_69 ?_
    refine br_isub S dX9_enter_70 ?_
    refine br_aload_n S 0 dX9_enter_71 rfl rfl ?_
    refine br_get (f := 26) (N := 37) (C := RX9) (T := TX9) S inT_X9 wd_4_20 (by decide) rfl rfl (by decide) rfl dX9_enter_72 ?_
    refine br_bipush S dX9_enter_75 rfl ?_
    refine br_iald (n := 10) S ⟨by decide, by decide, fun _ => rfl⟩ (by decide) (by decide) dX9_enter_77 ?_
    obtain ⟨g5, h⟩ := h
    refine br_ic_le S 90 g5 (hσ3 64 8) dX9_enter_78 (by decide) (fun c6 => ?_) (fun c6 => ?_)
    · replace h := h.1 c6
      refine br_aload_n S 0 dX9_enter_90 rfl rfl ?_
      refine br_get (f := 26) (N := 37) (C := RX9) (T := TX9) S inT_X9 wd_4_20 (by decide) rfl rfl (by decide) rfl dX9_enter_91 ?_
      refine br_bipush S dX9_enter_94 rfl ?_
      refine br_iald (n := 10) S ⟨by decide, by decide, fun _ => rfl⟩ (by decide) (by decide) dX9_enter_96 ?_
      exact bA.perm [] rfl <| wX9_enter_97 S hr hlk hP22 (hσ3 64 8) (by decide) hσ3 h
    · replace h := h.2 c6
      refine br_aload_n S 0 dX9_enter_81 rfl rfl ?_
      refine br_get (f := 30) (N := 37) (C := RX9) (T := TX9) S inT_X9 wd_4_24 (by decide) rfl rfl (by decide) rfl dX9_enter_82 ?_
      refine br_iconst S dX9_enter_85 ?_
      refine br_isub S dX9_enter_86 ?_
      refine br_goto S 97 dX9_enter_87 (by decide) ?_
      exact bA.perm [] rfl <| wX9_enter_97 S hr hlk hP22 g5 (by decide) hσ3 h
  · replace h := h.2 c1
    refine br_aload_n S 0 dX9_enter_28 rfl rfl ?_
    refine br_get (f := 36) (N := 37) (C := RX9) (T := TX9) S inT_X9 wd_4_30 (by decide) rfl rfl (by decide) rfl dX9_enter_29 ?_
    refine br_bipush S dX9_enter_32 rfl ?_
    refine br_aload_n S 0 dX9_enter_34 rfl rfl ?_
    refine br_get (f := 30) (N := 37) (C := RX9) (T := TX9) S inT_X9 wd_4_24 (by decide) rfl rfl (by decide) rfl dX9_enter_35 ?_
    refine br_imul S dX9_enter_38 ?_
    refine br_iload_n S 1 dX9_enter_39 rfl rfl ?_
    refine br_iadd S dX9_enter_40 ?_
    refine br_iconst S dX9_enter_41 ?_
    obtain ⟨g7, h⟩ := h
    obtain ⟨σ8, e9⟩ : ∃ τ, τ = bup σ 70 ((9 * (σ 10 30)) + x2) 0 := ⟨_, rfl⟩
    replace h := h σ8 e9
    have hσ8 : bRG σ8 := by rw [e9]; exact bup_rg hσ (by decide)
    refine br_iast (n := 549) S ⟨by decide, by decide, fun _ => rfl⟩ g7.1 g7.2 dX9_enter_42 ?_
    refine bA.to rfl rfl e9.symm ?_
    refine br_iinc S 1 [(2, .int (bI (x2 + 1))), (0, .ref (G.2.2 10))] dX9_enter_43 rfl (by decide) rfl ?_
    refine br_goto S 22 dX9_enter_46 (by decide) ?_
    obtain ⟨g10, h⟩ := h
    exact bA.perm [1, 0] rfl <| hP22 (x2 + 1) σ8 g10 hσ8 h
def eX9_enter (Q : bS → Prop) (P22 : Int → bS → Prop) (a1 : Int) (σ : bS) : Prop := ((0 ≤ (σ 10 30) ∧ (σ 10 30) < 61) ∧ (∀ σ2 : bS, σ2 = bup σ 68 (σ 10 30) a1 → ((0 ≤ (σ2 10 30) ∧ (σ2 10 30) < 61) ∧ (∀ σ5 : bS, σ5 = bup σ2 69 (σ2 10 30) 0 → (P22 0 σ5)))))
theorem mono_eX9_enter {Q Q9 : bS → Prop} {P22 P229 : Int → bS → Prop} {a1 : Int} {σ : bS} (hQ : ∀ σ, Q σ → Q9 σ) (hP22 : ∀ x2 σ, P22 x2 σ → P229 x2 σ) : eX9_enter Q P22 a1 σ → eX9_enter Q9 P229 a1 σ := (bm_r (bm_all fun _ => bm_imp (bm_r (bm_all fun _ => bm_imp (hP22 _ _)))))
theorem wX9_enter_e {p : Program} {l : Launch} {e : Env} {s : State} {m : MethodId} {args : Array Value} {below : List Frame} {meth : Method} {c : Code} {G : bG} {σ0 : bS} {Q : bS → Prop} {P22 : Int → bS → Prop} {a1 : Int} {σ : bS} (S : CallFix p m c cX9_enter 3 s args bT "BankLinkerModel") (hr : meth.sig.returnType = none) (hlk : meth.locks = false) (hP22 : ∀ (x2 : Int) (σ : bS), bR x2 → bRG σ → P22 x2 σ → bA p l e { frames := 0, cells := 0, slots := 0, locals := 0 } s m args below meth c 0 0 (bQv below args s G σ0 Q) G (va_A (bk_w G σ0) s.heap.size) 3 22 [(0, .ref (G.2.2 10)), (2, .int (bI x2))] [] σ) (ha1 : bR a1) (hσ : bRG σ) (h : eX9_enter Q P22 a1 σ) : bA p l e { frames := 0, cells := 0, slots := 0, locals := 0 } s m args below meth c 0 0 (bQv below args s G σ0 Q) G (va_A (bk_w G σ0) s.heap.size) 3 0 [(0, .ref (G.2.2 10)), (1, .int (bI a1))] [] σ := by
  unfold eX9_enter at h
  refine br_aload_n S 0 dX9_enter_0 rfl rfl ?_
  refine br_get (f := 34) (N := 37) (C := RX9) (T := TX9) S inT_X9 wd_4_28 (by decide) rfl rfl (by decide) rfl dX9_enter_1 ?_
  refine br_aload_n S 0 dX9_enter_4 rfl rfl ?_
  refine br_get (f := 30) (N := 37) (C := RX9) (T := TX9) S inT_X9 wd_4_24 (by decide) rfl rfl (by decide) rfl dX9_enter_5 ?_
  refine br_iload_n S 1 dX9_enter_8 rfl rfl ?_
  obtain ⟨g1, h⟩ := h
  obtain ⟨σ2, e3⟩ : ∃ τ, τ = bup σ 68 (σ 10 30) a1 := ⟨_, rfl⟩
  replace h := h σ2 e3
  have hσ2 : bRG σ2 := by rw [e3]; exact bup_rg hσ ha1
  refine br_iast (n := 61) S ⟨by decide, by decide, fun _ => rfl⟩ g1.1 g1.2 dX9_enter_9 ?_
  refine bA.to rfl rfl e3.symm ?_
  refine br_aload_n S 0 dX9_enter_10 rfl rfl ?_
  refine br_get (f := 35) (N := 37) (C := RX9) (T := TX9) S inT_X9 wd_4_29 (by decide) rfl rfl (by decide) rfl dX9_enter_11 ?_
  refine br_aload_n S 0 dX9_enter_14 rfl rfl ?_
  refine br_get (f := 30) (N := 37) (C := RX9) (T := TX9) S inT_X9 wd_4_24 (by decide) rfl rfl (by decide) rfl dX9_enter_15 ?_
  refine br_iconst S dX9_enter_18 ?_
  obtain ⟨g4, h⟩ := h
  obtain ⟨σ5, e6⟩ : ∃ τ, τ = bup σ2 69 (σ2 10 30) 0 := ⟨_, rfl⟩
  replace h := h σ5 e6
  have hσ5 : bRG σ5 := by rw [e6]; exact bup_rg hσ2 (by decide)
  refine br_iast (n := 61) S ⟨by decide, by decide, fun _ => rfl⟩ g4.1 g4.2 dX9_enter_19 ?_
  refine bA.to rfl rfl e6.symm ?_
  refine br_iconst S dX9_enter_20 ?_
  refine br_istore_n S [(2, .int (bI 0)), (0, .ref (G.2.2 10)), (1, .int (bI a1))] dX9_enter_21 rfl (by decide) rfl ?_
  exact bA.perm [1, 0] rfl <| hP22 0 σ5 (by decide) hσ5 h
def LX9_enter_22 (Q : bS → Prop) (x2 : Int) (σ : bS) : Prop := ∀ (P22 : Int → bS → Prop), (∀ x2 σ, bX9_enter_22 Q P22 x2 σ → P22 x2 σ) → P22 x2 σ
theorem LX9_enter_22_in {Q : bS → Prop} {x2 : Int} {σ : bS} (h : bX9_enter_22 Q (LX9_enter_22 Q) x2 σ) : LX9_enter_22 Q x2 σ := fun P22 H22 => H22 _ _ (mono_bX9_enter_22 (fun _ h => h) (fun _ _ h => h P22 H22) h)
theorem mono_LX9_enter_22 {Q Q9 : bS → Prop} {x2 : Int} {σ : bS} (hQ : ∀ σ, Q σ → Q9 σ) (h : LX9_enter_22 Q x2 σ) : LX9_enter_22 Q9 x2 σ := fun P22 H22 => h P22 (fun _ _ hb => H22 _ _ (mono_bX9_enter_22 hQ (fun _ _ h => h) hb))
def vX9_enter (Q : bS → Prop) (a1 : Int) (σ : bS) : Prop := eX9_enter Q (LX9_enter_22 Q) a1 σ
theorem mono_vX9_enter {Q Q9 : bS → Prop} {a1 : Int} {σ : bS} (hQ : ∀ σ, Q σ → Q9 σ) : vX9_enter Q a1 σ → vX9_enter Q9 a1 σ := mono_eX9_enter hQ (fun _ _ h => mono_LX9_enter_22 hQ h)
theorem mono_X9_enter {Q Q9 : bS → Prop} {a1 : Int} {σ : bS} (hQ : ∀ σ, Q σ → Q9 σ) : vX9_enter Q a1 σ → vX9_enter Q9 a1 σ := mono_vX9_enter hQ
theorem mX9_enter (l : Launch) (G : bG) (σ : bS) (a1 : Int) (ha1 : bR a1) {Q : bS → Prop} (h : vX9_enter Q a1 σ) : bk_Mv l yX9_enter (Cond.code yX9_enter cX9_enter 3 (none) :: bT) { frames := 0, cells := 0, slots := 0, locals := 0 } G σ [.ref (G.2.2 10), .int (bI a1)] Q := by
  refine bk_Mv.of (cc := cX9_enter) (maxL := 3) (ret := none) (by decide) rfl (Nat.le_of_ble_eq_true rfl) ?_
  intro p e s m args below meth c S hr hlk hσ
  let K22 : Int → bS → Prop := fun x2 τ => bR x2 → bRG τ → bA p l e { frames := 0, cells := 0, slots := 0, locals := 0 } s m args below meth c 0 0 (bQv below args s G σ Q) G (va_A (bk_w G σ) s.heap.size) 3 22 [(0, .ref (G.2.2 10)), (2, .int (bI x2))] [] τ
  have C22 : ∀ x2 τ, bX9_enter_22 Q K22 x2 τ → K22 x2 τ := fun x2 τ hb hx2 hτ => wX9_enter_22 S hr hlk (fun x2 σ hx2 hσ h => h hx2 hσ) hx2 hτ hb
  exact wX9_enter_e S hr hlk (fun x2 σ hx2 hσ h => h K22 C22 hx2 hσ) ha1 hσ h
def vX9_flatStep_241 (Q : Int → bS → Prop) (x1 : Int) (x2 : Int) (x5 : Int) (σ : bS) : Prop := ((0 ≤ x1 ∧ x1 < 61) ∧ (∀ σ2 : bS, σ2 = bup σ 69 x1 x5 → ((0 ≤ x2 ∧ x2 < 30) ∧ (((σ2 52 x2) < x5 → (Q 0 σ2)) ∧ (¬ (σ2 52 x2) < x5 → (Q 1 σ2))))))
theorem mono_vX9_flatStep_241 {Q Q9 : Int → bS → Prop} {x1 : Int} {x2 : Int} {x5 : Int} {σ : bS} (hQ : ∀ r σ, Q r σ → Q9 r σ) : vX9_flatStep_241 Q x1 x2 x5 σ → vX9_flatStep_241 Q9 x1 x2 x5 σ := (bm_r (bm_all fun _ => bm_imp (bm_r (bm_and (bm_imp (hQ _ _)) (bm_imp (hQ _ _))))))
theorem wX9_flatStep_241 {p : Program} {l : Launch} {e : Env} {s : State} {m : MethodId} {args : Array Value} {below : List Frame} {meth : Method} {c : Code} {G : bG} {σ0 : bS} {Q : Int → bS → Prop} {x1 : Int} {x2 : Int} {x5 : Int} {σ : bS} (S : CallFix p m c cX9_flatStep 6 s args bT "BankLinkerModel") (hr : meth.sig.returnType = some .boolean) (hlk : meth.locks = false) (hx1 : bR x1) (hx2 : bR x2) (hx5 : bR x5) (hσ : bRG σ) (h : vX9_flatStep_241 Q x1 x2 x5 σ) : bA p l e { frames := 1, cells := 0, slots := 0, locals := 22 } s m args below meth c 0 0 (bQi below args s G σ0 Q) G (va_A (bk_w G σ0) s.heap.size) 6 241 [(0, .ref (G.2.2 10)), (1, .int (bI x1)), (2, .int (bI x2)), (5, .int (bI x5))] [] σ := by
  unfold vX9_flatStep_241 at h
  refine br_aload_n S 0 dX9_flatStep_241 rfl rfl ?_
  refine br_get (f := 35) (N := 37) (C := RX9) (T := TX9) S inT_X9 wd_4_29 (by decide) rfl rfl (by decide) rfl dX9_flatStep_242 ?_
  refine br_iload_n S 1 dX9_flatStep_245 rfl rfl ?_
  refine br_iload S 3 dX9_flatStep_246 rfl ?_
  obtain ⟨g1, h⟩ := h
  obtain ⟨σ2, e3⟩ : ∃ τ, τ = bup σ 69 x1 x5 := ⟨_, rfl⟩
  replace h := h σ2 e3
  have hσ2 : bRG σ2 := by rw [e3]; exact bup_rg hσ hx5
  refine br_iast (n := 61) S ⟨by decide, by decide, fun _ => rfl⟩ g1.1 g1.2 dX9_flatStep_248 ?_
  refine bA.to rfl rfl e3.symm ?_
  refine br_iload S 3 dX9_flatStep_249 rfl ?_
  refine br_aload_n S 0 dX9_flatStep_251 rfl rfl ?_
  refine br_get (f := 6) (N := 37) (C := RX9) (T := TX9) S inT_X9 wd_4_0 (by decide) rfl rfl (by decide) rfl dX9_flatStep_252 ?_
  refine br_iload_n S 2 dX9_flatStep_255 rfl rfl ?_
  obtain ⟨g4, h⟩ := h
  refine br_iald (n := 30) S ⟨by decide, by decide, fun _ => rfl⟩ g4.1 g4.2 dX9_flatStep_256 ?_
  refine br_ic_gt S 264 hx5 (hσ2 52 x2) dX9_flatStep_257 (by decide) (fun c5 => ?_) (fun c5 => ?_)
  · replace h := h.1 c5
    refine br_iconst S dX9_flatStep_264 ?_
    exact br_zret S hr hlk (by decide) hσ2 dX9_flatStep_265 h
  · replace h := h.2 c5
    refine br_iconst S dX9_flatStep_260 ?_
    refine br_goto S 265 dX9_flatStep_261 (by decide) ?_
    exact br_zret S hr hlk (by decide) hσ2 dX9_flatStep_265 h
def vX9_flatStep_227 (Q : Int → bS → Prop) (x1 : Int) (x2 : Int) (x4 : Int) (x5 : Int) (σ : bS) : Prop := ((x4 = 7 → (vX9_flatStep_241 Q x1 x2 x5 σ)) ∧ (¬ x4 = 7 → ((¬ (σ 10 31) = 0 → (Q 1 σ)) ∧ ((σ 10 31) = 0 → (vX9_flatStep_241 Q x1 x2 x5 σ)))))
theorem mono_vX9_flatStep_227 {Q Q9 : Int → bS → Prop} {x1 : Int} {x2 : Int} {x4 : Int} {x5 : Int} {σ : bS} (hQ : ∀ r σ, Q r σ → Q9 r σ) : vX9_flatStep_227 Q x1 x2 x4 x5 σ → vX9_flatStep_227 Q9 x1 x2 x4 x5 σ := (bm_and (bm_imp (mono_vX9_flatStep_241 hQ)) (bm_imp (bm_and (bm_imp (hQ _ _)) (bm_imp (mono_vX9_flatStep_241 hQ)))))
theorem wX9_flatStep_227 {p : Program} {l : Launch} {e : Env} {s : State} {m : MethodId} {args : Array Value} {below : List Frame} {meth : Method} {c : Code} {G : bG} {σ0 : bS} {Q : Int → bS → Prop} {x1 : Int} {x2 : Int} {x4 : Int} {x5 : Int} {σ : bS} (S : CallFix p m c cX9_flatStep 6 s args bT "BankLinkerModel") (hr : meth.sig.returnType = some .boolean) (hlk : meth.locks = false) (hx1 : bR x1) (hx2 : bR x2) (hx4 : bR x4) (hx5 : bR x5) (hσ : bRG σ) (h : vX9_flatStep_227 Q x1 x2 x4 x5 σ) : bA p l e { frames := 1, cells := 0, slots := 0, locals := 22 } s m args below meth c 0 0 (bQi below args s G σ0 Q) G (va_A (bk_w G σ0) s.heap.size) 6 227 [(0, .ref (G.2.2 10)), (1, .int (bI x1)), (2, .int (bI x2)), (4, .int (bI x4)), (5, .int (bI x5))] [] σ := by
  unfold vX9_flatStep_227 at h
  refine br_iload S 3 dX9_flatStep_227 rfl ?_
  refine br_bipush S dX9_flatStep_229 rfl ?_
  refine br_ic_eq S 241 hx4 (by decide) dX9_flatStep_231 (by decide) (fun c1 => ?_) (fun c1 => ?_)
  · replace h := h.1 c1
    exact bA.perm [0, 1, 2, 4] rfl <| wX9_flatStep_241 S hr hlk hx1 hx2 hx5 hσ h
  · replace h := h.2 c1
    refine br_aload_n S 0 dX9_flatStep_234 rfl rfl ?_
    refine br_get (f := 31) (N := 37) (C := RX9) (T := TX9) S inT_X9 wd_4_25 (by decide) rfl rfl (by decide) rfl dX9_flatStep_235 ?_
    refine br_if_ne S 266 (hσ 10 31) dX9_flatStep_238 (by decide) (fun c2 => ?_) (fun c2 => ?_)
    · replace h := h.1 c2
      refine br_iconst S dX9_flatStep_266 ?_
      exact br_zret S hr hlk (by decide) hσ dX9_flatStep_267 h
    · replace h := h.2 c2
      exact bA.perm [0, 1, 2, 4] rfl <| wX9_flatStep_241 S hr hlk hx1 hx2 hx5 hσ h
def vX9_flatStep_74 (Q : Int → bS → Prop) (x1 : Int) (x2 : Int) (x4 : Int) (s0 : Int) (σ : bS) : Prop := ((0 ≤ x1 ∧ x1 < 61) ∧ (bR ((σ 69 x1) + 1) ∧ (∀ σ3 : bS, σ3 = bup σ 69 x1 ((σ 69 x1) + 1) → (((x4 < 0 ∨ 7 < x4) → (bR ((σ3 10 30) - 1) ∧ (∀ σ8 : bS, σ8 = bup σ3 10 30 ((σ3 10 30) - 1) → (Q 1 σ8)))) ∧ (x4 = 0 → (∀ σ10 : bS, σ10 = bup σ3 10 31 s0 → (Q 1 σ10))) ∧ (x4 = 1 → (∀ σ12 : bS, σ12 = bup σ3 10 31 (((σ3 10 31) + s0) % 256) → (Q 1 σ12))) ∧ (x4 = 2 → (vX9_send (fun σ15 => (Q 1 σ15)) 1 (σ3 10 31) σ3)) ∧ (x4 = 3 → ((0 ≤ ((9 * x1) + s0) ∧ ((9 * x1) + s0) < 549) ∧ (∀ σ17 : bS, σ17 = bup σ3 10 31 (σ3 70 ((9 * x1) + s0)) → (Q 1 σ17)))) ∧ (x4 = 4 → ((0 ≤ ((9 * x1) + s0) ∧ ((9 * x1) + s0) < 549) ∧ (∀ σ20 : bS, σ20 = bup σ3 70 ((9 * x1) + s0) (σ3 10 31) → (Q 1 σ20)))) ∧ (x4 = 5 → ((¬ (σ3 10 30) = 61 → (vX9_enter (fun σ24 => (Q 1 σ24)) s0 σ3)) ∧ ((σ3 10 30) = 61 → (Q 0 σ3)))) ∧ (x4 = 6 → (vX9_flatStep_227 Q x1 x2 x4 s0 σ3)) ∧ (x4 = 7 → (vX9_flatStep_227 Q x1 x2 x4 s0 σ3))))))
theorem mono_vX9_flatStep_74 {Q Q9 : Int → bS → Prop} {x1 : Int} {x2 : Int} {x4 : Int} {s0 : Int} {σ : bS} (hQ : ∀ r σ, Q r σ → Q9 r σ) : vX9_flatStep_74 Q x1 x2 x4 s0 σ → vX9_flatStep_74 Q9 x1 x2 x4 s0 σ := (bm_r (bm_r (bm_all fun _ => bm_imp (bm_and (bm_imp (bm_r (bm_all fun _ => bm_imp (hQ _ _)))) (bm_and (bm_imp (bm_all fun _ => bm_imp (hQ _ _))) (bm_and (bm_imp (bm_all fun _ => bm_imp (hQ _ _))) (bm_and (bm_imp (mono_X9_send (fun _ => (hQ _ _)))) (bm_and (bm_imp (bm_r (bm_all fun _ => bm_imp (hQ _ _)))) (bm_and (bm_imp (bm_r (bm_all fun _ => bm_imp (hQ _ _)))) (bm_and (bm_imp (bm_and (bm_imp (mono_X9_enter (fun _ => (hQ _ _)))) (bm_imp (hQ _ _)))) (bm_and (bm_imp (mono_vX9_flatStep_227 hQ)) (bm_imp (mono_vX9_flatStep_227 hQ)))))))))))))
theorem wX9_flatStep_74 {p : Program} {l : Launch} {e : Env} {s : State} {m : MethodId} {args : Array Value} {below : List Frame} {meth : Method} {c : Code} {G : bG} {σ0 : bS} {Q : Int → bS → Prop} {x1 : Int} {x2 : Int} {x4 : Int} {s0 : Int} {σ : bS} (S : CallFix p m c cX9_flatStep 6 s args bT "BankLinkerModel") (hr : meth.sig.returnType = some .boolean) (hlk : meth.locks = false) (hx1 : bR x1) (hx2 : bR x2) (hx4 : bR x4) (hs0 : bR s0) (hσ : bRG σ) (h : vX9_flatStep_74 Q x1 x2 x4 s0 σ) : bA p l e { frames := 1, cells := 0, slots := 0, locals := 22 } s m args below meth c 0 0 (bQi below args s G σ0 Q) G (va_A (bk_w G σ0) s.heap.size) 6 74 [(0, .ref (G.2.2 10)), (1, .int (bI x1)), (2, .int (bI x2)), (4, .int (bI x4))] [.int (bI s0)] σ := by
  unfold vX9_flatStep_74 at h
  refine br_istore S [(5, .int (bI s0)), (0, .ref (G.2.2 10)), (1, .int (bI x1)), (2, .int (bI x2)), (4, .int (bI x4))] dX9_flatStep_74 (by decide) rfl ?_
  refine br_aload_n S 1 dX9_flatStep_76 rfl rfl ?_
  refine br_get (f := 35) (N := 37) (C := RX9) (T := TX9) S inT_X9 wd_4_29 (by decide) rfl rfl (by decide) rfl dX9_flatStep_77 ?_
  refine br_iload_n S 2 dX9_flatStep_80 rfl rfl ?_
  refine br_dup2 S dX9_flatStep_81 rfl rfl ?_
  obtain ⟨g1, h⟩ := h
  refine br_iald (n := 61) S ⟨by decide, by decide, fun _ => rfl⟩ g1.1 g1.2 dX9_flatStep_82 ?_
  refine br_iconst S dX9_flatStep_83 ?_
  refine br_iadd S dX9_flatStep_84 ?_
  obtain ⟨g2, h⟩ := h
  obtain ⟨σ3, e4⟩ : ∃ τ, τ = bup σ 69 x1 ((σ 69 x1) + 1) := ⟨_, rfl⟩
  replace h := h σ3 e4
  have hσ3 : bRG σ3 := by rw [e4]; exact bup_rg hσ g2
  refine br_iast (n := 61) S ⟨by decide, by decide, fun _ => rfl⟩ g1.1 g1.2 dX9_flatStep_85 ?_
  refine bA.to rfl rfl e4.symm ?_
  refine br_iload S 4 dX9_flatStep_86 rfl ?_
  by_cases c5 : x4 < 0 ∨ 7 < x4
  · replace h := h.1 c5
    refine br_tblO S 268 hx4 c5 dX9_flatStep_88 (by decide) ?_
    refine br_aload_n S 1 dX9_flatStep_268 rfl rfl ?_
    refine br_dup S dX9_flatStep_269 rfl ?_
    refine br_get (f := 30) (N := 37) (C := RX9) (T := TX9) S inT_X9 wd_4_24 (by decide) rfl rfl (by decide) rfl dX9_flatStep_270 ?_
    refine br_iconst S dX9_flatStep_273 ?_
    refine br_isub S dX9_flatStep_274 ?_
    obtain ⟨g7, h⟩ := h
    obtain ⟨σ8, e9⟩ : ∃ τ, τ = bup σ3 10 30 ((σ3 10 30) - 1) := ⟨_, rfl⟩
    replace h := h σ8 e9
    have hσ8 : bRG σ8 := by rw [e9]; exact bup_rg hσ3 g7
    refine br_put (f := 30) (N := 37) (C := RX9) (T := TX9) S tyX9 tyX9_ok nmX9 inT_X9 wd_4_24 (by decide) rfl (pf_10_30 _ _ _) rfl (by decide) (Nat.le_of_ble_eq_true rfl) rfl rfl rfl rfl dX9_flatStep_275 ?_
    refine bA.to rfl rfl e9.symm ?_
    refine br_iconst S dX9_flatStep_278 ?_
    exact br_zret S hr hlk (by decide) hσ8 dX9_flatStep_279 h
  · rcases (show x4 = 0 ∨ x4 = 1 ∨ x4 = 2 ∨ x4 = 3 ∨ x4 = 4 ∨ x4 = 5 ∨ x4 = 6 ∨ x4 = 7 by omega) with c6 | c6 | c6 | c6 | c6 | c6 | c6 | c6
    · replace h := h.2.1 c6
      refine br_tblI S 136 0 hx4 c6 (by decide) rfl dX9_flatStep_88 (by decide) ?_
      refine br_aload_n S 1 dX9_flatStep_136 rfl rfl ?_
      refine br_iload S 0 dX9_flatStep_137 rfl ?_
      obtain ⟨σ10, e11⟩ : ∃ τ, τ = bup σ3 10 31 s0 := ⟨_, rfl⟩
      replace h := h σ10 e11
      have hσ10 : bRG σ10 := by rw [e11]; exact bup_rg hσ3 hs0
      refine br_put (f := 31) (N := 37) (C := RX9) (T := TX9) S tyX9 tyX9_ok nmX9 inT_X9 wd_4_25 (by decide) rfl (pf_10_31 _ _ _) rfl (by decide) (Nat.le_of_ble_eq_true rfl) rfl rfl rfl rfl dX9_flatStep_139 ?_
      refine bA.to rfl rfl e11.symm ?_
      refine br_iconst S dX9_flatStep_142 ?_
      exact br_zret S hr hlk (by decide) hσ10 dX9_flatStep_143 h
    · replace h := h.2.2.1 c6
      refine br_tblI S 144 1 hx4 c6 (by decide) rfl dX9_flatStep_88 (by decide) ?_
      refine br_aload_n S 1 dX9_flatStep_144 rfl rfl ?_
      refine br_aload_n S 1 dX9_flatStep_145 rfl rfl ?_
      refine br_get (f := 31) (N := 37) (C := RX9) (T := TX9) S inT_X9 wd_4_25 (by decide) rfl rfl (by decide) rfl dX9_flatStep_146 ?_
      refine br_iload S 0 dX9_flatStep_149 rfl ?_
      refine br_iadd S dX9_flatStep_151 ?_
      refine br_sipush S dX9_flatStep_152 rfl ?_
      refine br_and255 S dX9_flatStep_155 ?_
      obtain ⟨σ12, e13⟩ : ∃ τ, τ = bup σ3 10 31 (((σ3 10 31) + s0) % 256) := ⟨_, rfl⟩
      replace h := h σ12 e13
      have hσ12 : bRG σ12 := by rw [e13]; exact bup_rg hσ3 (bR_mod256 _)
      refine br_put (f := 31) (N := 37) (C := RX9) (T := TX9) S tyX9 tyX9_ok nmX9 inT_X9 wd_4_25 (by decide) rfl (pf_10_31 _ _ _) rfl (by decide) (Nat.le_of_ble_eq_true rfl) rfl rfl rfl rfl dX9_flatStep_156 ?_
      refine bA.to rfl rfl e13.symm ?_
      refine br_iconst S dX9_flatStep_159 ?_
      exact br_zret S hr hlk (by decide) hσ12 dX9_flatStep_160 h
    · replace h := h.2.2.2.1 c6
      refine br_tblI S 161 2 hx4 c6 (by decide) rfl dX9_flatStep_88 (by decide) ?_
      refine br_aload_n S 1 dX9_flatStep_161 rfl rfl ?_
      refine br_iconst S dX9_flatStep_162 ?_
      refine br_aload_n S 1 dX9_flatStep_163 rfl rfl ?_
      refine br_get (f := 31) (N := 37) (C := RX9) (T := TX9) S inT_X9 wd_4_25 (by decide) rfl rfl (by decide) rfl dX9_flatStep_164 ?_
      refine br_callVv (As := [.int (bI 1), .int (bI (σ3 10 31))]) (rest := []) S (cwV_X9_send S.2.2.2.2 wd_5_7 ⟨by decide, by decide⟩) (mX9_send l G σ3 1 (by decide) (σ3 10 31) (hσ3 10 31) h) (by decide) rfl rfl rfl hσ3 rfl rfl (Nat.le_of_ble_eq_true rfl) ⟨by decide, by decide⟩ dX9_flatStep_167 (fun σ15 hσ15 h => ?_)
      refine br_iconst S dX9_flatStep_170 ?_
      exact br_zret S hr hlk (by decide) hσ15 dX9_flatStep_171 h
    · replace h := h.2.2.2.2.1 c6
      refine br_tblI S 172 3 hx4 c6 (by decide) rfl dX9_flatStep_88 (by decide) ?_
      refine br_aload_n S 1 dX9_flatStep_172 rfl rfl ?_
      refine br_aload_n S 1 dX9_flatStep_173 rfl rfl ?_
      refine br_get (f := 36) (N := 37) (C := RX9) (T := TX9) S inT_X9 wd_4_30 (by decide) rfl rfl (by decide) rfl dX9_flatStep_174 ?_
      refine br_bipush S dX9_flatStep_177 rfl ?_
      refine br_iload_n S 2 dX9_flatStep_179 rfl rfl ?_
      refine br_imul S dX9_flatStep_180 ?_
      refine br_iload S 0 dX9_flatStep_181 rfl ?_
      refine br_iadd S dX9_flatStep_183 ?_
      obtain ⟨g16, h⟩ := h
      refine br_iald (n := 549) S ⟨by decide, by decide, fun _ => rfl⟩ g16.1 g16.2 dX9_flatStep_184 ?_
      obtain ⟨σ17, e18⟩ : ∃ τ, τ = bup σ3 10 31 (σ3 70 ((9 * x1) + s0)) := ⟨_, rfl⟩
      replace h := h σ17 e18
      have hσ17 : bRG σ17 := by rw [e18]; exact bup_rg hσ3 (hσ3 70 ((9 * x1) + s0))
      refine br_put (f := 31) (N := 37) (C := RX9) (T := TX9) S tyX9 tyX9_ok nmX9 inT_X9 wd_4_25 (by decide) rfl (pf_10_31 _ _ _) rfl (by decide) (Nat.le_of_ble_eq_true rfl) rfl rfl rfl rfl dX9_flatStep_185 ?_
      refine bA.to rfl rfl e18.symm ?_
      refine br_iconst S dX9_flatStep_188 ?_
      exact br_zret S hr hlk (by decide) hσ17 dX9_flatStep_189 h
    · replace h := h.2.2.2.2.2.1 c6
      refine br_tblI S 190 4 hx4 c6 (by decide) rfl dX9_flatStep_88 (by decide) ?_
      refine br_aload_n S 1 dX9_flatStep_190 rfl rfl ?_
      refine br_get (f := 36) (N := 37) (C := RX9) (T := TX9) S inT_X9 wd_4_30 (by decide) rfl rfl (by decide) rfl dX9_flatStep_191 ?_
      refine br_bipush S dX9_flatStep_194 rfl ?_
      refine br_iload_n S 2 dX9_flatStep_196 rfl rfl ?_
      refine br_imul S dX9_flatStep_197 ?_
      refine br_iload S 0 dX9_flatStep_198 rfl ?_
      refine br_iadd S dX9_flatStep_200 ?_
      refine br_aload_n S 1 dX9_flatStep_201 rfl rfl ?_
      refine br_get (f := 31) (N := 37) (C := RX9) (T := TX9) S inT_X9 wd_4_25 (by decide) rfl rfl (by decide) rfl dX9_flatStep_202 ?_
      obtain ⟨g19, h⟩ := h
      obtain ⟨σ20, e21⟩ : ∃ τ, τ = bup σ3 70 ((9 * x1) + s0) (σ3 10 31) := ⟨_, rfl⟩
      replace h := h σ20 e21
      have hσ20 : bRG σ20 := by rw [e21]; exact bup_rg hσ3 (hσ3 10 31)
      refine br_iast (n := 549) S ⟨by decide, by decide, fun _ => rfl⟩ g19.1 g19.2 dX9_flatStep_205 ?_
      refine bA.to rfl rfl e21.symm ?_
      refine br_iconst S dX9_flatStep_206 ?_
      exact br_zret S hr hlk (by decide) hσ20 dX9_flatStep_207 h
    · replace h := h.2.2.2.2.2.2.1 c6
      refine br_tblI S 208 5 hx4 c6 (by decide) rfl dX9_flatStep_88 (by decide) ?_
      refine br_aload_n S 1 dX9_flatStep_208 rfl rfl ?_
      refine br_get (f := 30) (N := 37) (C := RX9) (T := TX9) S inT_X9 wd_4_24 (by decide) rfl rfl (by decide) rfl dX9_flatStep_209 ?_
      refine br_bipush S dX9_flatStep_212 rfl ?_
      refine br_ic_ne S 219 (hσ3 10 30) (by decide) dX9_flatStep_214 (by decide) (fun c22 => ?_) (fun c22 => ?_)
      · replace h := h.1 c22
        refine br_aload_n S 1 dX9_flatStep_219 rfl rfl ?_
        refine br_iload S 0 dX9_flatStep_220 rfl ?_
        refine br_callVv (As := [.int (bI s0)]) (rest := []) S (cwV_X9_enter S.2.2.2.2 wd_5_19 ⟨by decide, by decide⟩) (mX9_enter l G σ3 s0 hs0 h) (by decide) rfl rfl rfl hσ3 rfl rfl (Nat.le_of_ble_eq_true rfl) ⟨by decide, by decide⟩ dX9_flatStep_222 (fun σ24 hσ24 h => ?_)
        refine br_iconst S dX9_flatStep_225 ?_
        exact br_zret S hr hlk (by decide) hσ24 dX9_flatStep_226 h
      · replace h := h.2 c22
        refine br_iconst S dX9_flatStep_217 ?_
        exact br_zret S hr hlk (by decide) hσ3 dX9_flatStep_218 h
    · replace h := h.2.2.2.2.2.2.2.1 c6
      refine br_tblI S 227 6 hx4 c6 (by decide) rfl dX9_flatStep_88 (by decide) ?_
      exact bA.perm [1, 2, 3, 4, 0] rfl <| wX9_flatStep_227 S hr hlk hx1 hx2 hx4 hs0 hσ3 h
    · replace h := h.2.2.2.2.2.2.2.2 c6
      refine br_tblI S 227 7 hx4 c6 (by decide) rfl dX9_flatStep_88 (by decide) ?_
      exact bA.perm [1, 2, 3, 4, 0] rfl <| wX9_flatStep_227 S hr hlk hx1 hx2 hx4 hs0 hσ3 h
def vX9_flatStep_47 (Q : Int → bS → Prop) (x1 : Int) (x2 : Int) (x3 : Int) (s0 : Int) (σ : bS) : Prop := ((0 ≤ x2 ∧ x2 < 30) ∧ (((σ 52 x2) ≤ x3 → (vX9_flatStep_74 Q x1 x2 s0 0 σ)) ∧ (¬ (σ 52 x2) ≤ x3 → ((0 ≤ ((40 * x2) + x3) ∧ ((40 * x2) + x3) < 1200) ∧ (vX9_flatStep_74 Q x1 x2 s0 (σ 54 ((40 * x2) + x3)) σ)))))
theorem mono_vX9_flatStep_47 {Q Q9 : Int → bS → Prop} {x1 : Int} {x2 : Int} {x3 : Int} {s0 : Int} {σ : bS} (hQ : ∀ r σ, Q r σ → Q9 r σ) : vX9_flatStep_47 Q x1 x2 x3 s0 σ → vX9_flatStep_47 Q9 x1 x2 x3 s0 σ := (bm_r (bm_and (bm_imp (mono_vX9_flatStep_74 hQ)) (bm_imp (bm_r (mono_vX9_flatStep_74 hQ)))))
theorem wX9_flatStep_47 {p : Program} {l : Launch} {e : Env} {s : State} {m : MethodId} {args : Array Value} {below : List Frame} {meth : Method} {c : Code} {G : bG} {σ0 : bS} {Q : Int → bS → Prop} {x1 : Int} {x2 : Int} {x3 : Int} {s0 : Int} {σ : bS} (S : CallFix p m c cX9_flatStep 6 s args bT "BankLinkerModel") (hr : meth.sig.returnType = some .boolean) (hlk : meth.locks = false) (hx1 : bR x1) (hx2 : bR x2) (hx3 : bR x3) (hs0 : bR s0) (hσ : bRG σ) (h : vX9_flatStep_47 Q x1 x2 x3 s0 σ) : bA p l e { frames := 1, cells := 0, slots := 0, locals := 22 } s m args below meth c 0 0 (bQi below args s G σ0 Q) G (va_A (bk_w G σ0) s.heap.size) 6 47 [(0, .ref (G.2.2 10)), (1, .int (bI x1)), (2, .int (bI x2)), (3, .int (bI x3))] [.int (bI s0)] σ := by
  unfold vX9_flatStep_47 at h
  refine br_istore S [(4, .int (bI s0)), (0, .ref (G.2.2 10)), (1, .int (bI x1)), (2, .int (bI x2)), (3, .int (bI x3))] dX9_flatStep_47 (by decide) rfl ?_
  refine br_iload_n S 4 dX9_flatStep_49 rfl rfl ?_
  refine br_aload_n S 1 dX9_flatStep_50 rfl rfl ?_
  refine br_get (f := 6) (N := 37) (C := RX9) (T := TX9) S inT_X9 wd_4_0 (by decide) rfl rfl (by decide) rfl dX9_flatStep_51 ?_
  refine br_iload_n S 3 dX9_flatStep_54 rfl rfl ?_
  obtain ⟨g1, h⟩ := h
  refine br_iald (n := 30) S ⟨by decide, by decide, fun _ => rfl⟩ g1.1 g1.2 dX9_flatStep_55 ?_
  refine br_ic_ge S 73 hx3 (hσ 52 x2) dX9_flatStep_56 (by decide) (fun c2 => ?_) (fun c2 => ?_)
  · replace h := h.1 c2
    refine br_iconst S dX9_flatStep_73 ?_
    exact bA.perm [1, 2, 3, 0] rfl <| wX9_flatStep_74 S hr hlk hx1 hx2 hs0 (by decide) hσ h
  · replace h := h.2 c2
    refine br_aload_n S 1 dX9_flatStep_59 rfl rfl ?_
    refine br_get (f := 8) (N := 37) (C := RX9) (T := TX9) S inT_X9 wd_4_2 (by decide) rfl rfl (by decide) rfl dX9_flatStep_60 ?_
    refine br_bipush S dX9_flatStep_63 rfl ?_
    refine br_iload_n S 3 dX9_flatStep_65 rfl rfl ?_
    refine br_imul S dX9_flatStep_66 ?_
    refine br_iload_n S 4 dX9_flatStep_67 rfl rfl ?_
    refine br_iadd S dX9_flatStep_68 ?_
    obtain ⟨g3, h⟩ := h
    refine br_iald (n := 1200) S ⟨by decide, by decide, fun _ => rfl⟩ g3.1 g3.2 dX9_flatStep_69 ?_
    refine br_goto S 74 dX9_flatStep_70 (by decide) ?_
    exact bA.perm [1, 2, 3, 0] rfl <| wX9_flatStep_74 S hr hlk hx1 hx2 hs0 (hσ 54 ((40 * x2) + x3)) hσ h
def vX9_flatStep (Q : Int → bS → Prop) (σ : bS) : Prop := ((0 ≤ ((σ 10 30) - 1) ∧ ((σ 10 30) - 1) < 61) ∧ ((0 ≤ (σ 68 ((σ 10 30) - 1)) ∧ (σ 68 ((σ 10 30) - 1)) < 30) ∧ (((σ 52 (σ 68 ((σ 10 30) - 1))) ≤ (σ 69 ((σ 10 30) - 1)) → (vX9_flatStep_47 Q ((σ 10 30) - 1) (σ 68 ((σ 10 30) - 1)) (σ 69 ((σ 10 30) - 1)) 8 σ)) ∧ (¬ (σ 52 (σ 68 ((σ 10 30) - 1))) ≤ (σ 69 ((σ 10 30) - 1)) → ((0 ≤ ((40 * (σ 68 ((σ 10 30) - 1))) + (σ 69 ((σ 10 30) - 1))) ∧ ((40 * (σ 68 ((σ 10 30) - 1))) + (σ 69 ((σ 10 30) - 1))) < 1200) ∧ (vX9_flatStep_47 Q ((σ 10 30) - 1) (σ 68 ((σ 10 30) - 1)) (σ 69 ((σ 10 30) - 1)) (σ 53 ((40 * (σ 68 ((σ 10 30) - 1))) + (σ 69 ((σ 10 30) - 1)))) σ))))))
theorem mono_vX9_flatStep {Q Q9 : Int → bS → Prop} {σ : bS} (hQ : ∀ r σ, Q r σ → Q9 r σ) : vX9_flatStep Q σ → vX9_flatStep Q9 σ := (bm_r (bm_r (bm_and (bm_imp (mono_vX9_flatStep_47 hQ)) (bm_imp (bm_r (mono_vX9_flatStep_47 hQ))))))
theorem wX9_flatStep_e {p : Program} {l : Launch} {e : Env} {s : State} {m : MethodId} {args : Array Value} {below : List Frame} {meth : Method} {c : Code} {G : bG} {σ0 : bS} {Q : Int → bS → Prop} {σ : bS} (S : CallFix p m c cX9_flatStep 6 s args bT "BankLinkerModel") (hr : meth.sig.returnType = some .boolean) (hlk : meth.locks = false) (hσ : bRG σ) (h : vX9_flatStep Q σ) : bA p l e { frames := 1, cells := 0, slots := 0, locals := 22 } s m args below meth c 0 0 (bQi below args s G σ0 Q) G (va_A (bk_w G σ0) s.heap.size) 6 0 [(0, .ref (G.2.2 10))] [] σ := by
  unfold vX9_flatStep at h
  refine br_aload_n S 0 dX9_flatStep_0 rfl rfl ?_
  refine br_get (f := 30) (N := 37) (C := RX9) (T := TX9) S inT_X9 wd_4_24 (by decide) rfl rfl (by decide) rfl dX9_flatStep_1 ?_
  refine br_iconst S dX9_flatStep_4 ?_
  refine br_isub S dX9_flatStep_5 ?_
  refine br_istore_n S [(1, .int (bI ((σ 10 30) - 1))), (0, .ref (G.2.2 10))] dX9_flatStep_6 rfl (by decide) rfl ?_
  refine br_aload_n S 1 dX9_flatStep_7 rfl rfl ?_
  refine br_get (f := 34) (N := 37) (C := RX9) (T := TX9) S inT_X9 wd_4_28 (by decide) rfl rfl (by decide) rfl dX9_flatStep_8 ?_
  refine br_iload_n S 0 dX9_flatStep_11 rfl rfl ?_
  obtain ⟨g1, h⟩ := h
  refine br_iald (n := 61) S ⟨by decide, by decide, fun _ => rfl⟩ g1.1 g1.2 dX9_flatStep_12 ?_
  refine br_istore_n S [(2, .int (bI (σ 68 ((σ 10 30) - 1)))), (1, .int (bI ((σ 10 30) - 1))), (0, .ref (G.2.2 10))] dX9_flatStep_13 rfl (by decide) rfl ?_
  refine br_aload_n S 2 dX9_flatStep_14 rfl rfl ?_
  refine br_get (f := 35) (N := 37) (C := RX9) (T := TX9) S inT_X9 wd_4_29 (by decide) rfl rfl (by decide) rfl dX9_flatStep_15 ?_
  refine br_iload_n S 1 dX9_flatStep_18 rfl rfl ?_
  refine br_iald (n := 61) S ⟨by decide, by decide, fun _ => rfl⟩ g1.1 g1.2 dX9_flatStep_19 ?_
  refine br_istore_n S [(3, .int (bI (σ 69 ((σ 10 30) - 1)))), (2, .int (bI (σ 68 ((σ 10 30) - 1)))), (1, .int (bI ((σ 10 30) - 1))), (0, .ref (G.2.2 10))] dX9_flatStep_20 rfl (by decide) rfl ?_
  refine br_iload_n S 0 dX9_flatStep_21 rfl rfl ?_
  refine br_aload_n S 3 dX9_flatStep_22 rfl rfl ?_
  refine br_get (f := 6) (N := 37) (C := RX9) (T := TX9) S inT_X9 wd_4_0 (by decide) rfl rfl (by decide) rfl dX9_flatStep_23 ?_
  refine br_iload_n S 1 dX9_flatStep_26 rfl rfl ?_
  obtain ⟨g2, h⟩ := h
  refine br_iald (n := 30) S ⟨by decide, by decide, fun _ => rfl⟩ g2.1 g2.2 dX9_flatStep_27 ?_
  refine br_ic_ge S 45 (hσ 69 ((σ 10 30) - 1)) (hσ 52 (σ 68 ((σ 10 30) - 1))) dX9_flatStep_28 (by decide) (fun c3 => ?_) (fun c3 => ?_)
  · replace h := h.1 c3
    refine br_bipush S dX9_flatStep_45 rfl ?_
    exact bA.perm [3, 2, 1, 0] rfl <| wX9_flatStep_47 S hr hlk (bR_in g1 (by decide)) (hσ 68 ((σ 10 30) - 1)) (hσ 69 ((σ 10 30) - 1)) (by decide) hσ h
  · replace h := h.2 c3
    refine br_aload_n S 3 dX9_flatStep_31 rfl rfl ?_
    refine br_get (f := 7) (N := 37) (C := RX9) (T := TX9) S inT_X9 wd_4_1 (by decide) rfl rfl (by decide) rfl dX9_flatStep_32 ?_
    refine br_bipush S dX9_flatStep_35 rfl ?_
    refine br_iload_n S 1 dX9_flatStep_37 rfl rfl ?_
    refine br_imul S dX9_flatStep_38 ?_
    refine br_iload_n S 0 dX9_flatStep_39 rfl rfl ?_
    refine br_iadd S dX9_flatStep_40 ?_
    obtain ⟨g4, h⟩ := h
    refine br_iald (n := 1200) S ⟨by decide, by decide, fun _ => rfl⟩ g4.1 g4.2 dX9_flatStep_41 ?_
    refine br_goto S 47 dX9_flatStep_42 (by decide) ?_
    exact bA.perm [3, 2, 1, 0] rfl <| wX9_flatStep_47 S hr hlk (bR_in g1 (by decide)) (hσ 68 ((σ 10 30) - 1)) (hσ 69 ((σ 10 30) - 1)) (hσ 53 ((40 * (σ 68 ((σ 10 30) - 1))) + (σ 69 ((σ 10 30) - 1)))) hσ h
theorem mono_X9_flatStep {Q Q9 : Int → bS → Prop} {σ : bS} (hQ : ∀ r σ, Q r σ → Q9 r σ) : vX9_flatStep Q σ → vX9_flatStep Q9 σ := mono_vX9_flatStep hQ
theorem mX9_flatStep (l : Launch) (G : bG) (σ : bS) {Q : Int → bS → Prop} (h : vX9_flatStep Q σ) : bk_Mi l yX9_flatStep (Cond.code yX9_flatStep cX9_flatStep 6 (some .boolean) :: bT) { frames := 1, cells := 0, slots := 0, locals := 22 } G σ [.ref (G.2.2 10)] Q := by
  refine bk_Mi.of (cc := cX9_flatStep) (maxL := 6) (ret := some .boolean) (by decide) rfl (Nat.le_of_ble_eq_true rfl) ?_
  intro p e s m args below meth c S hr hlk hσ
  exact wX9_flatStep_e S hr hlk hσ h
def vX9_flat_99 (Q : Int → bS → Prop) (P58 : Int → Int → bS → Prop) (x4 : Int) (σ : bS) : Prop := (∀ σ1 : bS, σ1 = bup σ 64 6 (σ 10 31) → ((¬ x4 = 0 → ((¬ (σ1 10 30) = 0 → (Q (-5) σ1)) ∧ ((σ1 10 30) = 0 → (Q 1 σ1)))) ∧ (x4 = 0 → (Q 0 σ1))))
theorem mono_vX9_flat_99 {Q Q9 : Int → bS → Prop} {P58 P589 : Int → Int → bS → Prop} {x4 : Int} {σ : bS} (hQ : ∀ r σ, Q r σ → Q9 r σ) (hP58 : ∀ x3 x4 σ, P58 x3 x4 σ → P589 x3 x4 σ) : vX9_flat_99 Q P58 x4 σ → vX9_flat_99 Q9 P589 x4 σ := (bm_all fun _ => bm_imp (bm_and (bm_imp (bm_and (bm_imp (hQ _ _)) (bm_imp (hQ _ _)))) (bm_imp (hQ _ _))))
theorem wX9_flat_99 {p : Program} {l : Launch} {e : Env} {s : State} {m : MethodId} {args : Array Value} {below : List Frame} {meth : Method} {c : Code} {G : bG} {σ0 : bS} {Q : Int → bS → Prop} {P58 : Int → Int → bS → Prop} {x4 : Int} {σ : bS} (S : CallFix p m c cX9_flat 5 s args bT "BankLinkerModel") (hr : meth.sig.returnType = some .int) (hlk : meth.locks = false) (hP58 : ∀ (x3 : Int) (x4 : Int) (σ : bS), bR x3 → bR x4 → bRG σ → P58 x3 x4 σ → bA p l e { frames := 2, cells := 0, slots := 0, locals := 47 } s m args below meth c 0 0 (bQi below args s G σ0 Q) G (va_A (bk_w G σ0) s.heap.size) 5 58 [(0, .ref (G.2.2 10)), (3, .int (bI x3)), (4, .int (bI x4))] [] σ) (hx4 : bR x4) (hσ : bRG σ) (h : vX9_flat_99 Q P58 x4 σ) : bA p l e { frames := 2, cells := 0, slots := 0, locals := 47 } s m args below meth c 0 0 (bQi below args s G σ0 Q) G (va_A (bk_w G σ0) s.heap.size) 5 99 [(0, .ref (G.2.2 10)), (4, .int (bI x4))] [] σ := by
  unfold vX9_flat_99 at h
  refine br_aload_n S 0 dX9_flat_99 rfl rfl ?_
  refine br_get (f := 26) (N := 37) (C := RX9) (T := TX9) S inT_X9 wd_4_20 (by decide) rfl rfl (by decide) rfl dX9_flat_100 ?_
  refine br_bipush S dX9_flat_103 rfl ?_
  refine br_aload_n S 0 dX9_flat_105 rfl rfl ?_
  refine br_get (f := 31) (N := 37) (C := RX9) (T := TX9) S inT_X9 wd_4_25 (by decide) rfl rfl (by decide) rfl dX9_flat_106 ?_
  obtain ⟨σ1, e2⟩ : ∃ τ, τ = bup σ 64 6 (σ 10 31) := ⟨_, rfl⟩
  replace h := h σ1 e2
  have hσ1 : bRG σ1 := by rw [e2]; exact bup_rg hσ (hσ 10 31)
  refine br_iast (n := 10) S ⟨by decide, by decide, fun _ => rfl⟩ (by decide) (by decide) dX9_flat_109 ?_
  refine bA.to rfl rfl e2.symm ?_
  refine br_iload S 1 dX9_flat_110 rfl ?_
  refine br_if_ne S 119 hx4 dX9_flat_112 (by decide) (fun c3 => ?_) (fun c3 => ?_)
  · replace h := h.1 c3
    refine br_aload_n S 0 dX9_flat_119 rfl rfl ?_
    refine br_get (f := 30) (N := 37) (C := RX9) (T := TX9) S inT_X9 wd_4_24 (by decide) rfl rfl (by decide) rfl dX9_flat_120 ?_
    refine br_if_ne S 130 (hσ1 10 30) dX9_flat_123 (by decide) (fun c4 => ?_) (fun c4 => ?_)
    · replace h := h.1 c4
      refine br_bipush S dX9_flat_130 rfl ?_
      exact br_iret S hr hlk (by decide) hσ1 dX9_flat_132 h
    · replace h := h.2 c4
      refine br_iconst S dX9_flat_126 ?_
      refine br_goto S 132 dX9_flat_127 (by decide) ?_
      exact br_iret S hr hlk (by decide) hσ1 dX9_flat_132 h
  · replace h := h.2 c3
    refine br_iconst S dX9_flat_115 ?_
    refine br_goto S 132 dX9_flat_116 (by decide) ?_
    exact br_iret S hr hlk (by decide) hσ1 dX9_flat_132 h
def bX9_flat_58 (Q : Int → bS → Prop) (P58 : Int → Int → bS → Prop) (x3 : Int) (x4 : Int) (σ : bS) : Prop := ((x4 = 0 → (vX9_flat_99 Q P58 x4 σ)) ∧ (¬ x4 = 0 → (((σ 10 30) ≤ 0 → (vX9_flat_99 Q P58 x4 σ)) ∧ (¬ (σ 10 30) ≤ 0 → ((x3 ≤ (σ 64 5) → (vX9_flat_99 Q P58 x4 σ)) ∧ (¬ x3 ≤ (σ 64 5) → (bR ((σ 64 5) + 1) ∧ (∀ σ5 : bS, σ5 = bup σ 64 5 ((σ 64 5) + 1) → (vX9_flatStep (fun z7 σ8 => (P58 x3 z7 σ8))  σ5)))))))))
theorem mono_bX9_flat_58 {Q Q9 : Int → bS → Prop} {P58 P589 : Int → Int → bS → Prop} {x3 : Int} {x4 : Int} {σ : bS} (hQ : ∀ r σ, Q r σ → Q9 r σ) (hP58 : ∀ x3 x4 σ, P58 x3 x4 σ → P589 x3 x4 σ) : bX9_flat_58 Q P58 x3 x4 σ → bX9_flat_58 Q9 P589 x3 x4 σ := (bm_and (bm_imp (mono_vX9_flat_99 hQ hP58)) (bm_imp (bm_and (bm_imp (mono_vX9_flat_99 hQ hP58)) (bm_imp (bm_and (bm_imp (mono_vX9_flat_99 hQ hP58)) (bm_imp (bm_r (bm_all fun _ => bm_imp (mono_X9_flatStep (fun _ _ => (hP58 _ _ _)))))))))))
theorem wX9_flat_58 {p : Program} {l : Launch} {e : Env} {s : State} {m : MethodId} {args : Array Value} {below : List Frame} {meth : Method} {c : Code} {G : bG} {σ0 : bS} {Q : Int → bS → Prop} {P58 : Int → Int → bS → Prop} {x3 : Int} {x4 : Int} {σ : bS} (S : CallFix p m c cX9_flat 5 s args bT "BankLinkerModel") (hr : meth.sig.returnType = some .int) (hlk : meth.locks = false) (hP58 : ∀ (x3 : Int) (x4 : Int) (σ : bS), bR x3 → bR x4 → bRG σ → P58 x3 x4 σ → bA p l e { frames := 2, cells := 0, slots := 0, locals := 47 } s m args below meth c 0 0 (bQi below args s G σ0 Q) G (va_A (bk_w G σ0) s.heap.size) 5 58 [(0, .ref (G.2.2 10)), (3, .int (bI x3)), (4, .int (bI x4))] [] σ) (hx3 : bR x3) (hx4 : bR x4) (hσ : bRG σ) (h : bX9_flat_58 Q P58 x3 x4 σ) : bA p l e { frames := 2, cells := 0, slots := 0, locals := 47 } s m args below meth c 0 0 (bQi below args s G σ0 Q) G (va_A (bk_w G σ0) s.heap.size) 5 58 [(0, .ref (G.2.2 10)), (3, .int (bI x3)), (4, .int (bI x4))] [] σ := by
  unfold bX9_flat_58 at h
  refine br_iload S 2 dX9_flat_58 rfl ?_
  refine br_if_eq S 99 hx4 dX9_flat_60 (by decide) (fun c1 => ?_) (fun c1 => ?_)
  · replace h := h.1 c1
    exact bA.perm [0, 2] rfl <| wX9_flat_99 S hr hlk hP58 hx4 hσ h
  · replace h := h.2 c1
    refine br_aload_n S 0 dX9_flat_63 rfl rfl ?_
    refine br_get (f := 30) (N := 37) (C := RX9) (T := TX9) S inT_X9 wd_4_24 (by decide) rfl rfl (by decide) rfl dX9_flat_64 ?_
    refine br_if_le S 99 (hσ 10 30) dX9_flat_67 (by decide) (fun c2 => ?_) (fun c2 => ?_)
    · replace h := h.1 c2
      exact bA.perm [0, 2] rfl <| wX9_flat_99 S hr hlk hP58 hx4 hσ h
    · replace h := h.2 c2
      refine br_aload_n S 0 dX9_flat_70 rfl rfl ?_
      refine br_get (f := 26) (N := 37) (C := RX9) (T := TX9) S inT_X9 wd_4_20 (by decide) rfl rfl (by decide) rfl dX9_flat_71 ?_
      refine br_iconst S dX9_flat_74 ?_
      refine br_iald (n := 10) S ⟨by decide, by decide, fun _ => rfl⟩ (by decide) (by decide) dX9_flat_75 ?_
      refine br_iload_n S 1 dX9_flat_76 rfl rfl ?_
      refine br_ic_ge S 99 (hσ 64 5) hx3 dX9_flat_77 (by decide) (fun c3 => ?_) (fun c3 => ?_)
      · replace h := h.1 c3
        exact bA.perm [0, 2] rfl <| wX9_flat_99 S hr hlk hP58 hx4 hσ h
      · replace h := h.2 c3
        refine br_aload_n S 0 dX9_flat_80 rfl rfl ?_
        refine br_get (f := 26) (N := 37) (C := RX9) (T := TX9) S inT_X9 wd_4_20 (by decide) rfl rfl (by decide) rfl dX9_flat_81 ?_
        refine br_iconst S dX9_flat_84 ?_
        refine br_dup2 S dX9_flat_85 rfl rfl ?_
        refine br_iald (n := 10) S ⟨by decide, by decide, fun _ => rfl⟩ (by decide) (by decide) dX9_flat_86 ?_
        refine br_iconst S dX9_flat_87 ?_
        refine br_iadd S dX9_flat_88 ?_
        obtain ⟨g4, h⟩ := h
        obtain ⟨σ5, e6⟩ : ∃ τ, τ = bup σ 64 5 ((σ 64 5) + 1) := ⟨_, rfl⟩
        replace h := h σ5 e6
        have hσ5 : bRG σ5 := by rw [e6]; exact bup_rg hσ g4
        refine br_iast (n := 10) S ⟨by decide, by decide, fun _ => rfl⟩ (by decide) (by decide) dX9_flat_89 ?_
        refine bA.to rfl rfl e6.symm ?_
        refine br_aload_n S 0 dX9_flat_90 rfl rfl ?_
        refine br_callV (As := []) (rest := []) S (cwV_X9_flatStep S.2.2.2.2 wd_5_23 ⟨by decide, by decide⟩) (mX9_flatStep l G σ5 h) (by decide) rfl rfl rfl hσ5 rfl rfl (Nat.le_of_ble_eq_true rfl) ⟨by decide, by decide⟩ dX9_flat_91 (fun z7 σ8 hz7 hσ8 h => ?_)
        refine br_istore S [(4, .int (bI z7)), (0, .ref (G.2.2 10)), (3, .int (bI x3))] dX9_flat_94 (by decide) rfl ?_
        refine br_goto S 58 dX9_flat_96 (by decide) ?_
        exact bA.perm [1, 2, 0] rfl <| hP58 x3 z7 σ8 hx3 hz7 hσ8 h
def eX9_flat (Q : Int → bS → Prop) (P58 : Int → Int → bS → Prop) (a1 : Int) (a2 : Int) (a3 : Int) (σ : bS) : Prop := (∀ σ1 : bS, σ1 = bup σ 10 0 0 → (vX9_isRoutine (fun z3 σ4 => ((z3 = 0 → (Q (-2) σ4)) ∧ (¬ z3 = 0 → (vX9_in (fun z6 σ7 => ((z6 = 0 → (Q (-2) σ7)) ∧ (¬ z6 = 0 → (vX9_in (fun z9 σ10 => ((¬ z9 = 0 → (vX9_begin (fun σ13 => (∀ σ14 : bS, σ14 = bup σ13 10 31 a2 → (vX9_enter (fun σ17 => (P58 a3 1 σ17)) a1 σ14))) 1 σ10)) ∧ (z9 = 0 → (Q (-2) σ10)))) a3 1 3000 σ7)))) a2 0 255 σ4)))) a1 σ1))
theorem mono_eX9_flat {Q Q9 : Int → bS → Prop} {P58 P589 : Int → Int → bS → Prop} {a1 : Int} {a2 : Int} {a3 : Int} {σ : bS} (hQ : ∀ r σ, Q r σ → Q9 r σ) (hP58 : ∀ x3 x4 σ, P58 x3 x4 σ → P589 x3 x4 σ) : eX9_flat Q P58 a1 a2 a3 σ → eX9_flat Q9 P589 a1 a2 a3 σ := (bm_all fun _ => bm_imp (mono_X9_isRoutine (fun _ _ => (bm_and (bm_imp (hQ _ _)) (bm_imp (mono_X9_in (fun _ _ => (bm_and (bm_imp (hQ _ _)) (bm_imp (mono_X9_in (fun _ _ => (bm_and (bm_imp (mono_X9_begin (fun _ => (bm_all fun _ => bm_imp (mono_X9_enter (fun _ => (hP58 _ _ _))))))) (bm_imp (hQ _ _))))))))))))))
theorem wX9_flat_e {p : Program} {l : Launch} {e : Env} {s : State} {m : MethodId} {args : Array Value} {below : List Frame} {meth : Method} {c : Code} {G : bG} {σ0 : bS} {Q : Int → bS → Prop} {P58 : Int → Int → bS → Prop} {a1 : Int} {a2 : Int} {a3 : Int} {σ : bS} (S : CallFix p m c cX9_flat 5 s args bT "BankLinkerModel") (hr : meth.sig.returnType = some .int) (hlk : meth.locks = false) (hP58 : ∀ (x3 : Int) (x4 : Int) (σ : bS), bR x3 → bR x4 → bRG σ → P58 x3 x4 σ → bA p l e { frames := 2, cells := 0, slots := 0, locals := 47 } s m args below meth c 0 0 (bQi below args s G σ0 Q) G (va_A (bk_w G σ0) s.heap.size) 5 58 [(0, .ref (G.2.2 10)), (3, .int (bI x3)), (4, .int (bI x4))] [] σ) (ha1 : bR a1) (ha2 : bR a2) (ha3 : bR a3) (hσ : bRG σ) (h : eX9_flat Q P58 a1 a2 a3 σ) : bA p l e { frames := 2, cells := 0, slots := 0, locals := 47 } s m args below meth c 0 0 (bQi below args s G σ0 Q) G (va_A (bk_w G σ0) s.heap.size) 5 0 [(0, .ref (G.2.2 10)), (1, .int (bI a1)), (2, .int (bI a2)), (3, .int (bI a3))] [] σ := by
  unfold eX9_flat at h
  refine br_aload_n S 0 dX9_flat_0 rfl rfl ?_
  refine br_iconst S dX9_flat_1 ?_
  obtain ⟨σ1, e2⟩ : ∃ τ, τ = bup σ 10 0 0 := ⟨_, rfl⟩
  replace h := h σ1 e2
  have hσ1 : bRG σ1 := by rw [e2]; exact bup_rg hσ (by decide)
  refine br_put (f := 0) (N := 37) (C := RX9) (T := TX9) S tyX9 tyX9_ok nmX9 inT_X9 wd_3_234 (by decide) rfl (pf_10_0 _ _ _) rfl (by decide) (Nat.le_of_ble_eq_true rfl) rfl rfl rfl rfl dX9_flat_2 ?_
  refine bA.to rfl rfl e2.symm ?_
  refine br_aload_n S 0 dX9_flat_5 rfl rfl ?_
  refine br_iload_n S 1 dX9_flat_6 rfl rfl ?_
  refine br_callV (As := [.int (bI a1)]) (rest := []) S (cwV_X9_isRoutine S.2.2.2.2 wd_4_123 ⟨by decide, by decide⟩) (mX9_isRoutine l G σ1 a1 ha1 h) (by decide) rfl rfl rfl hσ1 rfl rfl (Nat.le_of_ble_eq_true rfl) ⟨by decide, by decide⟩ dX9_flat_7 (fun z3 σ4 hz3 hσ4 h => ?_)
  refine br_if_eq S 37 hz3 dX9_flat_10 (by decide) (fun c5 => ?_) (fun c5 => ?_)
  · replace h := h.1 c5
    refine br_bipush S dX9_flat_37 rfl ?_
    exact br_iret S hr hlk (by decide) hσ4 dX9_flat_39 h
  · replace h := h.2 c5
    refine br_iload_n S 2 dX9_flat_13 rfl rfl ?_
    refine br_i2l S ha2 dX9_flat_14 ?_
    refine br_lconst (z := 0) S dX9_flat_15 rfl ?_
    refine br_ldc2 (z := 255) S wd_4_132 rfl dX9_flat_16 ?_
    refine br_callS (As := [.long (bL a2), .long (bL 0), .long (bL 255)]) (rest := []) S (cwS_X9_in S.2.2.2.2 wd_4_111 ⟨by decide, by decide⟩) (mX9_in l G σ4 a2 ha2 0 (by decide) 255 (by decide) h) hσ4 rfl rfl (Nat.le_of_ble_eq_true rfl) ⟨by decide, by decide⟩ dX9_flat_19 (fun z6 σ7 hz6 hσ7 h => ?_)
    refine br_if_eq S 37 hz6 dX9_flat_22 (by decide) (fun c8 => ?_) (fun c8 => ?_)
    · replace h := h.1 c8
      refine br_bipush S dX9_flat_37 rfl ?_
      exact br_iret S hr hlk (by decide) hσ7 dX9_flat_39 h
    · replace h := h.2 c8
      refine br_iload_n S 3 dX9_flat_25 rfl rfl ?_
      refine br_i2l S ha3 dX9_flat_26 ?_
      refine br_lconst (z := 1) S dX9_flat_27 rfl ?_
      refine br_ldc2 (z := 3000) S wd_4_234 rfl dX9_flat_28 ?_
      refine br_callS (As := [.long (bL a3), .long (bL 1), .long (bL 3000)]) (rest := []) S (cwS_X9_in S.2.2.2.2 wd_4_111 ⟨by decide, by decide⟩) (mX9_in l G σ7 a3 ha3 1 (by decide) 3000 (by decide) h) hσ7 rfl rfl (Nat.le_of_ble_eq_true rfl) ⟨by decide, by decide⟩ dX9_flat_31 (fun z9 σ10 hz9 hσ10 h => ?_)
      refine br_if_ne S 40 hz9 dX9_flat_34 (by decide) (fun c11 => ?_) (fun c11 => ?_)
      · replace h := h.1 c11
        refine br_aload_n S 0 dX9_flat_40 rfl rfl ?_
        refine br_iconst S dX9_flat_41 ?_
        refine br_callVv (As := [.int (bI 1)]) (rest := []) S (cwV_X9_begin S.2.2.2.2 wd_4_235 ⟨by decide, by decide⟩) (mX9_begin l G σ10 1 (by decide) h) (by decide) rfl rfl rfl hσ10 rfl rfl (Nat.le_of_ble_eq_true rfl) ⟨by decide, by decide⟩ dX9_flat_42 (fun σ13 hσ13 h => ?_)
        refine br_aload_n S 0 dX9_flat_45 rfl rfl ?_
        refine br_iload_n S 2 dX9_flat_46 rfl rfl ?_
        obtain ⟨σ14, e15⟩ : ∃ τ, τ = bup σ13 10 31 a2 := ⟨_, rfl⟩
        replace h := h σ14 e15
        have hσ14 : bRG σ14 := by rw [e15]; exact bup_rg hσ13 ha2
        refine br_put (f := 31) (N := 37) (C := RX9) (T := TX9) S tyX9 tyX9_ok nmX9 inT_X9 wd_4_25 (by decide) rfl (pf_10_31 _ _ _) rfl (by decide) (Nat.le_of_ble_eq_true rfl) rfl rfl rfl rfl dX9_flat_47 ?_
        refine bA.to rfl rfl e15.symm ?_
        refine br_aload_n S 0 dX9_flat_50 rfl rfl ?_
        refine br_iload_n S 1 dX9_flat_51 rfl rfl ?_
        refine br_callVv (As := [.int (bI a1)]) (rest := []) S (cwV_X9_enter S.2.2.2.2 wd_5_19 ⟨by decide, by decide⟩) (mX9_enter l G σ14 a1 ha1 h) (by decide) rfl rfl rfl hσ14 rfl rfl (Nat.le_of_ble_eq_true rfl) ⟨by decide, by decide⟩ dX9_flat_52 (fun σ17 hσ17 h => ?_)
        refine br_iconst S dX9_flat_55 ?_
        refine br_istore S [(4, .int (bI 1)), (0, .ref (G.2.2 10)), (1, .int (bI a1)), (2, .int (bI a2)), (3, .int (bI a3))] dX9_flat_56 (by decide) rfl ?_
        exact bA.perm [1, 4, 0] rfl <| hP58 a3 1 σ17 ha3 (by decide) hσ17 h
      · replace h := h.2 c11
        refine br_bipush S dX9_flat_37 rfl ?_
        exact br_iret S hr hlk (by decide) hσ10 dX9_flat_39 h
def LX9_flat_58 (Q : Int → bS → Prop) (x3 : Int) (x4 : Int) (σ : bS) : Prop := ∀ (P58 : Int → Int → bS → Prop), (∀ x3 x4 σ, bX9_flat_58 Q P58 x3 x4 σ → P58 x3 x4 σ) → P58 x3 x4 σ
theorem LX9_flat_58_in {Q : Int → bS → Prop} {x3 : Int} {x4 : Int} {σ : bS} (h : bX9_flat_58 Q (LX9_flat_58 Q) x3 x4 σ) : LX9_flat_58 Q x3 x4 σ := fun P58 H58 => H58 _ _ _ (mono_bX9_flat_58 (fun _ _ h => h) (fun _ _ _ h => h P58 H58) h)
theorem mono_LX9_flat_58 {Q Q9 : Int → bS → Prop} {x3 : Int} {x4 : Int} {σ : bS} (hQ : ∀ r σ, Q r σ → Q9 r σ) (h : LX9_flat_58 Q x3 x4 σ) : LX9_flat_58 Q9 x3 x4 σ := fun P58 H58 => h P58 (fun _ _ _ hb => H58 _ _ _ (mono_bX9_flat_58 hQ (fun _ _ _ h => h) hb))
def vX9_flat (Q : Int → bS → Prop) (a1 : Int) (a2 : Int) (a3 : Int) (σ : bS) : Prop := eX9_flat Q (LX9_flat_58 Q) a1 a2 a3 σ
theorem mono_vX9_flat {Q Q9 : Int → bS → Prop} {a1 : Int} {a2 : Int} {a3 : Int} {σ : bS} (hQ : ∀ r σ, Q r σ → Q9 r σ) : vX9_flat Q a1 a2 a3 σ → vX9_flat Q9 a1 a2 a3 σ := mono_eX9_flat hQ (fun _ _ _ h => mono_LX9_flat_58 hQ h)
theorem mono_X9_flat {Q Q9 : Int → bS → Prop} {a1 : Int} {a2 : Int} {a3 : Int} {σ : bS} (hQ : ∀ r σ, Q r σ → Q9 r σ) : vX9_flat Q a1 a2 a3 σ → vX9_flat Q9 a1 a2 a3 σ := mono_vX9_flat hQ
theorem mX9_flat (l : Launch) (G : bG) (σ : bS) (a1 : Int) (ha1 : bR a1) (a2 : Int) (ha2 : bR a2) (a3 : Int) (ha3 : bR a3) {Q : Int → bS → Prop} (h : vX9_flat Q a1 a2 a3 σ) : bk_Mi l yX9_flat (Cond.code yX9_flat cX9_flat 5 (some .int) :: bT) { frames := 2, cells := 0, slots := 0, locals := 47 } G σ [.ref (G.2.2 10), .int (bI a1), .int (bI a2), .int (bI a3)] Q := by
  refine bk_Mi.of (cc := cX9_flat) (maxL := 5) (ret := some .int) (by decide) rfl (Nat.le_of_ble_eq_true rfl) ?_
  intro p e s m args below meth c S hr hlk hσ
  let K58 : Int → Int → bS → Prop := fun x3 x4 τ => bR x3 → bR x4 → bRG τ → bA p l e { frames := 2, cells := 0, slots := 0, locals := 47 } s m args below meth c 0 0 (bQi below args s G σ Q) G (va_A (bk_w G σ) s.heap.size) 5 58 [(0, .ref (G.2.2 10)), (3, .int (bI x3)), (4, .int (bI x4))] [] τ
  have C58 : ∀ x3 x4 τ, bX9_flat_58 Q K58 x3 x4 τ → K58 x3 x4 τ := fun x3 x4 τ hb hx3 hx4 hτ => wX9_flat_58 S hr hlk (fun x3 x4 σ hx3 hx4 hσ h => h hx3 hx4 hσ) hx3 hx4 hτ hb
  exact wX9_flat_e S hr hlk (fun x3 x4 σ hx3 hx4 hσ h => h K58 C58 hx3 hx4 hσ) ha1 ha2 ha3 hσ h

def vX8_module_12 (Q : Int → bS → Prop) (x1 : Int) (σ : bS) : Prop := (((σ 1 0) < 12 → (∀ σ2 : bS, σ2 = bup σ 0 7 0 → (vX6_addModule (fun z4 σ5 => (Q z4 σ5)) x1 σ2))) ∧ (¬ (σ 1 0) < 12 → (Q (-4) σ)))
theorem mono_vX8_module_12 {Q Q9 : Int → bS → Prop} {x1 : Int} {σ : bS} (hQ : ∀ r σ, Q r σ → Q9 r σ) : vX8_module_12 Q x1 σ → vX8_module_12 Q9 x1 σ := (bm_and (bm_imp (bm_all fun _ => bm_imp (mono_X6_addModule (fun _ _ => (hQ _ _))))) (bm_imp (hQ _ _)))
theorem wX8_module_12 {p : Program} {l : Launch} {e : Env} {s : State} {m : MethodId} {args : Array Value} {below : List Frame} {meth : Method} {c : Code} {G : bG} {σ0 : bS} {Q : Int → bS → Prop} {x1 : Int} {σ : bS} (S : CallFix p m c cX8_module 2 s args bT "BankLinker") (hr : meth.sig.returnType = some .int) (hlk : meth.locks = false) (hx1 : bR x1) (hσ : bRG σ) (h : vX8_module_12 Q x1 σ) : bA p l e { frames := 1, cells := 0, slots := 0, locals := 21 } s m args below meth c 0 0 (bQi below args s G σ0 Q) G (va_A (bk_w G σ0) s.heap.size) 2 12 [(0, .ref (G.2.2 0)), (1, .int (bI x1))] [] σ := by
  unfold vX8_module_12 at h
  refine br_aload_n S 0 dX8_module_12 rfl rfl ?_
  refine br_get (f := 0) (N := 8) (C := RX8) (T := TX8) S inT_X8 wd_2_63 (by decide) rfl rfl (by decide) rfl dX8_module_13 ?_
  refine br_get (f := 0) (N := 9) (C := RX6) (T := TX6) S inT_X6 wd_1_37 (by decide) rfl rfl (by decide) rfl dX8_module_16 ?_
  refine br_bipush S dX8_module_19 rfl ?_
  refine br_ic_lt S 27 (hσ 1 0) (by decide) dX8_module_21 (by decide) (fun c1 => ?_) (fun c1 => ?_)
  · replace h := h.1 c1
    refine br_aload_n S 0 dX8_module_27 rfl rfl ?_
    refine br_iconst S dX8_module_28 ?_
    obtain ⟨σ2, e3⟩ : ∃ τ, τ = bup σ 0 7 0 := ⟨_, rfl⟩
    replace h := h σ2 e3
    have hσ2 : bRG σ2 := by rw [e3]; exact bup_rg hσ (by decide)
    refine br_put (f := 7) (N := 8) (C := RX8) (T := TX8) S tyX8 tyX8_ok nmX8 inT_X8 wd_2_70 (by decide) rfl (pf_0_7 _ _ _) rfl (by decide) (Nat.le_of_ble_eq_true rfl) rfl rfl (bk_nar (by decide)) (bk_fit (by decide)) dX8_module_29 ?_
    refine bA.to rfl rfl e3.symm ?_
    refine br_aload_n S 0 dX8_module_32 rfl rfl ?_
    refine br_get (f := 0) (N := 8) (C := RX8) (T := TX8) S inT_X8 wd_2_63 (by decide) rfl rfl (by decide) rfl dX8_module_33 ?_
    refine br_iload_n S 1 dX8_module_36 rfl rfl ?_
    refine br_callV (As := [.int (bI x1)]) (rest := []) S (cwV_X6_addModule S.2.2.2.2 wd_2_92 ⟨by decide, by decide⟩) (mX6_addModule l G σ2 x1 hx1 h) (by decide) rfl rfl rfl hσ2 rfl rfl (Nat.le_of_ble_eq_true rfl) ⟨by decide, by decide⟩ dX8_module_37 (fun z4 σ5 hz4 hσ5 h => ?_)
    exact br_iret S hr hlk hz4 hσ5 dX8_module_40 h
  · replace h := h.2 c1
    refine br_bipush S dX8_module_24 rfl ?_
    exact br_iret S hr hlk (by decide) hσ dX8_module_26 h
def vX8_module (Q : Int → bS → Prop) (a1 : Int) (σ : bS) : Prop := ((a1 = 0 → (vX8_module_12 Q a1 σ)) ∧ (¬ a1 = 0 → ((a1 = 1 → (vX8_module_12 Q a1 σ)) ∧ (¬ a1 = 1 → (Q (-2) σ)))))
theorem mono_vX8_module {Q Q9 : Int → bS → Prop} {a1 : Int} {σ : bS} (hQ : ∀ r σ, Q r σ → Q9 r σ) : vX8_module Q a1 σ → vX8_module Q9 a1 σ := (bm_and (bm_imp (mono_vX8_module_12 hQ)) (bm_imp (bm_and (bm_imp (mono_vX8_module_12 hQ)) (bm_imp (hQ _ _)))))
theorem wX8_module_e {p : Program} {l : Launch} {e : Env} {s : State} {m : MethodId} {args : Array Value} {below : List Frame} {meth : Method} {c : Code} {G : bG} {σ0 : bS} {Q : Int → bS → Prop} {a1 : Int} {σ : bS} (S : CallFix p m c cX8_module 2 s args bT "BankLinker") (hr : meth.sig.returnType = some .int) (hlk : meth.locks = false) (ha1 : bR a1) (hσ : bRG σ) (h : vX8_module Q a1 σ) : bA p l e { frames := 1, cells := 0, slots := 0, locals := 21 } s m args below meth c 0 0 (bQi below args s G σ0 Q) G (va_A (bk_w G σ0) s.heap.size) 2 0 [(0, .ref (G.2.2 0)), (1, .int (bI a1))] [] σ := by
  unfold vX8_module at h
  refine br_iload_n S 1 dX8_module_0 rfl rfl ?_
  refine br_if_eq S 12 ha1 dX8_module_1 (by decide) (fun c1 => ?_) (fun c1 => ?_)
  · replace h := h.1 c1
    exact wX8_module_12 S hr hlk ha1 hσ h
  · replace h := h.2 c1
    refine br_iload_n S 1 dX8_module_4 rfl rfl ?_
    refine br_iconst S dX8_module_5 ?_
    refine br_ic_eq S 12 ha1 (by decide) dX8_module_6 (by decide) (fun c2 => ?_) (fun c2 => ?_)
    · replace h := h.1 c2
      exact wX8_module_12 S hr hlk ha1 hσ h
    · replace h := h.2 c2
      refine br_bipush S dX8_module_9 rfl ?_
      exact br_iret S hr hlk (by decide) hσ dX8_module_11 h
theorem mono_X8_module {Q Q9 : Int → bS → Prop} {a1 : Int} {σ : bS} (hQ : ∀ r σ, Q r σ → Q9 r σ) : vX8_module Q a1 σ → vX8_module Q9 a1 σ := mono_vX8_module hQ
theorem mX8_module (l : Launch) (G : bG) (σ : bS) (a1 : Int) (ha1 : bR a1) {Q : Int → bS → Prop} (h : vX8_module Q a1 σ) : bk_Mi l yX8_module (Cond.code yX8_module cX8_module 2 (some .int) :: bT) { frames := 1, cells := 0, slots := 0, locals := 21 } G σ [.ref (G.2.2 0), .int (bI a1)] Q := by
  refine bk_Mi.of (cc := cX8_module) (maxL := 2) (ret := some .int) (by decide) rfl (Nat.le_of_ble_eq_true rfl) ?_
  intro p e s m args below meth c S hr hlk hσ
  exact wX8_module_e S hr hlk ha1 hσ h
def vX8_routine (Q : Int → bS → Prop) (a1 : Int) (a2 : Int) (σ : bS) : Prop := (vX6_hasModule (fun z1 σ2 => ((z1 = 0 → (Q (-2) σ2)) ∧ (¬ z1 = 0 → ((a2 < 0 → (Q (-2) σ2)) ∧ (¬ a2 < 0 → ((a2 ≤ 9 → (((σ2 1 2) < 30 → (∀ σ7 : bS, σ7 = bup σ2 0 7 0 → (vX6_addRoutine (fun z9 σ10 => (Q z9 σ10)) a1 a2 σ7))) ∧ (¬ (σ2 1 2) < 30 → (Q (-4) σ2)))) ∧ (¬ a2 ≤ 9 → (Q (-2) σ2)))))))) a1 σ)
theorem mono_vX8_routine {Q Q9 : Int → bS → Prop} {a1 : Int} {a2 : Int} {σ : bS} (hQ : ∀ r σ, Q r σ → Q9 r σ) : vX8_routine Q a1 a2 σ → vX8_routine Q9 a1 a2 σ := (mono_X6_hasModule (fun _ _ => (bm_and (bm_imp (hQ _ _)) (bm_imp (bm_and (bm_imp (hQ _ _)) (bm_imp (bm_and (bm_imp (bm_and (bm_imp (bm_all fun _ => bm_imp (mono_X6_addRoutine (fun _ _ => (hQ _ _))))) (bm_imp (hQ _ _)))) (bm_imp (hQ _ _)))))))))
theorem wX8_routine_e {p : Program} {l : Launch} {e : Env} {s : State} {m : MethodId} {args : Array Value} {below : List Frame} {meth : Method} {c : Code} {G : bG} {σ0 : bS} {Q : Int → bS → Prop} {a1 : Int} {a2 : Int} {σ : bS} (S : CallFix p m c cX8_routine 3 s args bT "BankLinker") (hr : meth.sig.returnType = some .int) (hlk : meth.locks = false) (ha1 : bR a1) (ha2 : bR a2) (hσ : bRG σ) (h : vX8_routine Q a1 a2 σ) : bA p l e { frames := 1, cells := 0, slots := 0, locals := 22 } s m args below meth c 0 0 (bQi below args s G σ0 Q) G (va_A (bk_w G σ0) s.heap.size) 3 0 [(0, .ref (G.2.2 0)), (1, .int (bI a1)), (2, .int (bI a2))] [] σ := by
  unfold vX8_routine at h
  refine br_aload_n S 0 dX8_routine_0 rfl rfl ?_
  refine br_get (f := 0) (N := 8) (C := RX8) (T := TX8) S inT_X8 wd_2_63 (by decide) rfl rfl (by decide) rfl dX8_routine_1 ?_
  refine br_iload_n S 1 dX8_routine_4 rfl rfl ?_
  refine br_callV (As := [.int (bI a1)]) (rest := []) S (cwV_X6_hasModule S.2.2.2.2 wd_2_100 ⟨by decide, by decide⟩) (mX6_hasModule l G σ a1 ha1 h) (by decide) rfl rfl rfl hσ rfl rfl (Nat.le_of_ble_eq_true rfl) ⟨by decide, by decide⟩ dX8_routine_5 (fun z1 σ2 hz1 hσ2 h => ?_)
  refine br_if_eq S 21 hz1 dX8_routine_8 (by decide) (fun c3 => ?_) (fun c3 => ?_)
  · replace h := h.1 c3
    refine br_bipush S dX8_routine_21 rfl ?_
    exact br_iret S hr hlk (by decide) hσ2 dX8_routine_23 h
  · replace h := h.2 c3
    refine br_iload_n S 2 dX8_routine_11 rfl rfl ?_
    refine br_if_lt S 21 ha2 dX8_routine_12 (by decide) (fun c4 => ?_) (fun c4 => ?_)
    · replace h := h.1 c4
      refine br_bipush S dX8_routine_21 rfl ?_
      exact br_iret S hr hlk (by decide) hσ2 dX8_routine_23 h
    · replace h := h.2 c4
      refine br_iload_n S 2 dX8_routine_15 rfl rfl ?_
      refine br_bipush S dX8_routine_16 rfl ?_
      refine br_ic_le S 24 ha2 (by decide) dX8_routine_18 (by decide) (fun c5 => ?_) (fun c5 => ?_)
      · replace h := h.1 c5
        refine br_aload_n S 0 dX8_routine_24 rfl rfl ?_
        refine br_get (f := 0) (N := 8) (C := RX8) (T := TX8) S inT_X8 wd_2_63 (by decide) rfl rfl (by decide) rfl dX8_routine_25 ?_
        refine br_get (f := 2) (N := 9) (C := RX6) (T := TX6) S inT_X6 wd_1_46 (by decide) rfl rfl (by decide) rfl dX8_routine_28 ?_
        refine br_bipush S dX8_routine_31 rfl ?_
        refine br_ic_lt S 39 (hσ2 1 2) (by decide) dX8_routine_33 (by decide) (fun c6 => ?_) (fun c6 => ?_)
        · replace h := h.1 c6
          refine br_aload_n S 0 dX8_routine_39 rfl rfl ?_
          refine br_iconst S dX8_routine_40 ?_
          obtain ⟨σ7, e8⟩ : ∃ τ, τ = bup σ2 0 7 0 := ⟨_, rfl⟩
          replace h := h σ7 e8
          have hσ7 : bRG σ7 := by rw [e8]; exact bup_rg hσ2 (by decide)
          refine br_put (f := 7) (N := 8) (C := RX8) (T := TX8) S tyX8 tyX8_ok nmX8 inT_X8 wd_2_70 (by decide) rfl (pf_0_7 _ _ _) rfl (by decide) (Nat.le_of_ble_eq_true rfl) rfl rfl (bk_nar (by decide)) (bk_fit (by decide)) dX8_routine_41 ?_
          refine bA.to rfl rfl e8.symm ?_
          refine br_aload_n S 0 dX8_routine_44 rfl rfl ?_
          refine br_get (f := 0) (N := 8) (C := RX8) (T := TX8) S inT_X8 wd_2_63 (by decide) rfl rfl (by decide) rfl dX8_routine_45 ?_
          refine br_iload_n S 1 dX8_routine_48 rfl rfl ?_
          refine br_iload_n S 2 dX8_routine_49 rfl rfl ?_
          refine br_callV (As := [.int (bI a1), .int (bI a2)]) (rest := []) S (cwV_X6_addRoutine S.2.2.2.2 wd_2_104 ⟨by decide, by decide⟩) (mX6_addRoutine l G σ7 a1 ha1 a2 ha2 h) (by decide) rfl rfl rfl hσ7 rfl rfl (Nat.le_of_ble_eq_true rfl) ⟨by decide, by decide⟩ dX8_routine_50 (fun z9 σ10 hz9 hσ10 h => ?_)
          exact br_iret S hr hlk hz9 hσ10 dX8_routine_53 h
        · replace h := h.2 c6
          refine br_bipush S dX8_routine_36 rfl ?_
          exact br_iret S hr hlk (by decide) hσ2 dX8_routine_38 h
      · replace h := h.2 c5
        refine br_bipush S dX8_routine_21 rfl ?_
        exact br_iret S hr hlk (by decide) hσ2 dX8_routine_23 h
theorem mono_X8_routine {Q Q9 : Int → bS → Prop} {a1 : Int} {a2 : Int} {σ : bS} (hQ : ∀ r σ, Q r σ → Q9 r σ) : vX8_routine Q a1 a2 σ → vX8_routine Q9 a1 a2 σ := mono_vX8_routine hQ
theorem mX8_routine (l : Launch) (G : bG) (σ : bS) (a1 : Int) (ha1 : bR a1) (a2 : Int) (ha2 : bR a2) {Q : Int → bS → Prop} (h : vX8_routine Q a1 a2 σ) : bk_Mi l yX8_routine (Cond.code yX8_routine cX8_routine 3 (some .int) :: bT) { frames := 1, cells := 0, slots := 0, locals := 22 } G σ [.ref (G.2.2 0), .int (bI a1), .int (bI a2)] Q := by
  refine bk_Mi.of (cc := cX8_routine) (maxL := 3) (ret := some .int) (by decide) rfl (Nat.le_of_ble_eq_true rfl) ?_
  intro p e s m args below meth c S hr hlk hσ
  exact wX8_routine_e S hr hlk ha1 ha2 hσ h
def vX8_op (Q : Int → bS → Prop) (a1 : Int) (a2 : Int) (a3 : Int) (σ : bS) : Prop := (vX6_hasRoutine (fun z1 σ2 => ((z1 = 0 → (Q (-2) σ2)) ∧ (¬ z1 = 0 → (vX6_mayAdd (fun z4 σ5 => ((¬ z4 = 0 → ((0 ≤ a1 ∧ a1 < 30) ∧ (((σ5 16 a1) < 40 → (∀ σ9 : bS, σ9 = bup σ5 0 7 0 → (vX6_addOp (fun z11 σ12 => (Q z11 σ12)) a1 a2 a3 σ9))) ∧ (¬ (σ5 16 a1) < 40 → (Q (-4) σ5))))) ∧ (z4 = 0 → (Q (-2) σ5)))) a1 a2 a3 σ2)))) a1 σ)
theorem mono_vX8_op {Q Q9 : Int → bS → Prop} {a1 : Int} {a2 : Int} {a3 : Int} {σ : bS} (hQ : ∀ r σ, Q r σ → Q9 r σ) : vX8_op Q a1 a2 a3 σ → vX8_op Q9 a1 a2 a3 σ := (mono_X6_hasRoutine (fun _ _ => (bm_and (bm_imp (hQ _ _)) (bm_imp (mono_X6_mayAdd (fun _ _ => (bm_and (bm_imp (bm_r (bm_and (bm_imp (bm_all fun _ => bm_imp (mono_X6_addOp (fun _ _ => (hQ _ _))))) (bm_imp (hQ _ _))))) (bm_imp (hQ _ _)))))))))
theorem wX8_op_e {p : Program} {l : Launch} {e : Env} {s : State} {m : MethodId} {args : Array Value} {below : List Frame} {meth : Method} {c : Code} {G : bG} {σ0 : bS} {Q : Int → bS → Prop} {a1 : Int} {a2 : Int} {a3 : Int} {σ : bS} (S : CallFix p m c cX8_op 4 s args bT "BankLinker") (hr : meth.sig.returnType = some .int) (hlk : meth.locks = false) (ha1 : bR a1) (ha2 : bR a2) (ha3 : bR a3) (hσ : bRG σ) (h : vX8_op Q a1 a2 a3 σ) : bA p l e { frames := 2, cells := 0, slots := 0, locals := 44 } s m args below meth c 0 0 (bQi below args s G σ0 Q) G (va_A (bk_w G σ0) s.heap.size) 4 0 [(0, .ref (G.2.2 0)), (1, .int (bI a1)), (2, .int (bI a2)), (3, .int (bI a3))] [] σ := by
  unfold vX8_op at h
  refine br_aload_n S 0 dX8_op_0 rfl rfl ?_
  refine br_get (f := 0) (N := 8) (C := RX8) (T := TX8) S inT_X8 wd_2_63 (by decide) rfl rfl (by decide) rfl dX8_op_1 ?_
  refine br_iload_n S 1 dX8_op_4 rfl rfl ?_
  refine br_callV (As := [.int (bI a1)]) (rest := []) S (cwV_X6_hasRoutine S.2.2.2.2 wd_2_112 ⟨by decide, by decide⟩) (mX6_hasRoutine l G σ a1 ha1 h) (by decide) rfl rfl rfl hσ rfl rfl (Nat.le_of_ble_eq_true rfl) ⟨by decide, by decide⟩ dX8_op_5 (fun z1 σ2 hz1 hσ2 h => ?_)
  refine br_if_eq S 24 hz1 dX8_op_8 (by decide) (fun c3 => ?_) (fun c3 => ?_)
  · replace h := h.1 c3
    refine br_bipush S dX8_op_24 rfl ?_
    exact br_iret S hr hlk (by decide) hσ2 dX8_op_26 h
  · replace h := h.2 c3
    refine br_aload_n S 0 dX8_op_11 rfl rfl ?_
    refine br_get (f := 0) (N := 8) (C := RX8) (T := TX8) S inT_X8 wd_2_63 (by decide) rfl rfl (by decide) rfl dX8_op_12 ?_
    refine br_iload_n S 1 dX8_op_15 rfl rfl ?_
    refine br_iload_n S 2 dX8_op_16 rfl rfl ?_
    refine br_iload_n S 3 dX8_op_17 rfl rfl ?_
    refine br_callV (As := [.int (bI a1), .int (bI a2), .int (bI a3)]) (rest := []) S (cwV_X6_mayAdd S.2.2.2.2 wd_2_116 ⟨by decide, by decide⟩) (mX6_mayAdd l G σ2 a1 ha1 a2 ha2 a3 ha3 h) (by decide) rfl rfl rfl hσ2 rfl rfl (Nat.le_of_ble_eq_true rfl) ⟨by decide, by decide⟩ dX8_op_18 (fun z4 σ5 hz4 hσ5 h => ?_)
    refine br_if_ne S 27 hz4 dX8_op_21 (by decide) (fun c6 => ?_) (fun c6 => ?_)
    · replace h := h.1 c6
      refine br_aload_n S 0 dX8_op_27 rfl rfl ?_
      refine br_get (f := 0) (N := 8) (C := RX8) (T := TX8) S inT_X8 wd_2_63 (by decide) rfl rfl (by decide) rfl dX8_op_28 ?_
      refine br_get (f := 5) (N := 9) (C := RX6) (T := TX6) S inT_X6 wd_1_57 (by decide) rfl rfl (by decide) rfl dX8_op_31 ?_
      refine br_iload_n S 1 dX8_op_34 rfl rfl ?_
      obtain ⟨g7, h⟩ := h
      refine br_iald (n := 30) S ⟨by decide, by decide, fun _ => rfl⟩ g7.1 g7.2 dX8_op_35 ?_
      refine br_bipush S dX8_op_36 rfl ?_
      refine br_ic_lt S 44 (hσ5 16 a1) (by decide) dX8_op_38 (by decide) (fun c8 => ?_) (fun c8 => ?_)
      · replace h := h.1 c8
        refine br_aload_n S 0 dX8_op_44 rfl rfl ?_
        refine br_iconst S dX8_op_45 ?_
        obtain ⟨σ9, e10⟩ : ∃ τ, τ = bup σ5 0 7 0 := ⟨_, rfl⟩
        replace h := h σ9 e10
        have hσ9 : bRG σ9 := by rw [e10]; exact bup_rg hσ5 (by decide)
        refine br_put (f := 7) (N := 8) (C := RX8) (T := TX8) S tyX8 tyX8_ok nmX8 inT_X8 wd_2_70 (by decide) rfl (pf_0_7 _ _ _) rfl (by decide) (Nat.le_of_ble_eq_true rfl) rfl rfl (bk_nar (by decide)) (bk_fit (by decide)) dX8_op_46 ?_
        refine bA.to rfl rfl e10.symm ?_
        refine br_aload_n S 0 dX8_op_49 rfl rfl ?_
        refine br_get (f := 0) (N := 8) (C := RX8) (T := TX8) S inT_X8 wd_2_63 (by decide) rfl rfl (by decide) rfl dX8_op_50 ?_
        refine br_iload_n S 1 dX8_op_53 rfl rfl ?_
        refine br_iload_n S 2 dX8_op_54 rfl rfl ?_
        refine br_iload_n S 3 dX8_op_55 rfl rfl ?_
        refine br_callV (As := [.int (bI a1), .int (bI a2), .int (bI a3)]) (rest := []) S (cwV_X6_addOp S.2.2.2.2 wd_2_121 ⟨by decide, by decide⟩) (mX6_addOp l G σ9 a1 ha1 a2 ha2 a3 ha3 h) (by decide) rfl rfl rfl hσ9 rfl rfl (Nat.le_of_ble_eq_true rfl) ⟨by decide, by decide⟩ dX8_op_56 (fun z11 σ12 hz11 hσ12 h => ?_)
        exact br_iret S hr hlk hz11 hσ12 dX8_op_59 h
      · replace h := h.2 c8
        refine br_bipush S dX8_op_41 rfl ?_
        exact br_iret S hr hlk (by decide) hσ5 dX8_op_43 h
    · replace h := h.2 c6
      refine br_bipush S dX8_op_24 rfl ?_
      exact br_iret S hr hlk (by decide) hσ5 dX8_op_26 h
theorem mono_X8_op {Q Q9 : Int → bS → Prop} {a1 : Int} {a2 : Int} {a3 : Int} {σ : bS} (hQ : ∀ r σ, Q r σ → Q9 r σ) : vX8_op Q a1 a2 a3 σ → vX8_op Q9 a1 a2 a3 σ := mono_vX8_op hQ
theorem mX8_op (l : Launch) (G : bG) (σ : bS) (a1 : Int) (ha1 : bR a1) (a2 : Int) (ha2 : bR a2) (a3 : Int) (ha3 : bR a3) {Q : Int → bS → Prop} (h : vX8_op Q a1 a2 a3 σ) : bk_Mi l yX8_op (Cond.code yX8_op cX8_op 4 (some .int) :: bT) { frames := 2, cells := 0, slots := 0, locals := 44 } G σ [.ref (G.2.2 0), .int (bI a1), .int (bI a2), .int (bI a3)] Q := by
  refine bk_Mi.of (cc := cX8_op) (maxL := 4) (ret := some .int) (by decide) rfl (Nat.le_of_ble_eq_true rfl) ?_
  intro p e s m args below meth c S hr hlk hσ
  exact wX8_op_e S hr hlk ha1 ha2 ha3 hσ h
def vX8_drop (Q : Int → bS → Prop) (a1 : Int) (σ : bS) : Prop := (vX6_hasRoutine (fun z1 σ2 => ((¬ z1 = 0 → ((0 ≤ a1 ∧ a1 < 30) ∧ ((0 < (σ2 16 a1) → (∀ σ6 : bS, σ6 = bup σ2 0 7 0 → (bR ((σ6 16 a1) - 1) ∧ (∀ σ9 : bS, σ9 = bup σ6 16 a1 ((σ6 16 a1) - 1) → (Q (σ9 16 a1) σ9))))) ∧ (¬ 0 < (σ2 16 a1) → (Q (-1) σ2))))) ∧ (z1 = 0 → (Q (-2) σ2)))) a1 σ)
theorem mono_vX8_drop {Q Q9 : Int → bS → Prop} {a1 : Int} {σ : bS} (hQ : ∀ r σ, Q r σ → Q9 r σ) : vX8_drop Q a1 σ → vX8_drop Q9 a1 σ := (mono_X6_hasRoutine (fun _ _ => (bm_and (bm_imp (bm_r (bm_and (bm_imp (bm_all fun _ => bm_imp (bm_r (bm_all fun _ => bm_imp (hQ _ _))))) (bm_imp (hQ _ _))))) (bm_imp (hQ _ _)))))
theorem wX8_drop_e {p : Program} {l : Launch} {e : Env} {s : State} {m : MethodId} {args : Array Value} {below : List Frame} {meth : Method} {c : Code} {G : bG} {σ0 : bS} {Q : Int → bS → Prop} {a1 : Int} {σ : bS} (S : CallFix p m c cX8_drop 2 s args bT "BankLinker") (hr : meth.sig.returnType = some .int) (hlk : meth.locks = false) (ha1 : bR a1) (hσ : bRG σ) (h : vX8_drop Q a1 σ) : bA p l e { frames := 1, cells := 0, slots := 0, locals := 21 } s m args below meth c 0 0 (bQi below args s G σ0 Q) G (va_A (bk_w G σ0) s.heap.size) 2 0 [(0, .ref (G.2.2 0)), (1, .int (bI a1))] [] σ := by
  unfold vX8_drop at h
  refine br_aload_n S 0 dX8_drop_0 rfl rfl ?_
  refine br_get (f := 0) (N := 8) (C := RX8) (T := TX8) S inT_X8 wd_2_63 (by decide) rfl rfl (by decide) rfl dX8_drop_1 ?_
  refine br_iload_n S 1 dX8_drop_4 rfl rfl ?_
  refine br_callV (As := [.int (bI a1)]) (rest := []) S (cwV_X6_hasRoutine S.2.2.2.2 wd_2_112 ⟨by decide, by decide⟩) (mX6_hasRoutine l G σ a1 ha1 h) (by decide) rfl rfl rfl hσ rfl rfl (Nat.le_of_ble_eq_true rfl) ⟨by decide, by decide⟩ dX8_drop_5 (fun z1 σ2 hz1 hσ2 h => ?_)
  refine br_if_ne S 14 hz1 dX8_drop_8 (by decide) (fun c3 => ?_) (fun c3 => ?_)
  · replace h := h.1 c3
    refine br_aload_n S 0 dX8_drop_14 rfl rfl ?_
    refine br_get (f := 0) (N := 8) (C := RX8) (T := TX8) S inT_X8 wd_2_63 (by decide) rfl rfl (by decide) rfl dX8_drop_15 ?_
    refine br_get (f := 5) (N := 9) (C := RX6) (T := TX6) S inT_X6 wd_1_57 (by decide) rfl rfl (by decide) rfl dX8_drop_18 ?_
    refine br_iload_n S 1 dX8_drop_21 rfl rfl ?_
    obtain ⟨g4, h⟩ := h
    refine br_iald (n := 30) S ⟨by decide, by decide, fun _ => rfl⟩ g4.1 g4.2 dX8_drop_22 ?_
    refine br_if_gt S 28 (hσ2 16 a1) dX8_drop_23 (by decide) (fun c5 => ?_) (fun c5 => ?_)
    · replace h := h.1 c5
      refine br_aload_n S 0 dX8_drop_28 rfl rfl ?_
      refine br_iconst S dX8_drop_29 ?_
      obtain ⟨σ6, e7⟩ : ∃ τ, τ = bup σ2 0 7 0 := ⟨_, rfl⟩
      replace h := h σ6 e7
      have hσ6 : bRG σ6 := by rw [e7]; exact bup_rg hσ2 (by decide)
      refine br_put (f := 7) (N := 8) (C := RX8) (T := TX8) S tyX8 tyX8_ok nmX8 inT_X8 wd_2_70 (by decide) rfl (pf_0_7 _ _ _) rfl (by decide) (Nat.le_of_ble_eq_true rfl) rfl rfl (bk_nar (by decide)) (bk_fit (by decide)) dX8_drop_30 ?_
      refine bA.to rfl rfl e7.symm ?_
      refine br_aload_n S 0 dX8_drop_33 rfl rfl ?_
      refine br_get (f := 0) (N := 8) (C := RX8) (T := TX8) S inT_X8 wd_2_63 (by decide) rfl rfl (by decide) rfl dX8_drop_34 ?_
      refine br_get (f := 5) (N := 9) (C := RX6) (T := TX6) S inT_X6 wd_1_57 (by decide) rfl rfl (by decide) rfl dX8_drop_37 ?_
      refine br_iload_n S 1 dX8_drop_40 rfl rfl ?_
      refine br_dup2 S dX8_drop_41 rfl rfl ?_
      refine br_iald (n := 30) S ⟨by decide, by decide, fun _ => rfl⟩ g4.1 g4.2 dX8_drop_42 ?_
      refine br_iconst S dX8_drop_43 ?_
      refine br_isub S dX8_drop_44 ?_
      obtain ⟨g8, h⟩ := h
      obtain ⟨σ9, e10⟩ : ∃ τ, τ = bup σ6 16 a1 ((σ6 16 a1) - 1) := ⟨_, rfl⟩
      replace h := h σ9 e10
      have hσ9 : bRG σ9 := by rw [e10]; exact bup_rg hσ6 g8
      refine br_iast (n := 30) S ⟨by decide, by decide, fun _ => rfl⟩ g4.1 g4.2 dX8_drop_45 ?_
      refine bA.to rfl rfl e10.symm ?_
      refine br_aload_n S 0 dX8_drop_46 rfl rfl ?_
      refine br_get (f := 0) (N := 8) (C := RX8) (T := TX8) S inT_X8 wd_2_63 (by decide) rfl rfl (by decide) rfl dX8_drop_47 ?_
      refine br_get (f := 5) (N := 9) (C := RX6) (T := TX6) S inT_X6 wd_1_57 (by decide) rfl rfl (by decide) rfl dX8_drop_50 ?_
      refine br_iload_n S 1 dX8_drop_53 rfl rfl ?_
      refine br_iald (n := 30) S ⟨by decide, by decide, fun _ => rfl⟩ g4.1 g4.2 dX8_drop_54 ?_
      exact br_iret S hr hlk (hσ9 16 a1) hσ9 dX8_drop_55 h
    · replace h := h.2 c5
      refine br_iconst S dX8_drop_26 ?_
      exact br_iret S hr hlk (by decide) hσ2 dX8_drop_27 h
  · replace h := h.2 c3
    refine br_bipush S dX8_drop_11 rfl ?_
    exact br_iret S hr hlk (by decide) hσ2 dX8_drop_13 h
theorem mono_X8_drop {Q Q9 : Int → bS → Prop} {a1 : Int} {σ : bS} (hQ : ∀ r σ, Q r σ → Q9 r σ) : vX8_drop Q a1 σ → vX8_drop Q9 a1 σ := mono_vX8_drop hQ
theorem mX8_drop (l : Launch) (G : bG) (σ : bS) (a1 : Int) (ha1 : bR a1) {Q : Int → bS → Prop} (h : vX8_drop Q a1 σ) : bk_Mi l yX8_drop (Cond.code yX8_drop cX8_drop 2 (some .int) :: bT) { frames := 1, cells := 0, slots := 0, locals := 21 } G σ [.ref (G.2.2 0), .int (bI a1)] Q := by
  refine bk_Mi.of (cc := cX8_drop) (maxL := 2) (ret := some .int) (by decide) rfl (Nat.le_of_ble_eq_true rfl) ?_
  intro p e s m args below meth c S hr hlk hσ
  exact wX8_drop_e S hr hlk ha1 hσ h
def vX8_limit (Q : Int → bS → Prop) (a1 : Int) (a2 : Int) (σ : bS) : Prop := ((a1 < 0 → (Q (-2) σ)) ∧ (¬ a1 < 0 → ((a1 < 5 → ((0 ≤ a1 ∧ a1 < 5) ∧ ((a2 < (bk_t1 a1) → (Q (-2) σ)) ∧ (¬ a2 < (bk_t1 a1) → ((a2 ≤ (bk_t2 a1) → (∀ σ6 : bS, σ6 = bup σ 0 7 0 → (∀ σ8 : bS, σ8 = bup σ6 19 a1 a2 → (Q (σ6 19 a1) σ8)))) ∧ (¬ a2 ≤ (bk_t2 a1) → (Q (-2) σ))))))) ∧ (¬ a1 < 5 → (Q (-2) σ)))))
theorem mono_vX8_limit {Q Q9 : Int → bS → Prop} {a1 : Int} {a2 : Int} {σ : bS} (hQ : ∀ r σ, Q r σ → Q9 r σ) : vX8_limit Q a1 a2 σ → vX8_limit Q9 a1 a2 σ := (bm_and (bm_imp (hQ _ _)) (bm_imp (bm_and (bm_imp (bm_r (bm_and (bm_imp (hQ _ _)) (bm_imp (bm_and (bm_imp (bm_all fun _ => bm_imp (bm_all fun _ => bm_imp (hQ _ _)))) (bm_imp (hQ _ _))))))) (bm_imp (hQ _ _)))))
theorem wX8_limit_e {p : Program} {l : Launch} {e : Env} {s : State} {m : MethodId} {args : Array Value} {below : List Frame} {meth : Method} {c : Code} {G : bG} {σ0 : bS} {Q : Int → bS → Prop} {a1 : Int} {a2 : Int} {σ : bS} (S : CallFix p m c cX8_limit 4 s args bT "BankLinker") (hr : meth.sig.returnType = some .int) (hlk : meth.locks = false) (ha1 : bR a1) (ha2 : bR a2) (hσ : bRG σ) (h : vX8_limit Q a1 a2 σ) : bA p l e { frames := 0, cells := 0, slots := 0, locals := 0 } s m args below meth c 0 0 (bQi below args s G σ0 Q) G (va_A (bk_w G σ0) s.heap.size) 4 0 [(0, .ref (G.2.2 0)), (1, .int (bI a1)), (2, .int (bI a2))] [] σ := by
  unfold vX8_limit at h
  refine br_iload_n S 1 dX8_limit_0 rfl rfl ?_
  refine br_if_lt S 9 ha1 dX8_limit_1 (by decide) (fun c1 => ?_) (fun c1 => ?_)
  · replace h := h.1 c1
    refine br_bipush S dX8_limit_9 rfl ?_
    exact br_iret S hr hlk (by decide) hσ dX8_limit_11 h
  · replace h := h.2 c1
    refine br_iload_n S 1 dX8_limit_4 rfl rfl ?_
    refine br_iconst S dX8_limit_5 ?_
    refine br_ic_lt S 12 ha1 (by decide) dX8_limit_6 (by decide) (fun c2 => ?_) (fun c2 => ?_)
    · replace h := h.1 c2
      refine br_iload_n S 2 dX8_limit_12 rfl rfl ?_
      refine br_gets1 S wd_2_133 dX8_limit_13 ?_
      refine br_iload_n S 1 dX8_limit_16 rfl rfl ?_
      obtain ⟨g3, h⟩ := h
      refine br_ti1 S g3.1 g3.2 dX8_limit_17 ?_
      refine br_ic_lt S 30 ha2 (bk_t1_rg _) dX8_limit_18 (by decide) (fun c4 => ?_) (fun c4 => ?_)
      · replace h := h.1 c4
        refine br_bipush S dX8_limit_30 rfl ?_
        exact br_iret S hr hlk (by decide) hσ dX8_limit_32 h
      · replace h := h.2 c4
        refine br_iload_n S 2 dX8_limit_21 rfl rfl ?_
        refine br_gets2 S wd_2_135 dX8_limit_22 ?_
        refine br_iload_n S 1 dX8_limit_25 rfl rfl ?_
        refine br_ti2 S g3.1 g3.2 dX8_limit_26 ?_
        refine br_ic_le S 33 ha2 (bk_t2_rg _) dX8_limit_27 (by decide) (fun c5 => ?_) (fun c5 => ?_)
        · replace h := h.1 c5
          refine br_aload_n S 0 dX8_limit_33 rfl rfl ?_
          refine br_iconst S dX8_limit_34 ?_
          obtain ⟨σ6, e7⟩ : ∃ τ, τ = bup σ 0 7 0 := ⟨_, rfl⟩
          replace h := h σ6 e7
          have hσ6 : bRG σ6 := by rw [e7]; exact bup_rg hσ (by decide)
          refine br_put (f := 7) (N := 8) (C := RX8) (T := TX8) S tyX8 tyX8_ok nmX8 inT_X8 wd_2_70 (by decide) rfl (pf_0_7 _ _ _) rfl (by decide) (Nat.le_of_ble_eq_true rfl) rfl rfl (bk_nar (by decide)) (bk_fit (by decide)) dX8_limit_35 ?_
          refine bA.to rfl rfl e7.symm ?_
          refine br_aload_n S 0 dX8_limit_38 rfl rfl ?_
          refine br_get (f := 0) (N := 8) (C := RX8) (T := TX8) S inT_X8 wd_2_63 (by decide) rfl rfl (by decide) rfl dX8_limit_39 ?_
          refine br_get (f := 8) (N := 9) (C := RX6) (T := TX6) S inT_X6 wd_1_65 (by decide) rfl rfl (by decide) rfl dX8_limit_42 ?_
          refine br_iload_n S 1 dX8_limit_45 rfl rfl ?_
          refine br_iald (n := 5) S ⟨by decide, by decide, fun _ => rfl⟩ g3.1 g3.2 dX8_limit_46 ?_
          refine br_istore_n S [(3, .int (bI (σ6 19 a1))), (0, .ref (G.2.2 0)), (1, .int (bI a1)), (2, .int (bI a2))] dX8_limit_47 rfl (by decide) rfl ?_
          refine br_aload_n S 1 dX8_limit_48 rfl rfl ?_
          refine br_get (f := 0) (N := 8) (C := RX8) (T := TX8) S inT_X8 wd_2_63 (by decide) rfl rfl (by decide) rfl dX8_limit_49 ?_
          refine br_get (f := 8) (N := 9) (C := RX6) (T := TX6) S inT_X6 wd_1_65 (by decide) rfl rfl (by decide) rfl dX8_limit_52 ?_
          refine br_iload_n S 2 dX8_limit_55 rfl rfl ?_
          refine br_iload_n S 3 dX8_limit_56 rfl rfl ?_
          obtain ⟨σ8, e9⟩ : ∃ τ, τ = bup σ6 19 a1 a2 := ⟨_, rfl⟩
          replace h := h σ8 e9
          have hσ8 : bRG σ8 := by rw [e9]; exact bup_rg hσ6 ha2
          refine br_iast (n := 5) S ⟨by decide, by decide, fun _ => rfl⟩ g3.1 g3.2 dX8_limit_57 ?_
          refine bA.to rfl rfl e9.symm ?_
          refine br_iload_n S 0 dX8_limit_58 rfl rfl ?_
          exact br_iret S hr hlk (hσ6 19 a1) hσ8 dX8_limit_59 h
        · replace h := h.2 c5
          refine br_bipush S dX8_limit_30 rfl ?_
          exact br_iret S hr hlk (by decide) hσ dX8_limit_32 h
    · replace h := h.2 c2
      refine br_bipush S dX8_limit_9 rfl ?_
      exact br_iret S hr hlk (by decide) hσ dX8_limit_11 h
theorem mono_X8_limit {Q Q9 : Int → bS → Prop} {a1 : Int} {a2 : Int} {σ : bS} (hQ : ∀ r σ, Q r σ → Q9 r σ) : vX8_limit Q a1 a2 σ → vX8_limit Q9 a1 a2 σ := mono_vX8_limit hQ
theorem mX8_limit (l : Launch) (G : bG) (σ : bS) (a1 : Int) (ha1 : bR a1) (a2 : Int) (ha2 : bR a2) {Q : Int → bS → Prop} (h : vX8_limit Q a1 a2 σ) : bk_Mi l yX8_limit (Cond.code yX8_limit cX8_limit 4 (some .int) :: bT) { frames := 0, cells := 0, slots := 0, locals := 0 } G σ [.ref (G.2.2 0), .int (bI a1), .int (bI a2)] Q := by
  refine bk_Mi.of (cc := cX8_limit) (maxL := 4) (ret := some .int) (by decide) rfl (Nat.le_of_ble_eq_true rfl) ?_
  intro p e s m args below meth c S hr hlk hσ
  exact wX8_limit_e S hr hlk ha1 ha2 hσ h
def vX8_link (Q : Int → bS → Prop) (σ : bS) : Prop := (vX3_linkAll (fun z1 σ2 => ((z1 = 0 ∨ z1 = 1) ∧ (∀ σ4 : bS, σ4 = bup σ2 0 7 z1 → (((σ4 0 7) = 0 → (Q 0 σ4)) ∧ (¬ (σ4 0 7) = 0 → (Q 1 σ4))))))  σ)
theorem mono_vX8_link {Q Q9 : Int → bS → Prop} {σ : bS} (hQ : ∀ r σ, Q r σ → Q9 r σ) : vX8_link Q σ → vX8_link Q9 σ := (mono_X3_linkAll (fun _ _ => (bm_r (bm_all fun _ => bm_imp (bm_and (bm_imp (hQ _ _)) (bm_imp (hQ _ _)))))))
theorem wX8_link_e {p : Program} {l : Launch} {e : Env} {s : State} {m : MethodId} {args : Array Value} {below : List Frame} {meth : Method} {c : Code} {G : bG} {σ0 : bS} {Q : Int → bS → Prop} {σ : bS} (S : CallFix p m c cX8_link 1 s args bT "BankLinker") (hr : meth.sig.returnType = some .int) (hlk : meth.locks = false) (hσ : bRG σ) (h : vX8_link Q σ) : bA p l e { frames := 6, cells := 0, slots := 0, locals := 136 } s m args below meth c 0 0 (bQi below args s G σ0 Q) G (va_A (bk_w G σ0) s.heap.size) 1 0 [(0, .ref (G.2.2 0))] [] σ := by
  unfold vX8_link at h
  refine br_aload_n S 0 dX8_link_0 rfl rfl ?_
  refine br_aload_n S 0 dX8_link_1 rfl rfl ?_
  refine br_get (f := 4) (N := 8) (C := RX8) (T := TX8) S inT_X8 wd_2_67 (by decide) rfl rfl (by decide) rfl dX8_link_2 ?_
  refine br_callV (As := []) (rest := [.ref (G.2.2 0)]) S (cwV_X3_linkAll S.2.2.2.2 wd_2_141 ⟨by decide, by decide⟩) (mX3_linkAll l G σ h) (by decide) rfl rfl rfl hσ rfl rfl (Nat.le_of_ble_eq_true rfl) ⟨by decide, by decide⟩ dX8_link_5 (fun z1 σ2 hz1 hσ2 h => ?_)
  obtain ⟨g3, h⟩ := h
  obtain ⟨σ4, e5⟩ : ∃ τ, τ = bup σ2 0 7 z1 := ⟨_, rfl⟩
  replace h := h σ4 e5
  have hσ4 : bRG σ4 := by rw [e5]; exact bup_rg hσ2 hz1
  refine br_put (f := 7) (N := 8) (C := RX8) (T := TX8) S tyX8 tyX8_ok nmX8 inT_X8 wd_2_70 (by decide) rfl (pf_0_7 _ _ _) rfl (by decide) (Nat.le_of_ble_eq_true rfl) rfl rfl (bk_nar g3) (bk_fit g3) dX8_link_8 ?_
  refine bA.to rfl rfl e5.symm ?_
  refine br_aload_n S 0 dX8_link_11 rfl rfl ?_
  refine br_get (f := 7) (N := 8) (C := RX8) (T := TX8) S inT_X8 wd_2_70 (by decide) rfl rfl (by decide) rfl dX8_link_12 ?_
  refine br_if_eq S 22 (hσ4 0 7) dX8_link_15 (by decide) (fun c6 => ?_) (fun c6 => ?_)
  · replace h := h.1 c6
    refine br_iconst S dX8_link_22 ?_
    exact br_iret S hr hlk (by decide) hσ4 dX8_link_23 h
  · replace h := h.2 c6
    refine br_iconst S dX8_link_18 ?_
    refine br_goto S 23 dX8_link_19 (by decide) ?_
    exact br_iret S hr hlk (by decide) hσ4 dX8_link_23 h
theorem mono_X8_link {Q Q9 : Int → bS → Prop} {σ : bS} (hQ : ∀ r σ, Q r σ → Q9 r σ) : vX8_link Q σ → vX8_link Q9 σ := mono_vX8_link hQ
theorem mX8_link (l : Launch) (G : bG) (σ : bS) {Q : Int → bS → Prop} (h : vX8_link Q σ) : bk_Mi l yX8_link (Cond.code yX8_link cX8_link 1 (some .int) :: bT) { frames := 6, cells := 0, slots := 0, locals := 136 } G σ [.ref (G.2.2 0)] Q := by
  refine bk_Mi.of (cc := cX8_link) (maxL := 1) (ret := some .int) (by decide) rfl (Nat.le_of_ble_eq_true rfl) ?_
  intro p e s m args below meth c S hr hlk hσ
  exact wX8_link_e S hr hlk hσ h
def vX8_fault (Q : Int → bS → Prop) (a1 : Int) (σ : bS) : Prop := (((a1 < 0 ∨ 2 < a1) → (Q (-2) σ)) ∧ (a1 = 0 → (Q (σ 5 4) σ)) ∧ (a1 = 1 → (Q (σ 5 5) σ)) ∧ (a1 = 2 → (Q (σ 5 6) σ)))
theorem mono_vX8_fault {Q Q9 : Int → bS → Prop} {a1 : Int} {σ : bS} (hQ : ∀ r σ, Q r σ → Q9 r σ) : vX8_fault Q a1 σ → vX8_fault Q9 a1 σ := (bm_and (bm_imp (hQ _ _)) (bm_and (bm_imp (hQ _ _)) (bm_and (bm_imp (hQ _ _)) (bm_imp (hQ _ _)))))
theorem wX8_fault_e {p : Program} {l : Launch} {e : Env} {s : State} {m : MethodId} {args : Array Value} {below : List Frame} {meth : Method} {c : Code} {G : bG} {σ0 : bS} {Q : Int → bS → Prop} {a1 : Int} {σ : bS} (S : CallFix p m c cX8_fault 2 s args bT "BankLinker") (hr : meth.sig.returnType = some .int) (hlk : meth.locks = false) (ha1 : bR a1) (hσ : bRG σ) (h : vX8_fault Q a1 σ) : bA p l e { frames := 0, cells := 0, slots := 0, locals := 0 } s m args below meth c 0 0 (bQi below args s G σ0 Q) G (va_A (bk_w G σ0) s.heap.size) 2 0 [(0, .ref (G.2.2 0)), (1, .int (bI a1))] [] σ := by
  unfold vX8_fault at h
  refine br_iload_n S 1 dX8_fault_0 rfl rfl ?_
  by_cases c1 : a1 < 0 ∨ 2 < a1
  · replace h := h.1 c1
    refine br_tblO S 52 ha1 c1 dX8_fault_1 (by decide) ?_
    refine br_bipush S dX8_fault_52 rfl ?_
    exact br_iret S hr hlk (by decide) hσ dX8_fault_54 h
  · rcases (show a1 = 0 ∨ a1 = 1 ∨ a1 = 2 by omega) with c2 | c2 | c2
    · replace h := h.2.1 c2
      refine br_tblI S 28 0 ha1 c2 (by decide) rfl dX8_fault_1 (by decide) ?_
      refine br_aload_n S 0 dX8_fault_28 rfl rfl ?_
      refine br_get (f := 4) (N := 8) (C := RX8) (T := TX8) S inT_X8 wd_2_67 (by decide) rfl rfl (by decide) rfl dX8_fault_29 ?_
      refine br_get (f := 4) (N := 7) (C := RX3) (T := TX3) S inT_X3 wd_1_191 (by decide) rfl rfl (by decide) rfl dX8_fault_32 ?_
      exact br_iret S hr hlk (hσ 5 4) hσ dX8_fault_35 h
    · replace h := h.2.2.1 c2
      refine br_tblI S 36 1 ha1 c2 (by decide) rfl dX8_fault_1 (by decide) ?_
      refine br_aload_n S 0 dX8_fault_36 rfl rfl ?_
      refine br_get (f := 4) (N := 8) (C := RX8) (T := TX8) S inT_X8 wd_2_67 (by decide) rfl rfl (by decide) rfl dX8_fault_37 ?_
      refine br_get (f := 5) (N := 7) (C := RX3) (T := TX3) S inT_X3 wd_1_193 (by decide) rfl rfl (by decide) rfl dX8_fault_40 ?_
      exact br_iret S hr hlk (hσ 5 5) hσ dX8_fault_43 h
    · replace h := h.2.2.2 c2
      refine br_tblI S 44 2 ha1 c2 (by decide) rfl dX8_fault_1 (by decide) ?_
      refine br_aload_n S 0 dX8_fault_44 rfl rfl ?_
      refine br_get (f := 4) (N := 8) (C := RX8) (T := TX8) S inT_X8 wd_2_67 (by decide) rfl rfl (by decide) rfl dX8_fault_45 ?_
      refine br_get (f := 6) (N := 7) (C := RX3) (T := TX3) S inT_X3 wd_1_195 (by decide) rfl rfl (by decide) rfl dX8_fault_48 ?_
      exact br_iret S hr hlk (hσ 5 6) hσ dX8_fault_51 h
theorem mono_X8_fault {Q Q9 : Int → bS → Prop} {a1 : Int} {σ : bS} (hQ : ∀ r σ, Q r σ → Q9 r σ) : vX8_fault Q a1 σ → vX8_fault Q9 a1 σ := mono_vX8_fault hQ
theorem mX8_fault (l : Launch) (G : bG) (σ : bS) (a1 : Int) (ha1 : bR a1) {Q : Int → bS → Prop} (h : vX8_fault Q a1 σ) : bk_Mi l yX8_fault (Cond.code yX8_fault cX8_fault 2 (some .int) :: bT) { frames := 0, cells := 0, slots := 0, locals := 0 } G σ [.ref (G.2.2 0), .int (bI a1)] Q := by
  refine bk_Mi.of (cc := cX8_fault) (maxL := 2) (ret := some .int) (by decide) rfl (Nat.le_of_ble_eq_true rfl) ?_
  intro p e s m args below meth c S hr hlk hσ
  exact wX8_fault_e S hr hlk ha1 hσ h
def vX8_place (Q : Int → bS → Prop) (a1 : Int) (a2 : Int) (σ : bS) : Prop := (vX6_hasRoutine (fun z1 σ2 => ((z1 = 0 → (Q (-2) σ2)) ∧ (¬ z1 = 0 → ((a2 < 0 → (Q (-2) σ2)) ∧ (¬ a2 < 0 → ((a2 ≤ 5 → ((¬ (σ2 0 7) = 0 → (((a2 < 0 ∨ 4 < a2) → ((0 ≤ a1 ∧ a1 < 30) ∧ (Q (σ2 22 a1) σ2))) ∧ (a2 = 0 → ((0 ≤ a1 ∧ a1 < 30) ∧ (Q (σ2 23 a1) σ2))) ∧ (a2 = 1 → ((0 ≤ a1 ∧ a1 < 30) ∧ (Q (σ2 24 a1) σ2))) ∧ (a2 = 2 → ((0 ≤ a1 ∧ a1 < 30) ∧ (Q (σ2 25 a1) σ2))) ∧ (a2 = 3 → ((0 ≤ a1 ∧ a1 < 30) ∧ (Q (σ2 26 a1) σ2))) ∧ (a2 = 4 → ((0 ≤ a1 ∧ a1 < 30) ∧ (Q (σ2 27 a1) σ2))))) ∧ ((σ2 0 7) = 0 → (Q (-3) σ2)))) ∧ (¬ a2 ≤ 5 → (Q (-2) σ2)))))))) a1 σ)
theorem mono_vX8_place {Q Q9 : Int → bS → Prop} {a1 : Int} {a2 : Int} {σ : bS} (hQ : ∀ r σ, Q r σ → Q9 r σ) : vX8_place Q a1 a2 σ → vX8_place Q9 a1 a2 σ := (mono_X6_hasRoutine (fun _ _ => (bm_and (bm_imp (hQ _ _)) (bm_imp (bm_and (bm_imp (hQ _ _)) (bm_imp (bm_and (bm_imp (bm_and (bm_imp (bm_and (bm_imp (bm_r (hQ _ _))) (bm_and (bm_imp (bm_r (hQ _ _))) (bm_and (bm_imp (bm_r (hQ _ _))) (bm_and (bm_imp (bm_r (hQ _ _))) (bm_and (bm_imp (bm_r (hQ _ _))) (bm_imp (bm_r (hQ _ _))))))))) (bm_imp (hQ _ _)))) (bm_imp (hQ _ _)))))))))
theorem wX8_place_e {p : Program} {l : Launch} {e : Env} {s : State} {m : MethodId} {args : Array Value} {below : List Frame} {meth : Method} {c : Code} {G : bG} {σ0 : bS} {Q : Int → bS → Prop} {a1 : Int} {a2 : Int} {σ : bS} (S : CallFix p m c cX8_place 3 s args bT "BankLinker") (hr : meth.sig.returnType = some .int) (hlk : meth.locks = false) (ha1 : bR a1) (ha2 : bR a2) (hσ : bRG σ) (h : vX8_place Q a1 a2 σ) : bA p l e { frames := 1, cells := 0, slots := 0, locals := 21 } s m args below meth c 0 0 (bQi below args s G σ0 Q) G (va_A (bk_w G σ0) s.heap.size) 3 0 [(0, .ref (G.2.2 0)), (1, .int (bI a1)), (2, .int (bI a2))] [] σ := by
  unfold vX8_place at h
  refine br_aload_n S 0 dX8_place_0 rfl rfl ?_
  refine br_get (f := 0) (N := 8) (C := RX8) (T := TX8) S inT_X8 wd_2_63 (by decide) rfl rfl (by decide) rfl dX8_place_1 ?_
  refine br_iload_n S 1 dX8_place_4 rfl rfl ?_
  refine br_callV (As := [.int (bI a1)]) (rest := []) S (cwV_X6_hasRoutine S.2.2.2.2 wd_2_112 ⟨by decide, by decide⟩) (mX6_hasRoutine l G σ a1 ha1 h) (by decide) rfl rfl rfl hσ rfl rfl (Nat.le_of_ble_eq_true rfl) ⟨by decide, by decide⟩ dX8_place_5 (fun z1 σ2 hz1 hσ2 h => ?_)
  refine br_if_eq S 20 hz1 dX8_place_8 (by decide) (fun c3 => ?_) (fun c3 => ?_)
  · replace h := h.1 c3
    refine br_bipush S dX8_place_20 rfl ?_
    exact br_iret S hr hlk (by decide) hσ2 dX8_place_22 h
  · replace h := h.2 c3
    refine br_iload_n S 2 dX8_place_11 rfl rfl ?_
    refine br_if_lt S 20 ha2 dX8_place_12 (by decide) (fun c4 => ?_) (fun c4 => ?_)
    · replace h := h.1 c4
      refine br_bipush S dX8_place_20 rfl ?_
      exact br_iret S hr hlk (by decide) hσ2 dX8_place_22 h
    · replace h := h.2 c4
      refine br_iload_n S 2 dX8_place_15 rfl rfl ?_
      refine br_iconst S dX8_place_16 ?_
      refine br_ic_le S 23 ha2 (by decide) dX8_place_17 (by decide) (fun c5 => ?_) (fun c5 => ?_)
      · replace h := h.1 c5
        refine br_aload_n S 0 dX8_place_23 rfl rfl ?_
        refine br_get (f := 7) (N := 8) (C := RX8) (T := TX8) S inT_X8 wd_2_70 (by decide) rfl rfl (by decide) rfl dX8_place_24 ?_
        refine br_if_ne S 33 (hσ2 0 7) dX8_place_27 (by decide) (fun c6 => ?_) (fun c6 => ?_)
        · replace h := h.1 c6
          refine br_iload_n S 2 dX8_place_33 rfl rfl ?_
          by_cases c7 : a2 < 0 ∨ 4 < a2
          · replace h := h.1 c7
            refine br_tblO S 118 ha2 c7 dX8_place_34 (by decide) ?_
            refine br_aload_n S 0 dX8_place_118 rfl rfl ?_
            refine br_get (f := 2) (N := 8) (C := RX8) (T := TX8) S inT_X8 wd_2_65 (by decide) rfl rfl (by decide) rfl dX8_place_119 ?_
            refine br_get (f := 0) (N := 14) (C := RX2) (T := TX2) S inT_X2 wd_1_106 (by decide) rfl rfl (by decide) rfl dX8_place_122 ?_
            refine br_iload_n S 1 dX8_place_125 rfl rfl ?_
            obtain ⟨g9, h⟩ := h
            refine br_iald (n := 30) S ⟨by decide, by decide, fun _ => rfl⟩ g9.1 g9.2 dX8_place_126 ?_
            exact br_iret S hr hlk (hσ2 22 a1) hσ2 dX8_place_127 h
          · rcases (show a2 = 0 ∨ a2 = 1 ∨ a2 = 2 ∨ a2 = 3 ∨ a2 = 4 by omega) with c8 | c8 | c8 | c8 | c8
            · replace h := h.2.1 c8
              refine br_tblI S 68 0 ha2 c8 (by decide) rfl dX8_place_34 (by decide) ?_
              refine br_aload_n S 0 dX8_place_68 rfl rfl ?_
              refine br_get (f := 2) (N := 8) (C := RX8) (T := TX8) S inT_X8 wd_2_65 (by decide) rfl rfl (by decide) rfl dX8_place_69 ?_
              refine br_get (f := 1) (N := 14) (C := RX2) (T := TX2) S inT_X2 wd_1_108 (by decide) rfl rfl (by decide) rfl dX8_place_72 ?_
              refine br_iload_n S 1 dX8_place_75 rfl rfl ?_
              obtain ⟨g10, h⟩ := h
              refine br_iald (n := 30) S ⟨by decide, by decide, fun _ => rfl⟩ g10.1 g10.2 dX8_place_76 ?_
              exact br_iret S hr hlk (hσ2 23 a1) hσ2 dX8_place_77 h
            · replace h := h.2.2.1 c8
              refine br_tblI S 78 1 ha2 c8 (by decide) rfl dX8_place_34 (by decide) ?_
              refine br_aload_n S 0 dX8_place_78 rfl rfl ?_
              refine br_get (f := 2) (N := 8) (C := RX8) (T := TX8) S inT_X8 wd_2_65 (by decide) rfl rfl (by decide) rfl dX8_place_79 ?_
              refine br_get (f := 2) (N := 14) (C := RX2) (T := TX2) S inT_X2 wd_1_111 (by decide) rfl rfl (by decide) rfl dX8_place_82 ?_
              refine br_iload_n S 1 dX8_place_85 rfl rfl ?_
              obtain ⟨g11, h⟩ := h
              refine br_iald (n := 30) S ⟨by decide, by decide, fun _ => rfl⟩ g11.1 g11.2 dX8_place_86 ?_
              exact br_iret S hr hlk (hσ2 24 a1) hσ2 dX8_place_87 h
            · replace h := h.2.2.2.1 c8
              refine br_tblI S 88 2 ha2 c8 (by decide) rfl dX8_place_34 (by decide) ?_
              refine br_aload_n S 0 dX8_place_88 rfl rfl ?_
              refine br_get (f := 2) (N := 8) (C := RX8) (T := TX8) S inT_X8 wd_2_65 (by decide) rfl rfl (by decide) rfl dX8_place_89 ?_
              refine br_get (f := 3) (N := 14) (C := RX2) (T := TX2) S inT_X2 wd_1_114 (by decide) rfl rfl (by decide) rfl dX8_place_92 ?_
              refine br_iload_n S 1 dX8_place_95 rfl rfl ?_
              obtain ⟨g12, h⟩ := h
              refine br_iald (n := 30) S ⟨by decide, by decide, fun _ => rfl⟩ g12.1 g12.2 dX8_place_96 ?_
              exact br_iret S hr hlk (hσ2 25 a1) hσ2 dX8_place_97 h
            · replace h := h.2.2.2.2.1 c8
              refine br_tblI S 98 3 ha2 c8 (by decide) rfl dX8_place_34 (by decide) ?_
              refine br_aload_n S 0 dX8_place_98 rfl rfl ?_
              refine br_get (f := 2) (N := 8) (C := RX8) (T := TX8) S inT_X8 wd_2_65 (by decide) rfl rfl (by decide) rfl dX8_place_99 ?_
              refine br_get (f := 4) (N := 14) (C := RX2) (T := TX2) S inT_X2 wd_1_118 (by decide) rfl rfl (by decide) rfl dX8_place_102 ?_
              refine br_iload_n S 1 dX8_place_105 rfl rfl ?_
              obtain ⟨g13, h⟩ := h
              refine br_iald (n := 30) S ⟨by decide, by decide, fun _ => rfl⟩ g13.1 g13.2 dX8_place_106 ?_
              exact br_iret S hr hlk (hσ2 26 a1) hσ2 dX8_place_107 h
            · replace h := h.2.2.2.2.2 c8
              refine br_tblI S 108 4 ha2 c8 (by decide) rfl dX8_place_34 (by decide) ?_
              refine br_aload_n S 0 dX8_place_108 rfl rfl ?_
              refine br_get (f := 2) (N := 8) (C := RX8) (T := TX8) S inT_X8 wd_2_65 (by decide) rfl rfl (by decide) rfl dX8_place_109 ?_
              refine br_get (f := 5) (N := 14) (C := RX2) (T := TX2) S inT_X2 wd_1_120 (by decide) rfl rfl (by decide) rfl dX8_place_112 ?_
              refine br_iload_n S 1 dX8_place_115 rfl rfl ?_
              obtain ⟨g14, h⟩ := h
              refine br_iald (n := 30) S ⟨by decide, by decide, fun _ => rfl⟩ g14.1 g14.2 dX8_place_116 ?_
              exact br_iret S hr hlk (hσ2 27 a1) hσ2 dX8_place_117 h
        · replace h := h.2 c6
          refine br_bipush S dX8_place_30 rfl ?_
          exact br_iret S hr hlk (by decide) hσ2 dX8_place_32 h
      · replace h := h.2 c5
        refine br_bipush S dX8_place_20 rfl ?_
        exact br_iret S hr hlk (by decide) hσ2 dX8_place_22 h
theorem mono_X8_place {Q Q9 : Int → bS → Prop} {a1 : Int} {a2 : Int} {σ : bS} (hQ : ∀ r σ, Q r σ → Q9 r σ) : vX8_place Q a1 a2 σ → vX8_place Q9 a1 a2 σ := mono_vX8_place hQ
theorem mX8_place (l : Launch) (G : bG) (σ : bS) (a1 : Int) (ha1 : bR a1) (a2 : Int) (ha2 : bR a2) {Q : Int → bS → Prop} (h : vX8_place Q a1 a2 σ) : bk_Mi l yX8_place (Cond.code yX8_place cX8_place 3 (some .int) :: bT) { frames := 1, cells := 0, slots := 0, locals := 21 } G σ [.ref (G.2.2 0), .int (bI a1), .int (bI a2)] Q := by
  refine bk_Mi.of (cc := cX8_place) (maxL := 3) (ret := some .int) (by decide) rfl (Nat.le_of_ble_eq_true rfl) ?_
  intro p e s m args below meth c S hr hlk hσ
  exact wX8_place_e S hr hlk ha1 ha2 hσ h
def vX8_image (Q : Int → bS → Prop) (a1 : Int) (a2 : Int) (σ : bS) : Prop := ((a1 < (-1) → (Q (-2) σ)) ∧ (¬ a1 < (-1) → ((a1 < (σ 19 0) → ((¬ (σ 0 7) = 0 → (vX5_byteAt (fun z4 σ5 => (Q z4 σ5)) a1 a2 σ)) ∧ ((σ 0 7) = 0 → (Q (-3) σ)))) ∧ (¬ a1 < (σ 19 0) → (Q (-2) σ)))))
theorem mono_vX8_image {Q Q9 : Int → bS → Prop} {a1 : Int} {a2 : Int} {σ : bS} (hQ : ∀ r σ, Q r σ → Q9 r σ) : vX8_image Q a1 a2 σ → vX8_image Q9 a1 a2 σ := (bm_and (bm_imp (hQ _ _)) (bm_imp (bm_and (bm_imp (bm_and (bm_imp (mono_X5_byteAt (fun _ _ => (hQ _ _)))) (bm_imp (hQ _ _)))) (bm_imp (hQ _ _)))))
theorem wX8_image_e {p : Program} {l : Launch} {e : Env} {s : State} {m : MethodId} {args : Array Value} {below : List Frame} {meth : Method} {c : Code} {G : bG} {σ0 : bS} {Q : Int → bS → Prop} {a1 : Int} {a2 : Int} {σ : bS} (S : CallFix p m c cX8_image 3 s args bT "BankLinker") (hr : meth.sig.returnType = some .int) (hlk : meth.locks = false) (ha1 : bR a1) (ha2 : bR a2) (hσ : bRG σ) (h : vX8_image Q a1 a2 σ) : bA p l e { frames := 1, cells := 0, slots := 0, locals := 23 } s m args below meth c 0 0 (bQi below args s G σ0 Q) G (va_A (bk_w G σ0) s.heap.size) 3 0 [(0, .ref (G.2.2 0)), (1, .int (bI a1)), (2, .int (bI a2))] [] σ := by
  unfold vX8_image at h
  refine br_iload_n S 1 dX8_image_0 rfl rfl ?_
  refine br_iconst S dX8_image_1 ?_
  refine br_ic_lt S 18 ha1 (by decide) dX8_image_2 (by decide) (fun c1 => ?_) (fun c1 => ?_)
  · replace h := h.1 c1
    refine br_bipush S dX8_image_18 rfl ?_
    exact br_iret S hr hlk (by decide) hσ dX8_image_20 h
  · replace h := h.2 c1
    refine br_iload_n S 1 dX8_image_5 rfl rfl ?_
    refine br_aload_n S 0 dX8_image_6 rfl rfl ?_
    refine br_get (f := 0) (N := 8) (C := RX8) (T := TX8) S inT_X8 wd_2_63 (by decide) rfl rfl (by decide) rfl dX8_image_7 ?_
    refine br_get (f := 8) (N := 9) (C := RX6) (T := TX6) S inT_X6 wd_1_65 (by decide) rfl rfl (by decide) rfl dX8_image_10 ?_
    refine br_iconst S dX8_image_13 ?_
    refine br_iald (n := 5) S ⟨by decide, by decide, fun _ => rfl⟩ (by decide) (by decide) dX8_image_14 ?_
    refine br_ic_lt S 21 ha1 (hσ 19 0) dX8_image_15 (by decide) (fun c2 => ?_) (fun c2 => ?_)
    · replace h := h.1 c2
      refine br_aload_n S 0 dX8_image_21 rfl rfl ?_
      refine br_get (f := 7) (N := 8) (C := RX8) (T := TX8) S inT_X8 wd_2_70 (by decide) rfl rfl (by decide) rfl dX8_image_22 ?_
      refine br_if_ne S 31 (hσ 0 7) dX8_image_25 (by decide) (fun c3 => ?_) (fun c3 => ?_)
      · replace h := h.1 c3
        refine br_aload_n S 0 dX8_image_31 rfl rfl ?_
        refine br_get (f := 3) (N := 8) (C := RX8) (T := TX8) S inT_X8 wd_2_66 (by decide) rfl rfl (by decide) rfl dX8_image_32 ?_
        refine br_iload_n S 1 dX8_image_35 rfl rfl ?_
        refine br_iload_n S 2 dX8_image_36 rfl rfl ?_
        refine br_callV (As := [.int (bI a1), .int (bI a2)]) (rest := []) S (cwV_X5_byteAt S.2.2.2.2 wd_3_78 ⟨by decide, by decide⟩) (mX5_byteAt l G σ a1 ha1 a2 ha2 h) (by decide) rfl rfl rfl hσ rfl rfl (Nat.le_of_ble_eq_true rfl) ⟨by decide, by decide⟩ dX8_image_37 (fun z4 σ5 hz4 hσ5 h => ?_)
        exact br_iret S hr hlk hz4 hσ5 dX8_image_40 h
      · replace h := h.2 c3
        refine br_bipush S dX8_image_28 rfl ?_
        exact br_iret S hr hlk (by decide) hσ dX8_image_30 h
    · replace h := h.2 c2
      refine br_bipush S dX8_image_18 rfl ?_
      exact br_iret S hr hlk (by decide) hσ dX8_image_20 h
theorem mono_X8_image {Q Q9 : Int → bS → Prop} {a1 : Int} {a2 : Int} {σ : bS} (hQ : ∀ r σ, Q r σ → Q9 r σ) : vX8_image Q a1 a2 σ → vX8_image Q9 a1 a2 σ := mono_vX8_image hQ
theorem mX8_image (l : Launch) (G : bG) (σ : bS) (a1 : Int) (ha1 : bR a1) (a2 : Int) (ha2 : bR a2) {Q : Int → bS → Prop} (h : vX8_image Q a1 a2 σ) : bk_Mi l yX8_image (Cond.code yX8_image cX8_image 3 (some .int) :: bT) { frames := 1, cells := 0, slots := 0, locals := 23 } G σ [.ref (G.2.2 0), .int (bI a1), .int (bI a2)] Q := by
  refine bk_Mi.of (cc := cX8_image) (maxL := 3) (ret := some .int) (by decide) rfl (Nat.le_of_ble_eq_true rfl) ?_
  intro p e s m args below meth c S hr hlk hσ
  exact wX8_image_e S hr hlk ha1 ha2 hσ h
def vX8_count_28 (Q : Int → bS → Prop) (x1 : Int) (σ : bS) : Prop := (((x1 < 0 ∨ 6 < x1) → (Q (σ 3 12) σ)) ∧ (x1 = 0 → (Q (σ 1 0) σ)) ∧ (x1 = 1 → (Q (σ 1 2) σ)) ∧ (x1 = 2 → (vX6_opsOfAll (fun z3 σ4 => (Q z3 σ4))  σ)) ∧ (x1 = 3 → (Q (σ 3 10) σ)) ∧ (x1 = 4 → (Q (σ 3 11) σ)) ∧ (x1 = 5 → (vX5_banksWithBytes (fun z5 σ6 => (Q z5 σ6))  σ)) ∧ (x1 = 6 → (Q (σ 3 13) σ)))
theorem mono_vX8_count_28 {Q Q9 : Int → bS → Prop} {x1 : Int} {σ : bS} (hQ : ∀ r σ, Q r σ → Q9 r σ) : vX8_count_28 Q x1 σ → vX8_count_28 Q9 x1 σ := (bm_and (bm_imp (hQ _ _)) (bm_and (bm_imp (hQ _ _)) (bm_and (bm_imp (hQ _ _)) (bm_and (bm_imp (mono_X6_opsOfAll (fun _ _ => (hQ _ _)))) (bm_and (bm_imp (hQ _ _)) (bm_and (bm_imp (hQ _ _)) (bm_and (bm_imp (mono_X5_banksWithBytes (fun _ _ => (hQ _ _)))) (bm_imp (hQ _ _)))))))))
theorem wX8_count_28 {p : Program} {l : Launch} {e : Env} {s : State} {m : MethodId} {args : Array Value} {below : List Frame} {meth : Method} {c : Code} {G : bG} {σ0 : bS} {Q : Int → bS → Prop} {x1 : Int} {σ : bS} (S : CallFix p m c cX8_count 2 s args bT "BankLinker") (hr : meth.sig.returnType = some .int) (hlk : meth.locks = false) (hx1 : bR x1) (hσ : bRG σ) (h : vX8_count_28 Q x1 σ) : bA p l e { frames := 1, cells := 0, slots := 0, locals := 22 } s m args below meth c 0 0 (bQi below args s G σ0 Q) G (va_A (bk_w G σ0) s.heap.size) 2 28 [(0, .ref (G.2.2 0)), (1, .int (bI x1))] [] σ := by
  unfold vX8_count_28 at h
  refine br_iload_n S 1 dX8_count_28 rfl rfl ?_
  by_cases c1 : x1 < 0 ∨ 6 < x1
  · replace h := h.1 c1
    refine br_tblO S 128 hx1 c1 dX8_count_29 (by decide) ?_
    refine br_aload_n S 0 dX8_count_128 rfl rfl ?_
    refine br_get (f := 2) (N := 8) (C := RX8) (T := TX8) S inT_X8 wd_2_65 (by decide) rfl rfl (by decide) rfl dX8_count_129 ?_
    refine br_get (f := 12) (N := 14) (C := RX2) (T := TX2) S inT_X2 wd_1_133 (by decide) rfl rfl (by decide) rfl dX8_count_132 ?_
    exact br_iret S hr hlk (hσ 3 12) hσ dX8_count_135 h
  · rcases (show x1 = 0 ∨ x1 = 1 ∨ x1 = 2 ∨ x1 = 3 ∨ x1 = 4 ∨ x1 = 5 ∨ x1 = 6 by omega) with c2 | c2 | c2 | c2 | c2 | c2 | c2
    · replace h := h.2.1 c2
      refine br_tblI S 72 0 hx1 c2 (by decide) rfl dX8_count_29 (by decide) ?_
      refine br_aload_n S 0 dX8_count_72 rfl rfl ?_
      refine br_get (f := 0) (N := 8) (C := RX8) (T := TX8) S inT_X8 wd_2_63 (by decide) rfl rfl (by decide) rfl dX8_count_73 ?_
      refine br_get (f := 0) (N := 9) (C := RX6) (T := TX6) S inT_X6 wd_1_37 (by decide) rfl rfl (by decide) rfl dX8_count_76 ?_
      exact br_iret S hr hlk (hσ 1 0) hσ dX8_count_79 h
    · replace h := h.2.2.1 c2
      refine br_tblI S 80 1 hx1 c2 (by decide) rfl dX8_count_29 (by decide) ?_
      refine br_aload_n S 0 dX8_count_80 rfl rfl ?_
      refine br_get (f := 0) (N := 8) (C := RX8) (T := TX8) S inT_X8 wd_2_63 (by decide) rfl rfl (by decide) rfl dX8_count_81 ?_
      refine br_get (f := 2) (N := 9) (C := RX6) (T := TX6) S inT_X6 wd_1_46 (by decide) rfl rfl (by decide) rfl dX8_count_84 ?_
      exact br_iret S hr hlk (hσ 1 2) hσ dX8_count_87 h
    · replace h := h.2.2.2.1 c2
      refine br_tblI S 88 2 hx1 c2 (by decide) rfl dX8_count_29 (by decide) ?_
      refine br_aload_n S 0 dX8_count_88 rfl rfl ?_
      refine br_get (f := 0) (N := 8) (C := RX8) (T := TX8) S inT_X8 wd_2_63 (by decide) rfl rfl (by decide) rfl dX8_count_89 ?_
      refine br_callV (As := []) (rest := []) S (cwV_X6_opsOfAll S.2.2.2.2 wd_3_86 ⟨by decide, by decide⟩) (mX6_opsOfAll l G σ h) (by decide) rfl rfl rfl hσ rfl rfl (Nat.le_of_ble_eq_true rfl) ⟨by decide, by decide⟩ dX8_count_92 (fun z3 σ4 hz3 hσ4 h => ?_)
      exact br_iret S hr hlk hz3 hσ4 dX8_count_95 h
    · replace h := h.2.2.2.2.1 c2
      refine br_tblI S 96 3 hx1 c2 (by decide) rfl dX8_count_29 (by decide) ?_
      refine br_aload_n S 0 dX8_count_96 rfl rfl ?_
      refine br_get (f := 2) (N := 8) (C := RX8) (T := TX8) S inT_X8 wd_2_65 (by decide) rfl rfl (by decide) rfl dX8_count_97 ?_
      refine br_get (f := 10) (N := 14) (C := RX2) (T := TX2) S inT_X2 wd_1_129 (by decide) rfl rfl (by decide) rfl dX8_count_100 ?_
      exact br_iret S hr hlk (hσ 3 10) hσ dX8_count_103 h
    · replace h := h.2.2.2.2.2.1 c2
      refine br_tblI S 104 4 hx1 c2 (by decide) rfl dX8_count_29 (by decide) ?_
      refine br_aload_n S 0 dX8_count_104 rfl rfl ?_
      refine br_get (f := 2) (N := 8) (C := RX8) (T := TX8) S inT_X8 wd_2_65 (by decide) rfl rfl (by decide) rfl dX8_count_105 ?_
      refine br_get (f := 11) (N := 14) (C := RX2) (T := TX2) S inT_X2 wd_1_131 (by decide) rfl rfl (by decide) rfl dX8_count_108 ?_
      exact br_iret S hr hlk (hσ 3 11) hσ dX8_count_111 h
    · replace h := h.2.2.2.2.2.2.1 c2
      refine br_tblI S 112 5 hx1 c2 (by decide) rfl dX8_count_29 (by decide) ?_
      refine br_aload_n S 0 dX8_count_112 rfl rfl ?_
      refine br_get (f := 3) (N := 8) (C := RX8) (T := TX8) S inT_X8 wd_2_66 (by decide) rfl rfl (by decide) rfl dX8_count_113 ?_
      refine br_callV (As := []) (rest := []) S (cwV_X5_banksWithBytes S.2.2.2.2 wd_3_90 ⟨by decide, by decide⟩) (mX5_banksWithBytes l G σ h) (by decide) rfl rfl rfl hσ rfl rfl (Nat.le_of_ble_eq_true rfl) ⟨by decide, by decide⟩ dX8_count_116 (fun z5 σ6 hz5 hσ6 h => ?_)
      exact br_iret S hr hlk hz5 hσ6 dX8_count_119 h
    · replace h := h.2.2.2.2.2.2.2 c2
      refine br_tblI S 120 6 hx1 c2 (by decide) rfl dX8_count_29 (by decide) ?_
      refine br_aload_n S 0 dX8_count_120 rfl rfl ?_
      refine br_get (f := 2) (N := 8) (C := RX8) (T := TX8) S inT_X8 wd_2_65 (by decide) rfl rfl (by decide) rfl dX8_count_121 ?_
      refine br_get (f := 13) (N := 14) (C := RX2) (T := TX2) S inT_X2 wd_1_135 (by decide) rfl rfl (by decide) rfl dX8_count_124 ?_
      exact br_iret S hr hlk (hσ 3 13) hσ dX8_count_127 h
def vX8_count (Q : Int → bS → Prop) (a1 : Int) (σ : bS) : Prop := ((a1 < 0 → (Q (-2) σ)) ∧ (¬ a1 < 0 → ((a1 ≤ 7 → ((a1 ≤ 2 → (vX8_count_28 Q a1 σ)) ∧ (¬ a1 ≤ 2 → ((¬ (σ 0 7) = 0 → (vX8_count_28 Q a1 σ)) ∧ ((σ 0 7) = 0 → (Q (-3) σ)))))) ∧ (¬ a1 ≤ 7 → (Q (-2) σ)))))
theorem mono_vX8_count {Q Q9 : Int → bS → Prop} {a1 : Int} {σ : bS} (hQ : ∀ r σ, Q r σ → Q9 r σ) : vX8_count Q a1 σ → vX8_count Q9 a1 σ := (bm_and (bm_imp (hQ _ _)) (bm_imp (bm_and (bm_imp (bm_and (bm_imp (mono_vX8_count_28 hQ)) (bm_imp (bm_and (bm_imp (mono_vX8_count_28 hQ)) (bm_imp (hQ _ _)))))) (bm_imp (hQ _ _)))))
theorem wX8_count_e {p : Program} {l : Launch} {e : Env} {s : State} {m : MethodId} {args : Array Value} {below : List Frame} {meth : Method} {c : Code} {G : bG} {σ0 : bS} {Q : Int → bS → Prop} {a1 : Int} {σ : bS} (S : CallFix p m c cX8_count 2 s args bT "BankLinker") (hr : meth.sig.returnType = some .int) (hlk : meth.locks = false) (ha1 : bR a1) (hσ : bRG σ) (h : vX8_count Q a1 σ) : bA p l e { frames := 1, cells := 0, slots := 0, locals := 22 } s m args below meth c 0 0 (bQi below args s G σ0 Q) G (va_A (bk_w G σ0) s.heap.size) 2 0 [(0, .ref (G.2.2 0)), (1, .int (bI a1))] [] σ := by
  unfold vX8_count at h
  refine br_iload_n S 1 dX8_count_0 rfl rfl ?_
  refine br_if_lt S 10 ha1 dX8_count_1 (by decide) (fun c1 => ?_) (fun c1 => ?_)
  · replace h := h.1 c1
    refine br_bipush S dX8_count_10 rfl ?_
    exact br_iret S hr hlk (by decide) hσ dX8_count_12 h
  · replace h := h.2 c1
    refine br_iload_n S 1 dX8_count_4 rfl rfl ?_
    refine br_bipush S dX8_count_5 rfl ?_
    refine br_ic_le S 13 ha1 (by decide) dX8_count_7 (by decide) (fun c2 => ?_) (fun c2 => ?_)
    · replace h := h.1 c2
      refine br_iload_n S 1 dX8_count_13 rfl rfl ?_
      refine br_iconst S dX8_count_14 ?_
      refine br_ic_le S 28 ha1 (by decide) dX8_count_15 (by decide) (fun c3 => ?_) (fun c3 => ?_)
      · replace h := h.1 c3
        exact wX8_count_28 S hr hlk ha1 hσ h
      · replace h := h.2 c3
        refine br_aload_n S 0 dX8_count_18 rfl rfl ?_
        refine br_get (f := 7) (N := 8) (C := RX8) (T := TX8) S inT_X8 wd_2_70 (by decide) rfl rfl (by decide) rfl dX8_count_19 ?_
        refine br_if_ne S 28 (hσ 0 7) dX8_count_22 (by decide) (fun c4 => ?_) (fun c4 => ?_)
        · replace h := h.1 c4
          exact wX8_count_28 S hr hlk ha1 hσ h
        · replace h := h.2 c4
          refine br_bipush S dX8_count_25 rfl ?_
          exact br_iret S hr hlk (by decide) hσ dX8_count_27 h
    · replace h := h.2 c2
      refine br_bipush S dX8_count_10 rfl ?_
      exact br_iret S hr hlk (by decide) hσ dX8_count_12 h
theorem mono_X8_count {Q Q9 : Int → bS → Prop} {a1 : Int} {σ : bS} (hQ : ∀ r σ, Q r σ → Q9 r σ) : vX8_count Q a1 σ → vX8_count Q9 a1 σ := mono_vX8_count hQ
theorem mX8_count (l : Launch) (G : bG) (σ : bS) (a1 : Int) (ha1 : bR a1) {Q : Int → bS → Prop} (h : vX8_count Q a1 σ) : bk_Mi l yX8_count (Cond.code yX8_count cX8_count 2 (some .int) :: bT) { frames := 1, cells := 0, slots := 0, locals := 22 } G σ [.ref (G.2.2 0), .int (bI a1)] Q := by
  refine bk_Mi.of (cc := cX8_count) (maxL := 2) (ret := some .int) (by decide) rfl (Nat.le_of_ble_eq_true rfl) ?_
  intro p e s m args below meth c S hr hlk hσ
  exact wX8_count_e S hr hlk ha1 hσ h
def vX8_leads (Q : Int → bS → Prop) (a1 : Int) (a2 : Int) (σ : bS) : Prop := (vX6_hasRoutine (fun z1 σ2 => ((z1 = 0 → (Q (-2) σ2)) ∧ (¬ z1 = 0 → (vX6_hasRoutine (fun z4 σ5 => ((¬ z4 = 0 → (vX0_trace (fun σ8 => (vX0_leadTo (fun z9 σ10 => ((z9 = 0 → (Q 0 σ10)) ∧ (¬ z9 = 0 → (Q 1 σ10)))) a1 a2 σ8))  σ5)) ∧ (z4 = 0 → (Q (-2) σ5)))) a2 σ2)))) a1 σ)
theorem mono_vX8_leads {Q Q9 : Int → bS → Prop} {a1 : Int} {a2 : Int} {σ : bS} (hQ : ∀ r σ, Q r σ → Q9 r σ) : vX8_leads Q a1 a2 σ → vX8_leads Q9 a1 a2 σ := (mono_X6_hasRoutine (fun _ _ => (bm_and (bm_imp (hQ _ _)) (bm_imp (mono_X6_hasRoutine (fun _ _ => (bm_and (bm_imp (mono_X0_trace (fun _ => (mono_X0_leadTo (fun _ _ => (bm_and (bm_imp (hQ _ _)) (bm_imp (hQ _ _)))))))) (bm_imp (hQ _ _)))))))))
theorem wX8_leads_e {p : Program} {l : Launch} {e : Env} {s : State} {m : MethodId} {args : Array Value} {below : List Frame} {meth : Method} {c : Code} {G : bG} {σ0 : bS} {Q : Int → bS → Prop} {a1 : Int} {a2 : Int} {σ : bS} (S : CallFix p m c cX8_leads 3 s args bT "BankLinker") (hr : meth.sig.returnType = some .int) (hlk : meth.locks = false) (ha1 : bR a1) (ha2 : bR a2) (hσ : bRG σ) (h : vX8_leads Q a1 a2 σ) : bA p l e { frames := 3, cells := 0, slots := 0, locals := 68 } s m args below meth c 0 0 (bQi below args s G σ0 Q) G (va_A (bk_w G σ0) s.heap.size) 3 0 [(0, .ref (G.2.2 0)), (1, .int (bI a1)), (2, .int (bI a2))] [] σ := by
  unfold vX8_leads at h
  refine br_aload_n S 0 dX8_leads_0 rfl rfl ?_
  refine br_get (f := 0) (N := 8) (C := RX8) (T := TX8) S inT_X8 wd_2_63 (by decide) rfl rfl (by decide) rfl dX8_leads_1 ?_
  refine br_iload_n S 1 dX8_leads_4 rfl rfl ?_
  refine br_callV (As := [.int (bI a1)]) (rest := []) S (cwV_X6_hasRoutine S.2.2.2.2 wd_2_112 ⟨by decide, by decide⟩) (mX6_hasRoutine l G σ a1 ha1 h) (by decide) rfl rfl rfl hσ rfl rfl (Nat.le_of_ble_eq_true rfl) ⟨by decide, by decide⟩ dX8_leads_5 (fun z1 σ2 hz1 hσ2 h => ?_)
  refine br_if_eq S 22 hz1 dX8_leads_8 (by decide) (fun c3 => ?_) (fun c3 => ?_)
  · replace h := h.1 c3
    refine br_bipush S dX8_leads_22 rfl ?_
    exact br_iret S hr hlk (by decide) hσ2 dX8_leads_24 h
  · replace h := h.2 c3
    refine br_aload_n S 0 dX8_leads_11 rfl rfl ?_
    refine br_get (f := 0) (N := 8) (C := RX8) (T := TX8) S inT_X8 wd_2_63 (by decide) rfl rfl (by decide) rfl dX8_leads_12 ?_
    refine br_iload_n S 2 dX8_leads_15 rfl rfl ?_
    refine br_callV (As := [.int (bI a2)]) (rest := []) S (cwV_X6_hasRoutine S.2.2.2.2 wd_2_112 ⟨by decide, by decide⟩) (mX6_hasRoutine l G σ2 a2 ha2 h) (by decide) rfl rfl rfl hσ2 rfl rfl (Nat.le_of_ble_eq_true rfl) ⟨by decide, by decide⟩ dX8_leads_16 (fun z4 σ5 hz4 hσ5 h => ?_)
    refine br_if_ne S 25 hz4 dX8_leads_19 (by decide) (fun c6 => ?_) (fun c6 => ?_)
    · replace h := h.1 c6
      refine br_aload_n S 0 dX8_leads_25 rfl rfl ?_
      refine br_get (f := 1) (N := 8) (C := RX8) (T := TX8) S inT_X8 wd_2_64 (by decide) rfl rfl (by decide) rfl dX8_leads_26 ?_
      refine br_aload_n S 0 dX8_leads_29 rfl rfl ?_
      refine br_get (f := 0) (N := 8) (C := RX8) (T := TX8) S inT_X8 wd_2_63 (by decide) rfl rfl (by decide) rfl dX8_leads_30 ?_
      refine br_callVv (As := [.ref (G.2.2 1)]) (rest := []) S (cwV_X0_trace S.2.2.2.2 wd_3_98 ⟨by decide, by decide⟩) (mX0_trace l G σ5 h) (by decide) rfl rfl rfl hσ5 rfl rfl (Nat.le_of_ble_eq_true rfl) ⟨by decide, by decide⟩ dX8_leads_33 (fun σ8 hσ8 h => ?_)
      refine br_aload_n S 0 dX8_leads_36 rfl rfl ?_
      refine br_get (f := 1) (N := 8) (C := RX8) (T := TX8) S inT_X8 wd_2_64 (by decide) rfl rfl (by decide) rfl dX8_leads_37 ?_
      refine br_iload_n S 1 dX8_leads_40 rfl rfl ?_
      refine br_iload_n S 2 dX8_leads_41 rfl rfl ?_
      refine br_callV (As := [.int (bI a1), .int (bI a2)]) (rest := []) S (cwV_X0_leadTo S.2.2.2.2 wd_3_99 ⟨by decide, by decide⟩) (mX0_leadTo l G σ8 a1 ha1 a2 ha2 h) (by decide) rfl rfl rfl hσ8 rfl rfl (Nat.le_of_ble_eq_true rfl) ⟨by decide, by decide⟩ dX8_leads_42 (fun z9 σ10 hz9 hσ10 h => ?_)
      refine br_if_eq S 52 hz9 dX8_leads_45 (by decide) (fun c11 => ?_) (fun c11 => ?_)
      · replace h := h.1 c11
        refine br_iconst S dX8_leads_52 ?_
        exact br_iret S hr hlk (by decide) hσ10 dX8_leads_53 h
      · replace h := h.2 c11
        refine br_iconst S dX8_leads_48 ?_
        refine br_goto S 53 dX8_leads_49 (by decide) ?_
        exact br_iret S hr hlk (by decide) hσ10 dX8_leads_53 h
    · replace h := h.2 c6
      refine br_bipush S dX8_leads_22 rfl ?_
      exact br_iret S hr hlk (by decide) hσ5 dX8_leads_24 h
theorem mono_X8_leads {Q Q9 : Int → bS → Prop} {a1 : Int} {a2 : Int} {σ : bS} (hQ : ∀ r σ, Q r σ → Q9 r σ) : vX8_leads Q a1 a2 σ → vX8_leads Q9 a1 a2 σ := mono_vX8_leads hQ
theorem mX8_leads (l : Launch) (G : bG) (σ : bS) (a1 : Int) (ha1 : bR a1) (a2 : Int) (ha2 : bR a2) {Q : Int → bS → Prop} (h : vX8_leads Q a1 a2 σ) : bk_Mi l yX8_leads (Cond.code yX8_leads cX8_leads 3 (some .int) :: bT) { frames := 3, cells := 0, slots := 0, locals := 68 } G σ [.ref (G.2.2 0), .int (bI a1), .int (bI a2)] Q := by
  refine bk_Mi.of (cc := cX8_leads) (maxL := 3) (ret := some .int) (by decide) rfl (Nat.le_of_ble_eq_true rfl) ?_
  intro p e s m args below meth c S hr hlk hσ
  exact wX8_leads_e S hr hlk ha1 ha2 hσ h
def vX8_mayRun (Q : Int → bS → Prop) (a1 : Int) (a2 : Int) (a3 : Int) (σ : bS) : Prop := (vX6_hasRoutine (fun z1 σ2 => ((z1 = 0 → (Q 0 σ2)) ∧ (¬ z1 = 0 → ((a2 < 0 → (Q 0 σ2)) ∧ (¬ a2 < 0 → ((255 < a2 → (Q 0 σ2)) ∧ (¬ 255 < a2 → ((a3 < 1 → (Q 0 σ2)) ∧ (¬ a3 < 1 → ((3000 < a3 → (Q 0 σ2)) ∧ (¬ 3000 < a3 → (Q 1 σ2)))))))))))) a1 σ)
theorem mono_vX8_mayRun {Q Q9 : Int → bS → Prop} {a1 : Int} {a2 : Int} {a3 : Int} {σ : bS} (hQ : ∀ r σ, Q r σ → Q9 r σ) : vX8_mayRun Q a1 a2 a3 σ → vX8_mayRun Q9 a1 a2 a3 σ := (mono_X6_hasRoutine (fun _ _ => (bm_and (bm_imp (hQ _ _)) (bm_imp (bm_and (bm_imp (hQ _ _)) (bm_imp (bm_and (bm_imp (hQ _ _)) (bm_imp (bm_and (bm_imp (hQ _ _)) (bm_imp (bm_and (bm_imp (hQ _ _)) (bm_imp (hQ _ _)))))))))))))
theorem wX8_mayRun_e {p : Program} {l : Launch} {e : Env} {s : State} {m : MethodId} {args : Array Value} {below : List Frame} {meth : Method} {c : Code} {G : bG} {σ0 : bS} {Q : Int → bS → Prop} {a1 : Int} {a2 : Int} {a3 : Int} {σ : bS} (S : CallFix p m c cX8_mayRun 4 s args bT "BankLinker") (hr : meth.sig.returnType = some .boolean) (hlk : meth.locks = false) (ha1 : bR a1) (ha2 : bR a2) (ha3 : bR a3) (hσ : bRG σ) (h : vX8_mayRun Q a1 a2 a3 σ) : bA p l e { frames := 1, cells := 0, slots := 0, locals := 21 } s m args below meth c 0 0 (bQi below args s G σ0 Q) G (va_A (bk_w G σ0) s.heap.size) 4 0 [(0, .ref (G.2.2 0)), (1, .int (bI a1)), (2, .int (bI a2)), (3, .int (bI a3))] [] σ := by
  unfold vX8_mayRun at h
  refine br_aload_n S 0 dX8_mayRun_0 rfl rfl ?_
  refine br_get (f := 0) (N := 8) (C := RX8) (T := TX8) S inT_X8 wd_2_63 (by decide) rfl rfl (by decide) rfl dX8_mayRun_1 ?_
  refine br_iload_n S 1 dX8_mayRun_4 rfl rfl ?_
  refine br_callV (As := [.int (bI a1)]) (rest := []) S (cwV_X6_hasRoutine S.2.2.2.2 wd_2_112 ⟨by decide, by decide⟩) (mX6_hasRoutine l G σ a1 ha1 h) (by decide) rfl rfl rfl hσ rfl rfl (Nat.le_of_ble_eq_true rfl) ⟨by decide, by decide⟩ dX8_mayRun_5 (fun z1 σ2 hz1 hσ2 h => ?_)
  refine br_if_eq S 38 hz1 dX8_mayRun_8 (by decide) (fun c3 => ?_) (fun c3 => ?_)
  · replace h := h.1 c3
    refine br_iconst S dX8_mayRun_38 ?_
    exact br_zret S hr hlk (by decide) hσ2 dX8_mayRun_39 h
  · replace h := h.2 c3
    refine br_iload_n S 2 dX8_mayRun_11 rfl rfl ?_
    refine br_if_lt S 38 ha2 dX8_mayRun_12 (by decide) (fun c4 => ?_) (fun c4 => ?_)
    · replace h := h.1 c4
      refine br_iconst S dX8_mayRun_38 ?_
      exact br_zret S hr hlk (by decide) hσ2 dX8_mayRun_39 h
    · replace h := h.2 c4
      refine br_iload_n S 2 dX8_mayRun_15 rfl rfl ?_
      refine br_sipush S dX8_mayRun_16 rfl ?_
      refine br_ic_gt S 38 ha2 (by decide) dX8_mayRun_19 (by decide) (fun c5 => ?_) (fun c5 => ?_)
      · replace h := h.1 c5
        refine br_iconst S dX8_mayRun_38 ?_
        exact br_zret S hr hlk (by decide) hσ2 dX8_mayRun_39 h
      · replace h := h.2 c5
        refine br_iload_n S 3 dX8_mayRun_22 rfl rfl ?_
        refine br_iconst S dX8_mayRun_23 ?_
        refine br_ic_lt S 38 ha3 (by decide) dX8_mayRun_24 (by decide) (fun c6 => ?_) (fun c6 => ?_)
        · replace h := h.1 c6
          refine br_iconst S dX8_mayRun_38 ?_
          exact br_zret S hr hlk (by decide) hσ2 dX8_mayRun_39 h
        · replace h := h.2 c6
          refine br_iload_n S 3 dX8_mayRun_27 rfl rfl ?_
          refine br_sipush S dX8_mayRun_28 rfl ?_
          refine br_ic_gt S 38 ha3 (by decide) dX8_mayRun_31 (by decide) (fun c7 => ?_) (fun c7 => ?_)
          · replace h := h.1 c7
            refine br_iconst S dX8_mayRun_38 ?_
            exact br_zret S hr hlk (by decide) hσ2 dX8_mayRun_39 h
          · replace h := h.2 c7
            refine br_iconst S dX8_mayRun_34 ?_
            refine br_goto S 39 dX8_mayRun_35 (by decide) ?_
            exact br_zret S hr hlk (by decide) hσ2 dX8_mayRun_39 h
theorem mono_X8_mayRun {Q Q9 : Int → bS → Prop} {a1 : Int} {a2 : Int} {a3 : Int} {σ : bS} (hQ : ∀ r σ, Q r σ → Q9 r σ) : vX8_mayRun Q a1 a2 a3 σ → vX8_mayRun Q9 a1 a2 a3 σ := mono_vX8_mayRun hQ
theorem mX8_mayRun (l : Launch) (G : bG) (σ : bS) (a1 : Int) (ha1 : bR a1) (a2 : Int) (ha2 : bR a2) (a3 : Int) (ha3 : bR a3) {Q : Int → bS → Prop} (h : vX8_mayRun Q a1 a2 a3 σ) : bk_Mi l yX8_mayRun (Cond.code yX8_mayRun cX8_mayRun 4 (some .boolean) :: bT) { frames := 1, cells := 0, slots := 0, locals := 21 } G σ [.ref (G.2.2 0), .int (bI a1), .int (bI a2), .int (bI a3)] Q := by
  refine bk_Mi.of (cc := cX8_mayRun) (maxL := 4) (ret := some .boolean) (by decide) rfl (Nat.le_of_ble_eq_true rfl) ?_
  intro p e s m args below meth c S hr hlk hσ
  exact wX8_mayRun_e S hr hlk ha1 ha2 ha3 hσ h
def vX8_run (Q : Int → bS → Prop) (a1 : Int) (a2 : Int) (a3 : Int) (σ : bS) : Prop := (vX8_mayRun (fun z1 σ2 => ((¬ z1 = 0 → ((¬ (σ2 0 7) = 0 → ((0 ≤ a1 ∧ a1 < 30) ∧ (vX4_perform (fun z6 σ7 => (Q z6 σ7)) (max (σ2 23 a1) 0) (σ2 24 a1) a2 a3 σ2))) ∧ ((σ2 0 7) = 0 → (Q (-3) σ2)))) ∧ (z1 = 0 → (Q (-2) σ2)))) a1 a2 a3 σ)
theorem mono_vX8_run {Q Q9 : Int → bS → Prop} {a1 : Int} {a2 : Int} {a3 : Int} {σ : bS} (hQ : ∀ r σ, Q r σ → Q9 r σ) : vX8_run Q a1 a2 a3 σ → vX8_run Q9 a1 a2 a3 σ := (mono_X8_mayRun (fun _ _ => (bm_and (bm_imp (bm_and (bm_imp (bm_r (mono_X4_perform (fun _ _ => (hQ _ _))))) (bm_imp (hQ _ _)))) (bm_imp (hQ _ _)))))
theorem wX8_run_e {p : Program} {l : Launch} {e : Env} {s : State} {m : MethodId} {args : Array Value} {below : List Frame} {meth : Method} {c : Code} {G : bG} {σ0 : bS} {Q : Int → bS → Prop} {a1 : Int} {a2 : Int} {a3 : Int} {σ : bS} (S : CallFix p m c cX8_run 5 s args bT "BankLinker") (hr : meth.sig.returnType = some .int) (hlk : meth.locks = false) (ha1 : bR a1) (ha2 : bR a2) (ha3 : bR a3) (hσ : bRG σ) (h : vX8_run Q a1 a2 a3 σ) : bA p l e { frames := 6, cells := 0, slots := 0, locals := 136 } s m args below meth c 0 0 (bQi below args s G σ0 Q) G (va_A (bk_w G σ0) s.heap.size) 5 0 [(0, .ref (G.2.2 0)), (1, .int (bI a1)), (2, .int (bI a2)), (3, .int (bI a3))] [] σ := by
  unfold vX8_run at h
  refine br_aload_n S 0 dX8_run_0 rfl rfl ?_
  refine br_iload_n S 1 dX8_run_1 rfl rfl ?_
  refine br_iload_n S 2 dX8_run_2 rfl rfl ?_
  refine br_iload_n S 3 dX8_run_3 rfl rfl ?_
  refine br_callV (As := [.int (bI a1), .int (bI a2), .int (bI a3)]) (rest := []) S (cwV_X8_mayRun S.2.2.2.2 wd_3_104 ⟨by decide, by decide⟩) (mX8_mayRun l G σ a1 ha1 a2 ha2 a3 ha3 h) (by decide) rfl rfl rfl hσ rfl rfl (Nat.le_of_ble_eq_true rfl) ⟨by decide, by decide⟩ dX8_run_4 (fun z1 σ2 hz1 hσ2 h => ?_)
  refine br_if_ne S 13 hz1 dX8_run_7 (by decide) (fun c3 => ?_) (fun c3 => ?_)
  · replace h := h.1 c3
    refine br_aload_n S 0 dX8_run_13 rfl rfl ?_
    refine br_get (f := 7) (N := 8) (C := RX8) (T := TX8) S inT_X8 wd_2_70 (by decide) rfl rfl (by decide) rfl dX8_run_14 ?_
    refine br_if_ne S 23 (hσ2 0 7) dX8_run_17 (by decide) (fun c4 => ?_) (fun c4 => ?_)
    · replace h := h.1 c4
      refine br_aload_n S 0 dX8_run_23 rfl rfl ?_
      refine br_get (f := 2) (N := 8) (C := RX8) (T := TX8) S inT_X8 wd_2_65 (by decide) rfl rfl (by decide) rfl dX8_run_24 ?_
      refine br_get (f := 1) (N := 14) (C := RX2) (T := TX2) S inT_X2 wd_1_108 (by decide) rfl rfl (by decide) rfl dX8_run_27 ?_
      refine br_iload_n S 1 dX8_run_30 rfl rfl ?_
      obtain ⟨g5, h⟩ := h
      refine br_iald (n := 30) S ⟨by decide, by decide, fun _ => rfl⟩ g5.1 g5.2 dX8_run_31 ?_
      refine br_iconst S dX8_run_32 ?_
      refine br_max S wd_3_108 wd_max1 wd_max2 wd_max3 (hσ2 23 a1) (by decide) (by decide) (Nat.le_of_ble_eq_true rfl) ⟨by decide, by decide⟩ dX8_run_33 ?_
      refine br_istore S [(4, .int (bI (max (σ2 23 a1) 0))), (0, .ref (G.2.2 0)), (1, .int (bI a1)), (2, .int (bI a2)), (3, .int (bI a3))] dX8_run_36 (by decide) rfl ?_
      refine br_aload_n S 1 dX8_run_38 rfl rfl ?_
      refine br_get (f := 5) (N := 8) (C := RX8) (T := TX8) S inT_X8 wd_2_68 (by decide) rfl rfl (by decide) rfl dX8_run_39 ?_
      refine br_iload S 0 dX8_run_42 rfl ?_
      refine br_aload_n S 1 dX8_run_44 rfl rfl ?_
      refine br_get (f := 2) (N := 8) (C := RX8) (T := TX8) S inT_X8 wd_2_65 (by decide) rfl rfl (by decide) rfl dX8_run_45 ?_
      refine br_get (f := 2) (N := 14) (C := RX2) (T := TX2) S inT_X2 wd_1_111 (by decide) rfl rfl (by decide) rfl dX8_run_48 ?_
      refine br_iload_n S 2 dX8_run_51 rfl rfl ?_
      refine br_iald (n := 30) S ⟨by decide, by decide, fun _ => rfl⟩ g5.1 g5.2 dX8_run_52 ?_
      refine br_iload_n S 3 dX8_run_53 rfl rfl ?_
      refine br_iload_n S 4 dX8_run_54 rfl rfl ?_
      refine br_callV (As := [.int (bI (max (σ2 23 a1) 0)), .int (bI (σ2 24 a1)), .int (bI a2), .int (bI a3)]) (rest := []) S (cwV_X4_perform S.2.2.2.2 wd_3_109 ⟨by decide, by decide⟩) (mX4_perform l G σ2 (max (σ2 23 a1) 0) (bR_max (hσ2 23 a1) (by decide)) (σ2 24 a1) (hσ2 24 a1) a2 ha2 a3 ha3 h) (by decide) rfl rfl rfl hσ2 rfl rfl (Nat.le_of_ble_eq_true rfl) ⟨by decide, by decide⟩ dX8_run_55 (fun z6 σ7 hz6 hσ7 h => ?_)
      exact br_iret S hr hlk hz6 hσ7 dX8_run_58 h
    · replace h := h.2 c4
      refine br_bipush S dX8_run_20 rfl ?_
      exact br_iret S hr hlk (by decide) hσ2 dX8_run_22 h
  · replace h := h.2 c3
    refine br_bipush S dX8_run_10 rfl ?_
    exact br_iret S hr hlk (by decide) hσ2 dX8_run_12 h
theorem mono_X8_run {Q Q9 : Int → bS → Prop} {a1 : Int} {a2 : Int} {a3 : Int} {σ : bS} (hQ : ∀ r σ, Q r σ → Q9 r σ) : vX8_run Q a1 a2 a3 σ → vX8_run Q9 a1 a2 a3 σ := mono_vX8_run hQ
theorem mX8_run (l : Launch) (G : bG) (σ : bS) (a1 : Int) (ha1 : bR a1) (a2 : Int) (ha2 : bR a2) (a3 : Int) (ha3 : bR a3) {Q : Int → bS → Prop} (h : vX8_run Q a1 a2 a3 σ) : bk_Mi l yX8_run (Cond.code yX8_run cX8_run 5 (some .int) :: bT) { frames := 6, cells := 0, slots := 0, locals := 136 } G σ [.ref (G.2.2 0), .int (bI a1), .int (bI a2), .int (bI a3)] Q := by
  refine bk_Mi.of (cc := cX8_run) (maxL := 5) (ret := some .int) (by decide) rfl (Nat.le_of_ble_eq_true rfl) ?_
  intro p e s m args below meth c S hr hlk hσ
  exact wX8_run_e S hr hlk ha1 ha2 ha3 hσ h
def vX8_flat (Q : Int → bS → Prop) (a1 : Int) (a2 : Int) (a3 : Int) (σ : bS) : Prop := (vX8_mayRun (fun z1 σ2 => ((¬ z1 = 0 → (vX1_perform (fun z4 σ5 => (Q z4 σ5)) a1 a2 a3 σ2)) ∧ (z1 = 0 → (Q (-2) σ2)))) a1 a2 a3 σ)
theorem mono_vX8_flat {Q Q9 : Int → bS → Prop} {a1 : Int} {a2 : Int} {a3 : Int} {σ : bS} (hQ : ∀ r σ, Q r σ → Q9 r σ) : vX8_flat Q a1 a2 a3 σ → vX8_flat Q9 a1 a2 a3 σ := (mono_X8_mayRun (fun _ _ => (bm_and (bm_imp (mono_X1_perform (fun _ _ => (hQ _ _)))) (bm_imp (hQ _ _)))))
theorem wX8_flat_e {p : Program} {l : Launch} {e : Env} {s : State} {m : MethodId} {args : Array Value} {below : List Frame} {meth : Method} {c : Code} {G : bG} {σ0 : bS} {Q : Int → bS → Prop} {a1 : Int} {a2 : Int} {a3 : Int} {σ : bS} (S : CallFix p m c cX8_flat 4 s args bT "BankLinker") (hr : meth.sig.returnType = some .int) (hlk : meth.locks = false) (ha1 : bR a1) (ha2 : bR a2) (ha3 : bR a3) (hσ : bRG σ) (h : vX8_flat Q a1 a2 a3 σ) : bA p l e { frames := 5, cells := 0, slots := 0, locals := 115 } s m args below meth c 0 0 (bQi below args s G σ0 Q) G (va_A (bk_w G σ0) s.heap.size) 4 0 [(0, .ref (G.2.2 0)), (1, .int (bI a1)), (2, .int (bI a2)), (3, .int (bI a3))] [] σ := by
  unfold vX8_flat at h
  refine br_aload_n S 0 dX8_flat_0 rfl rfl ?_
  refine br_iload_n S 1 dX8_flat_1 rfl rfl ?_
  refine br_iload_n S 2 dX8_flat_2 rfl rfl ?_
  refine br_iload_n S 3 dX8_flat_3 rfl rfl ?_
  refine br_callV (As := [.int (bI a1), .int (bI a2), .int (bI a3)]) (rest := []) S (cwV_X8_mayRun S.2.2.2.2 wd_3_104 ⟨by decide, by decide⟩) (mX8_mayRun l G σ a1 ha1 a2 ha2 a3 ha3 h) (by decide) rfl rfl rfl hσ rfl rfl (Nat.le_of_ble_eq_true rfl) ⟨by decide, by decide⟩ dX8_flat_4 (fun z1 σ2 hz1 hσ2 h => ?_)
  refine br_if_ne S 13 hz1 dX8_flat_7 (by decide) (fun c3 => ?_) (fun c3 => ?_)
  · replace h := h.1 c3
    refine br_aload_n S 0 dX8_flat_13 rfl rfl ?_
    refine br_get (f := 6) (N := 8) (C := RX8) (T := TX8) S inT_X8 wd_2_69 (by decide) rfl rfl (by decide) rfl dX8_flat_14 ?_
    refine br_iload_n S 1 dX8_flat_17 rfl rfl ?_
    refine br_iload_n S 2 dX8_flat_18 rfl rfl ?_
    refine br_iload_n S 3 dX8_flat_19 rfl rfl ?_
    refine br_callV (As := [.int (bI a1), .int (bI a2), .int (bI a3)]) (rest := []) S (cwV_X1_perform S.2.2.2.2 wd_3_180 ⟨by decide, by decide⟩) (mX1_perform l G σ2 a1 ha1 a2 ha2 a3 ha3 h) (by decide) rfl rfl rfl hσ2 rfl rfl (Nat.le_of_ble_eq_true rfl) ⟨by decide, by decide⟩ dX8_flat_20 (fun z4 σ5 hz4 hσ5 h => ?_)
    exact br_iret S hr hlk hz4 hσ5 dX8_flat_23 h
  · replace h := h.2 c3
    refine br_bipush S dX8_flat_10 rfl ?_
    exact br_iret S hr hlk (by decide) hσ2 dX8_flat_12 h
theorem mono_X8_flat {Q Q9 : Int → bS → Prop} {a1 : Int} {a2 : Int} {a3 : Int} {σ : bS} (hQ : ∀ r σ, Q r σ → Q9 r σ) : vX8_flat Q a1 a2 a3 σ → vX8_flat Q9 a1 a2 a3 σ := mono_vX8_flat hQ
theorem mX8_flat (l : Launch) (G : bG) (σ : bS) (a1 : Int) (ha1 : bR a1) (a2 : Int) (ha2 : bR a2) (a3 : Int) (ha3 : bR a3) {Q : Int → bS → Prop} (h : vX8_flat Q a1 a2 a3 σ) : bk_Mi l yX8_flat (Cond.code yX8_flat cX8_flat 4 (some .int) :: bT) { frames := 5, cells := 0, slots := 0, locals := 115 } G σ [.ref (G.2.2 0), .int (bI a1), .int (bI a2), .int (bI a3)] Q := by
  refine bk_Mi.of (cc := cX8_flat) (maxL := 4) (ret := some .int) (by decide) rfl (Nat.le_of_ble_eq_true rfl) ?_
  intro p e s m args below meth c S hr hlk hσ
  exact wX8_flat_e S hr hlk ha1 ha2 ha3 hσ h
def vX8_reportOf (Q : Nat → bS → Prop) (a1 : Int) (σ : bS) : Prop := ((¬ a1 = 0 → (Q 9 σ)) ∧ (a1 = 0 → (Q 8 σ)))
theorem mono_vX8_reportOf {Q Q9 : Nat → bS → Prop} {a1 : Int} {σ : bS} (hQ : ∀ r σ, Q r σ → Q9 r σ) : vX8_reportOf Q a1 σ → vX8_reportOf Q9 a1 σ := (bm_and (bm_imp (hQ _ _)) (bm_imp (hQ _ _)))
theorem wX8_reportOf_e {p : Program} {l : Launch} {e : Env} {s : State} {m : MethodId} {args : Array Value} {below : List Frame} {meth : Method} {c : Code} {G : bG} {σ0 : bS} {Q : Nat → bS → Prop} {a1 : Int} {σ : bS} (S : CallFix p m c cX8_reportOf 2 s args bT "BankLinker") (hr : meth.sig.returnType = some (.object "BankLinker$Report")) (hlk : meth.locks = false) (ha1 : bR a1) (hσ : bRG σ) (h : vX8_reportOf Q a1 σ) : bA p l e { frames := 0, cells := 0, slots := 0, locals := 0 } s m args below meth c 0 0 (bQr below args s G σ0 Q) G (va_A (bk_w G σ0) s.heap.size) 2 0 [(0, .ref (G.2.2 0)), (1, .int (bI a1))] [] σ := by
  unfold vX8_reportOf at h
  refine br_iload_n S 1 dX8_reportOf_0 rfl rfl ?_
  refine br_if_ne S 14 ha1 dX8_reportOf_1 (by decide) (fun c1 => ?_) (fun c1 => ?_)
  · replace h := h.1 c1
    refine br_aload_n S 0 dX8_reportOf_14 rfl rfl ?_
    refine br_get (f := 6) (N := 8) (C := RX8) (T := TX8) S inT_X8 wd_2_69 (by decide) rfl rfl (by decide) rfl dX8_reportOf_15 ?_
    refine br_get (f := 0) (N := 6) (C := RX1) (T := TX1) S inT_X1 wd_2_44 (by decide) rfl rfl (by decide) rfl dX8_reportOf_18 ?_
    exact br_aret S hr hlk 9 hσ dX8_reportOf_21 h
  · replace h := h.2 c1
    refine br_aload_n S 0 dX8_reportOf_4 rfl rfl ?_
    refine br_get (f := 5) (N := 8) (C := RX8) (T := TX8) S inT_X8 wd_2_68 (by decide) rfl rfl (by decide) rfl dX8_reportOf_5 ?_
    refine br_get (f := 0) (N := 7) (C := RX4) (T := TX4) S inT_X4 wd_2_13 (by decide) rfl rfl (by decide) rfl dX8_reportOf_8 ?_
    refine br_goto S 21 dX8_reportOf_11 (by decide) ?_
    exact br_aret S hr hlk 8 hσ dX8_reportOf_21 h
theorem mono_X8_reportOf {Q Q9 : Nat → bS → Prop} {a1 : Int} {σ : bS} (hQ : ∀ r σ, Q r σ → Q9 r σ) : vX8_reportOf Q a1 σ → vX8_reportOf Q9 a1 σ := mono_vX8_reportOf hQ
theorem mX8_reportOf (l : Launch) (G : bG) (σ : bS) (a1 : Int) (ha1 : bR a1) {Q : Nat → bS → Prop} (h : vX8_reportOf Q a1 σ) : bk_Mr l yX8_reportOf (Cond.code yX8_reportOf cX8_reportOf 2 (some (.object "BankLinker$Report")) :: bT) { frames := 0, cells := 0, slots := 0, locals := 0 } G σ [.ref (G.2.2 0), .int (bI a1)] Q := by
  refine bk_Mr.of (cc := cX8_reportOf) (maxL := 2) (ret := some (.object "BankLinker$Report")) (by decide) rfl (Nat.le_of_ble_eq_true rfl) ?_
  intro p e s m args below meth c S hr hlk hσ
  exact wX8_reportOf_e S hr hlk ha1 hσ h
def vX8_out_12 (Q : Int → bS → Prop) (x1 : Int) (x2 : Int) (σ : bS) : Prop := (vX8_reportOf (fun z1 σ2 => (z1 = 8 → (vX7_keptNumber_8 (fun z3 σ4 => (Q z3 σ4)) x2 σ2)) ∧ (z1 = 9 → (vX7_keptNumber_9 (fun z5 σ6 => (Q z5 σ6)) x2 σ2)) ∧ (z1 = 8 ∨ z1 = 9)) x1 σ)
theorem mono_vX8_out_12 {Q Q9 : Int → bS → Prop} {x1 : Int} {x2 : Int} {σ : bS} (hQ : ∀ r σ, Q r σ → Q9 r σ) : vX8_out_12 Q x1 x2 σ → vX8_out_12 Q9 x1 x2 σ := (mono_X8_reportOf (fun _ _ => (bm_and (bm_imp (mono_X7_keptNumber_8 (fun _ _ => (hQ _ _)))) (bm_and (bm_imp (mono_X7_keptNumber_9 (fun _ _ => (hQ _ _)))) id))))
theorem wX8_out_12 {p : Program} {l : Launch} {e : Env} {s : State} {m : MethodId} {args : Array Value} {below : List Frame} {meth : Method} {c : Code} {G : bG} {σ0 : bS} {Q : Int → bS → Prop} {x1 : Int} {x2 : Int} {σ : bS} (S : CallFix p m c cX8_out 3 s args bT "BankLinker") (hr : meth.sig.returnType = some .int) (hlk : meth.locks = false) (hx1 : bR x1) (hx2 : bR x2) (hσ : bRG σ) (h : vX8_out_12 Q x1 x2 σ) : bA p l e { frames := 1, cells := 0, slots := 0, locals := 21 } s m args below meth c 0 0 (bQi below args s G σ0 Q) G (va_A (bk_w G σ0) s.heap.size) 3 12 [(0, .ref (G.2.2 0)), (1, .int (bI x1)), (2, .int (bI x2))] [] σ := by
  unfold vX8_out_12 at h
  refine br_aload_n S 0 dX8_out_12 rfl rfl ?_
  refine br_iload_n S 1 dX8_out_13 rfl rfl ?_
  refine br_callVr (As := [.int (bI x1)]) (rest := []) S (cwV_X8_reportOf S.2.2.2.2 wd_3_216 ⟨by decide, by decide⟩) (mX8_reportOf l G σ x1 hx1 h) (by decide) rfl rfl rfl hσ rfl rfl (Nat.le_of_ble_eq_true rfl) ⟨by decide, by decide⟩ dX8_out_14 (fun z1 σ2 hσ2 h => ?_)
  obtain ⟨hr8, hr9, hr⟩ := h
  rcases hr with rfl | rfl
  · replace h := hr8 rfl
    refine br_iload_n S 2 dX8_out_17 rfl rfl ?_
    refine br_callV (As := [.int (bI x2)]) (rest := []) S (cwV_X7_keptNumber S.2.2.2.2 wd_3_220 ⟨by decide, by decide⟩) (mX7_keptNumber_8 l G σ2 x2 hx2 h) (by decide) rfl rfl rfl hσ2 rfl rfl (Nat.le_of_ble_eq_true rfl) ⟨by decide, by decide⟩ dX8_out_18 (fun z3 σ4 hz3 hσ4 h => ?_)
    exact br_iret S hr hlk hz3 hσ4 dX8_out_21 h
  · replace h := hr9 rfl
    refine br_iload_n S 2 dX8_out_17 rfl rfl ?_
    refine br_callV (As := [.int (bI x2)]) (rest := []) S (cwV_X7_keptNumber S.2.2.2.2 wd_3_220 ⟨by decide, by decide⟩) (mX7_keptNumber_9 l G σ2 x2 hx2 h) (by decide) rfl rfl rfl hσ2 rfl rfl (Nat.le_of_ble_eq_true rfl) ⟨by decide, by decide⟩ dX8_out_18 (fun z5 σ6 hz5 hσ6 h => ?_)
    exact br_iret S hr hlk hz5 hσ6 dX8_out_21 h
def vX8_out (Q : Int → bS → Prop) (a1 : Int) (a2 : Int) (σ : bS) : Prop := ((a1 = 0 → (vX8_out_12 Q a1 a2 σ)) ∧ (¬ a1 = 0 → ((a1 = 1 → (vX8_out_12 Q a1 a2 σ)) ∧ (¬ a1 = 1 → (Q (-2) σ)))))
theorem mono_vX8_out {Q Q9 : Int → bS → Prop} {a1 : Int} {a2 : Int} {σ : bS} (hQ : ∀ r σ, Q r σ → Q9 r σ) : vX8_out Q a1 a2 σ → vX8_out Q9 a1 a2 σ := (bm_and (bm_imp (mono_vX8_out_12 hQ)) (bm_imp (bm_and (bm_imp (mono_vX8_out_12 hQ)) (bm_imp (hQ _ _)))))
theorem wX8_out_e {p : Program} {l : Launch} {e : Env} {s : State} {m : MethodId} {args : Array Value} {below : List Frame} {meth : Method} {c : Code} {G : bG} {σ0 : bS} {Q : Int → bS → Prop} {a1 : Int} {a2 : Int} {σ : bS} (S : CallFix p m c cX8_out 3 s args bT "BankLinker") (hr : meth.sig.returnType = some .int) (hlk : meth.locks = false) (ha1 : bR a1) (ha2 : bR a2) (hσ : bRG σ) (h : vX8_out Q a1 a2 σ) : bA p l e { frames := 1, cells := 0, slots := 0, locals := 21 } s m args below meth c 0 0 (bQi below args s G σ0 Q) G (va_A (bk_w G σ0) s.heap.size) 3 0 [(0, .ref (G.2.2 0)), (1, .int (bI a1)), (2, .int (bI a2))] [] σ := by
  unfold vX8_out at h
  refine br_iload_n S 1 dX8_out_0 rfl rfl ?_
  refine br_if_eq S 12 ha1 dX8_out_1 (by decide) (fun c1 => ?_) (fun c1 => ?_)
  · replace h := h.1 c1
    exact wX8_out_12 S hr hlk ha1 ha2 hσ h
  · replace h := h.2 c1
    refine br_iload_n S 1 dX8_out_4 rfl rfl ?_
    refine br_iconst S dX8_out_5 ?_
    refine br_ic_eq S 12 ha1 (by decide) dX8_out_6 (by decide) (fun c2 => ?_) (fun c2 => ?_)
    · replace h := h.1 c2
      exact wX8_out_12 S hr hlk ha1 ha2 hσ h
    · replace h := h.2 c2
      refine br_bipush S dX8_out_9 rfl ?_
      exact br_iret S hr hlk (by decide) hσ dX8_out_11 h
theorem mono_X8_out {Q Q9 : Int → bS → Prop} {a1 : Int} {a2 : Int} {σ : bS} (hQ : ∀ r σ, Q r σ → Q9 r σ) : vX8_out Q a1 a2 σ → vX8_out Q9 a1 a2 σ := mono_vX8_out hQ
theorem mX8_out (l : Launch) (G : bG) (σ : bS) (a1 : Int) (ha1 : bR a1) (a2 : Int) (ha2 : bR a2) {Q : Int → bS → Prop} (h : vX8_out Q a1 a2 σ) : bk_Mi l yX8_out (Cond.code yX8_out cX8_out 3 (some .int) :: bT) { frames := 1, cells := 0, slots := 0, locals := 21 } G σ [.ref (G.2.2 0), .int (bI a1), .int (bI a2)] Q := by
  refine bk_Mi.of (cc := cX8_out) (maxL := 3) (ret := some .int) (by decide) rfl (Nat.le_of_ble_eq_true rfl) ?_
  intro p e s m args below meth c S hr hlk hσ
  exact wX8_out_e S hr hlk ha1 ha2 hσ h
def vX8_told_12 (Q : Int → bS → Prop) (x1 : Int) (x2 : Int) (σ : bS) : Prop := (vX8_reportOf (fun z1 σ2 => (z1 = 8 → (((x2 < 0 ∨ 4 < x2) → (Q (-2) σ2)) ∧ (x2 = 0 → (Q (σ2 8 1) σ2)) ∧ (x2 = 1 → (Q (σ2 8 2) σ2)) ∧ (x2 = 2 → (Q (σ2 8 3) σ2)) ∧ (x2 = 3 → (Q (σ2 8 4) σ2)) ∧ (x2 = 4 → (Q (σ2 8 5) σ2)))) ∧ (z1 = 9 → (((x2 < 0 ∨ 4 < x2) → (Q (-2) σ2)) ∧ (x2 = 0 → (Q (σ2 9 1) σ2)) ∧ (x2 = 1 → (Q (σ2 9 2) σ2)) ∧ (x2 = 2 → (Q (σ2 9 3) σ2)) ∧ (x2 = 3 → (Q (σ2 9 4) σ2)) ∧ (x2 = 4 → (Q (σ2 9 5) σ2)))) ∧ (z1 = 8 ∨ z1 = 9)) x1 σ)
theorem mono_vX8_told_12 {Q Q9 : Int → bS → Prop} {x1 : Int} {x2 : Int} {σ : bS} (hQ : ∀ r σ, Q r σ → Q9 r σ) : vX8_told_12 Q x1 x2 σ → vX8_told_12 Q9 x1 x2 σ := (mono_X8_reportOf (fun _ _ => (bm_and (bm_imp (bm_and (bm_imp (hQ _ _)) (bm_and (bm_imp (hQ _ _)) (bm_and (bm_imp (hQ _ _)) (bm_and (bm_imp (hQ _ _)) (bm_and (bm_imp (hQ _ _)) (bm_imp (hQ _ _)))))))) (bm_and (bm_imp (bm_and (bm_imp (hQ _ _)) (bm_and (bm_imp (hQ _ _)) (bm_and (bm_imp (hQ _ _)) (bm_and (bm_imp (hQ _ _)) (bm_and (bm_imp (hQ _ _)) (bm_imp (hQ _ _)))))))) id))))
theorem wX8_told_12 {p : Program} {l : Launch} {e : Env} {s : State} {m : MethodId} {args : Array Value} {below : List Frame} {meth : Method} {c : Code} {G : bG} {σ0 : bS} {Q : Int → bS → Prop} {x1 : Int} {x2 : Int} {σ : bS} (S : CallFix p m c cX8_told 4 s args bT "BankLinker") (hr : meth.sig.returnType = some .int) (hlk : meth.locks = false) (hx1 : bR x1) (hx2 : bR x2) (hσ : bRG σ) (h : vX8_told_12 Q x1 x2 σ) : bA p l e { frames := 1, cells := 0, slots := 0, locals := 21 } s m args below meth c 0 0 (bQi below args s G σ0 Q) G (va_A (bk_w G σ0) s.heap.size) 4 12 [(0, .ref (G.2.2 0)), (1, .int (bI x1)), (2, .int (bI x2))] [] σ := by
  unfold vX8_told_12 at h
  refine br_aload_n S 0 dX8_told_12 rfl rfl ?_
  refine br_iload_n S 1 dX8_told_13 rfl rfl ?_
  refine br_callVr (As := [.int (bI x1)]) (rest := []) S (cwV_X8_reportOf S.2.2.2.2 wd_3_216 ⟨by decide, by decide⟩) (mX8_reportOf l G σ x1 hx1 h) (by decide) rfl rfl rfl hσ rfl rfl (Nat.le_of_ble_eq_true rfl) ⟨by decide, by decide⟩ dX8_told_14 (fun z1 σ2 hσ2 h => ?_)
  obtain ⟨hr8, hr9, hr⟩ := h
  rcases hr with rfl | rfl
  · replace h := hr8 rfl
    refine br_astore_n S [(3, .ref (G.2.2 8)), (0, .ref (G.2.2 0)), (1, .int (bI x1)), (2, .int (bI x2))] dX8_told_17 rfl (by decide) rfl ?_
    refine br_iload_n S 3 dX8_told_18 rfl rfl ?_
    by_cases c3 : x2 < 0 ∨ 4 < x2
    · replace h := h.1 c3
      refine br_tblO S 77 hx2 c3 dX8_told_19 (by decide) ?_
      refine br_bipush S dX8_told_77 rfl ?_
      exact br_iret S hr hlk (by decide) hσ2 dX8_told_79 h
    · rcases (show x2 = 0 ∨ x2 = 1 ∨ x2 = 2 ∨ x2 = 3 ∨ x2 = 4 by omega) with c4 | c4 | c4 | c4 | c4
      · replace h := h.2.1 c4
        refine br_tblI S 52 0 hx2 c4 (by decide) rfl dX8_told_19 (by decide) ?_
        refine br_aload_n S 0 dX8_told_52 rfl rfl ?_
        refine br_get (f := 1) (N := 6) (C := RX7) (T := TX7) S inT_X7 wd_1_227 (by decide) rfl rfl (by decide) rfl dX8_told_53 ?_
        exact br_iret S hr hlk (hσ2 8 1) hσ2 dX8_told_56 h
      · replace h := h.2.2.1 c4
        refine br_tblI S 57 1 hx2 c4 (by decide) rfl dX8_told_19 (by decide) ?_
        refine br_aload_n S 0 dX8_told_57 rfl rfl ?_
        refine br_get (f := 2) (N := 6) (C := RX7) (T := TX7) S inT_X7 wd_1_231 (by decide) rfl rfl (by decide) rfl dX8_told_58 ?_
        exact br_iret S hr hlk (hσ2 8 2) hσ2 dX8_told_61 h
      · replace h := h.2.2.2.1 c4
        refine br_tblI S 62 2 hx2 c4 (by decide) rfl dX8_told_19 (by decide) ?_
        refine br_aload_n S 0 dX8_told_62 rfl rfl ?_
        refine br_get (f := 3) (N := 6) (C := RX7) (T := TX7) S inT_X7 wd_1_233 (by decide) rfl rfl (by decide) rfl dX8_told_63 ?_
        exact br_iret S hr hlk (hσ2 8 3) hσ2 dX8_told_66 h
      · replace h := h.2.2.2.2.1 c4
        refine br_tblI S 67 3 hx2 c4 (by decide) rfl dX8_told_19 (by decide) ?_
        refine br_aload_n S 0 dX8_told_67 rfl rfl ?_
        refine br_get (f := 4) (N := 6) (C := RX7) (T := TX7) S inT_X7 wd_1_235 (by decide) rfl rfl (by decide) rfl dX8_told_68 ?_
        exact br_iret S hr hlk (hσ2 8 4) hσ2 dX8_told_71 h
      · replace h := h.2.2.2.2.2 c4
        refine br_tblI S 72 4 hx2 c4 (by decide) rfl dX8_told_19 (by decide) ?_
        refine br_aload_n S 0 dX8_told_72 rfl rfl ?_
        refine br_get (f := 5) (N := 6) (C := RX7) (T := TX7) S inT_X7 wd_1_238 (by decide) rfl rfl (by decide) rfl dX8_told_73 ?_
        exact br_iret S hr hlk (hσ2 8 5) hσ2 dX8_told_76 h
  · replace h := hr9 rfl
    refine br_astore_n S [(3, .ref (G.2.2 9)), (0, .ref (G.2.2 0)), (1, .int (bI x1)), (2, .int (bI x2))] dX8_told_17 rfl (by decide) rfl ?_
    refine br_iload_n S 3 dX8_told_18 rfl rfl ?_
    by_cases c5 : x2 < 0 ∨ 4 < x2
    · replace h := h.1 c5
      refine br_tblO S 77 hx2 c5 dX8_told_19 (by decide) ?_
      refine br_bipush S dX8_told_77 rfl ?_
      exact br_iret S hr hlk (by decide) hσ2 dX8_told_79 h
    · rcases (show x2 = 0 ∨ x2 = 1 ∨ x2 = 2 ∨ x2 = 3 ∨ x2 = 4 by omega) with c6 | c6 | c6 | c6 | c6
      · replace h := h.2.1 c6
        refine br_tblI S 52 0 hx2 c6 (by decide) rfl dX8_told_19 (by decide) ?_
        refine br_aload_n S 0 dX8_told_52 rfl rfl ?_
        refine br_get (f := 1) (N := 6) (C := RX7) (T := TX7) S inT_X7 wd_1_227 (by decide) rfl rfl (by decide) rfl dX8_told_53 ?_
        exact br_iret S hr hlk (hσ2 9 1) hσ2 dX8_told_56 h
      · replace h := h.2.2.1 c6
        refine br_tblI S 57 1 hx2 c6 (by decide) rfl dX8_told_19 (by decide) ?_
        refine br_aload_n S 0 dX8_told_57 rfl rfl ?_
        refine br_get (f := 2) (N := 6) (C := RX7) (T := TX7) S inT_X7 wd_1_231 (by decide) rfl rfl (by decide) rfl dX8_told_58 ?_
        exact br_iret S hr hlk (hσ2 9 2) hσ2 dX8_told_61 h
      · replace h := h.2.2.2.1 c6
        refine br_tblI S 62 2 hx2 c6 (by decide) rfl dX8_told_19 (by decide) ?_
        refine br_aload_n S 0 dX8_told_62 rfl rfl ?_
        refine br_get (f := 3) (N := 6) (C := RX7) (T := TX7) S inT_X7 wd_1_233 (by decide) rfl rfl (by decide) rfl dX8_told_63 ?_
        exact br_iret S hr hlk (hσ2 9 3) hσ2 dX8_told_66 h
      · replace h := h.2.2.2.2.1 c6
        refine br_tblI S 67 3 hx2 c6 (by decide) rfl dX8_told_19 (by decide) ?_
        refine br_aload_n S 0 dX8_told_67 rfl rfl ?_
        refine br_get (f := 4) (N := 6) (C := RX7) (T := TX7) S inT_X7 wd_1_235 (by decide) rfl rfl (by decide) rfl dX8_told_68 ?_
        exact br_iret S hr hlk (hσ2 9 4) hσ2 dX8_told_71 h
      · replace h := h.2.2.2.2.2 c6
        refine br_tblI S 72 4 hx2 c6 (by decide) rfl dX8_told_19 (by decide) ?_
        refine br_aload_n S 0 dX8_told_72 rfl rfl ?_
        refine br_get (f := 5) (N := 6) (C := RX7) (T := TX7) S inT_X7 wd_1_238 (by decide) rfl rfl (by decide) rfl dX8_told_73 ?_
        exact br_iret S hr hlk (hσ2 9 5) hσ2 dX8_told_76 h
def vX8_told (Q : Int → bS → Prop) (a1 : Int) (a2 : Int) (σ : bS) : Prop := ((a1 = 0 → (vX8_told_12 Q a1 a2 σ)) ∧ (¬ a1 = 0 → ((a1 = 1 → (vX8_told_12 Q a1 a2 σ)) ∧ (¬ a1 = 1 → (Q (-2) σ)))))
theorem mono_vX8_told {Q Q9 : Int → bS → Prop} {a1 : Int} {a2 : Int} {σ : bS} (hQ : ∀ r σ, Q r σ → Q9 r σ) : vX8_told Q a1 a2 σ → vX8_told Q9 a1 a2 σ := (bm_and (bm_imp (mono_vX8_told_12 hQ)) (bm_imp (bm_and (bm_imp (mono_vX8_told_12 hQ)) (bm_imp (hQ _ _)))))
theorem wX8_told_e {p : Program} {l : Launch} {e : Env} {s : State} {m : MethodId} {args : Array Value} {below : List Frame} {meth : Method} {c : Code} {G : bG} {σ0 : bS} {Q : Int → bS → Prop} {a1 : Int} {a2 : Int} {σ : bS} (S : CallFix p m c cX8_told 4 s args bT "BankLinker") (hr : meth.sig.returnType = some .int) (hlk : meth.locks = false) (ha1 : bR a1) (ha2 : bR a2) (hσ : bRG σ) (h : vX8_told Q a1 a2 σ) : bA p l e { frames := 1, cells := 0, slots := 0, locals := 21 } s m args below meth c 0 0 (bQi below args s G σ0 Q) G (va_A (bk_w G σ0) s.heap.size) 4 0 [(0, .ref (G.2.2 0)), (1, .int (bI a1)), (2, .int (bI a2))] [] σ := by
  unfold vX8_told at h
  refine br_iload_n S 1 dX8_told_0 rfl rfl ?_
  refine br_if_eq S 12 ha1 dX8_told_1 (by decide) (fun c1 => ?_) (fun c1 => ?_)
  · replace h := h.1 c1
    exact wX8_told_12 S hr hlk ha1 ha2 hσ h
  · replace h := h.2 c1
    refine br_iload_n S 1 dX8_told_4 rfl rfl ?_
    refine br_iconst S dX8_told_5 ?_
    refine br_ic_eq S 12 ha1 (by decide) dX8_told_6 (by decide) (fun c2 => ?_) (fun c2 => ?_)
    · replace h := h.1 c2
      exact wX8_told_12 S hr hlk ha1 ha2 hσ h
    · replace h := h.2 c2
      refine br_bipush S dX8_told_9 rfl ?_
      exact br_iret S hr hlk (by decide) hσ dX8_told_11 h
theorem mono_X8_told {Q Q9 : Int → bS → Prop} {a1 : Int} {a2 : Int} {σ : bS} (hQ : ∀ r σ, Q r σ → Q9 r σ) : vX8_told Q a1 a2 σ → vX8_told Q9 a1 a2 σ := mono_vX8_told hQ
theorem mX8_told (l : Launch) (G : bG) (σ : bS) (a1 : Int) (ha1 : bR a1) (a2 : Int) (ha2 : bR a2) {Q : Int → bS → Prop} (h : vX8_told Q a1 a2 σ) : bk_Mi l yX8_told (Cond.code yX8_told cX8_told 4 (some .int) :: bT) { frames := 1, cells := 0, slots := 0, locals := 21 } G σ [.ref (G.2.2 0), .int (bI a1), .int (bI a2)] Q := by
  refine bk_Mi.of (cc := cX8_told) (maxL := 4) (ret := some .int) (by decide) rfl (Nat.le_of_ble_eq_true rfl) ?_
  intro p e s m args below meth c S hr hlk hσ
  exact wX8_told_e S hr hlk ha1 ha2 hσ h

/-! in(v, low, high) of three longs -/
section BIN
variable {p : Program} {l : Launch} {e : Env} {R : Room} {s : State} {m : MethodId} {args : Array Value} {below : List Frame} {meth : Method} {c : Code} {cells slots : Nat} {Q : State → Prop} {G : bG} {A : Nat → Prop} {nL pc : Nat} {lv : List (Nat × Value)} {st : List Value} {σ : bS} {cc : ByteArray} {Ts : List Cond} {own : String}
theorem br_lcmp_lt (S : CallFix p m c cc nL s args Ts own) {x y off : Int} (tgt : Nat) (hx : bR x) (hy : bR y) (hd1 : decode cc pc = .ok (.lcmp, 1)) (hd2 : decode cc (pc + 1) = .ok (.ifCond .lt off, 3)) (ht : ((pc + 1 : Nat) : Int) + off = (tgt : Int)) (kt : x < y → bA p l e R s m args below meth c cells slots Q G A nL tgt lv st σ) (kf : ¬ x < y → bA p l e R s m args below meth c cells slots Q G A nL (pc + 1 + 3) lv st σ) : bA p l e R s m args below meth c cells slots Q G A nL pc lv (.long (bL y) :: .long (bL x) :: st) σ :=
  fun H locs ls hW hl => W.lcmp S.1 S.2.1 hd1 (lv_if_lt S.1 S.2.1 hd2 ht (fun h => kt ((bL_lt hx hy).mp ((lg_cmp_lt _ _).mp h)) H locs ls hW hl) (fun h => kf (fun z => h ((lg_cmp_lt _ _).mpr ((bL_lt hx hy).mpr z))) H locs ls hW hl))
theorem br_lcmp_gt (S : CallFix p m c cc nL s args Ts own) {x y off : Int} (tgt : Nat) (hx : bR x) (hy : bR y) (hd1 : decode cc pc = .ok (.lcmp, 1)) (hd2 : decode cc (pc + 1) = .ok (.ifCond .gt off, 3)) (ht : ((pc + 1 : Nat) : Int) + off = (tgt : Int)) (kt : y < x → bA p l e R s m args below meth c cells slots Q G A nL tgt lv st σ) (kf : ¬ y < x → bA p l e R s m args below meth c cells slots Q G A nL (pc + 1 + 3) lv st σ) : bA p l e R s m args below meth c cells slots Q G A nL pc lv (.long (bL y) :: .long (bL x) :: st) σ :=
  fun H locs ls hW hl => W.lcmp S.1 S.2.1 hd1 (lv_if_gt S.1 S.2.1 hd2 ht (fun h => kt ((bL_lt hy hx).mp ((lg_cmp_gt _ _).mp h)) H locs ls hW hl) (fun h => kf (fun z => h ((lg_cmp_gt _ _).mpr ((bL_lt hy hx).mpr z))) H locs ls hW hl))
end BIN
def vX9_in (Q : Int → bS → Prop) (a0 : Int) (a2 : Int) (a4 : Int) (σ : bS) : Prop := (a2 ≤ a0 ∧ a0 ≤ a4 → Q 1 σ) ∧ (¬ (a2 ≤ a0 ∧ a0 ≤ a4) → Q 0 σ)
theorem mono_X9_in {Q Q9 : Int → bS → Prop} {a0 : Int} {a2 : Int} {a4 : Int} {σ : bS} (hQ : ∀ r σ, Q r σ → Q9 r σ) : vX9_in Q a0 a2 a4 σ → vX9_in Q9 a0 a2 a4 σ := bm_and (bm_imp (hQ _ _)) (bm_imp (hQ _ _))
theorem mX9_in (l : Launch) (G : bG) (σ : bS) (a0 : Int) (ha0 : bR a0) (a2 : Int) (ha2 : bR a2) (a4 : Int) (ha4 : bR a4) {Q : Int → bS → Prop} (h : vX9_in Q a0 a2 a4 σ) : bk_Mi l yX9_in (Cond.code yX9_in cX9_in 6 (some .boolean) :: bT) { frames := 0, cells := 0, slots := 0, locals := 0 } G σ [.long (bL a0), .long (bL a2), .long (bL a4)] Q := by
  refine bk_Mi.of (cc := cX9_in) (maxL := 6) (ret := some .boolean) (by decide) rfl (Nat.le_of_ble_eq_true rfl) ?_
  intro p e s m args below meth c S hr hlk hσ
  refine br_lload_n S 0 dX9_in_0 rfl rfl ?_
  refine br_lload_n S 1 dX9_in_1 rfl rfl ?_
  refine br_lcmp_lt S 17 ha0 ha2 dX9_in_2 dX9_in_3 (by decide) (fun c1 => ?_) (fun c1 => ?_)
  · refine br_iconst S dX9_in_17 ?_
    exact br_zret S hr hlk (by decide) hσ dX9_in_18 (h.2 (by omega))
  refine br_lload_n S 0 dX9_in_6 rfl rfl ?_
  refine br_lload S 2 dX9_in_7 rfl ?_
  refine br_lcmp_gt S 17 ha0 ha4 dX9_in_9 dX9_in_10 (by decide) (fun c2 => ?_) (fun c2 => ?_)
  · refine br_iconst S dX9_in_17 ?_
    exact br_zret S hr hlk (by decide) hσ dX9_in_18 (h.2 (by omega))
  refine br_iconst S dX9_in_13 ?_
  refine br_goto S 18 dX9_in_14 (by decide) ?_
  exact br_zret S hr hlk (by decide) hσ dX9_in_18 (h.1 (by omega))
def vX9_isRoutine (Q : Int → bS → Prop) (a1 : Int) (σ : bS) : Prop := (bR ((σ 10 3) - 1) ∧ (vX9_in (fun z2 σ3 => ((z2 = 0 ∨ z2 = 1) ∧ (Q z2 σ3))) a1 0 ((σ 10 3) - 1) σ))
theorem mono_vX9_isRoutine {Q Q9 : Int → bS → Prop} {a1 : Int} {σ : bS} (hQ : ∀ r σ, Q r σ → Q9 r σ) : vX9_isRoutine Q a1 σ → vX9_isRoutine Q9 a1 σ := (bm_r (mono_X9_in (fun _ _ => (bm_r (hQ _ _)))))
theorem wX9_isRoutine_e {p : Program} {l : Launch} {e : Env} {s : State} {m : MethodId} {args : Array Value} {below : List Frame} {meth : Method} {c : Code} {G : bG} {σ0 : bS} {Q : Int → bS → Prop} {a1 : Int} {σ : bS} (S : CallFix p m c cX9_isRoutine 2 s args bT "BankLinkerModel") (hr : meth.sig.returnType = some .boolean) (hlk : meth.locks = false) (ha1 : bR a1) (hσ : bRG σ) (h : vX9_isRoutine Q a1 σ) : bA p l e { frames := 1, cells := 0, slots := 0, locals := 25 } s m args below meth c 0 0 (bQi below args s G σ0 Q) G (va_A (bk_w G σ0) s.heap.size) 2 0 [(0, .ref (G.2.2 10)), (1, .int (bI a1))] [] σ := by
  unfold vX9_isRoutine at h
  refine br_iload_n S 1 dX9_isRoutine_0 rfl rfl ?_
  refine br_i2l S ha1 dX9_isRoutine_1 ?_
  refine br_lconst (z := 0) S dX9_isRoutine_2 rfl ?_
  refine br_aload_n S 0 dX9_isRoutine_3 rfl rfl ?_
  refine br_get (f := 3) (N := 37) (C := RX9) (T := TX9) S inT_X9 wd_3_237 (by decide) rfl rfl (by decide) rfl dX9_isRoutine_4 ?_
  refine br_iconst S dX9_isRoutine_7 ?_
  refine br_isub S dX9_isRoutine_8 ?_
  obtain ⟨g1, h⟩ := h
  refine br_i2l S g1 dX9_isRoutine_9 ?_
  refine br_callS (As := [.long (bL a1), .long (bL 0), .long (bL ((σ 10 3) - 1))]) (rest := []) S (cwS_X9_in S.2.2.2.2 wd_4_111 ⟨by decide, by decide⟩) (mX9_in l G σ a1 ha1 0 (by decide) ((σ 10 3) - 1) g1 h) hσ rfl rfl (Nat.le_of_ble_eq_true rfl) ⟨by decide, by decide⟩ dX9_isRoutine_10 (fun z2 σ3 hz2 hσ3 h => ?_)
  obtain ⟨g4, h⟩ := h
  exact br_zret S hr hlk g4 hσ3 dX9_isRoutine_13 h
theorem mono_X9_isRoutine {Q Q9 : Int → bS → Prop} {a1 : Int} {σ : bS} (hQ : ∀ r σ, Q r σ → Q9 r σ) : vX9_isRoutine Q a1 σ → vX9_isRoutine Q9 a1 σ := mono_vX9_isRoutine hQ
theorem mX9_isRoutine (l : Launch) (G : bG) (σ : bS) (a1 : Int) (ha1 : bR a1) {Q : Int → bS → Prop} (h : vX9_isRoutine Q a1 σ) : bk_Mi l yX9_isRoutine (Cond.code yX9_isRoutine cX9_isRoutine 2 (some .boolean) :: bT) { frames := 1, cells := 0, slots := 0, locals := 25 } G σ [.ref (G.2.2 10), .int (bI a1)] Q := by
  refine bk_Mi.of (cc := cX9_isRoutine) (maxL := 2) (ret := some .boolean) (by decide) rfl (Nat.le_of_ble_eq_true rfl) ?_
  intro p e s m args below meth c S hr hlk hσ
  exact wX9_isRoutine_e S hr hlk ha1 hσ h
def vX9_module (Q : Int → bS → Prop) (a1 : Int) (σ : bS) : Prop := (∀ σ1 : bS, σ1 = bup σ 10 0 0 → (vX9_in (fun z3 σ4 => ((¬ z3 = 0 → ((¬ (σ4 10 1) = 12 → (∀ σ7 : bS, σ7 = bup σ4 10 10 0 → ((0 ≤ (σ7 10 1) ∧ (σ7 10 1) < 12) ∧ (∀ σ10 : bS, σ10 = bup σ7 49 (σ7 10 1) a1 → (bR ((σ10 10 1) + 1) ∧ (∀ σ13 : bS, σ13 = bup σ10 10 1 ((σ10 10 1) + 1) → (bR ((σ13 10 1) - 1) ∧ (Q ((σ13 10 1) - 1) σ13)))))))) ∧ ((σ4 10 1) = 12 → (Q (-4) σ4)))) ∧ (z3 = 0 → (Q (-2) σ4)))) a1 0 1 σ1))
theorem mono_vX9_module {Q Q9 : Int → bS → Prop} {a1 : Int} {σ : bS} (hQ : ∀ r σ, Q r σ → Q9 r σ) : vX9_module Q a1 σ → vX9_module Q9 a1 σ := (bm_all fun _ => bm_imp (mono_X9_in (fun _ _ => (bm_and (bm_imp (bm_and (bm_imp (bm_all fun _ => bm_imp (bm_r (bm_all fun _ => bm_imp (bm_r (bm_all fun _ => bm_imp (bm_r (hQ _ _)))))))) (bm_imp (hQ _ _)))) (bm_imp (hQ _ _))))))
theorem wX9_module_e {p : Program} {l : Launch} {e : Env} {s : State} {m : MethodId} {args : Array Value} {below : List Frame} {meth : Method} {c : Code} {G : bG} {σ0 : bS} {Q : Int → bS → Prop} {a1 : Int} {σ : bS} (S : CallFix p m c cX9_module 2 s args bT "BankLinkerModel") (hr : meth.sig.returnType = some .int) (hlk : meth.locks = false) (ha1 : bR a1) (hσ : bRG σ) (h : vX9_module Q a1 σ) : bA p l e { frames := 1, cells := 0, slots := 0, locals := 25 } s m args below meth c 0 0 (bQi below args s G σ0 Q) G (va_A (bk_w G σ0) s.heap.size) 2 0 [(0, .ref (G.2.2 10)), (1, .int (bI a1))] [] σ := by
  unfold vX9_module at h
  refine br_aload_n S 0 dX9_module_0 rfl rfl ?_
  refine br_iconst S dX9_module_1 ?_
  obtain ⟨σ1, e2⟩ : ∃ τ, τ = bup σ 10 0 0 := ⟨_, rfl⟩
  replace h := h σ1 e2
  have hσ1 : bRG σ1 := by rw [e2]; exact bup_rg hσ (by decide)
  refine br_put (f := 0) (N := 37) (C := RX9) (T := TX9) S tyX9 tyX9_ok nmX9 inT_X9 wd_3_234 (by decide) rfl (pf_10_0 _ _ _) rfl (by decide) (Nat.le_of_ble_eq_true rfl) rfl rfl rfl rfl dX9_module_2 ?_
  refine bA.to rfl rfl e2.symm ?_
  refine br_iload_n S 1 dX9_module_5 rfl rfl ?_
  refine br_i2l S ha1 dX9_module_6 ?_
  refine br_lconst (z := 0) S dX9_module_7 rfl ?_
  refine br_lconst (z := 1) S dX9_module_8 rfl ?_
  refine br_callS (As := [.long (bL a1), .long (bL 0), .long (bL 1)]) (rest := []) S (cwS_X9_in S.2.2.2.2 wd_4_111 ⟨by decide, by decide⟩) (mX9_in l G σ1 a1 ha1 0 (by decide) 1 (by decide) h) hσ1 rfl rfl (Nat.le_of_ble_eq_true rfl) ⟨by decide, by decide⟩ dX9_module_9 (fun z3 σ4 hz3 hσ4 h => ?_)
  refine br_if_ne S 18 hz3 dX9_module_12 (by decide) (fun c5 => ?_) (fun c5 => ?_)
  · replace h := h.1 c5
    refine br_aload_n S 0 dX9_module_18 rfl rfl ?_
    refine br_get (f := 1) (N := 37) (C := RX9) (T := TX9) S inT_X9 wd_3_235 (by decide) rfl rfl (by decide) rfl dX9_module_19 ?_
    refine br_bipush S dX9_module_22 rfl ?_
    refine br_ic_ne S 30 (hσ4 10 1) (by decide) dX9_module_24 (by decide) (fun c6 => ?_) (fun c6 => ?_)
    · replace h := h.1 c6
      refine br_aload_n S 0 dX9_module_30 rfl rfl ?_
      refine br_iconst S dX9_module_31 ?_
      obtain ⟨σ7, e8⟩ : ∃ τ, τ = bup σ4 10 10 0 := ⟨_, rfl⟩
      replace h := h σ7 e8
      have hσ7 : bRG σ7 := by rw [e8]; exact bup_rg hσ4 (by decide)
      refine br_put (f := 10) (N := 37) (C := RX9) (T := TX9) S tyX9 tyX9_ok nmX9 inT_X9 wd_4_4 (by decide) rfl (pf_10_10 _ _ _) rfl (by decide) (Nat.le_of_ble_eq_true rfl) rfl rfl (bk_nar (by decide)) (bk_fit (by decide)) dX9_module_32 ?_
      refine bA.to rfl rfl e8.symm ?_
      refine br_aload_n S 0 dX9_module_35 rfl rfl ?_
      refine br_get (f := 2) (N := 37) (C := RX9) (T := TX9) S inT_X9 wd_3_236 (by decide) rfl rfl (by decide) rfl dX9_module_36 ?_
      refine br_aload_n S 0 dX9_module_39 rfl rfl ?_
      refine br_get (f := 1) (N := 37) (C := RX9) (T := TX9) S inT_X9 wd_3_235 (by decide) rfl rfl (by decide) rfl dX9_module_40 ?_
      refine br_iload_n S 1 dX9_module_43 rfl rfl ?_
      obtain ⟨g9, h⟩ := h
      obtain ⟨σ10, e11⟩ : ∃ τ, τ = bup σ7 49 (σ7 10 1) a1 := ⟨_, rfl⟩
      replace h := h σ10 e11
      have hσ10 : bRG σ10 := by rw [e11]; exact bup_rg hσ7 ha1
      refine br_iast (n := 12) S ⟨by decide, by decide, fun _ => rfl⟩ g9.1 g9.2 dX9_module_44 ?_
      refine bA.to rfl rfl e11.symm ?_
      refine br_aload_n S 0 dX9_module_45 rfl rfl ?_
      refine br_dup S dX9_module_46 rfl ?_
      refine br_get (f := 1) (N := 37) (C := RX9) (T := TX9) S inT_X9 wd_3_235 (by decide) rfl rfl (by decide) rfl dX9_module_47 ?_
      refine br_iconst S dX9_module_50 ?_
      refine br_iadd S dX9_module_51 ?_
      obtain ⟨g12, h⟩ := h
      obtain ⟨σ13, e14⟩ : ∃ τ, τ = bup σ10 10 1 ((σ10 10 1) + 1) := ⟨_, rfl⟩
      replace h := h σ13 e14
      have hσ13 : bRG σ13 := by rw [e14]; exact bup_rg hσ10 g12
      refine br_put (f := 1) (N := 37) (C := RX9) (T := TX9) S tyX9 tyX9_ok nmX9 inT_X9 wd_3_235 (by decide) rfl (pf_10_1 _ _ _) rfl (by decide) (Nat.le_of_ble_eq_true rfl) rfl rfl rfl rfl dX9_module_52 ?_
      refine bA.to rfl rfl e14.symm ?_
      refine br_aload_n S 0 dX9_module_55 rfl rfl ?_
      refine br_get (f := 1) (N := 37) (C := RX9) (T := TX9) S inT_X9 wd_3_235 (by decide) rfl rfl (by decide) rfl dX9_module_56 ?_
      refine br_iconst S dX9_module_59 ?_
      refine br_isub S dX9_module_60 ?_
      obtain ⟨g15, h⟩ := h
      exact br_iret S hr hlk g15 hσ13 dX9_module_61 h
    · replace h := h.2 c6
      refine br_bipush S dX9_module_27 rfl ?_
      exact br_iret S hr hlk (by decide) hσ4 dX9_module_29 h
  · replace h := h.2 c5
    refine br_bipush S dX9_module_15 rfl ?_
    exact br_iret S hr hlk (by decide) hσ4 dX9_module_17 h
theorem mono_X9_module {Q Q9 : Int → bS → Prop} {a1 : Int} {σ : bS} (hQ : ∀ r σ, Q r σ → Q9 r σ) : vX9_module Q a1 σ → vX9_module Q9 a1 σ := mono_vX9_module hQ
theorem mX9_module (l : Launch) (G : bG) (σ : bS) (a1 : Int) (ha1 : bR a1) {Q : Int → bS → Prop} (h : vX9_module Q a1 σ) : bk_Mi l yX9_module (Cond.code yX9_module cX9_module 2 (some .int) :: bT) { frames := 1, cells := 0, slots := 0, locals := 25 } G σ [.ref (G.2.2 10), .int (bI a1)] Q := by
  refine bk_Mi.of (cc := cX9_module) (maxL := 2) (ret := some .int) (by decide) rfl (Nat.le_of_ble_eq_true rfl) ?_
  intro p e s m args below meth c S hr hlk hσ
  exact wX9_module_e S hr hlk ha1 hσ h
def vX9_routine (Q : Int → bS → Prop) (a1 : Int) (a2 : Int) (σ : bS) : Prop := (∀ σ1 : bS, σ1 = bup σ 10 0 0 → (bR ((σ1 10 1) - 1) ∧ (vX9_in (fun z4 σ5 => ((z4 = 0 → (Q (-2) σ5)) ∧ (¬ z4 = 0 → (vX9_in (fun z7 σ8 => ((¬ z7 = 0 → ((¬ (σ8 10 3) = 30 → (∀ σ11 : bS, σ11 = bup σ8 10 10 0 → ((0 ≤ (σ11 10 3) ∧ (σ11 10 3) < 30) ∧ (∀ σ14 : bS, σ14 = bup σ11 50 (σ11 10 3) a1 → ((0 ≤ (σ14 10 3) ∧ (σ14 10 3) < 30) ∧ (∀ σ17 : bS, σ17 = bup σ14 51 (σ14 10 3) a2 → ((0 ≤ (σ17 10 3) ∧ (σ17 10 3) < 30) ∧ (∀ σ20 : bS, σ20 = bup σ17 52 (σ17 10 3) 0 → (bR ((σ20 10 3) + 1) ∧ (∀ σ23 : bS, σ23 = bup σ20 10 3 ((σ20 10 3) + 1) → (bR ((σ23 10 3) - 1) ∧ (Q ((σ23 10 3) - 1) σ23)))))))))))) ∧ ((σ8 10 3) = 30 → (Q (-4) σ8)))) ∧ (z7 = 0 → (Q (-2) σ8)))) a2 0 9 σ5)))) a1 0 ((σ1 10 1) - 1) σ1)))
theorem mono_vX9_routine {Q Q9 : Int → bS → Prop} {a1 : Int} {a2 : Int} {σ : bS} (hQ : ∀ r σ, Q r σ → Q9 r σ) : vX9_routine Q a1 a2 σ → vX9_routine Q9 a1 a2 σ := (bm_all fun _ => bm_imp (bm_r (mono_X9_in (fun _ _ => (bm_and (bm_imp (hQ _ _)) (bm_imp (mono_X9_in (fun _ _ => (bm_and (bm_imp (bm_and (bm_imp (bm_all fun _ => bm_imp (bm_r (bm_all fun _ => bm_imp (bm_r (bm_all fun _ => bm_imp (bm_r (bm_all fun _ => bm_imp (bm_r (bm_all fun _ => bm_imp (bm_r (hQ _ _)))))))))))) (bm_imp (hQ _ _)))) (bm_imp (hQ _ _)))))))))))
theorem wX9_routine_e {p : Program} {l : Launch} {e : Env} {s : State} {m : MethodId} {args : Array Value} {below : List Frame} {meth : Method} {c : Code} {G : bG} {σ0 : bS} {Q : Int → bS → Prop} {a1 : Int} {a2 : Int} {σ : bS} (S : CallFix p m c cX9_routine 3 s args bT "BankLinkerModel") (hr : meth.sig.returnType = some .int) (hlk : meth.locks = false) (ha1 : bR a1) (ha2 : bR a2) (hσ : bRG σ) (h : vX9_routine Q a1 a2 σ) : bA p l e { frames := 1, cells := 0, slots := 0, locals := 25 } s m args below meth c 0 0 (bQi below args s G σ0 Q) G (va_A (bk_w G σ0) s.heap.size) 3 0 [(0, .ref (G.2.2 10)), (1, .int (bI a1)), (2, .int (bI a2))] [] σ := by
  unfold vX9_routine at h
  refine br_aload_n S 0 dX9_routine_0 rfl rfl ?_
  refine br_iconst S dX9_routine_1 ?_
  obtain ⟨σ1, e2⟩ : ∃ τ, τ = bup σ 10 0 0 := ⟨_, rfl⟩
  replace h := h σ1 e2
  have hσ1 : bRG σ1 := by rw [e2]; exact bup_rg hσ (by decide)
  refine br_put (f := 0) (N := 37) (C := RX9) (T := TX9) S tyX9 tyX9_ok nmX9 inT_X9 wd_3_234 (by decide) rfl (pf_10_0 _ _ _) rfl (by decide) (Nat.le_of_ble_eq_true rfl) rfl rfl rfl rfl dX9_routine_2 ?_
  refine bA.to rfl rfl e2.symm ?_
  refine br_iload_n S 1 dX9_routine_5 rfl rfl ?_
  refine br_i2l S ha1 dX9_routine_6 ?_
  refine br_lconst (z := 0) S dX9_routine_7 rfl ?_
  refine br_aload_n S 0 dX9_routine_8 rfl rfl ?_
  refine br_get (f := 1) (N := 37) (C := RX9) (T := TX9) S inT_X9 wd_3_235 (by decide) rfl rfl (by decide) rfl dX9_routine_9 ?_
  refine br_iconst S dX9_routine_12 ?_
  refine br_isub S dX9_routine_13 ?_
  obtain ⟨g3, h⟩ := h
  refine br_i2l S g3 dX9_routine_14 ?_
  refine br_callS (As := [.long (bL a1), .long (bL 0), .long (bL ((σ1 10 1) - 1))]) (rest := []) S (cwS_X9_in S.2.2.2.2 wd_4_111 ⟨by decide, by decide⟩) (mX9_in l G σ1 a1 ha1 0 (by decide) ((σ1 10 1) - 1) g3 h) hσ1 rfl rfl (Nat.le_of_ble_eq_true rfl) ⟨by decide, by decide⟩ dX9_routine_15 (fun z4 σ5 hz4 hσ5 h => ?_)
  refine br_if_eq S 33 hz4 dX9_routine_18 (by decide) (fun c6 => ?_) (fun c6 => ?_)
  · replace h := h.1 c6
    refine br_bipush S dX9_routine_33 rfl ?_
    exact br_iret S hr hlk (by decide) hσ5 dX9_routine_35 h
  · replace h := h.2 c6
    refine br_iload_n S 2 dX9_routine_21 rfl rfl ?_
    refine br_i2l S ha2 dX9_routine_22 ?_
    refine br_lconst (z := 0) S dX9_routine_23 rfl ?_
    refine br_ldc2 (z := 9) S wd_4_118 rfl dX9_routine_24 ?_
    refine br_callS (As := [.long (bL a2), .long (bL 0), .long (bL 9)]) (rest := []) S (cwS_X9_in S.2.2.2.2 wd_4_111 ⟨by decide, by decide⟩) (mX9_in l G σ5 a2 ha2 0 (by decide) 9 (by decide) h) hσ5 rfl rfl (Nat.le_of_ble_eq_true rfl) ⟨by decide, by decide⟩ dX9_routine_27 (fun z7 σ8 hz7 hσ8 h => ?_)
    refine br_if_ne S 36 hz7 dX9_routine_30 (by decide) (fun c9 => ?_) (fun c9 => ?_)
    · replace h := h.1 c9
      refine br_aload_n S 0 dX9_routine_36 rfl rfl ?_
      refine br_get (f := 3) (N := 37) (C := RX9) (T := TX9) S inT_X9 wd_3_237 (by decide) rfl rfl (by decide) rfl dX9_routine_37 ?_
      refine br_bipush S dX9_routine_40 rfl ?_
      refine br_ic_ne S 48 (hσ8 10 3) (by decide) dX9_routine_42 (by decide) (fun c10 => ?_) (fun c10 => ?_)
      · replace h := h.1 c10
        refine br_aload_n S 0 dX9_routine_48 rfl rfl ?_
        refine br_iconst S dX9_routine_49 ?_
        obtain ⟨σ11, e12⟩ : ∃ τ, τ = bup σ8 10 10 0 := ⟨_, rfl⟩
        replace h := h σ11 e12
        have hσ11 : bRG σ11 := by rw [e12]; exact bup_rg hσ8 (by decide)
        refine br_put (f := 10) (N := 37) (C := RX9) (T := TX9) S tyX9 tyX9_ok nmX9 inT_X9 wd_4_4 (by decide) rfl (pf_10_10 _ _ _) rfl (by decide) (Nat.le_of_ble_eq_true rfl) rfl rfl (bk_nar (by decide)) (bk_fit (by decide)) dX9_routine_50 ?_
        refine bA.to rfl rfl e12.symm ?_
        refine br_aload_n S 0 dX9_routine_53 rfl rfl ?_
        refine br_get (f := 4) (N := 37) (C := RX9) (T := TX9) S inT_X9 wd_3_238 (by decide) rfl rfl (by decide) rfl dX9_routine_54 ?_
        refine br_aload_n S 0 dX9_routine_57 rfl rfl ?_
        refine br_get (f := 3) (N := 37) (C := RX9) (T := TX9) S inT_X9 wd_3_237 (by decide) rfl rfl (by decide) rfl dX9_routine_58 ?_
        refine br_iload_n S 1 dX9_routine_61 rfl rfl ?_
        obtain ⟨g13, h⟩ := h
        obtain ⟨σ14, e15⟩ : ∃ τ, τ = bup σ11 50 (σ11 10 3) a1 := ⟨_, rfl⟩
        replace h := h σ14 e15
        have hσ14 : bRG σ14 := by rw [e15]; exact bup_rg hσ11 ha1
        refine br_iast (n := 30) S ⟨by decide, by decide, fun _ => rfl⟩ g13.1 g13.2 dX9_routine_62 ?_
        refine bA.to rfl rfl e15.symm ?_
        refine br_aload_n S 0 dX9_routine_63 rfl rfl ?_
        refine br_get (f := 5) (N := 37) (C := RX9) (T := TX9) S inT_X9 wd_3_239 (by decide) rfl rfl (by decide) rfl dX9_routine_64 ?_
        refine br_aload_n S 0 dX9_routine_67 rfl rfl ?_
        refine br_get (f := 3) (N := 37) (C := RX9) (T := TX9) S inT_X9 wd_3_237 (by decide) rfl rfl (by decide) rfl dX9_routine_68 ?_
        refine br_iload_n S 2 dX9_routine_71 rfl rfl ?_
        obtain ⟨g16, h⟩ := h
        obtain ⟨σ17, e18⟩ : ∃ τ, τ = bup σ14 51 (σ14 10 3) a2 := ⟨_, rfl⟩
        replace h := h σ17 e18
        have hσ17 : bRG σ17 := by rw [e18]; exact bup_rg hσ14 ha2
        refine br_iast (n := 30) S ⟨by decide, by decide, fun _ => rfl⟩ g16.1 g16.2 dX9_routine_72 ?_
        refine bA.to rfl rfl e18.symm ?_
        refine br_aload_n S 0 dX9_routine_73 rfl rfl ?_
        refine br_get (f := 6) (N := 37) (C := RX9) (T := TX9) S inT_X9 wd_4_0 (by decide) rfl rfl (by decide) rfl dX9_routine_74 ?_
        refine br_aload_n S 0 dX9_routine_77 rfl rfl ?_
        refine br_get (f := 3) (N := 37) (C := RX9) (T := TX9) S inT_X9 wd_3_237 (by decide) rfl rfl (by decide) rfl dX9_routine_78 ?_
        refine br_iconst S dX9_routine_81 ?_
        obtain ⟨g19, h⟩ := h
        obtain ⟨σ20, e21⟩ : ∃ τ, τ = bup σ17 52 (σ17 10 3) 0 := ⟨_, rfl⟩
        replace h := h σ20 e21
        have hσ20 : bRG σ20 := by rw [e21]; exact bup_rg hσ17 (by decide)
        refine br_iast (n := 30) S ⟨by decide, by decide, fun _ => rfl⟩ g19.1 g19.2 dX9_routine_82 ?_
        refine bA.to rfl rfl e21.symm ?_
        refine br_aload_n S 0 dX9_routine_83 rfl rfl ?_
        refine br_dup S dX9_routine_84 rfl ?_
        refine br_get (f := 3) (N := 37) (C := RX9) (T := TX9) S inT_X9 wd_3_237 (by decide) rfl rfl (by decide) rfl dX9_routine_85 ?_
        refine br_iconst S dX9_routine_88 ?_
        refine br_iadd S dX9_routine_89 ?_
        obtain ⟨g22, h⟩ := h
        obtain ⟨σ23, e24⟩ : ∃ τ, τ = bup σ20 10 3 ((σ20 10 3) + 1) := ⟨_, rfl⟩
        replace h := h σ23 e24
        have hσ23 : bRG σ23 := by rw [e24]; exact bup_rg hσ20 g22
        refine br_put (f := 3) (N := 37) (C := RX9) (T := TX9) S tyX9 tyX9_ok nmX9 inT_X9 wd_3_237 (by decide) rfl (pf_10_3 _ _ _) rfl (by decide) (Nat.le_of_ble_eq_true rfl) rfl rfl rfl rfl dX9_routine_90 ?_
        refine bA.to rfl rfl e24.symm ?_
        refine br_aload_n S 0 dX9_routine_93 rfl rfl ?_
        refine br_get (f := 3) (N := 37) (C := RX9) (T := TX9) S inT_X9 wd_3_237 (by decide) rfl rfl (by decide) rfl dX9_routine_94 ?_
        refine br_iconst S dX9_routine_97 ?_
        refine br_isub S dX9_routine_98 ?_
        obtain ⟨g25, h⟩ := h
        exact br_iret S hr hlk g25 hσ23 dX9_routine_99 h
      · replace h := h.2 c10
        refine br_bipush S dX9_routine_45 rfl ?_
        exact br_iret S hr hlk (by decide) hσ8 dX9_routine_47 h
    · replace h := h.2 c9
      refine br_bipush S dX9_routine_33 rfl ?_
      exact br_iret S hr hlk (by decide) hσ8 dX9_routine_35 h
theorem mono_X9_routine {Q Q9 : Int → bS → Prop} {a1 : Int} {a2 : Int} {σ : bS} (hQ : ∀ r σ, Q r σ → Q9 r σ) : vX9_routine Q a1 a2 σ → vX9_routine Q9 a1 a2 σ := mono_vX9_routine hQ
theorem mX9_routine (l : Launch) (G : bG) (σ : bS) (a1 : Int) (ha1 : bR a1) (a2 : Int) (ha2 : bR a2) {Q : Int → bS → Prop} (h : vX9_routine Q a1 a2 σ) : bk_Mi l yX9_routine (Cond.code yX9_routine cX9_routine 3 (some .int) :: bT) { frames := 1, cells := 0, slots := 0, locals := 25 } G σ [.ref (G.2.2 10), .int (bI a1), .int (bI a2)] Q := by
  refine bk_Mi.of (cc := cX9_routine) (maxL := 3) (ret := some .int) (by decide) rfl (Nat.le_of_ble_eq_true rfl) ?_
  intro p e s m args below meth c S hr hlk hσ
  exact wX9_routine_e S hr hlk ha1 ha2 hσ h
def vX9_isValue_48 (Q : Int → bS → Prop) (x3 : Int) (σ : bS) : Prop := (vX9_in (fun z1 σ2 => ((z1 = 0 ∨ z1 = 1) ∧ (Q z1 σ2))) x3 0 255 σ)
theorem mono_vX9_isValue_48 {Q Q9 : Int → bS → Prop} {x3 : Int} {σ : bS} (hQ : ∀ r σ, Q r σ → Q9 r σ) : vX9_isValue_48 Q x3 σ → vX9_isValue_48 Q9 x3 σ := (mono_X9_in (fun _ _ => (bm_r (hQ _ _))))
theorem wX9_isValue_48 {p : Program} {l : Launch} {e : Env} {s : State} {m : MethodId} {args : Array Value} {below : List Frame} {meth : Method} {c : Code} {G : bG} {σ0 : bS} {Q : Int → bS → Prop} {x3 : Int} {σ : bS} (S : CallFix p m c cX9_isValue 4 s args bT "BankLinkerModel") (hr : meth.sig.returnType = some .boolean) (hlk : meth.locks = false) (hx3 : bR x3) (hσ : bRG σ) (h : vX9_isValue_48 Q x3 σ) : bA p l e { frames := 2, cells := 0, slots := 0, locals := 46 } s m args below meth c 0 0 (bQi below args s G σ0 Q) G (va_A (bk_w G σ0) s.heap.size) 4 48 [(3, .int (bI x3))] [] σ := by
  unfold vX9_isValue_48 at h
  refine br_iload_n S 0 dX9_isValue_48 rfl rfl ?_
  refine br_i2l S hx3 dX9_isValue_49 ?_
  refine br_lconst (z := 0) S dX9_isValue_50 rfl ?_
  refine br_ldc2 (z := 255) S wd_4_132 rfl dX9_isValue_51 ?_
  refine br_callS (As := [.long (bL x3), .long (bL 0), .long (bL 255)]) (rest := []) S (cwS_X9_in S.2.2.2.2 wd_4_111 ⟨by decide, by decide⟩) (mX9_in l G σ x3 hx3 0 (by decide) 255 (by decide) h) hσ rfl rfl (Nat.le_of_ble_eq_true rfl) ⟨by decide, by decide⟩ dX9_isValue_54 (fun z1 σ2 hz1 hσ2 h => ?_)
  obtain ⟨g3, h⟩ := h
  exact br_zret S hr hlk g3 hσ2 dX9_isValue_57 h
def vX9_isValue_58 (Q : Int → bS → Prop) (x1 : Int) (x3 : Int) (σ : bS) : Prop := ((0 ≤ x1 ∧ x1 < 30) ∧ (bR ((σ 51 x1) - 1) ∧ (vX9_in (fun z3 σ4 => ((z3 = 0 ∨ z3 = 1) ∧ (Q z3 σ4))) x3 0 ((σ 51 x1) - 1) σ)))
theorem mono_vX9_isValue_58 {Q Q9 : Int → bS → Prop} {x1 : Int} {x3 : Int} {σ : bS} (hQ : ∀ r σ, Q r σ → Q9 r σ) : vX9_isValue_58 Q x1 x3 σ → vX9_isValue_58 Q9 x1 x3 σ := (bm_r (bm_r (mono_X9_in (fun _ _ => (bm_r (hQ _ _))))))
theorem wX9_isValue_58 {p : Program} {l : Launch} {e : Env} {s : State} {m : MethodId} {args : Array Value} {below : List Frame} {meth : Method} {c : Code} {G : bG} {σ0 : bS} {Q : Int → bS → Prop} {x1 : Int} {x3 : Int} {σ : bS} (S : CallFix p m c cX9_isValue 4 s args bT "BankLinkerModel") (hr : meth.sig.returnType = some .boolean) (hlk : meth.locks = false) (hx1 : bR x1) (hx3 : bR x3) (hσ : bRG σ) (h : vX9_isValue_58 Q x1 x3 σ) : bA p l e { frames := 2, cells := 0, slots := 0, locals := 46 } s m args below meth c 0 0 (bQi below args s G σ0 Q) G (va_A (bk_w G σ0) s.heap.size) 4 58 [(0, .ref (G.2.2 10)), (1, .int (bI x1)), (3, .int (bI x3))] [] σ := by
  unfold vX9_isValue_58 at h
  refine br_iload_n S 2 dX9_isValue_58 rfl rfl ?_
  refine br_i2l S hx3 dX9_isValue_59 ?_
  refine br_lconst (z := 0) S dX9_isValue_60 rfl ?_
  refine br_aload_n S 0 dX9_isValue_61 rfl rfl ?_
  refine br_get (f := 5) (N := 37) (C := RX9) (T := TX9) S inT_X9 wd_3_239 (by decide) rfl rfl (by decide) rfl dX9_isValue_62 ?_
  refine br_iload_n S 1 dX9_isValue_65 rfl rfl ?_
  obtain ⟨g1, h⟩ := h
  refine br_iald (n := 30) S ⟨by decide, by decide, fun _ => rfl⟩ g1.1 g1.2 dX9_isValue_66 ?_
  refine br_iconst S dX9_isValue_67 ?_
  refine br_isub S dX9_isValue_68 ?_
  obtain ⟨g2, h⟩ := h
  refine br_i2l S g2 dX9_isValue_69 ?_
  refine br_callS (As := [.long (bL x3), .long (bL 0), .long (bL ((σ 51 x1) - 1))]) (rest := []) S (cwS_X9_in S.2.2.2.2 wd_4_111 ⟨by decide, by decide⟩) (mX9_in l G σ x3 hx3 0 (by decide) ((σ 51 x1) - 1) g2 h) hσ rfl rfl (Nat.le_of_ble_eq_true rfl) ⟨by decide, by decide⟩ dX9_isValue_70 (fun z3 σ4 hz3 hσ4 h => ?_)
  obtain ⟨g5, h⟩ := h
  exact br_zret S hr hlk g5 hσ4 dX9_isValue_73 h
def vX9_isValue_80 (Q : Int → bS → Prop) (x3 : Int) (σ : bS) : Prop := (vX9_in (fun z1 σ2 => ((z1 = 0 ∨ z1 = 1) ∧ (Q z1 σ2))) x3 0 40 σ)
theorem mono_vX9_isValue_80 {Q Q9 : Int → bS → Prop} {x3 : Int} {σ : bS} (hQ : ∀ r σ, Q r σ → Q9 r σ) : vX9_isValue_80 Q x3 σ → vX9_isValue_80 Q9 x3 σ := (mono_X9_in (fun _ _ => (bm_r (hQ _ _))))
theorem wX9_isValue_80 {p : Program} {l : Launch} {e : Env} {s : State} {m : MethodId} {args : Array Value} {below : List Frame} {meth : Method} {c : Code} {G : bG} {σ0 : bS} {Q : Int → bS → Prop} {x3 : Int} {σ : bS} (S : CallFix p m c cX9_isValue 4 s args bT "BankLinkerModel") (hr : meth.sig.returnType = some .boolean) (hlk : meth.locks = false) (hx3 : bR x3) (hσ : bRG σ) (h : vX9_isValue_80 Q x3 σ) : bA p l e { frames := 2, cells := 0, slots := 0, locals := 46 } s m args below meth c 0 0 (bQi below args s G σ0 Q) G (va_A (bk_w G σ0) s.heap.size) 4 80 [(3, .int (bI x3))] [] σ := by
  unfold vX9_isValue_80 at h
  refine br_iload_n S 0 dX9_isValue_80 rfl rfl ?_
  refine br_i2l S hx3 dX9_isValue_81 ?_
  refine br_lconst (z := 0) S dX9_isValue_82 rfl ?_
  refine br_ldc2 (z := 40) S wd_4_133 rfl dX9_isValue_83 ?_
  refine br_callS (As := [.long (bL x3), .long (bL 0), .long (bL 40)]) (rest := []) S (cwS_X9_in S.2.2.2.2 wd_4_111 ⟨by decide, by decide⟩) (mX9_in l G σ x3 hx3 0 (by decide) 40 (by decide) h) hσ rfl rfl (Nat.le_of_ble_eq_true rfl) ⟨by decide, by decide⟩ dX9_isValue_86 (fun z1 σ2 hz1 hσ2 h => ?_)
  obtain ⟨g3, h⟩ := h
  exact br_zret S hr hlk g3 hσ2 dX9_isValue_89 h
def vX9_isValue (Q : Int → bS → Prop) (a1 : Int) (a2 : Int) (a3 : Int) (σ : bS) : Prop := (((a2 < 0 ∨ 7 < a2) → (Q 1 σ)) ∧ (a2 = 0 → (vX9_isValue_48 Q a3 σ)) ∧ (a2 = 1 → (vX9_isValue_48 Q a3 σ)) ∧ (a2 = 2 → (Q 1 σ)) ∧ (a2 = 3 → (vX9_isValue_58 Q a1 a3 σ)) ∧ (a2 = 4 → (vX9_isValue_58 Q a1 a3 σ)) ∧ (a2 = 5 → (vX9_isRoutine (fun z3 σ4 => ((z3 = 0 ∨ z3 = 1) ∧ (Q z3 σ4))) a3 σ)) ∧ (a2 = 6 → (vX9_isValue_80 Q a3 σ)) ∧ (a2 = 7 → (vX9_isValue_80 Q a3 σ)))
theorem mono_vX9_isValue {Q Q9 : Int → bS → Prop} {a1 : Int} {a2 : Int} {a3 : Int} {σ : bS} (hQ : ∀ r σ, Q r σ → Q9 r σ) : vX9_isValue Q a1 a2 a3 σ → vX9_isValue Q9 a1 a2 a3 σ := (bm_and (bm_imp (hQ _ _)) (bm_and (bm_imp (mono_vX9_isValue_48 hQ)) (bm_and (bm_imp (mono_vX9_isValue_48 hQ)) (bm_and (bm_imp (hQ _ _)) (bm_and (bm_imp (mono_vX9_isValue_58 hQ)) (bm_and (bm_imp (mono_vX9_isValue_58 hQ)) (bm_and (bm_imp (mono_X9_isRoutine (fun _ _ => (bm_r (hQ _ _))))) (bm_and (bm_imp (mono_vX9_isValue_80 hQ)) (bm_imp (mono_vX9_isValue_80 hQ))))))))))
theorem wX9_isValue_e {p : Program} {l : Launch} {e : Env} {s : State} {m : MethodId} {args : Array Value} {below : List Frame} {meth : Method} {c : Code} {G : bG} {σ0 : bS} {Q : Int → bS → Prop} {a1 : Int} {a2 : Int} {a3 : Int} {σ : bS} (S : CallFix p m c cX9_isValue 4 s args bT "BankLinkerModel") (hr : meth.sig.returnType = some .boolean) (hlk : meth.locks = false) (ha1 : bR a1) (ha2 : bR a2) (ha3 : bR a3) (hσ : bRG σ) (h : vX9_isValue Q a1 a2 a3 σ) : bA p l e { frames := 2, cells := 0, slots := 0, locals := 46 } s m args below meth c 0 0 (bQi below args s G σ0 Q) G (va_A (bk_w G σ0) s.heap.size) 4 0 [(0, .ref (G.2.2 10)), (1, .int (bI a1)), (2, .int (bI a2)), (3, .int (bI a3))] [] σ := by
  unfold vX9_isValue at h
  refine br_iload_n S 2 dX9_isValue_0 rfl rfl ?_
  by_cases c1 : a2 < 0 ∨ 7 < a2
  · replace h := h.1 c1
    refine br_tblO S 90 ha2 c1 dX9_isValue_1 (by decide) ?_
    refine br_iconst S dX9_isValue_90 ?_
    exact br_zret S hr hlk (by decide) hσ dX9_isValue_91 h
  · rcases (show a2 = 0 ∨ a2 = 1 ∨ a2 = 2 ∨ a2 = 3 ∨ a2 = 4 ∨ a2 = 5 ∨ a2 = 6 ∨ a2 = 7 by omega) with c2 | c2 | c2 | c2 | c2 | c2 | c2 | c2
    · replace h := h.2.1 c2
      refine br_tblI S 48 0 ha2 c2 (by decide) rfl dX9_isValue_1 (by decide) ?_
      exact bA.perm [3] rfl <| wX9_isValue_48 S hr hlk ha3 hσ h
    · replace h := h.2.2.1 c2
      refine br_tblI S 48 1 ha2 c2 (by decide) rfl dX9_isValue_1 (by decide) ?_
      exact bA.perm [3] rfl <| wX9_isValue_48 S hr hlk ha3 hσ h
    · replace h := h.2.2.2.1 c2
      refine br_tblI S 90 2 ha2 c2 (by decide) rfl dX9_isValue_1 (by decide) ?_
      refine br_iconst S dX9_isValue_90 ?_
      exact br_zret S hr hlk (by decide) hσ dX9_isValue_91 h
    · replace h := h.2.2.2.2.1 c2
      refine br_tblI S 58 3 ha2 c2 (by decide) rfl dX9_isValue_1 (by decide) ?_
      exact bA.perm [0, 1, 3] rfl <| wX9_isValue_58 S hr hlk ha1 ha3 hσ h
    · replace h := h.2.2.2.2.2.1 c2
      refine br_tblI S 58 4 ha2 c2 (by decide) rfl dX9_isValue_1 (by decide) ?_
      exact bA.perm [0, 1, 3] rfl <| wX9_isValue_58 S hr hlk ha1 ha3 hσ h
    · replace h := h.2.2.2.2.2.2.1 c2
      refine br_tblI S 74 5 ha2 c2 (by decide) rfl dX9_isValue_1 (by decide) ?_
      refine br_aload_n S 0 dX9_isValue_74 rfl rfl ?_
      refine br_iload_n S 3 dX9_isValue_75 rfl rfl ?_
      refine br_callV (As := [.int (bI a3)]) (rest := []) S (cwV_X9_isRoutine S.2.2.2.2 wd_4_123 ⟨by decide, by decide⟩) (mX9_isRoutine l G σ a3 ha3 h) (by decide) rfl rfl rfl hσ rfl rfl (Nat.le_of_ble_eq_true rfl) ⟨by decide, by decide⟩ dX9_isValue_76 (fun z3 σ4 hz3 hσ4 h => ?_)
      obtain ⟨g5, h⟩ := h
      exact br_zret S hr hlk g5 hσ4 dX9_isValue_79 h
    · replace h := h.2.2.2.2.2.2.2.1 c2
      refine br_tblI S 80 6 ha2 c2 (by decide) rfl dX9_isValue_1 (by decide) ?_
      exact bA.perm [3] rfl <| wX9_isValue_80 S hr hlk ha3 hσ h
    · replace h := h.2.2.2.2.2.2.2.2 c2
      refine br_tblI S 80 7 ha2 c2 (by decide) rfl dX9_isValue_1 (by decide) ?_
      exact bA.perm [3] rfl <| wX9_isValue_80 S hr hlk ha3 hσ h
theorem mono_X9_isValue {Q Q9 : Int → bS → Prop} {a1 : Int} {a2 : Int} {a3 : Int} {σ : bS} (hQ : ∀ r σ, Q r σ → Q9 r σ) : vX9_isValue Q a1 a2 a3 σ → vX9_isValue Q9 a1 a2 a3 σ := mono_vX9_isValue hQ
theorem mX9_isValue (l : Launch) (G : bG) (σ : bS) (a1 : Int) (ha1 : bR a1) (a2 : Int) (ha2 : bR a2) (a3 : Int) (ha3 : bR a3) {Q : Int → bS → Prop} (h : vX9_isValue Q a1 a2 a3 σ) : bk_Mi l yX9_isValue (Cond.code yX9_isValue cX9_isValue 4 (some .boolean) :: bT) { frames := 2, cells := 0, slots := 0, locals := 46 } G σ [.ref (G.2.2 10), .int (bI a1), .int (bI a2), .int (bI a3)] Q := by
  refine bk_Mi.of (cc := cX9_isValue) (maxL := 4) (ret := some .boolean) (by decide) rfl (Nat.le_of_ble_eq_true rfl) ?_
  intro p e s m args below meth c S hr hlk hσ
  exact wX9_isValue_e S hr hlk ha1 ha2 ha3 hσ h
def vX9_op (Q : Int → bS → Prop) (a1 : Int) (a2 : Int) (a3 : Int) (σ : bS) : Prop := (∀ σ1 : bS, σ1 = bup σ 10 0 0 → (vX9_isRoutine (fun z3 σ4 => ((z3 = 0 → (Q (-2) σ4)) ∧ (¬ z3 = 0 → (vX9_in (fun z6 σ7 => ((z6 = 0 → (Q (-2) σ7)) ∧ (¬ z6 = 0 → (vX9_isValue (fun z9 σ10 => ((¬ z9 = 0 → ((0 ≤ a1 ∧ a1 < 30) ∧ ((¬ (σ10 52 a1) = 40 → (∀ σ14 : bS, σ14 = bup σ10 10 10 0 → ((0 ≤ ((40 * a1) + (σ14 52 a1)) ∧ ((40 * a1) + (σ14 52 a1)) < 1200) ∧ (∀ σ17 : bS, σ17 = bup σ14 53 ((40 * a1) + (σ14 52 a1)) a2 → ((0 ≤ ((40 * a1) + (σ17 52 a1)) ∧ ((40 * a1) + (σ17 52 a1)) < 1200) ∧ (∀ σ20 : bS, σ20 = bup σ17 54 ((40 * a1) + (σ17 52 a1)) a3 → (bR ((σ20 52 a1) + 1) ∧ (∀ σ23 : bS, σ23 = bup σ20 52 a1 ((σ20 52 a1) + 1) → (Q (σ23 52 a1) σ23))))))))) ∧ ((σ10 52 a1) = 40 → (Q (-4) σ10))))) ∧ (z9 = 0 → (Q (-2) σ10)))) a1 a2 a3 σ7)))) a2 0 8 σ4)))) a1 σ1))
theorem mono_vX9_op {Q Q9 : Int → bS → Prop} {a1 : Int} {a2 : Int} {a3 : Int} {σ : bS} (hQ : ∀ r σ, Q r σ → Q9 r σ) : vX9_op Q a1 a2 a3 σ → vX9_op Q9 a1 a2 a3 σ := (bm_all fun _ => bm_imp (mono_X9_isRoutine (fun _ _ => (bm_and (bm_imp (hQ _ _)) (bm_imp (mono_X9_in (fun _ _ => (bm_and (bm_imp (hQ _ _)) (bm_imp (mono_X9_isValue (fun _ _ => (bm_and (bm_imp (bm_r (bm_and (bm_imp (bm_all fun _ => bm_imp (bm_r (bm_all fun _ => bm_imp (bm_r (bm_all fun _ => bm_imp (bm_r (bm_all fun _ => bm_imp (hQ _ _))))))))) (bm_imp (hQ _ _))))) (bm_imp (hQ _ _))))))))))))))
theorem wX9_op_e {p : Program} {l : Launch} {e : Env} {s : State} {m : MethodId} {args : Array Value} {below : List Frame} {meth : Method} {c : Code} {G : bG} {σ0 : bS} {Q : Int → bS → Prop} {a1 : Int} {a2 : Int} {a3 : Int} {σ : bS} (S : CallFix p m c cX9_op 4 s args bT "BankLinkerModel") (hr : meth.sig.returnType = some .int) (hlk : meth.locks = false) (ha1 : bR a1) (ha2 : bR a2) (ha3 : bR a3) (hσ : bRG σ) (h : vX9_op Q a1 a2 a3 σ) : bA p l e { frames := 3, cells := 0, slots := 0, locals := 69 } s m args below meth c 0 0 (bQi below args s G σ0 Q) G (va_A (bk_w G σ0) s.heap.size) 4 0 [(0, .ref (G.2.2 10)), (1, .int (bI a1)), (2, .int (bI a2)), (3, .int (bI a3))] [] σ := by
  unfold vX9_op at h
  refine br_aload_n S 0 dX9_op_0 rfl rfl ?_
  refine br_iconst S dX9_op_1 ?_
  obtain ⟨σ1, e2⟩ : ∃ τ, τ = bup σ 10 0 0 := ⟨_, rfl⟩
  replace h := h σ1 e2
  have hσ1 : bRG σ1 := by rw [e2]; exact bup_rg hσ (by decide)
  refine br_put (f := 0) (N := 37) (C := RX9) (T := TX9) S tyX9 tyX9_ok nmX9 inT_X9 wd_3_234 (by decide) rfl (pf_10_0 _ _ _) rfl (by decide) (Nat.le_of_ble_eq_true rfl) rfl rfl rfl rfl dX9_op_2 ?_
  refine bA.to rfl rfl e2.symm ?_
  refine br_aload_n S 0 dX9_op_5 rfl rfl ?_
  refine br_iload_n S 1 dX9_op_6 rfl rfl ?_
  refine br_callV (As := [.int (bI a1)]) (rest := []) S (cwV_X9_isRoutine S.2.2.2.2 wd_4_123 ⟨by decide, by decide⟩) (mX9_isRoutine l G σ1 a1 ha1 h) (by decide) rfl rfl rfl hσ1 rfl rfl (Nat.le_of_ble_eq_true rfl) ⟨by decide, by decide⟩ dX9_op_7 (fun z3 σ4 hz3 hσ4 h => ?_)
  refine br_if_eq S 35 hz3 dX9_op_10 (by decide) (fun c5 => ?_) (fun c5 => ?_)
  · replace h := h.1 c5
    refine br_bipush S dX9_op_35 rfl ?_
    exact br_iret S hr hlk (by decide) hσ4 dX9_op_37 h
  · replace h := h.2 c5
    refine br_iload_n S 2 dX9_op_13 rfl rfl ?_
    refine br_i2l S ha2 dX9_op_14 ?_
    refine br_lconst (z := 0) S dX9_op_15 rfl ?_
    refine br_ldc2 (z := 8) S wd_4_127 rfl dX9_op_16 ?_
    refine br_callS (As := [.long (bL a2), .long (bL 0), .long (bL 8)]) (rest := []) S (cwS_X9_in S.2.2.2.2 wd_4_111 ⟨by decide, by decide⟩) (mX9_in l G σ4 a2 ha2 0 (by decide) 8 (by decide) h) hσ4 rfl rfl (Nat.le_of_ble_eq_true rfl) ⟨by decide, by decide⟩ dX9_op_19 (fun z6 σ7 hz6 hσ7 h => ?_)
    refine br_if_eq S 35 hz6 dX9_op_22 (by decide) (fun c8 => ?_) (fun c8 => ?_)
    · replace h := h.1 c8
      refine br_bipush S dX9_op_35 rfl ?_
      exact br_iret S hr hlk (by decide) hσ7 dX9_op_37 h
    · replace h := h.2 c8
      refine br_aload_n S 0 dX9_op_25 rfl rfl ?_
      refine br_iload_n S 1 dX9_op_26 rfl rfl ?_
      refine br_iload_n S 2 dX9_op_27 rfl rfl ?_
      refine br_iload_n S 3 dX9_op_28 rfl rfl ?_
      refine br_callV (As := [.int (bI a1), .int (bI a2), .int (bI a3)]) (rest := []) S (cwV_X9_isValue S.2.2.2.2 wd_4_128 ⟨by decide, by decide⟩) (mX9_isValue l G σ7 a1 ha1 a2 ha2 a3 ha3 h) (by decide) rfl rfl rfl hσ7 rfl rfl (Nat.le_of_ble_eq_true rfl) ⟨by decide, by decide⟩ dX9_op_29 (fun z9 σ10 hz9 hσ10 h => ?_)
      refine br_if_ne S 38 hz9 dX9_op_32 (by decide) (fun c11 => ?_) (fun c11 => ?_)
      · replace h := h.1 c11
        refine br_aload_n S 0 dX9_op_38 rfl rfl ?_
        refine br_get (f := 6) (N := 37) (C := RX9) (T := TX9) S inT_X9 wd_4_0 (by decide) rfl rfl (by decide) rfl dX9_op_39 ?_
        refine br_iload_n S 1 dX9_op_42 rfl rfl ?_
        obtain ⟨g12, h⟩ := h
        refine br_iald (n := 30) S ⟨by decide, by decide, fun _ => rfl⟩ g12.1 g12.2 dX9_op_43 ?_
        refine br_bipush S dX9_op_44 rfl ?_
        refine br_ic_ne S 52 (hσ10 52 a1) (by decide) dX9_op_46 (by decide) (fun c13 => ?_) (fun c13 => ?_)
        · replace h := h.1 c13
          refine br_aload_n S 0 dX9_op_52 rfl rfl ?_
          refine br_iconst S dX9_op_53 ?_
          obtain ⟨σ14, e15⟩ : ∃ τ, τ = bup σ10 10 10 0 := ⟨_, rfl⟩
          replace h := h σ14 e15
          have hσ14 : bRG σ14 := by rw [e15]; exact bup_rg hσ10 (by decide)
          refine br_put (f := 10) (N := 37) (C := RX9) (T := TX9) S tyX9 tyX9_ok nmX9 inT_X9 wd_4_4 (by decide) rfl (pf_10_10 _ _ _) rfl (by decide) (Nat.le_of_ble_eq_true rfl) rfl rfl (bk_nar (by decide)) (bk_fit (by decide)) dX9_op_54 ?_
          refine bA.to rfl rfl e15.symm ?_
          refine br_aload_n S 0 dX9_op_57 rfl rfl ?_
          refine br_get (f := 7) (N := 37) (C := RX9) (T := TX9) S inT_X9 wd_4_1 (by decide) rfl rfl (by decide) rfl dX9_op_58 ?_
          refine br_bipush S dX9_op_61 rfl ?_
          refine br_iload_n S 1 dX9_op_63 rfl rfl ?_
          refine br_imul S dX9_op_64 ?_
          refine br_aload_n S 0 dX9_op_65 rfl rfl ?_
          refine br_get (f := 6) (N := 37) (C := RX9) (T := TX9) S inT_X9 wd_4_0 (by decide) rfl rfl (by decide) rfl dX9_op_66 ?_
          refine br_iload_n S 1 dX9_op_69 rfl rfl ?_
          refine br_iald (n := 30) S ⟨by decide, by decide, fun _ => rfl⟩ g12.1 g12.2 dX9_op_70 ?_
          refine br_iadd S dX9_op_71 ?_
          refine br_iload_n S 2 dX9_op_72 rfl rfl ?_
          obtain ⟨g16, h⟩ := h
          obtain ⟨σ17, e18⟩ : ∃ τ, τ = bup σ14 53 ((40 * a1) + (σ14 52 a1)) a2 := ⟨_, rfl⟩
          replace h := h σ17 e18
          have hσ17 : bRG σ17 := by rw [e18]; exact bup_rg hσ14 ha2
          refine br_iast (n := 1200) S ⟨by decide, by decide, fun _ => rfl⟩ g16.1 g16.2 dX9_op_73 ?_
          refine bA.to rfl rfl e18.symm ?_
          refine br_aload_n S 0 dX9_op_74 rfl rfl ?_
          refine br_get (f := 8) (N := 37) (C := RX9) (T := TX9) S inT_X9 wd_4_2 (by decide) rfl rfl (by decide) rfl dX9_op_75 ?_
          refine br_bipush S dX9_op_78 rfl ?_
          refine br_iload_n S 1 dX9_op_80 rfl rfl ?_
          refine br_imul S dX9_op_81 ?_
          refine br_aload_n S 0 dX9_op_82 rfl rfl ?_
          refine br_get (f := 6) (N := 37) (C := RX9) (T := TX9) S inT_X9 wd_4_0 (by decide) rfl rfl (by decide) rfl dX9_op_83 ?_
          refine br_iload_n S 1 dX9_op_86 rfl rfl ?_
          refine br_iald (n := 30) S ⟨by decide, by decide, fun _ => rfl⟩ g12.1 g12.2 dX9_op_87 ?_
          refine br_iadd S dX9_op_88 ?_
          refine br_iload_n S 3 dX9_op_89 rfl rfl ?_
          obtain ⟨g19, h⟩ := h
          obtain ⟨σ20, e21⟩ : ∃ τ, τ = bup σ17 54 ((40 * a1) + (σ17 52 a1)) a3 := ⟨_, rfl⟩
          replace h := h σ20 e21
          have hσ20 : bRG σ20 := by rw [e21]; exact bup_rg hσ17 ha3
          refine br_iast (n := 1200) S ⟨by decide, by decide, fun _ => rfl⟩ g19.1 g19.2 dX9_op_90 ?_
          refine bA.to rfl rfl e21.symm ?_
          refine br_aload_n S 0 dX9_op_91 rfl rfl ?_
          refine br_get (f := 6) (N := 37) (C := RX9) (T := TX9) S inT_X9 wd_4_0 (by decide) rfl rfl (by decide) rfl dX9_op_92 ?_
          refine br_iload_n S 1 dX9_op_95 rfl rfl ?_
          refine br_dup2 S dX9_op_96 rfl rfl ?_
          refine br_iald (n := 30) S ⟨by decide, by decide, fun _ => rfl⟩ g12.1 g12.2 dX9_op_97 ?_
          refine br_iconst S dX9_op_98 ?_
          refine br_iadd S dX9_op_99 ?_
          obtain ⟨g22, h⟩ := h
          obtain ⟨σ23, e24⟩ : ∃ τ, τ = bup σ20 52 a1 ((σ20 52 a1) + 1) := ⟨_, rfl⟩
          replace h := h σ23 e24
          have hσ23 : bRG σ23 := by rw [e24]; exact bup_rg hσ20 g22
          refine br_iast (n := 30) S ⟨by decide, by decide, fun _ => rfl⟩ g12.1 g12.2 dX9_op_100 ?_
          refine bA.to rfl rfl e24.symm ?_
          refine br_aload_n S 0 dX9_op_101 rfl rfl ?_
          refine br_get (f := 6) (N := 37) (C := RX9) (T := TX9) S inT_X9 wd_4_0 (by decide) rfl rfl (by decide) rfl dX9_op_102 ?_
          refine br_iload_n S 1 dX9_op_105 rfl rfl ?_
          refine br_iald (n := 30) S ⟨by decide, by decide, fun _ => rfl⟩ g12.1 g12.2 dX9_op_106 ?_
          exact br_iret S hr hlk (hσ23 52 a1) hσ23 dX9_op_107 h
        · replace h := h.2 c13
          refine br_bipush S dX9_op_49 rfl ?_
          exact br_iret S hr hlk (by decide) hσ10 dX9_op_51 h
      · replace h := h.2 c11
        refine br_bipush S dX9_op_35 rfl ?_
        exact br_iret S hr hlk (by decide) hσ10 dX9_op_37 h
theorem mono_X9_op {Q Q9 : Int → bS → Prop} {a1 : Int} {a2 : Int} {a3 : Int} {σ : bS} (hQ : ∀ r σ, Q r σ → Q9 r σ) : vX9_op Q a1 a2 a3 σ → vX9_op Q9 a1 a2 a3 σ := mono_vX9_op hQ
theorem mX9_op (l : Launch) (G : bG) (σ : bS) (a1 : Int) (ha1 : bR a1) (a2 : Int) (ha2 : bR a2) (a3 : Int) (ha3 : bR a3) {Q : Int → bS → Prop} (h : vX9_op Q a1 a2 a3 σ) : bk_Mi l yX9_op (Cond.code yX9_op cX9_op 4 (some .int) :: bT) { frames := 3, cells := 0, slots := 0, locals := 69 } G σ [.ref (G.2.2 10), .int (bI a1), .int (bI a2), .int (bI a3)] Q := by
  refine bk_Mi.of (cc := cX9_op) (maxL := 4) (ret := some .int) (by decide) rfl (Nat.le_of_ble_eq_true rfl) ?_
  intro p e s m args below meth c S hr hlk hσ
  exact wX9_op_e S hr hlk ha1 ha2 ha3 hσ h
def vX9_drop (Q : Int → bS → Prop) (a1 : Int) (σ : bS) : Prop := (∀ σ1 : bS, σ1 = bup σ 10 0 0 → (vX9_isRoutine (fun z3 σ4 => ((¬ z3 = 0 → ((0 ≤ a1 ∧ a1 < 30) ∧ ((¬ (σ4 52 a1) = 0 → (∀ σ8 : bS, σ8 = bup σ4 10 10 0 → (bR ((σ8 52 a1) - 1) ∧ (∀ σ11 : bS, σ11 = bup σ8 52 a1 ((σ8 52 a1) - 1) → (Q (σ11 52 a1) σ11))))) ∧ ((σ4 52 a1) = 0 → (Q (-1) σ4))))) ∧ (z3 = 0 → (Q (-2) σ4)))) a1 σ1))
theorem mono_vX9_drop {Q Q9 : Int → bS → Prop} {a1 : Int} {σ : bS} (hQ : ∀ r σ, Q r σ → Q9 r σ) : vX9_drop Q a1 σ → vX9_drop Q9 a1 σ := (bm_all fun _ => bm_imp (mono_X9_isRoutine (fun _ _ => (bm_and (bm_imp (bm_r (bm_and (bm_imp (bm_all fun _ => bm_imp (bm_r (bm_all fun _ => bm_imp (hQ _ _))))) (bm_imp (hQ _ _))))) (bm_imp (hQ _ _))))))
theorem wX9_drop_e {p : Program} {l : Launch} {e : Env} {s : State} {m : MethodId} {args : Array Value} {below : List Frame} {meth : Method} {c : Code} {G : bG} {σ0 : bS} {Q : Int → bS → Prop} {a1 : Int} {σ : bS} (S : CallFix p m c cX9_drop 2 s args bT "BankLinkerModel") (hr : meth.sig.returnType = some .int) (hlk : meth.locks = false) (ha1 : bR a1) (hσ : bRG σ) (h : vX9_drop Q a1 σ) : bA p l e { frames := 2, cells := 0, slots := 0, locals := 46 } s m args below meth c 0 0 (bQi below args s G σ0 Q) G (va_A (bk_w G σ0) s.heap.size) 2 0 [(0, .ref (G.2.2 10)), (1, .int (bI a1))] [] σ := by
  unfold vX9_drop at h
  refine br_aload_n S 0 dX9_drop_0 rfl rfl ?_
  refine br_iconst S dX9_drop_1 ?_
  obtain ⟨σ1, e2⟩ : ∃ τ, τ = bup σ 10 0 0 := ⟨_, rfl⟩
  replace h := h σ1 e2
  have hσ1 : bRG σ1 := by rw [e2]; exact bup_rg hσ (by decide)
  refine br_put (f := 0) (N := 37) (C := RX9) (T := TX9) S tyX9 tyX9_ok nmX9 inT_X9 wd_3_234 (by decide) rfl (pf_10_0 _ _ _) rfl (by decide) (Nat.le_of_ble_eq_true rfl) rfl rfl rfl rfl dX9_drop_2 ?_
  refine bA.to rfl rfl e2.symm ?_
  refine br_aload_n S 0 dX9_drop_5 rfl rfl ?_
  refine br_iload_n S 1 dX9_drop_6 rfl rfl ?_
  refine br_callV (As := [.int (bI a1)]) (rest := []) S (cwV_X9_isRoutine S.2.2.2.2 wd_4_123 ⟨by decide, by decide⟩) (mX9_isRoutine l G σ1 a1 ha1 h) (by decide) rfl rfl rfl hσ1 rfl rfl (Nat.le_of_ble_eq_true rfl) ⟨by decide, by decide⟩ dX9_drop_7 (fun z3 σ4 hz3 hσ4 h => ?_)
  refine br_if_ne S 16 hz3 dX9_drop_10 (by decide) (fun c5 => ?_) (fun c5 => ?_)
  · replace h := h.1 c5
    refine br_aload_n S 0 dX9_drop_16 rfl rfl ?_
    refine br_get (f := 6) (N := 37) (C := RX9) (T := TX9) S inT_X9 wd_4_0 (by decide) rfl rfl (by decide) rfl dX9_drop_17 ?_
    refine br_iload_n S 1 dX9_drop_20 rfl rfl ?_
    obtain ⟨g6, h⟩ := h
    refine br_iald (n := 30) S ⟨by decide, by decide, fun _ => rfl⟩ g6.1 g6.2 dX9_drop_21 ?_
    refine br_if_ne S 27 (hσ4 52 a1) dX9_drop_22 (by decide) (fun c7 => ?_) (fun c7 => ?_)
    · replace h := h.1 c7
      refine br_aload_n S 0 dX9_drop_27 rfl rfl ?_
      refine br_iconst S dX9_drop_28 ?_
      obtain ⟨σ8, e9⟩ : ∃ τ, τ = bup σ4 10 10 0 := ⟨_, rfl⟩
      replace h := h σ8 e9
      have hσ8 : bRG σ8 := by rw [e9]; exact bup_rg hσ4 (by decide)
      refine br_put (f := 10) (N := 37) (C := RX9) (T := TX9) S tyX9 tyX9_ok nmX9 inT_X9 wd_4_4 (by decide) rfl (pf_10_10 _ _ _) rfl (by decide) (Nat.le_of_ble_eq_true rfl) rfl rfl (bk_nar (by decide)) (bk_fit (by decide)) dX9_drop_29 ?_
      refine bA.to rfl rfl e9.symm ?_
      refine br_aload_n S 0 dX9_drop_32 rfl rfl ?_
      refine br_get (f := 6) (N := 37) (C := RX9) (T := TX9) S inT_X9 wd_4_0 (by decide) rfl rfl (by decide) rfl dX9_drop_33 ?_
      refine br_iload_n S 1 dX9_drop_36 rfl rfl ?_
      refine br_dup2 S dX9_drop_37 rfl rfl ?_
      refine br_iald (n := 30) S ⟨by decide, by decide, fun _ => rfl⟩ g6.1 g6.2 dX9_drop_38 ?_
      refine br_iconst S dX9_drop_39 ?_
      refine br_isub S dX9_drop_40 ?_
      obtain ⟨g10, h⟩ := h
      obtain ⟨σ11, e12⟩ : ∃ τ, τ = bup σ8 52 a1 ((σ8 52 a1) - 1) := ⟨_, rfl⟩
      replace h := h σ11 e12
      have hσ11 : bRG σ11 := by rw [e12]; exact bup_rg hσ8 g10
      refine br_iast (n := 30) S ⟨by decide, by decide, fun _ => rfl⟩ g6.1 g6.2 dX9_drop_41 ?_
      refine bA.to rfl rfl e12.symm ?_
      refine br_aload_n S 0 dX9_drop_42 rfl rfl ?_
      refine br_get (f := 6) (N := 37) (C := RX9) (T := TX9) S inT_X9 wd_4_0 (by decide) rfl rfl (by decide) rfl dX9_drop_43 ?_
      refine br_iload_n S 1 dX9_drop_46 rfl rfl ?_
      refine br_iald (n := 30) S ⟨by decide, by decide, fun _ => rfl⟩ g6.1 g6.2 dX9_drop_47 ?_
      exact br_iret S hr hlk (hσ11 52 a1) hσ11 dX9_drop_48 h
    · replace h := h.2 c7
      refine br_iconst S dX9_drop_25 ?_
      exact br_iret S hr hlk (by decide) hσ4 dX9_drop_26 h
  · replace h := h.2 c5
    refine br_bipush S dX9_drop_13 rfl ?_
    exact br_iret S hr hlk (by decide) hσ4 dX9_drop_15 h
theorem mono_X9_drop {Q Q9 : Int → bS → Prop} {a1 : Int} {σ : bS} (hQ : ∀ r σ, Q r σ → Q9 r σ) : vX9_drop Q a1 σ → vX9_drop Q9 a1 σ := mono_vX9_drop hQ
theorem mX9_drop (l : Launch) (G : bG) (σ : bS) (a1 : Int) (ha1 : bR a1) {Q : Int → bS → Prop} (h : vX9_drop Q a1 σ) : bk_Mi l yX9_drop (Cond.code yX9_drop cX9_drop 2 (some .int) :: bT) { frames := 2, cells := 0, slots := 0, locals := 46 } G σ [.ref (G.2.2 10), .int (bI a1)] Q := by
  refine bk_Mi.of (cc := cX9_drop) (maxL := 2) (ret := some .int) (by decide) rfl (Nat.le_of_ble_eq_true rfl) ?_
  intro p e s m args below meth c S hr hlk hσ
  exact wX9_drop_e S hr hlk ha1 hσ h
def vX9_limit_84 (Q : Int → bS → Prop) (x1 : Int) (x2 : Int) (s0 : Int) (σ : bS) : Prop := ((¬ s0 = 0 → (∀ σ2 : bS, σ2 = bup σ 10 10 0 → ((0 ≤ x1 ∧ x1 < 5) ∧ (∀ σ5 : bS, σ5 = bup σ2 55 x1 x2 → (Q (σ2 55 x1) σ5))))) ∧ (s0 = 0 → (Q (-2) σ)))
theorem mono_vX9_limit_84 {Q Q9 : Int → bS → Prop} {x1 : Int} {x2 : Int} {s0 : Int} {σ : bS} (hQ : ∀ r σ, Q r σ → Q9 r σ) : vX9_limit_84 Q x1 x2 s0 σ → vX9_limit_84 Q9 x1 x2 s0 σ := (bm_and (bm_imp (bm_all fun _ => bm_imp (bm_r (bm_all fun _ => bm_imp (hQ _ _))))) (bm_imp (hQ _ _)))
theorem wX9_limit_84 {p : Program} {l : Launch} {e : Env} {s : State} {m : MethodId} {args : Array Value} {below : List Frame} {meth : Method} {c : Code} {G : bG} {σ0 : bS} {Q : Int → bS → Prop} {x1 : Int} {x2 : Int} {s0 : Int} {σ : bS} (S : CallFix p m c cX9_limit 5 s args bT "BankLinkerModel") (hr : meth.sig.returnType = some .int) (hlk : meth.locks = false) (hx1 : bR x1) (hx2 : bR x2) (hs0 : bR s0) (hσ : bRG σ) (h : vX9_limit_84 Q x1 x2 s0 σ) : bA p l e { frames := 1, cells := 0, slots := 0, locals := 25 } s m args below meth c 0 0 (bQi below args s G σ0 Q) G (va_A (bk_w G σ0) s.heap.size) 5 84 [(0, .ref (G.2.2 10)), (1, .int (bI x1)), (2, .int (bI x2))] [.int (bI s0)] σ := by
  unfold vX9_limit_84 at h
  refine br_istore_n S [(3, .int (bI s0)), (0, .ref (G.2.2 10)), (1, .int (bI x1)), (2, .int (bI x2))] dX9_limit_84 rfl (by decide) rfl ?_
  refine br_iload_n S 0 dX9_limit_85 rfl rfl ?_
  refine br_if_ne S 92 hs0 dX9_limit_86 (by decide) (fun c1 => ?_) (fun c1 => ?_)
  · replace h := h.1 c1
    refine br_aload_n S 1 dX9_limit_92 rfl rfl ?_
    refine br_iconst S dX9_limit_93 ?_
    obtain ⟨σ2, e3⟩ : ∃ τ, τ = bup σ 10 10 0 := ⟨_, rfl⟩
    replace h := h σ2 e3
    have hσ2 : bRG σ2 := by rw [e3]; exact bup_rg hσ (by decide)
    refine br_put (f := 10) (N := 37) (C := RX9) (T := TX9) S tyX9 tyX9_ok nmX9 inT_X9 wd_4_4 (by decide) rfl (pf_10_10 _ _ _) rfl (by decide) (Nat.le_of_ble_eq_true rfl) rfl rfl (bk_nar (by decide)) (bk_fit (by decide)) dX9_limit_94 ?_
    refine bA.to rfl rfl e3.symm ?_
    refine br_aload_n S 1 dX9_limit_97 rfl rfl ?_
    refine br_get (f := 9) (N := 37) (C := RX9) (T := TX9) S inT_X9 wd_4_3 (by decide) rfl rfl (by decide) rfl dX9_limit_98 ?_
    refine br_iload_n S 2 dX9_limit_101 rfl rfl ?_
    obtain ⟨g4, h⟩ := h
    refine br_iald (n := 5) S ⟨by decide, by decide, fun _ => rfl⟩ g4.1 g4.2 dX9_limit_102 ?_
    refine br_istore S [(4, .int (bI (σ2 55 x1))), (3, .int (bI s0)), (0, .ref (G.2.2 10)), (1, .int (bI x1)), (2, .int (bI x2))] dX9_limit_103 (by decide) rfl ?_
    refine br_aload_n S 2 dX9_limit_105 rfl rfl ?_
    refine br_get (f := 9) (N := 37) (C := RX9) (T := TX9) S inT_X9 wd_4_3 (by decide) rfl rfl (by decide) rfl dX9_limit_106 ?_
    refine br_iload_n S 3 dX9_limit_109 rfl rfl ?_
    refine br_iload_n S 4 dX9_limit_110 rfl rfl ?_
    obtain ⟨σ5, e6⟩ : ∃ τ, τ = bup σ2 55 x1 x2 := ⟨_, rfl⟩
    replace h := h σ5 e6
    have hσ5 : bRG σ5 := by rw [e6]; exact bup_rg hσ2 hx2
    refine br_iast (n := 5) S ⟨by decide, by decide, fun _ => rfl⟩ g4.1 g4.2 dX9_limit_111 ?_
    refine bA.to rfl rfl e6.symm ?_
    refine br_iload S 0 dX9_limit_112 rfl ?_
    exact br_iret S hr hlk (hσ2 55 x1) hσ5 dX9_limit_114 h
  · replace h := h.2 c1
    refine br_bipush S dX9_limit_89 rfl ?_
    exact br_iret S hr hlk (by decide) hσ dX9_limit_91 h
def vX9_limit_31 (Q : Int → bS → Prop) (x1 : Int) (x2 : Int) (σ : bS) : Prop := (vX9_in (fun z1 σ2 => (vX9_limit_84 Q x1 x2 z1 σ2)) x2 8 250 σ)
theorem mono_vX9_limit_31 {Q Q9 : Int → bS → Prop} {x1 : Int} {x2 : Int} {σ : bS} (hQ : ∀ r σ, Q r σ → Q9 r σ) : vX9_limit_31 Q x1 x2 σ → vX9_limit_31 Q9 x1 x2 σ := (mono_X9_in (fun _ _ => (mono_vX9_limit_84 hQ)))
theorem wX9_limit_31 {p : Program} {l : Launch} {e : Env} {s : State} {m : MethodId} {args : Array Value} {below : List Frame} {meth : Method} {c : Code} {G : bG} {σ0 : bS} {Q : Int → bS → Prop} {x1 : Int} {x2 : Int} {σ : bS} (S : CallFix p m c cX9_limit 5 s args bT "BankLinkerModel") (hr : meth.sig.returnType = some .int) (hlk : meth.locks = false) (hx1 : bR x1) (hx2 : bR x2) (hσ : bRG σ) (h : vX9_limit_31 Q x1 x2 σ) : bA p l e { frames := 1, cells := 0, slots := 0, locals := 25 } s m args below meth c 0 0 (bQi below args s G σ0 Q) G (va_A (bk_w G σ0) s.heap.size) 5 31 [(0, .ref (G.2.2 10)), (1, .int (bI x1)), (2, .int (bI x2))] [] σ := by
  unfold vX9_limit_31 at h
  refine br_iload_n S 2 dX9_limit_31 rfl rfl ?_
  refine br_i2l S hx2 dX9_limit_32 ?_
  refine br_ldc2 (z := 8) S wd_4_127 rfl dX9_limit_33 ?_
  refine br_ldc2 (z := 250) S wd_4_142 rfl dX9_limit_36 ?_
  refine br_callS (As := [.long (bL x2), .long (bL 8), .long (bL 250)]) (rest := []) S (cwS_X9_in S.2.2.2.2 wd_4_111 ⟨by decide, by decide⟩) (mX9_in l G σ x2 hx2 8 (by decide) 250 (by decide) h) hσ rfl rfl (Nat.le_of_ble_eq_true rfl) ⟨by decide, by decide⟩ dX9_limit_39 (fun z1 σ2 hz1 hσ2 h => ?_)
  refine br_goto S 84 dX9_limit_42 (by decide) ?_
  exact wX9_limit_84 S hr hlk hx1 hx2 hz1 hσ2 h
def vX9_limit_83 (Q : Int → bS → Prop) (x1 : Int) (x2 : Int) (σ : bS) : Prop := (vX9_limit_84 Q x1 x2 0 σ)
theorem mono_vX9_limit_83 {Q Q9 : Int → bS → Prop} {x1 : Int} {x2 : Int} {σ : bS} (hQ : ∀ r σ, Q r σ → Q9 r σ) : vX9_limit_83 Q x1 x2 σ → vX9_limit_83 Q9 x1 x2 σ := (mono_vX9_limit_84 hQ)
theorem wX9_limit_83 {p : Program} {l : Launch} {e : Env} {s : State} {m : MethodId} {args : Array Value} {below : List Frame} {meth : Method} {c : Code} {G : bG} {σ0 : bS} {Q : Int → bS → Prop} {x1 : Int} {x2 : Int} {σ : bS} (S : CallFix p m c cX9_limit 5 s args bT "BankLinkerModel") (hr : meth.sig.returnType = some .int) (hlk : meth.locks = false) (hx1 : bR x1) (hx2 : bR x2) (hσ : bRG σ) (h : vX9_limit_83 Q x1 x2 σ) : bA p l e { frames := 1, cells := 0, slots := 0, locals := 25 } s m args below meth c 0 0 (bQi below args s G σ0 Q) G (va_A (bk_w G σ0) s.heap.size) 5 83 [(0, .ref (G.2.2 10)), (1, .int (bI x1)), (2, .int (bI x2))] [] σ := by
  unfold vX9_limit_83 at h
  refine br_iconst S dX9_limit_83 ?_
  exact wX9_limit_84 S hr hlk hx1 hx2 (by decide) hσ h
def vX9_limit (Q : Int → bS → Prop) (a1 : Int) (a2 : Int) (σ : bS) : Prop := (∀ σ1 : bS, σ1 = bup σ 10 0 0 → ((¬ a1 = 0 → ((a1 = 1 → (vX9_limit_31 Q a1 a2 σ1)) ∧ (¬ a1 = 1 → ((¬ a1 = 2 → ((¬ a1 = 3 → ((¬ a1 = 4 → (vX9_limit_83 Q a1 a2 σ1)) ∧ (a1 = 4 → (vX9_in (fun z8 σ9 => ((z8 = 0 → (vX9_limit_83 Q a1 a2 σ9)) ∧ (¬ z8 = 0 → (vX9_limit_84 Q a1 a2 1 σ9)))) a2 0 64 σ1)))) ∧ (a1 = 3 → (vX9_in (fun z11 σ12 => (vX9_limit_84 Q a1 a2 z11 σ12)) a2 1 60 σ1)))) ∧ (a1 = 2 → (vX9_limit_31 Q a1 a2 σ1)))))) ∧ (a1 = 0 → (vX9_in (fun z13 σ14 => (vX9_limit_84 Q a1 a2 z13 σ14)) a2 1 8 σ1))))
theorem mono_vX9_limit {Q Q9 : Int → bS → Prop} {a1 : Int} {a2 : Int} {σ : bS} (hQ : ∀ r σ, Q r σ → Q9 r σ) : vX9_limit Q a1 a2 σ → vX9_limit Q9 a1 a2 σ := (bm_all fun _ => bm_imp (bm_and (bm_imp (bm_and (bm_imp (mono_vX9_limit_31 hQ)) (bm_imp (bm_and (bm_imp (bm_and (bm_imp (bm_and (bm_imp (mono_vX9_limit_83 hQ)) (bm_imp (mono_X9_in (fun _ _ => (bm_and (bm_imp (mono_vX9_limit_83 hQ)) (bm_imp (mono_vX9_limit_84 hQ)))))))) (bm_imp (mono_X9_in (fun _ _ => (mono_vX9_limit_84 hQ)))))) (bm_imp (mono_vX9_limit_31 hQ)))))) (bm_imp (mono_X9_in (fun _ _ => (mono_vX9_limit_84 hQ))))))
theorem wX9_limit_e {p : Program} {l : Launch} {e : Env} {s : State} {m : MethodId} {args : Array Value} {below : List Frame} {meth : Method} {c : Code} {G : bG} {σ0 : bS} {Q : Int → bS → Prop} {a1 : Int} {a2 : Int} {σ : bS} (S : CallFix p m c cX9_limit 5 s args bT "BankLinkerModel") (hr : meth.sig.returnType = some .int) (hlk : meth.locks = false) (ha1 : bR a1) (ha2 : bR a2) (hσ : bRG σ) (h : vX9_limit Q a1 a2 σ) : bA p l e { frames := 1, cells := 0, slots := 0, locals := 25 } s m args below meth c 0 0 (bQi below args s G σ0 Q) G (va_A (bk_w G σ0) s.heap.size) 5 0 [(0, .ref (G.2.2 10)), (1, .int (bI a1)), (2, .int (bI a2))] [] σ := by
  unfold vX9_limit at h
  refine br_aload_n S 0 dX9_limit_0 rfl rfl ?_
  refine br_iconst S dX9_limit_1 ?_
  obtain ⟨σ1, e2⟩ : ∃ τ, τ = bup σ 10 0 0 := ⟨_, rfl⟩
  replace h := h σ1 e2
  have hσ1 : bRG σ1 := by rw [e2]; exact bup_rg hσ (by decide)
  refine br_put (f := 0) (N := 37) (C := RX9) (T := TX9) S tyX9 tyX9_ok nmX9 inT_X9 wd_3_234 (by decide) rfl (pf_10_0 _ _ _) rfl (by decide) (Nat.le_of_ble_eq_true rfl) rfl rfl rfl rfl dX9_limit_2 ?_
  refine bA.to rfl rfl e2.symm ?_
  refine br_iload_n S 1 dX9_limit_5 rfl rfl ?_
  refine br_if_ne S 21 ha1 dX9_limit_6 (by decide) (fun c3 => ?_) (fun c3 => ?_)
  · replace h := h.1 c3
    refine br_iload_n S 1 dX9_limit_21 rfl rfl ?_
    refine br_iconst S dX9_limit_22 ?_
    refine br_ic_eq S 31 ha1 (by decide) dX9_limit_23 (by decide) (fun c4 => ?_) (fun c4 => ?_)
    · replace h := h.1 c4
      exact wX9_limit_31 S hr hlk ha1 ha2 hσ1 h
    · replace h := h.2 c4
      refine br_iload_n S 1 dX9_limit_26 rfl rfl ?_
      refine br_iconst S dX9_limit_27 ?_
      refine br_ic_ne S 45 ha1 (by decide) dX9_limit_28 (by decide) (fun c5 => ?_) (fun c5 => ?_)
      · replace h := h.1 c5
        refine br_iload_n S 1 dX9_limit_45 rfl rfl ?_
        refine br_iconst S dX9_limit_46 ?_
        refine br_ic_ne S 62 ha1 (by decide) dX9_limit_47 (by decide) (fun c6 => ?_) (fun c6 => ?_)
        · replace h := h.1 c6
          refine br_iload_n S 1 dX9_limit_62 rfl rfl ?_
          refine br_iconst S dX9_limit_63 ?_
          refine br_ic_ne S 83 ha1 (by decide) dX9_limit_64 (by decide) (fun c7 => ?_) (fun c7 => ?_)
          · replace h := h.1 c7
            exact wX9_limit_83 S hr hlk ha1 ha2 hσ1 h
          · replace h := h.2 c7
            refine br_iload_n S 2 dX9_limit_67 rfl rfl ?_
            refine br_i2l S ha2 dX9_limit_68 ?_
            refine br_lconst (z := 0) S dX9_limit_69 rfl ?_
            refine br_ldc2 (z := 64) S wd_4_144 rfl dX9_limit_70 ?_
            refine br_callS (As := [.long (bL a2), .long (bL 0), .long (bL 64)]) (rest := []) S (cwS_X9_in S.2.2.2.2 wd_4_111 ⟨by decide, by decide⟩) (mX9_in l G σ1 a2 ha2 0 (by decide) 64 (by decide) h) hσ1 rfl rfl (Nat.le_of_ble_eq_true rfl) ⟨by decide, by decide⟩ dX9_limit_73 (fun z8 σ9 hz8 hσ9 h => ?_)
            refine br_if_eq S 83 hz8 dX9_limit_76 (by decide) (fun c10 => ?_) (fun c10 => ?_)
            · replace h := h.1 c10
              exact wX9_limit_83 S hr hlk ha1 ha2 hσ9 h
            · replace h := h.2 c10
              refine br_iconst S dX9_limit_79 ?_
              refine br_goto S 84 dX9_limit_80 (by decide) ?_
              exact wX9_limit_84 S hr hlk ha1 ha2 (by decide) hσ9 h
        · replace h := h.2 c6
          refine br_iload_n S 2 dX9_limit_50 rfl rfl ?_
          refine br_i2l S ha2 dX9_limit_51 ?_
          refine br_lconst (z := 1) S dX9_limit_52 rfl ?_
          refine br_ldc2 (z := 60) S wd_4_143 rfl dX9_limit_53 ?_
          refine br_callS (As := [.long (bL a2), .long (bL 1), .long (bL 60)]) (rest := []) S (cwS_X9_in S.2.2.2.2 wd_4_111 ⟨by decide, by decide⟩) (mX9_in l G σ1 a2 ha2 1 (by decide) 60 (by decide) h) hσ1 rfl rfl (Nat.le_of_ble_eq_true rfl) ⟨by decide, by decide⟩ dX9_limit_56 (fun z11 σ12 hz11 hσ12 h => ?_)
          refine br_goto S 84 dX9_limit_59 (by decide) ?_
          exact wX9_limit_84 S hr hlk ha1 ha2 hz11 hσ12 h
      · replace h := h.2 c5
        exact wX9_limit_31 S hr hlk ha1 ha2 hσ1 h
  · replace h := h.2 c3
    refine br_iload_n S 2 dX9_limit_9 rfl rfl ?_
    refine br_i2l S ha2 dX9_limit_10 ?_
    refine br_lconst (z := 1) S dX9_limit_11 rfl ?_
    refine br_ldc2 (z := 8) S wd_4_127 rfl dX9_limit_12 ?_
    refine br_callS (As := [.long (bL a2), .long (bL 1), .long (bL 8)]) (rest := []) S (cwS_X9_in S.2.2.2.2 wd_4_111 ⟨by decide, by decide⟩) (mX9_in l G σ1 a2 ha2 1 (by decide) 8 (by decide) h) hσ1 rfl rfl (Nat.le_of_ble_eq_true rfl) ⟨by decide, by decide⟩ dX9_limit_15 (fun z13 σ14 hz13 hσ14 h => ?_)
    refine br_goto S 84 dX9_limit_18 (by decide) ?_
    exact wX9_limit_84 S hr hlk ha1 ha2 hz13 hσ14 h
theorem mono_X9_limit {Q Q9 : Int → bS → Prop} {a1 : Int} {a2 : Int} {σ : bS} (hQ : ∀ r σ, Q r σ → Q9 r σ) : vX9_limit Q a1 a2 σ → vX9_limit Q9 a1 a2 σ := mono_vX9_limit hQ
theorem mX9_limit (l : Launch) (G : bG) (σ : bS) (a1 : Int) (ha1 : bR a1) (a2 : Int) (ha2 : bR a2) {Q : Int → bS → Prop} (h : vX9_limit Q a1 a2 σ) : bk_Mi l yX9_limit (Cond.code yX9_limit cX9_limit 5 (some .int) :: bT) { frames := 1, cells := 0, slots := 0, locals := 25 } G σ [.ref (G.2.2 10), .int (bI a1), .int (bI a2)] Q := by
  refine bk_Mi.of (cc := cX9_limit) (maxL := 5) (ret := some .int) (by decide) rfl (Nat.le_of_ble_eq_true rfl) ?_
  intro p e s m args below meth c S hr hlk hσ
  exact wX9_limit_e S hr hlk ha1 ha2 hσ h
def vX9_bytesOf (Q : Int → bS → Prop) (a0 : Int) (σ : bS) : Prop := ((a0 = 2 → (Q 1 σ)) ∧ (¬ a0 = 2 → ((¬ a0 = 8 → ((¬ a0 = 5 → (Q 2 σ)) ∧ (a0 = 5 → (Q 3 σ)))) ∧ (a0 = 8 → (Q 1 σ)))))
theorem mono_vX9_bytesOf {Q Q9 : Int → bS → Prop} {a0 : Int} {σ : bS} (hQ : ∀ r σ, Q r σ → Q9 r σ) : vX9_bytesOf Q a0 σ → vX9_bytesOf Q9 a0 σ := (bm_and (bm_imp (hQ _ _)) (bm_imp (bm_and (bm_imp (bm_and (bm_imp (hQ _ _)) (bm_imp (hQ _ _)))) (bm_imp (hQ _ _)))))
theorem wX9_bytesOf_e {p : Program} {l : Launch} {e : Env} {s : State} {m : MethodId} {args : Array Value} {below : List Frame} {meth : Method} {c : Code} {G : bG} {σ0 : bS} {Q : Int → bS → Prop} {a0 : Int} {σ : bS} (S : CallFix p m c cX9_bytesOf 1 s args bT "BankLinkerModel") (hr : meth.sig.returnType = some .int) (hlk : meth.locks = false) (ha0 : bR a0) (hσ : bRG σ) (h : vX9_bytesOf Q a0 σ) : bA p l e { frames := 0, cells := 0, slots := 0, locals := 0 } s m args below meth c 0 0 (bQi below args s G σ0 Q) G (va_A (bk_w G σ0) s.heap.size) 1 0 [(0, .int (bI a0))] [] σ := by
  unfold vX9_bytesOf at h
  refine br_iload_n S 0 dX9_bytesOf_0 rfl rfl ?_
  refine br_iconst S dX9_bytesOf_1 ?_
  refine br_ic_eq S 11 ha0 (by decide) dX9_bytesOf_2 (by decide) (fun c1 => ?_) (fun c1 => ?_)
  · replace h := h.1 c1
    refine br_iconst S dX9_bytesOf_11 ?_
    refine br_goto S 25 dX9_bytesOf_12 (by decide) ?_
    exact br_iret S hr hlk (by decide) hσ dX9_bytesOf_25 h
  · replace h := h.2 c1
    refine br_iload_n S 0 dX9_bytesOf_5 rfl rfl ?_
    refine br_bipush S dX9_bytesOf_6 rfl ?_
    refine br_ic_ne S 15 ha0 (by decide) dX9_bytesOf_8 (by decide) (fun c2 => ?_) (fun c2 => ?_)
    · replace h := h.1 c2
      refine br_iload_n S 0 dX9_bytesOf_15 rfl rfl ?_
      refine br_iconst S dX9_bytesOf_16 ?_
      refine br_ic_ne S 24 ha0 (by decide) dX9_bytesOf_17 (by decide) (fun c3 => ?_) (fun c3 => ?_)
      · replace h := h.1 c3
        refine br_iconst S dX9_bytesOf_24 ?_
        exact br_iret S hr hlk (by decide) hσ dX9_bytesOf_25 h
      · replace h := h.2 c3
        refine br_iconst S dX9_bytesOf_20 ?_
        refine br_goto S 25 dX9_bytesOf_21 (by decide) ?_
        exact br_iret S hr hlk (by decide) hσ dX9_bytesOf_25 h
    · replace h := h.2 c2
      refine br_iconst S dX9_bytesOf_11 ?_
      refine br_goto S 25 dX9_bytesOf_12 (by decide) ?_
      exact br_iret S hr hlk (by decide) hσ dX9_bytesOf_25 h
theorem mono_X9_bytesOf {Q Q9 : Int → bS → Prop} {a0 : Int} {σ : bS} (hQ : ∀ r σ, Q r σ → Q9 r σ) : vX9_bytesOf Q a0 σ → vX9_bytesOf Q9 a0 σ := mono_vX9_bytesOf hQ
theorem mX9_bytesOf (l : Launch) (G : bG) (σ : bS) (a0 : Int) (ha0 : bR a0) {Q : Int → bS → Prop} (h : vX9_bytesOf Q a0 σ) : bk_Mi l yX9_bytesOf (Cond.code yX9_bytesOf cX9_bytesOf 1 (some .int) :: bT) { frames := 0, cells := 0, slots := 0, locals := 0 } G σ [.int (bI a0)] Q := by
  refine bk_Mi.of (cc := cX9_bytesOf) (maxL := 1) (ret := some .int) (by decide) rfl (Nat.le_of_ble_eq_true rfl) ?_
  intro p e s m args below meth c S hr hlk hσ
  exact wX9_bytesOf_e S hr hlk ha0 hσ h
def vX9_ahead_14 (Q : Int → bS → Prop) (P18 : Int → Int → Int → Int → bS → Prop) (x1 : Int) (x2 : Int) (s0 : Int) (σ : bS) : Prop := (P18 x1 x2 s0 0 σ)
theorem mono_vX9_ahead_14 {Q Q9 : Int → bS → Prop} {P18 P189 : Int → Int → Int → Int → bS → Prop} {x1 : Int} {x2 : Int} {s0 : Int} {σ : bS} (hQ : ∀ r σ, Q r σ → Q9 r σ) (hP18 : ∀ x1 x2 x3 x4 σ, P18 x1 x2 x3 x4 σ → P189 x1 x2 x3 x4 σ) : vX9_ahead_14 Q P18 x1 x2 s0 σ → vX9_ahead_14 Q9 P189 x1 x2 s0 σ := (hP18 _ _ _ _ _)
theorem wX9_ahead_14 {p : Program} {l : Launch} {e : Env} {s : State} {m : MethodId} {args : Array Value} {below : List Frame} {meth : Method} {c : Code} {G : bG} {σ0 : bS} {Q : Int → bS → Prop} {P18 : Int → Int → Int → Int → bS → Prop} {x1 : Int} {x2 : Int} {s0 : Int} {σ : bS} (S : CallFix p m c cX9_ahead 5 s args bT "BankLinkerModel") (hr : meth.sig.returnType = some .int) (hlk : meth.locks = false) (hP18 : ∀ (x1 : Int) (x2 : Int) (x3 : Int) (x4 : Int) (σ : bS), bR x1 → bR x2 → bR x3 → bR x4 → bRG σ → P18 x1 x2 x3 x4 σ → bA p l e { frames := 1, cells := 0, slots := 0, locals := 20 } s m args below meth c 0 0 (bQi below args s G σ0 Q) G (va_A (bk_w G σ0) s.heap.size) 5 18 [(0, .ref (G.2.2 10)), (1, .int (bI x1)), (2, .int (bI x2)), (3, .int (bI x3)), (4, .int (bI x4))] [] σ) (hx1 : bR x1) (hx2 : bR x2) (hs0 : bR s0) (hσ : bRG σ) (h : vX9_ahead_14 Q P18 x1 x2 s0 σ) : bA p l e { frames := 1, cells := 0, slots := 0, locals := 20 } s m args below meth c 0 0 (bQi below args s G σ0 Q) G (va_A (bk_w G σ0) s.heap.size) 5 14 [(0, .ref (G.2.2 10)), (1, .int (bI x1)), (2, .int (bI x2))] [.int (bI s0)] σ := by
  unfold vX9_ahead_14 at h
  refine br_istore_n S [(3, .int (bI s0)), (0, .ref (G.2.2 10)), (1, .int (bI x1)), (2, .int (bI x2))] dX9_ahead_14 rfl (by decide) rfl ?_
  refine br_iconst S dX9_ahead_15 ?_
  refine br_istore S [(4, .int (bI 0)), (3, .int (bI s0)), (0, .ref (G.2.2 10)), (1, .int (bI x1)), (2, .int (bI x2))] dX9_ahead_16 (by decide) rfl ?_
  exact bA.perm [2, 3, 4, 1, 0] rfl <| hP18 x1 x2 s0 0 σ hx1 hx2 hs0 (by decide) hσ h
def bX9_ahead_18 (Q : Int → bS → Prop) (P18 : Int → Int → Int → Int → bS → Prop) (x1 : Int) (x2 : Int) (x3 : Int) (x4 : Int) (σ : bS) : Prop := ((x2 ≤ x4 → (Q x3 σ)) ∧ (¬ x2 ≤ x4 → ((0 ≤ ((40 * x1) + x4) ∧ ((40 * x1) + x4) < 1200) ∧ (vX9_bytesOf (fun z3 σ4 => (bR (x3 + z3) ∧ (bR (x4 + 1) ∧ (P18 x1 x2 (x3 + z3) (x4 + 1) σ4)))) (σ 53 ((40 * x1) + x4)) σ))))
theorem mono_bX9_ahead_18 {Q Q9 : Int → bS → Prop} {P18 P189 : Int → Int → Int → Int → bS → Prop} {x1 : Int} {x2 : Int} {x3 : Int} {x4 : Int} {σ : bS} (hQ : ∀ r σ, Q r σ → Q9 r σ) (hP18 : ∀ x1 x2 x3 x4 σ, P18 x1 x2 x3 x4 σ → P189 x1 x2 x3 x4 σ) : bX9_ahead_18 Q P18 x1 x2 x3 x4 σ → bX9_ahead_18 Q9 P189 x1 x2 x3 x4 σ := (bm_and (bm_imp (hQ _ _)) (bm_imp (bm_r (mono_X9_bytesOf (fun _ _ => (bm_r (bm_r (hP18 _ _ _ _ _))))))))
theorem wX9_ahead_18 {p : Program} {l : Launch} {e : Env} {s : State} {m : MethodId} {args : Array Value} {below : List Frame} {meth : Method} {c : Code} {G : bG} {σ0 : bS} {Q : Int → bS → Prop} {P18 : Int → Int → Int → Int → bS → Prop} {x1 : Int} {x2 : Int} {x3 : Int} {x4 : Int} {σ : bS} (S : CallFix p m c cX9_ahead 5 s args bT "BankLinkerModel") (hr : meth.sig.returnType = some .int) (hlk : meth.locks = false) (hP18 : ∀ (x1 : Int) (x2 : Int) (x3 : Int) (x4 : Int) (σ : bS), bR x1 → bR x2 → bR x3 → bR x4 → bRG σ → P18 x1 x2 x3 x4 σ → bA p l e { frames := 1, cells := 0, slots := 0, locals := 20 } s m args below meth c 0 0 (bQi below args s G σ0 Q) G (va_A (bk_w G σ0) s.heap.size) 5 18 [(0, .ref (G.2.2 10)), (1, .int (bI x1)), (2, .int (bI x2)), (3, .int (bI x3)), (4, .int (bI x4))] [] σ) (hx1 : bR x1) (hx2 : bR x2) (hx3 : bR x3) (hx4 : bR x4) (hσ : bRG σ) (h : bX9_ahead_18 Q P18 x1 x2 x3 x4 σ) : bA p l e { frames := 1, cells := 0, slots := 0, locals := 20 } s m args below meth c 0 0 (bQi below args s G σ0 Q) G (va_A (bk_w G σ0) s.heap.size) 5 18 [(0, .ref (G.2.2 10)), (1, .int (bI x1)), (2, .int (bI x2)), (3, .int (bI x3)), (4, .int (bI x4))] [] σ := by
  unfold bX9_ahead_18 at h
  refine br_iload S 4 dX9_ahead_18 rfl ?_
  refine br_iload_n S 2 dX9_ahead_20 rfl rfl ?_
  refine br_ic_ge S 48 hx4 hx2 dX9_ahead_21 (by decide) (fun c1 => ?_) (fun c1 => ?_)
  · replace h := h.1 c1
    refine br_iload_n S 3 dX9_ahead_48 rfl rfl ?_
    exact br_iret S hr hlk hx3 hσ dX9_ahead_49 h
  · replace h := h.2 c1
    refine br_iload_n S 3 dX9_ahead_24 rfl rfl ?_
    refine br_aload_n S 0 dX9_ahead_25 rfl rfl ?_
    refine br_get (f := 7) (N := 37) (C := RX9) (T := TX9) S inT_X9 wd_4_1 (by decide) rfl rfl (by decide) rfl dX9_ahead_26 ?_
    refine br_bipush S dX9_ahead_29 rfl ?_
    refine br_iload_n S 1 dX9_ahead_31 rfl rfl ?_
    refine br_imul S dX9_ahead_32 ?_
    refine br_iload S 4 dX9_ahead_33 rfl ?_
    refine br_iadd S dX9_ahead_35 ?_
    obtain ⟨g2, h⟩ := h
    refine br_iald (n := 1200) S ⟨by decide, by decide, fun _ => rfl⟩ g2.1 g2.2 dX9_ahead_36 ?_
    refine br_callS (As := [.int (bI (σ 53 ((40 * x1) + x4)))]) (rest := [.int (bI x3)]) S (cwS_X9_bytesOf S.2.2.2.2 wd_4_181 ⟨by decide, by decide⟩) (mX9_bytesOf l G σ (σ 53 ((40 * x1) + x4)) (hσ 53 ((40 * x1) + x4)) h) hσ rfl rfl (Nat.le_of_ble_eq_true rfl) ⟨by decide, by decide⟩ dX9_ahead_37 (fun z3 σ4 hz3 hσ4 h => ?_)
    refine br_iadd S dX9_ahead_40 ?_
    refine br_istore_n S [(3, .int (bI (x3 + z3))), (0, .ref (G.2.2 10)), (1, .int (bI x1)), (2, .int (bI x2)), (4, .int (bI x4))] dX9_ahead_41 rfl (by decide) rfl ?_
    refine br_iinc S 4 [(4, .int (bI (x4 + 1))), (3, .int (bI (x3 + z3))), (0, .ref (G.2.2 10)), (1, .int (bI x1)), (2, .int (bI x2))] dX9_ahead_42 rfl (by decide) rfl ?_
    refine br_goto S 18 dX9_ahead_45 (by decide) ?_
    obtain ⟨g5, h⟩ := h
    obtain ⟨g6, h⟩ := h
    exact bA.perm [2, 3, 4, 1, 0] rfl <| hP18 x1 x2 (x3 + z3) (x4 + 1) σ4 hx1 hx2 g5 g6 hσ4 h
def eX9_ahead (Q : Int → bS → Prop) (P18 : Int → Int → Int → Int → bS → Prop) (a1 : Int) (a2 : Int) (σ : bS) : Prop := ((0 ≤ a1 ∧ a1 < 30) ∧ (((σ 51 a1) ≤ 0 → (vX9_ahead_14 Q P18 a1 a2 0 σ)) ∧ (¬ (σ 51 a1) ≤ 0 → (vX9_ahead_14 Q P18 a1 a2 3 σ))))
theorem mono_eX9_ahead {Q Q9 : Int → bS → Prop} {P18 P189 : Int → Int → Int → Int → bS → Prop} {a1 : Int} {a2 : Int} {σ : bS} (hQ : ∀ r σ, Q r σ → Q9 r σ) (hP18 : ∀ x1 x2 x3 x4 σ, P18 x1 x2 x3 x4 σ → P189 x1 x2 x3 x4 σ) : eX9_ahead Q P18 a1 a2 σ → eX9_ahead Q9 P189 a1 a2 σ := (bm_r (bm_and (bm_imp (mono_vX9_ahead_14 hQ hP18)) (bm_imp (mono_vX9_ahead_14 hQ hP18))))
theorem wX9_ahead_e {p : Program} {l : Launch} {e : Env} {s : State} {m : MethodId} {args : Array Value} {below : List Frame} {meth : Method} {c : Code} {G : bG} {σ0 : bS} {Q : Int → bS → Prop} {P18 : Int → Int → Int → Int → bS → Prop} {a1 : Int} {a2 : Int} {σ : bS} (S : CallFix p m c cX9_ahead 5 s args bT "BankLinkerModel") (hr : meth.sig.returnType = some .int) (hlk : meth.locks = false) (hP18 : ∀ (x1 : Int) (x2 : Int) (x3 : Int) (x4 : Int) (σ : bS), bR x1 → bR x2 → bR x3 → bR x4 → bRG σ → P18 x1 x2 x3 x4 σ → bA p l e { frames := 1, cells := 0, slots := 0, locals := 20 } s m args below meth c 0 0 (bQi below args s G σ0 Q) G (va_A (bk_w G σ0) s.heap.size) 5 18 [(0, .ref (G.2.2 10)), (1, .int (bI x1)), (2, .int (bI x2)), (3, .int (bI x3)), (4, .int (bI x4))] [] σ) (ha1 : bR a1) (ha2 : bR a2) (hσ : bRG σ) (h : eX9_ahead Q P18 a1 a2 σ) : bA p l e { frames := 1, cells := 0, slots := 0, locals := 20 } s m args below meth c 0 0 (bQi below args s G σ0 Q) G (va_A (bk_w G σ0) s.heap.size) 5 0 [(0, .ref (G.2.2 10)), (1, .int (bI a1)), (2, .int (bI a2))] [] σ := by
  unfold eX9_ahead at h
  refine br_aload_n S 0 dX9_ahead_0 rfl rfl ?_
  refine br_get (f := 5) (N := 37) (C := RX9) (T := TX9) S inT_X9 wd_3_239 (by decide) rfl rfl (by decide) rfl dX9_ahead_1 ?_
  refine br_iload_n S 1 dX9_ahead_4 rfl rfl ?_
  obtain ⟨g1, h⟩ := h
  refine br_iald (n := 30) S ⟨by decide, by decide, fun _ => rfl⟩ g1.1 g1.2 dX9_ahead_5 ?_
  refine br_if_le S 13 (hσ 51 a1) dX9_ahead_6 (by decide) (fun c2 => ?_) (fun c2 => ?_)
  · replace h := h.1 c2
    refine br_iconst S dX9_ahead_13 ?_
    exact wX9_ahead_14 S hr hlk hP18 ha1 ha2 (by decide) hσ h
  · replace h := h.2 c2
    refine br_iconst S dX9_ahead_9 ?_
    refine br_goto S 14 dX9_ahead_10 (by decide) ?_
    exact wX9_ahead_14 S hr hlk hP18 ha1 ha2 (by decide) hσ h
def LX9_ahead_18 (Q : Int → bS → Prop) (x1 : Int) (x2 : Int) (x3 : Int) (x4 : Int) (σ : bS) : Prop := ∀ (P18 : Int → Int → Int → Int → bS → Prop), (∀ x1 x2 x3 x4 σ, bX9_ahead_18 Q P18 x1 x2 x3 x4 σ → P18 x1 x2 x3 x4 σ) → P18 x1 x2 x3 x4 σ
theorem LX9_ahead_18_in {Q : Int → bS → Prop} {x1 : Int} {x2 : Int} {x3 : Int} {x4 : Int} {σ : bS} (h : bX9_ahead_18 Q (LX9_ahead_18 Q) x1 x2 x3 x4 σ) : LX9_ahead_18 Q x1 x2 x3 x4 σ := fun P18 H18 => H18 _ _ _ _ _ (mono_bX9_ahead_18 (fun _ _ h => h) (fun _ _ _ _ _ h => h P18 H18) h)
theorem mono_LX9_ahead_18 {Q Q9 : Int → bS → Prop} {x1 : Int} {x2 : Int} {x3 : Int} {x4 : Int} {σ : bS} (hQ : ∀ r σ, Q r σ → Q9 r σ) (h : LX9_ahead_18 Q x1 x2 x3 x4 σ) : LX9_ahead_18 Q9 x1 x2 x3 x4 σ := fun P18 H18 => h P18 (fun _ _ _ _ _ hb => H18 _ _ _ _ _ (mono_bX9_ahead_18 hQ (fun _ _ _ _ _ h => h) hb))
def vX9_ahead (Q : Int → bS → Prop) (a1 : Int) (a2 : Int) (σ : bS) : Prop := eX9_ahead Q (LX9_ahead_18 Q) a1 a2 σ
theorem mono_vX9_ahead {Q Q9 : Int → bS → Prop} {a1 : Int} {a2 : Int} {σ : bS} (hQ : ∀ r σ, Q r σ → Q9 r σ) : vX9_ahead Q a1 a2 σ → vX9_ahead Q9 a1 a2 σ := mono_eX9_ahead hQ (fun _ _ _ _ _ h => mono_LX9_ahead_18 hQ h)
theorem mono_X9_ahead {Q Q9 : Int → bS → Prop} {a1 : Int} {a2 : Int} {σ : bS} (hQ : ∀ r σ, Q r σ → Q9 r σ) : vX9_ahead Q a1 a2 σ → vX9_ahead Q9 a1 a2 σ := mono_vX9_ahead hQ
theorem mX9_ahead (l : Launch) (G : bG) (σ : bS) (a1 : Int) (ha1 : bR a1) (a2 : Int) (ha2 : bR a2) {Q : Int → bS → Prop} (h : vX9_ahead Q a1 a2 σ) : bk_Mi l yX9_ahead (Cond.code yX9_ahead cX9_ahead 5 (some .int) :: bT) { frames := 1, cells := 0, slots := 0, locals := 20 } G σ [.ref (G.2.2 10), .int (bI a1), .int (bI a2)] Q := by
  refine bk_Mi.of (cc := cX9_ahead) (maxL := 5) (ret := some .int) (by decide) rfl (Nat.le_of_ble_eq_true rfl) ?_
  intro p e s m args below meth c S hr hlk hσ
  let K18 : Int → Int → Int → Int → bS → Prop := fun x1 x2 x3 x4 τ => bR x1 → bR x2 → bR x3 → bR x4 → bRG τ → bA p l e { frames := 1, cells := 0, slots := 0, locals := 20 } s m args below meth c 0 0 (bQi below args s G σ Q) G (va_A (bk_w G σ) s.heap.size) 5 18 [(0, .ref (G.2.2 10)), (1, .int (bI x1)), (2, .int (bI x2)), (3, .int (bI x3)), (4, .int (bI x4))] [] τ
  have C18 : ∀ x1 x2 x3 x4 τ, bX9_ahead_18 Q K18 x1 x2 x3 x4 τ → K18 x1 x2 x3 x4 τ := fun x1 x2 x3 x4 τ hb hx1 hx2 hx3 hx4 hτ => wX9_ahead_18 S hr hlk (fun x1 x2 x3 x4 σ hx1 hx2 hx3 hx4 hσ h => h hx1 hx2 hx3 hx4 hσ) hx1 hx2 hx3 hx4 hτ hb
  exact wX9_ahead_e S hr hlk (fun x1 x2 x3 x4 σ hx1 hx2 hx3 hx4 hσ h => h K18 C18 hx1 hx2 hx3 hx4 hσ) ha1 ha2 hσ h
def vX9_sizeOf (Q : Int → bS → Prop) (a1 : Int) (σ : bS) : Prop := ((0 ≤ a1 ∧ a1 < 30) ∧ (vX9_ahead (fun z2 σ3 => (bR (z2 + 1) ∧ (Q (z2 + 1) σ3))) a1 (σ 52 a1) σ))
theorem mono_vX9_sizeOf {Q Q9 : Int → bS → Prop} {a1 : Int} {σ : bS} (hQ : ∀ r σ, Q r σ → Q9 r σ) : vX9_sizeOf Q a1 σ → vX9_sizeOf Q9 a1 σ := (bm_r (mono_X9_ahead (fun _ _ => (bm_r (hQ _ _)))))
theorem wX9_sizeOf_e {p : Program} {l : Launch} {e : Env} {s : State} {m : MethodId} {args : Array Value} {below : List Frame} {meth : Method} {c : Code} {G : bG} {σ0 : bS} {Q : Int → bS → Prop} {a1 : Int} {σ : bS} (S : CallFix p m c cX9_sizeOf 2 s args bT "BankLinkerModel") (hr : meth.sig.returnType = some .int) (hlk : meth.locks = false) (ha1 : bR a1) (hσ : bRG σ) (h : vX9_sizeOf Q a1 σ) : bA p l e { frames := 2, cells := 0, slots := 0, locals := 44 } s m args below meth c 0 0 (bQi below args s G σ0 Q) G (va_A (bk_w G σ0) s.heap.size) 2 0 [(0, .ref (G.2.2 10)), (1, .int (bI a1))] [] σ := by
  unfold vX9_sizeOf at h
  refine br_aload_n S 0 dX9_sizeOf_0 rfl rfl ?_
  refine br_iload_n S 1 dX9_sizeOf_1 rfl rfl ?_
  refine br_aload_n S 0 dX9_sizeOf_2 rfl rfl ?_
  refine br_get (f := 6) (N := 37) (C := RX9) (T := TX9) S inT_X9 wd_4_0 (by decide) rfl rfl (by decide) rfl dX9_sizeOf_3 ?_
  refine br_iload_n S 1 dX9_sizeOf_6 rfl rfl ?_
  obtain ⟨g1, h⟩ := h
  refine br_iald (n := 30) S ⟨by decide, by decide, fun _ => rfl⟩ g1.1 g1.2 dX9_sizeOf_7 ?_
  refine br_callV (As := [.int (bI a1), .int (bI (σ 52 a1))]) (rest := []) S (cwV_X9_ahead S.2.2.2.2 wd_4_177 ⟨by decide, by decide⟩) (mX9_ahead l G σ a1 ha1 (σ 52 a1) (hσ 52 a1) h) (by decide) rfl rfl rfl hσ rfl rfl (Nat.le_of_ble_eq_true rfl) ⟨by decide, by decide⟩ dX9_sizeOf_8 (fun z2 σ3 hz2 hσ3 h => ?_)
  refine br_iconst S dX9_sizeOf_11 ?_
  refine br_iadd S dX9_sizeOf_12 ?_
  obtain ⟨g4, h⟩ := h
  exact br_iret S hr hlk g4 hσ3 dX9_sizeOf_13 h
theorem mono_X9_sizeOf {Q Q9 : Int → bS → Prop} {a1 : Int} {σ : bS} (hQ : ∀ r σ, Q r σ → Q9 r σ) : vX9_sizeOf Q a1 σ → vX9_sizeOf Q9 a1 σ := mono_vX9_sizeOf hQ
theorem mX9_sizeOf (l : Launch) (G : bG) (σ : bS) (a1 : Int) (ha1 : bR a1) {Q : Int → bS → Prop} (h : vX9_sizeOf Q a1 σ) : bk_Mi l yX9_sizeOf (Cond.code yX9_sizeOf cX9_sizeOf 2 (some .int) :: bT) { frames := 2, cells := 0, slots := 0, locals := 44 } G σ [.ref (G.2.2 10), .int (bI a1)] Q := by
  refine bk_Mi.of (cc := cX9_sizeOf) (maxL := 2) (ret := some .int) (by decide) rfl (Nat.le_of_ble_eq_true rfl) ?_
  intro p e s m args below meth c S hr hlk hσ
  exact wX9_sizeOf_e S hr hlk ha1 hσ h
def vX9_sizeOfModule_32 (Q : Int → bS → Prop) (P4 : Int → Int → Int → bS → Prop) (x1 : Int) (x3 : Int) (s0 : Int) (s1 : Int) (σ : bS) : Prop := (bR (s1 + s0) ∧ (bR (x3 + 1) ∧ (P4 x1 (s1 + s0) (x3 + 1) σ)))
theorem mono_vX9_sizeOfModule_32 {Q Q9 : Int → bS → Prop} {P4 P49 : Int → Int → Int → bS → Prop} {x1 : Int} {x3 : Int} {s0 : Int} {s1 : Int} {σ : bS} (hQ : ∀ r σ, Q r σ → Q9 r σ) (hP4 : ∀ x1 x2 x3 σ, P4 x1 x2 x3 σ → P49 x1 x2 x3 σ) : vX9_sizeOfModule_32 Q P4 x1 x3 s0 s1 σ → vX9_sizeOfModule_32 Q9 P49 x1 x3 s0 s1 σ := (bm_r (bm_r (hP4 _ _ _ _)))
theorem wX9_sizeOfModule_32 {p : Program} {l : Launch} {e : Env} {s : State} {m : MethodId} {args : Array Value} {below : List Frame} {meth : Method} {c : Code} {G : bG} {σ0 : bS} {Q : Int → bS → Prop} {P4 : Int → Int → Int → bS → Prop} {x1 : Int} {x3 : Int} {s0 : Int} {s1 : Int} {σ : bS} (S : CallFix p m c cX9_sizeOfModule 4 s args bT "BankLinkerModel") (hr : meth.sig.returnType = some .int) (hlk : meth.locks = false) (hP4 : ∀ (x1 : Int) (x2 : Int) (x3 : Int) (σ : bS), bR x1 → bR x2 → bR x3 → bRG σ → P4 x1 x2 x3 σ → bA p l e { frames := 3, cells := 0, slots := 0, locals := 65 } s m args below meth c 0 0 (bQi below args s G σ0 Q) G (va_A (bk_w G σ0) s.heap.size) 4 4 [(0, .ref (G.2.2 10)), (1, .int (bI x1)), (2, .int (bI x2)), (3, .int (bI x3))] [] σ) (hx1 : bR x1) (hx3 : bR x3) (hs0 : bR s0) (hs1 : bR s1) (hσ : bRG σ) (h : vX9_sizeOfModule_32 Q P4 x1 x3 s0 s1 σ) : bA p l e { frames := 3, cells := 0, slots := 0, locals := 65 } s m args below meth c 0 0 (bQi below args s G σ0 Q) G (va_A (bk_w G σ0) s.heap.size) 4 32 [(0, .ref (G.2.2 10)), (1, .int (bI x1)), (3, .int (bI x3))] [.int (bI s0), .int (bI s1)] σ := by
  unfold vX9_sizeOfModule_32 at h
  refine br_iadd S dX9_sizeOfModule_32 ?_
  refine br_istore_n S [(2, .int (bI (s1 + s0))), (0, .ref (G.2.2 10)), (1, .int (bI x1)), (3, .int (bI x3))] dX9_sizeOfModule_33 rfl (by decide) rfl ?_
  refine br_iinc S 3 [(3, .int (bI (x3 + 1))), (2, .int (bI (s1 + s0))), (0, .ref (G.2.2 10)), (1, .int (bI x1))] dX9_sizeOfModule_34 rfl (by decide) rfl ?_
  refine br_goto S 4 dX9_sizeOfModule_37 (by decide) ?_
  obtain ⟨g1, h⟩ := h
  obtain ⟨g2, h⟩ := h
  exact bA.perm [2, 3, 1, 0] rfl <| hP4 x1 (s1 + s0) (x3 + 1) σ hx1 g1 g2 hσ h
def bX9_sizeOfModule_4 (Q : Int → bS → Prop) (P4 : Int → Int → Int → bS → Prop) (x1 : Int) (x2 : Int) (x3 : Int) (σ : bS) : Prop := (((σ 10 3) ≤ x3 → (Q x2 σ)) ∧ (¬ (σ 10 3) ≤ x3 → ((0 ≤ x3 ∧ x3 < 30) ∧ ((¬ (σ 50 x3) = x1 → (vX9_sizeOfModule_32 Q P4 x1 x3 0 x2 σ)) ∧ ((σ 50 x3) = x1 → (vX9_sizeOf (fun z4 σ5 => (vX9_sizeOfModule_32 Q P4 x1 x3 z4 x2 σ5)) x3 σ))))))
theorem mono_bX9_sizeOfModule_4 {Q Q9 : Int → bS → Prop} {P4 P49 : Int → Int → Int → bS → Prop} {x1 : Int} {x2 : Int} {x3 : Int} {σ : bS} (hQ : ∀ r σ, Q r σ → Q9 r σ) (hP4 : ∀ x1 x2 x3 σ, P4 x1 x2 x3 σ → P49 x1 x2 x3 σ) : bX9_sizeOfModule_4 Q P4 x1 x2 x3 σ → bX9_sizeOfModule_4 Q9 P49 x1 x2 x3 σ := (bm_and (bm_imp (hQ _ _)) (bm_imp (bm_r (bm_and (bm_imp (mono_vX9_sizeOfModule_32 hQ hP4)) (bm_imp (mono_X9_sizeOf (fun _ _ => (mono_vX9_sizeOfModule_32 hQ hP4))))))))
theorem wX9_sizeOfModule_4 {p : Program} {l : Launch} {e : Env} {s : State} {m : MethodId} {args : Array Value} {below : List Frame} {meth : Method} {c : Code} {G : bG} {σ0 : bS} {Q : Int → bS → Prop} {P4 : Int → Int → Int → bS → Prop} {x1 : Int} {x2 : Int} {x3 : Int} {σ : bS} (S : CallFix p m c cX9_sizeOfModule 4 s args bT "BankLinkerModel") (hr : meth.sig.returnType = some .int) (hlk : meth.locks = false) (hP4 : ∀ (x1 : Int) (x2 : Int) (x3 : Int) (σ : bS), bR x1 → bR x2 → bR x3 → bRG σ → P4 x1 x2 x3 σ → bA p l e { frames := 3, cells := 0, slots := 0, locals := 65 } s m args below meth c 0 0 (bQi below args s G σ0 Q) G (va_A (bk_w G σ0) s.heap.size) 4 4 [(0, .ref (G.2.2 10)), (1, .int (bI x1)), (2, .int (bI x2)), (3, .int (bI x3))] [] σ) (hx1 : bR x1) (hx2 : bR x2) (hx3 : bR x3) (hσ : bRG σ) (h : bX9_sizeOfModule_4 Q P4 x1 x2 x3 σ) : bA p l e { frames := 3, cells := 0, slots := 0, locals := 65 } s m args below meth c 0 0 (bQi below args s G σ0 Q) G (va_A (bk_w G σ0) s.heap.size) 4 4 [(0, .ref (G.2.2 10)), (1, .int (bI x1)), (2, .int (bI x2)), (3, .int (bI x3))] [] σ := by
  unfold bX9_sizeOfModule_4 at h
  refine br_iload_n S 3 dX9_sizeOfModule_4 rfl rfl ?_
  refine br_aload_n S 0 dX9_sizeOfModule_5 rfl rfl ?_
  refine br_get (f := 3) (N := 37) (C := RX9) (T := TX9) S inT_X9 wd_3_237 (by decide) rfl rfl (by decide) rfl dX9_sizeOfModule_6 ?_
  refine br_ic_ge S 40 hx3 (hσ 10 3) dX9_sizeOfModule_9 (by decide) (fun c1 => ?_) (fun c1 => ?_)
  · replace h := h.1 c1
    refine br_iload_n S 2 dX9_sizeOfModule_40 rfl rfl ?_
    exact br_iret S hr hlk hx2 hσ dX9_sizeOfModule_41 h
  · replace h := h.2 c1
    refine br_iload_n S 2 dX9_sizeOfModule_12 rfl rfl ?_
    refine br_aload_n S 0 dX9_sizeOfModule_13 rfl rfl ?_
    refine br_get (f := 4) (N := 37) (C := RX9) (T := TX9) S inT_X9 wd_3_238 (by decide) rfl rfl (by decide) rfl dX9_sizeOfModule_14 ?_
    refine br_iload_n S 3 dX9_sizeOfModule_17 rfl rfl ?_
    obtain ⟨g2, h⟩ := h
    refine br_iald (n := 30) S ⟨by decide, by decide, fun _ => rfl⟩ g2.1 g2.2 dX9_sizeOfModule_18 ?_
    refine br_iload_n S 1 dX9_sizeOfModule_19 rfl rfl ?_
    refine br_ic_ne S 31 (hσ 50 x3) hx1 dX9_sizeOfModule_20 (by decide) (fun c3 => ?_) (fun c3 => ?_)
    · replace h := h.1 c3
      refine br_iconst S dX9_sizeOfModule_31 ?_
      exact bA.perm [0, 1, 3] rfl <| wX9_sizeOfModule_32 S hr hlk hP4 hx1 hx3 (by decide) hx2 hσ h
    · replace h := h.2 c3
      refine br_aload_n S 0 dX9_sizeOfModule_23 rfl rfl ?_
      refine br_iload_n S 3 dX9_sizeOfModule_24 rfl rfl ?_
      refine br_callV (As := [.int (bI x3)]) (rest := [.int (bI x2)]) S (cwV_X9_sizeOf S.2.2.2.2 wd_4_173 ⟨by decide, by decide⟩) (mX9_sizeOf l G σ x3 hx3 h) (by decide) rfl rfl rfl hσ rfl rfl (Nat.le_of_ble_eq_true rfl) ⟨by decide, by decide⟩ dX9_sizeOfModule_25 (fun z4 σ5 hz4 hσ5 h => ?_)
      refine br_goto S 32 dX9_sizeOfModule_28 (by decide) ?_
      exact bA.perm [0, 1, 3] rfl <| wX9_sizeOfModule_32 S hr hlk hP4 hx1 hx3 hz4 hx2 hσ5 h
def eX9_sizeOfModule (Q : Int → bS → Prop) (P4 : Int → Int → Int → bS → Prop) (a1 : Int) (σ : bS) : Prop := (P4 a1 0 0 σ)
theorem mono_eX9_sizeOfModule {Q Q9 : Int → bS → Prop} {P4 P49 : Int → Int → Int → bS → Prop} {a1 : Int} {σ : bS} (hQ : ∀ r σ, Q r σ → Q9 r σ) (hP4 : ∀ x1 x2 x3 σ, P4 x1 x2 x3 σ → P49 x1 x2 x3 σ) : eX9_sizeOfModule Q P4 a1 σ → eX9_sizeOfModule Q9 P49 a1 σ := (hP4 _ _ _ _)
theorem wX9_sizeOfModule_e {p : Program} {l : Launch} {e : Env} {s : State} {m : MethodId} {args : Array Value} {below : List Frame} {meth : Method} {c : Code} {G : bG} {σ0 : bS} {Q : Int → bS → Prop} {P4 : Int → Int → Int → bS → Prop} {a1 : Int} {σ : bS} (S : CallFix p m c cX9_sizeOfModule 4 s args bT "BankLinkerModel") (hr : meth.sig.returnType = some .int) (hlk : meth.locks = false) (hP4 : ∀ (x1 : Int) (x2 : Int) (x3 : Int) (σ : bS), bR x1 → bR x2 → bR x3 → bRG σ → P4 x1 x2 x3 σ → bA p l e { frames := 3, cells := 0, slots := 0, locals := 65 } s m args below meth c 0 0 (bQi below args s G σ0 Q) G (va_A (bk_w G σ0) s.heap.size) 4 4 [(0, .ref (G.2.2 10)), (1, .int (bI x1)), (2, .int (bI x2)), (3, .int (bI x3))] [] σ) (ha1 : bR a1) (hσ : bRG σ) (h : eX9_sizeOfModule Q P4 a1 σ) : bA p l e { frames := 3, cells := 0, slots := 0, locals := 65 } s m args below meth c 0 0 (bQi below args s G σ0 Q) G (va_A (bk_w G σ0) s.heap.size) 4 0 [(0, .ref (G.2.2 10)), (1, .int (bI a1))] [] σ := by
  unfold eX9_sizeOfModule at h
  refine br_iconst S dX9_sizeOfModule_0 ?_
  refine br_istore_n S [(2, .int (bI 0)), (0, .ref (G.2.2 10)), (1, .int (bI a1))] dX9_sizeOfModule_1 rfl (by decide) rfl ?_
  refine br_iconst S dX9_sizeOfModule_2 ?_
  refine br_istore_n S [(3, .int (bI 0)), (2, .int (bI 0)), (0, .ref (G.2.2 10)), (1, .int (bI a1))] dX9_sizeOfModule_3 rfl (by decide) rfl ?_
  exact bA.perm [2, 3, 1, 0] rfl <| hP4 a1 0 0 σ ha1 (by decide) (by decide) hσ h
def LX9_sizeOfModule_4 (Q : Int → bS → Prop) (x1 : Int) (x2 : Int) (x3 : Int) (σ : bS) : Prop := ∀ (P4 : Int → Int → Int → bS → Prop), (∀ x1 x2 x3 σ, bX9_sizeOfModule_4 Q P4 x1 x2 x3 σ → P4 x1 x2 x3 σ) → P4 x1 x2 x3 σ
theorem LX9_sizeOfModule_4_in {Q : Int → bS → Prop} {x1 : Int} {x2 : Int} {x3 : Int} {σ : bS} (h : bX9_sizeOfModule_4 Q (LX9_sizeOfModule_4 Q) x1 x2 x3 σ) : LX9_sizeOfModule_4 Q x1 x2 x3 σ := fun P4 H4 => H4 _ _ _ _ (mono_bX9_sizeOfModule_4 (fun _ _ h => h) (fun _ _ _ _ h => h P4 H4) h)
theorem mono_LX9_sizeOfModule_4 {Q Q9 : Int → bS → Prop} {x1 : Int} {x2 : Int} {x3 : Int} {σ : bS} (hQ : ∀ r σ, Q r σ → Q9 r σ) (h : LX9_sizeOfModule_4 Q x1 x2 x3 σ) : LX9_sizeOfModule_4 Q9 x1 x2 x3 σ := fun P4 H4 => h P4 (fun _ _ _ _ hb => H4 _ _ _ _ (mono_bX9_sizeOfModule_4 hQ (fun _ _ _ _ h => h) hb))
def vX9_sizeOfModule (Q : Int → bS → Prop) (a1 : Int) (σ : bS) : Prop := eX9_sizeOfModule Q (LX9_sizeOfModule_4 Q) a1 σ
theorem mono_vX9_sizeOfModule {Q Q9 : Int → bS → Prop} {a1 : Int} {σ : bS} (hQ : ∀ r σ, Q r σ → Q9 r σ) : vX9_sizeOfModule Q a1 σ → vX9_sizeOfModule Q9 a1 σ := mono_eX9_sizeOfModule hQ (fun _ _ _ _ h => mono_LX9_sizeOfModule_4 hQ h)
theorem mono_X9_sizeOfModule {Q Q9 : Int → bS → Prop} {a1 : Int} {σ : bS} (hQ : ∀ r σ, Q r σ → Q9 r σ) : vX9_sizeOfModule Q a1 σ → vX9_sizeOfModule Q9 a1 σ := mono_vX9_sizeOfModule hQ
theorem mX9_sizeOfModule (l : Launch) (G : bG) (σ : bS) (a1 : Int) (ha1 : bR a1) {Q : Int → bS → Prop} (h : vX9_sizeOfModule Q a1 σ) : bk_Mi l yX9_sizeOfModule (Cond.code yX9_sizeOfModule cX9_sizeOfModule 4 (some .int) :: bT) { frames := 3, cells := 0, slots := 0, locals := 65 } G σ [.ref (G.2.2 10), .int (bI a1)] Q := by
  refine bk_Mi.of (cc := cX9_sizeOfModule) (maxL := 4) (ret := some .int) (by decide) rfl (Nat.le_of_ble_eq_true rfl) ?_
  intro p e s m args below meth c S hr hlk hσ
  let K4 : Int → Int → Int → bS → Prop := fun x1 x2 x3 τ => bR x1 → bR x2 → bR x3 → bRG τ → bA p l e { frames := 3, cells := 0, slots := 0, locals := 65 } s m args below meth c 0 0 (bQi below args s G σ Q) G (va_A (bk_w G σ) s.heap.size) 4 4 [(0, .ref (G.2.2 10)), (1, .int (bI x1)), (2, .int (bI x2)), (3, .int (bI x3))] [] τ
  have C4 : ∀ x1 x2 x3 τ, bX9_sizeOfModule_4 Q K4 x1 x2 x3 τ → K4 x1 x2 x3 τ := fun x1 x2 x3 τ hb hx1 hx2 hx3 hτ => wX9_sizeOfModule_4 S hr hlk (fun x1 x2 x3 σ hx1 hx2 hx3 hσ h => h hx1 hx2 hx3 hσ) hx1 hx2 hx3 hτ hb
  exact wX9_sizeOfModule_e S hr hlk (fun x1 x2 x3 σ hx1 hx2 hx3 hσ h => h K4 C4 hx1 hx2 hx3 hσ) ha1 hσ h
def bX9_mark_2 (Q : bS → Prop) (P2 : Int → Int → bS → Prop) (P25 : Int → Int → bS → Prop) (P33 : Int → Int → Int → bS → Prop) (P44 : Int → Int → Int → Int → bS → Prop) (x1 : Int) (x2 : Int) (σ : bS) : Prop := (((σ 10 3) ≤ x2 → (P25 x1 1 σ)) ∧ (¬ (σ 10 3) ≤ x2 → ((0 ≤ x2 ∧ x2 < 30) ∧ (∀ σ3 : bS, σ3 = bup σ 12 x2 0 → (bR (x2 + 1) ∧ (P2 x1 (x2 + 1) σ3))))))
theorem mono_bX9_mark_2 {Q Q9 : bS → Prop} {P2 P29 : Int → Int → bS → Prop} {P25 P259 : Int → Int → bS → Prop} {P33 P339 : Int → Int → Int → bS → Prop} {P44 P449 : Int → Int → Int → Int → bS → Prop} {x1 : Int} {x2 : Int} {σ : bS} (hQ : ∀ σ, Q σ → Q9 σ) (hP2 : ∀ x1 x2 σ, P2 x1 x2 σ → P29 x1 x2 σ) (hP25 : ∀ x1 x2 σ, P25 x1 x2 σ → P259 x1 x2 σ) (hP33 : ∀ x1 x2 x3 σ, P33 x1 x2 x3 σ → P339 x1 x2 x3 σ) (hP44 : ∀ x1 x2 x3 x4 σ, P44 x1 x2 x3 x4 σ → P449 x1 x2 x3 x4 σ) : bX9_mark_2 Q P2 P25 P33 P44 x1 x2 σ → bX9_mark_2 Q9 P29 P259 P339 P449 x1 x2 σ := (bm_and (bm_imp (hP25 _ _ _)) (bm_imp (bm_r (bm_all fun _ => bm_imp (bm_r (hP2 _ _ _))))))
theorem wX9_mark_2 {p : Program} {l : Launch} {e : Env} {s : State} {m : MethodId} {args : Array Value} {below : List Frame} {meth : Method} {c : Code} {G : bG} {σ0 : bS} {Q : bS → Prop} {P2 : Int → Int → bS → Prop} {P25 : Int → Int → bS → Prop} {P33 : Int → Int → Int → bS → Prop} {P44 : Int → Int → Int → Int → bS → Prop} {x1 : Int} {x2 : Int} {σ : bS} (S : CallFix p m c cX9_mark 5 s args bT "BankLinkerModel") (hr : meth.sig.returnType = none) (hlk : meth.locks = false) (hP2 : ∀ (x1 : Int) (x2 : Int) (σ : bS), bR x1 → bR x2 → bRG σ → P2 x1 x2 σ → bA p l e { frames := 0, cells := 0, slots := 0, locals := 0 } s m args below meth c 0 0 (bQv below args s G σ0 Q) G (va_A (bk_w G σ0) s.heap.size) 5 2 [(0, .ref (G.2.2 10)), (1, .int (bI x1)), (2, .int (bI x2))] [] σ) (hP25 : ∀ (x1 : Int) (x2 : Int) (σ : bS), bR x1 → bR x2 → bRG σ → P25 x1 x2 σ → bA p l e { frames := 0, cells := 0, slots := 0, locals := 0 } s m args below meth c 0 0 (bQv below args s G σ0 Q) G (va_A (bk_w G σ0) s.heap.size) 5 25 [(0, .ref (G.2.2 10)), (1, .int (bI x1)), (2, .int (bI x2))] [] σ) (hP33 : ∀ (x1 : Int) (x2 : Int) (x3 : Int) (σ : bS), bR x1 → bR x2 → bR x3 → bRG σ → P33 x1 x2 x3 σ → bA p l e { frames := 0, cells := 0, slots := 0, locals := 0 } s m args below meth c 0 0 (bQv below args s G σ0 Q) G (va_A (bk_w G σ0) s.heap.size) 5 33 [(0, .ref (G.2.2 10)), (1, .int (bI x1)), (2, .int (bI x2)), (3, .int (bI x3))] [] σ) (hP44 : ∀ (x1 : Int) (x2 : Int) (x3 : Int) (x4 : Int) (σ : bS), bR x1 → bR x2 → bR x3 → bR x4 → bRG σ → P44 x1 x2 x3 x4 σ → bA p l e { frames := 0, cells := 0, slots := 0, locals := 0 } s m args below meth c 0 0 (bQv below args s G σ0 Q) G (va_A (bk_w G σ0) s.heap.size) 5 44 [(0, .ref (G.2.2 10)), (1, .int (bI x1)), (2, .int (bI x2)), (3, .int (bI x3)), (4, .int (bI x4))] [] σ) (hx1 : bR x1) (hx2 : bR x2) (hσ : bRG σ) (h : bX9_mark_2 Q P2 P25 P33 P44 x1 x2 σ) : bA p l e { frames := 0, cells := 0, slots := 0, locals := 0 } s m args below meth c 0 0 (bQv below args s G σ0 Q) G (va_A (bk_w G σ0) s.heap.size) 5 2 [(0, .ref (G.2.2 10)), (1, .int (bI x1)), (2, .int (bI x2))] [] σ := by
  unfold bX9_mark_2 at h
  refine br_iload_n S 2 dX9_mark_2 rfl rfl ?_
  refine br_aload_n S 0 dX9_mark_3 rfl rfl ?_
  refine br_get (f := 3) (N := 37) (C := RX9) (T := TX9) S inT_X9 wd_3_237 (by decide) rfl rfl (by decide) rfl dX9_mark_4 ?_
  refine br_ic_ge S 23 hx2 (hσ 10 3) dX9_mark_7 (by decide) (fun c1 => ?_) (fun c1 => ?_)
  · replace h := h.1 c1
    refine br_iconst S dX9_mark_23 ?_
    refine br_istore_n S [(2, .int (bI 1)), (0, .ref (G.2.2 10)), (1, .int (bI x1))] dX9_mark_24 rfl (by decide) rfl ?_
    exact bA.perm [1, 2, 0] rfl <| hP25 x1 1 σ hx1 (by decide) hσ h
  · replace h := h.2 c1
    refine br_aload_n S 0 dX9_mark_10 rfl rfl ?_
    refine br_get (f := 25) (N := 37) (C := RX9) (T := TX9) S inT_X9 wd_4_19 (by decide) rfl rfl (by decide) rfl dX9_mark_11 ?_
    refine br_iload_n S 2 dX9_mark_14 rfl rfl ?_
    refine br_iconst S dX9_mark_15 ?_
    obtain ⟨g2, h⟩ := h
    obtain ⟨σ3, e4⟩ : ∃ τ, τ = bup σ 12 x2 0 := ⟨_, rfl⟩
    replace h := h σ3 e4
    have hσ3 : bRG σ3 := by rw [e4]; exact bup_rg hσ (by decide)
    refine br_zast S g2.1 g2.2 (by decide) dX9_mark_16 ?_
    refine bA.to rfl rfl e4.symm ?_
    refine br_iinc S 2 [(2, .int (bI (x2 + 1))), (0, .ref (G.2.2 10)), (1, .int (bI x1))] dX9_mark_17 rfl (by decide) rfl ?_
    refine br_goto S 2 dX9_mark_20 (by decide) ?_
    obtain ⟨g5, h⟩ := h
    exact bA.perm [1, 2, 0] rfl <| hP2 x1 (x2 + 1) σ3 hx1 g5 hσ3 h
def bX9_mark_25 (Q : bS → Prop) (P2 : Int → Int → bS → Prop) (P25 : Int → Int → bS → Prop) (P33 : Int → Int → Int → bS → Prop) (P44 : Int → Int → Int → Int → bS → Prop) (x1 : Int) (x2 : Int) (σ : bS) : Prop := ((x2 = 0 → (Q σ)) ∧ (¬ x2 = 0 → (P33 x1 0 0 σ)))
theorem mono_bX9_mark_25 {Q Q9 : bS → Prop} {P2 P29 : Int → Int → bS → Prop} {P25 P259 : Int → Int → bS → Prop} {P33 P339 : Int → Int → Int → bS → Prop} {P44 P449 : Int → Int → Int → Int → bS → Prop} {x1 : Int} {x2 : Int} {σ : bS} (hQ : ∀ σ, Q σ → Q9 σ) (hP2 : ∀ x1 x2 σ, P2 x1 x2 σ → P29 x1 x2 σ) (hP25 : ∀ x1 x2 σ, P25 x1 x2 σ → P259 x1 x2 σ) (hP33 : ∀ x1 x2 x3 σ, P33 x1 x2 x3 σ → P339 x1 x2 x3 σ) (hP44 : ∀ x1 x2 x3 x4 σ, P44 x1 x2 x3 x4 σ → P449 x1 x2 x3 x4 σ) : bX9_mark_25 Q P2 P25 P33 P44 x1 x2 σ → bX9_mark_25 Q9 P29 P259 P339 P449 x1 x2 σ := (bm_and (bm_imp (hQ _)) (bm_imp (hP33 _ _ _ _)))
theorem wX9_mark_25 {p : Program} {l : Launch} {e : Env} {s : State} {m : MethodId} {args : Array Value} {below : List Frame} {meth : Method} {c : Code} {G : bG} {σ0 : bS} {Q : bS → Prop} {P2 : Int → Int → bS → Prop} {P25 : Int → Int → bS → Prop} {P33 : Int → Int → Int → bS → Prop} {P44 : Int → Int → Int → Int → bS → Prop} {x1 : Int} {x2 : Int} {σ : bS} (S : CallFix p m c cX9_mark 5 s args bT "BankLinkerModel") (hr : meth.sig.returnType = none) (hlk : meth.locks = false) (hP2 : ∀ (x1 : Int) (x2 : Int) (σ : bS), bR x1 → bR x2 → bRG σ → P2 x1 x2 σ → bA p l e { frames := 0, cells := 0, slots := 0, locals := 0 } s m args below meth c 0 0 (bQv below args s G σ0 Q) G (va_A (bk_w G σ0) s.heap.size) 5 2 [(0, .ref (G.2.2 10)), (1, .int (bI x1)), (2, .int (bI x2))] [] σ) (hP25 : ∀ (x1 : Int) (x2 : Int) (σ : bS), bR x1 → bR x2 → bRG σ → P25 x1 x2 σ → bA p l e { frames := 0, cells := 0, slots := 0, locals := 0 } s m args below meth c 0 0 (bQv below args s G σ0 Q) G (va_A (bk_w G σ0) s.heap.size) 5 25 [(0, .ref (G.2.2 10)), (1, .int (bI x1)), (2, .int (bI x2))] [] σ) (hP33 : ∀ (x1 : Int) (x2 : Int) (x3 : Int) (σ : bS), bR x1 → bR x2 → bR x3 → bRG σ → P33 x1 x2 x3 σ → bA p l e { frames := 0, cells := 0, slots := 0, locals := 0 } s m args below meth c 0 0 (bQv below args s G σ0 Q) G (va_A (bk_w G σ0) s.heap.size) 5 33 [(0, .ref (G.2.2 10)), (1, .int (bI x1)), (2, .int (bI x2)), (3, .int (bI x3))] [] σ) (hP44 : ∀ (x1 : Int) (x2 : Int) (x3 : Int) (x4 : Int) (σ : bS), bR x1 → bR x2 → bR x3 → bR x4 → bRG σ → P44 x1 x2 x3 x4 σ → bA p l e { frames := 0, cells := 0, slots := 0, locals := 0 } s m args below meth c 0 0 (bQv below args s G σ0 Q) G (va_A (bk_w G σ0) s.heap.size) 5 44 [(0, .ref (G.2.2 10)), (1, .int (bI x1)), (2, .int (bI x2)), (3, .int (bI x3)), (4, .int (bI x4))] [] σ) (hx1 : bR x1) (hx2 : bR x2) (hσ : bRG σ) (h : bX9_mark_25 Q P2 P25 P33 P44 x1 x2 σ) : bA p l e { frames := 0, cells := 0, slots := 0, locals := 0 } s m args below meth c 0 0 (bQv below args s G σ0 Q) G (va_A (bk_w G σ0) s.heap.size) 5 25 [(0, .ref (G.2.2 10)), (1, .int (bI x1)), (2, .int (bI x2))] [] σ := by
  unfold bX9_mark_25 at h
  refine br_iload_n S 2 dX9_mark_25 rfl rfl ?_
  refine br_if_eq S 140 hx2 dX9_mark_26 (by decide) (fun c1 => ?_) (fun c1 => ?_)
  · replace h := h.1 c1
    exact br_vret S hr hlk hσ dX9_mark_140 h
  · replace h := h.2 c1
    refine br_iconst S dX9_mark_29 ?_
    refine br_istore_n S [(2, .int (bI 0)), (0, .ref (G.2.2 10)), (1, .int (bI x1))] dX9_mark_30 rfl (by decide) rfl ?_
    refine br_iconst S dX9_mark_31 ?_
    refine br_istore_n S [(3, .int (bI 0)), (2, .int (bI 0)), (0, .ref (G.2.2 10)), (1, .int (bI x1))] dX9_mark_32 rfl (by decide) rfl ?_
    exact bA.perm [2, 3, 1, 0] rfl <| hP33 x1 0 0 σ hx1 (by decide) (by decide) hσ h
def bX9_mark_33 (Q : bS → Prop) (P2 : Int → Int → bS → Prop) (P25 : Int → Int → bS → Prop) (P33 : Int → Int → Int → bS → Prop) (P44 : Int → Int → Int → Int → bS → Prop) (x1 : Int) (x2 : Int) (x3 : Int) (σ : bS) : Prop := (((σ 10 3) ≤ x3 → (P25 x1 x2 σ)) ∧ (¬ (σ 10 3) ≤ x3 → (P44 x1 x2 x3 0 σ)))
theorem mono_bX9_mark_33 {Q Q9 : bS → Prop} {P2 P29 : Int → Int → bS → Prop} {P25 P259 : Int → Int → bS → Prop} {P33 P339 : Int → Int → Int → bS → Prop} {P44 P449 : Int → Int → Int → Int → bS → Prop} {x1 : Int} {x2 : Int} {x3 : Int} {σ : bS} (hQ : ∀ σ, Q σ → Q9 σ) (hP2 : ∀ x1 x2 σ, P2 x1 x2 σ → P29 x1 x2 σ) (hP25 : ∀ x1 x2 σ, P25 x1 x2 σ → P259 x1 x2 σ) (hP33 : ∀ x1 x2 x3 σ, P33 x1 x2 x3 σ → P339 x1 x2 x3 σ) (hP44 : ∀ x1 x2 x3 x4 σ, P44 x1 x2 x3 x4 σ → P449 x1 x2 x3 x4 σ) : bX9_mark_33 Q P2 P25 P33 P44 x1 x2 x3 σ → bX9_mark_33 Q9 P29 P259 P339 P449 x1 x2 x3 σ := (bm_and (bm_imp (hP25 _ _ _)) (bm_imp (hP44 _ _ _ _ _)))
theorem wX9_mark_33 {p : Program} {l : Launch} {e : Env} {s : State} {m : MethodId} {args : Array Value} {below : List Frame} {meth : Method} {c : Code} {G : bG} {σ0 : bS} {Q : bS → Prop} {P2 : Int → Int → bS → Prop} {P25 : Int → Int → bS → Prop} {P33 : Int → Int → Int → bS → Prop} {P44 : Int → Int → Int → Int → bS → Prop} {x1 : Int} {x2 : Int} {x3 : Int} {σ : bS} (S : CallFix p m c cX9_mark 5 s args bT "BankLinkerModel") (hr : meth.sig.returnType = none) (hlk : meth.locks = false) (hP2 : ∀ (x1 : Int) (x2 : Int) (σ : bS), bR x1 → bR x2 → bRG σ → P2 x1 x2 σ → bA p l e { frames := 0, cells := 0, slots := 0, locals := 0 } s m args below meth c 0 0 (bQv below args s G σ0 Q) G (va_A (bk_w G σ0) s.heap.size) 5 2 [(0, .ref (G.2.2 10)), (1, .int (bI x1)), (2, .int (bI x2))] [] σ) (hP25 : ∀ (x1 : Int) (x2 : Int) (σ : bS), bR x1 → bR x2 → bRG σ → P25 x1 x2 σ → bA p l e { frames := 0, cells := 0, slots := 0, locals := 0 } s m args below meth c 0 0 (bQv below args s G σ0 Q) G (va_A (bk_w G σ0) s.heap.size) 5 25 [(0, .ref (G.2.2 10)), (1, .int (bI x1)), (2, .int (bI x2))] [] σ) (hP33 : ∀ (x1 : Int) (x2 : Int) (x3 : Int) (σ : bS), bR x1 → bR x2 → bR x3 → bRG σ → P33 x1 x2 x3 σ → bA p l e { frames := 0, cells := 0, slots := 0, locals := 0 } s m args below meth c 0 0 (bQv below args s G σ0 Q) G (va_A (bk_w G σ0) s.heap.size) 5 33 [(0, .ref (G.2.2 10)), (1, .int (bI x1)), (2, .int (bI x2)), (3, .int (bI x3))] [] σ) (hP44 : ∀ (x1 : Int) (x2 : Int) (x3 : Int) (x4 : Int) (σ : bS), bR x1 → bR x2 → bR x3 → bR x4 → bRG σ → P44 x1 x2 x3 x4 σ → bA p l e { frames := 0, cells := 0, slots := 0, locals := 0 } s m args below meth c 0 0 (bQv below args s G σ0 Q) G (va_A (bk_w G σ0) s.heap.size) 5 44 [(0, .ref (G.2.2 10)), (1, .int (bI x1)), (2, .int (bI x2)), (3, .int (bI x3)), (4, .int (bI x4))] [] σ) (hx1 : bR x1) (hx2 : bR x2) (hx3 : bR x3) (hσ : bRG σ) (h : bX9_mark_33 Q P2 P25 P33 P44 x1 x2 x3 σ) : bA p l e { frames := 0, cells := 0, slots := 0, locals := 0 } s m args below meth c 0 0 (bQv below args s G σ0 Q) G (va_A (bk_w G σ0) s.heap.size) 5 33 [(0, .ref (G.2.2 10)), (1, .int (bI x1)), (2, .int (bI x2)), (3, .int (bI x3))] [] σ := by
  unfold bX9_mark_33 at h
  refine br_iload_n S 3 dX9_mark_33 rfl rfl ?_
  refine br_aload_n S 0 dX9_mark_34 rfl rfl ?_
  refine br_get (f := 3) (N := 37) (C := RX9) (T := TX9) S inT_X9 wd_3_237 (by decide) rfl rfl (by decide) rfl dX9_mark_35 ?_
  refine br_ic_ge S 137 hx3 (hσ 10 3) dX9_mark_38 (by decide) (fun c1 => ?_) (fun c1 => ?_)
  · replace h := h.1 c1
    refine br_goto S 25 dX9_mark_137 (by decide) ?_
    exact bA.perm [0, 1, 2] rfl <| hP25 x1 x2 σ hx1 hx2 hσ h
  · replace h := h.2 c1
    refine br_iconst S dX9_mark_41 ?_
    refine br_istore S [(4, .int (bI 0)), (0, .ref (G.2.2 10)), (1, .int (bI x1)), (2, .int (bI x2)), (3, .int (bI x3))] dX9_mark_42 (by decide) rfl ?_
    exact bA.perm [1, 2, 3, 4, 0] rfl <| hP44 x1 x2 x3 0 σ hx1 hx2 hx3 (by decide) hσ h
def vX9_mark_125 (Q : bS → Prop) (P2 : Int → Int → bS → Prop) (P25 : Int → Int → bS → Prop) (P33 : Int → Int → Int → bS → Prop) (P44 : Int → Int → Int → Int → bS → Prop) (x1 : Int) (x2 : Int) (x3 : Int) (x4 : Int) (σ : bS) : Prop := (bR (x4 + 1) ∧ (P44 x1 x2 x3 (x4 + 1) σ))
theorem mono_vX9_mark_125 {Q Q9 : bS → Prop} {P2 P29 : Int → Int → bS → Prop} {P25 P259 : Int → Int → bS → Prop} {P33 P339 : Int → Int → Int → bS → Prop} {P44 P449 : Int → Int → Int → Int → bS → Prop} {x1 : Int} {x2 : Int} {x3 : Int} {x4 : Int} {σ : bS} (hQ : ∀ σ, Q σ → Q9 σ) (hP2 : ∀ x1 x2 σ, P2 x1 x2 σ → P29 x1 x2 σ) (hP25 : ∀ x1 x2 σ, P25 x1 x2 σ → P259 x1 x2 σ) (hP33 : ∀ x1 x2 x3 σ, P33 x1 x2 x3 σ → P339 x1 x2 x3 σ) (hP44 : ∀ x1 x2 x3 x4 σ, P44 x1 x2 x3 x4 σ → P449 x1 x2 x3 x4 σ) : vX9_mark_125 Q P2 P25 P33 P44 x1 x2 x3 x4 σ → vX9_mark_125 Q9 P29 P259 P339 P449 x1 x2 x3 x4 σ := (bm_r (hP44 _ _ _ _ _))
theorem wX9_mark_125 {p : Program} {l : Launch} {e : Env} {s : State} {m : MethodId} {args : Array Value} {below : List Frame} {meth : Method} {c : Code} {G : bG} {σ0 : bS} {Q : bS → Prop} {P2 : Int → Int → bS → Prop} {P25 : Int → Int → bS → Prop} {P33 : Int → Int → Int → bS → Prop} {P44 : Int → Int → Int → Int → bS → Prop} {x1 : Int} {x2 : Int} {x3 : Int} {x4 : Int} {σ : bS} (S : CallFix p m c cX9_mark 5 s args bT "BankLinkerModel") (hr : meth.sig.returnType = none) (hlk : meth.locks = false) (hP2 : ∀ (x1 : Int) (x2 : Int) (σ : bS), bR x1 → bR x2 → bRG σ → P2 x1 x2 σ → bA p l e { frames := 0, cells := 0, slots := 0, locals := 0 } s m args below meth c 0 0 (bQv below args s G σ0 Q) G (va_A (bk_w G σ0) s.heap.size) 5 2 [(0, .ref (G.2.2 10)), (1, .int (bI x1)), (2, .int (bI x2))] [] σ) (hP25 : ∀ (x1 : Int) (x2 : Int) (σ : bS), bR x1 → bR x2 → bRG σ → P25 x1 x2 σ → bA p l e { frames := 0, cells := 0, slots := 0, locals := 0 } s m args below meth c 0 0 (bQv below args s G σ0 Q) G (va_A (bk_w G σ0) s.heap.size) 5 25 [(0, .ref (G.2.2 10)), (1, .int (bI x1)), (2, .int (bI x2))] [] σ) (hP33 : ∀ (x1 : Int) (x2 : Int) (x3 : Int) (σ : bS), bR x1 → bR x2 → bR x3 → bRG σ → P33 x1 x2 x3 σ → bA p l e { frames := 0, cells := 0, slots := 0, locals := 0 } s m args below meth c 0 0 (bQv below args s G σ0 Q) G (va_A (bk_w G σ0) s.heap.size) 5 33 [(0, .ref (G.2.2 10)), (1, .int (bI x1)), (2, .int (bI x2)), (3, .int (bI x3))] [] σ) (hP44 : ∀ (x1 : Int) (x2 : Int) (x3 : Int) (x4 : Int) (σ : bS), bR x1 → bR x2 → bR x3 → bR x4 → bRG σ → P44 x1 x2 x3 x4 σ → bA p l e { frames := 0, cells := 0, slots := 0, locals := 0 } s m args below meth c 0 0 (bQv below args s G σ0 Q) G (va_A (bk_w G σ0) s.heap.size) 5 44 [(0, .ref (G.2.2 10)), (1, .int (bI x1)), (2, .int (bI x2)), (3, .int (bI x3)), (4, .int (bI x4))] [] σ) (hx1 : bR x1) (hx2 : bR x2) (hx3 : bR x3) (hx4 : bR x4) (hσ : bRG σ) (h : vX9_mark_125 Q P2 P25 P33 P44 x1 x2 x3 x4 σ) : bA p l e { frames := 0, cells := 0, slots := 0, locals := 0 } s m args below meth c 0 0 (bQv below args s G σ0 Q) G (va_A (bk_w G σ0) s.heap.size) 5 125 [(0, .ref (G.2.2 10)), (1, .int (bI x1)), (2, .int (bI x2)), (3, .int (bI x3)), (4, .int (bI x4))] [] σ := by
  unfold vX9_mark_125 at h
  refine br_iinc S 4 [(4, .int (bI (x4 + 1))), (0, .ref (G.2.2 10)), (1, .int (bI x1)), (2, .int (bI x2)), (3, .int (bI x3))] dX9_mark_125 rfl (by decide) rfl ?_
  refine br_goto S 44 dX9_mark_128 (by decide) ?_
  obtain ⟨g1, h⟩ := h
  exact bA.perm [1, 2, 3, 4, 0] rfl <| hP44 x1 x2 x3 (x4 + 1) σ hx1 hx2 hx3 g1 hσ h
def vX9_mark_69 (Q : bS → Prop) (P2 : Int → Int → bS → Prop) (P25 : Int → Int → bS → Prop) (P33 : Int → Int → Int → bS → Prop) (P44 : Int → Int → Int → Int → bS → Prop) (x1 : Int) (x2 : Int) (x3 : Int) (x4 : Int) (σ : bS) : Prop := ((0 ≤ ((40 * x3) + x4) ∧ ((40 * x3) + x4) < 1200) ∧ ((¬ (σ 53 ((40 * x3) + x4)) = 5 → (vX9_mark_125 Q P2 P25 P33 P44 x1 x2 x3 x4 σ)) ∧ ((σ 53 ((40 * x3) + x4)) = 5 → ((0 ≤ (σ 54 ((40 * x3) + x4)) ∧ (σ 54 ((40 * x3) + x4)) < 30) ∧ ((¬ (σ 12 (σ 54 ((40 * x3) + x4))) = 0 → (vX9_mark_125 Q P2 P25 P33 P44 x1 x2 x3 x4 σ)) ∧ ((σ 12 (σ 54 ((40 * x3) + x4))) = 0 → (∀ σ5 : bS, σ5 = bup σ 12 (σ 54 ((40 * x3) + x4)) 1 → (vX9_mark_125 Q P2 P25 P33 P44 x1 1 x3 x4 σ5))))))))
theorem mono_vX9_mark_69 {Q Q9 : bS → Prop} {P2 P29 : Int → Int → bS → Prop} {P25 P259 : Int → Int → bS → Prop} {P33 P339 : Int → Int → Int → bS → Prop} {P44 P449 : Int → Int → Int → Int → bS → Prop} {x1 : Int} {x2 : Int} {x3 : Int} {x4 : Int} {σ : bS} (hQ : ∀ σ, Q σ → Q9 σ) (hP2 : ∀ x1 x2 σ, P2 x1 x2 σ → P29 x1 x2 σ) (hP25 : ∀ x1 x2 σ, P25 x1 x2 σ → P259 x1 x2 σ) (hP33 : ∀ x1 x2 x3 σ, P33 x1 x2 x3 σ → P339 x1 x2 x3 σ) (hP44 : ∀ x1 x2 x3 x4 σ, P44 x1 x2 x3 x4 σ → P449 x1 x2 x3 x4 σ) : vX9_mark_69 Q P2 P25 P33 P44 x1 x2 x3 x4 σ → vX9_mark_69 Q9 P29 P259 P339 P449 x1 x2 x3 x4 σ := (bm_r (bm_and (bm_imp (mono_vX9_mark_125 hQ hP2 hP25 hP33 hP44)) (bm_imp (bm_r (bm_and (bm_imp (mono_vX9_mark_125 hQ hP2 hP25 hP33 hP44)) (bm_imp (bm_all fun _ => bm_imp (mono_vX9_mark_125 hQ hP2 hP25 hP33 hP44))))))))
theorem wX9_mark_69 {p : Program} {l : Launch} {e : Env} {s : State} {m : MethodId} {args : Array Value} {below : List Frame} {meth : Method} {c : Code} {G : bG} {σ0 : bS} {Q : bS → Prop} {P2 : Int → Int → bS → Prop} {P25 : Int → Int → bS → Prop} {P33 : Int → Int → Int → bS → Prop} {P44 : Int → Int → Int → Int → bS → Prop} {x1 : Int} {x2 : Int} {x3 : Int} {x4 : Int} {σ : bS} (S : CallFix p m c cX9_mark 5 s args bT "BankLinkerModel") (hr : meth.sig.returnType = none) (hlk : meth.locks = false) (hP2 : ∀ (x1 : Int) (x2 : Int) (σ : bS), bR x1 → bR x2 → bRG σ → P2 x1 x2 σ → bA p l e { frames := 0, cells := 0, slots := 0, locals := 0 } s m args below meth c 0 0 (bQv below args s G σ0 Q) G (va_A (bk_w G σ0) s.heap.size) 5 2 [(0, .ref (G.2.2 10)), (1, .int (bI x1)), (2, .int (bI x2))] [] σ) (hP25 : ∀ (x1 : Int) (x2 : Int) (σ : bS), bR x1 → bR x2 → bRG σ → P25 x1 x2 σ → bA p l e { frames := 0, cells := 0, slots := 0, locals := 0 } s m args below meth c 0 0 (bQv below args s G σ0 Q) G (va_A (bk_w G σ0) s.heap.size) 5 25 [(0, .ref (G.2.2 10)), (1, .int (bI x1)), (2, .int (bI x2))] [] σ) (hP33 : ∀ (x1 : Int) (x2 : Int) (x3 : Int) (σ : bS), bR x1 → bR x2 → bR x3 → bRG σ → P33 x1 x2 x3 σ → bA p l e { frames := 0, cells := 0, slots := 0, locals := 0 } s m args below meth c 0 0 (bQv below args s G σ0 Q) G (va_A (bk_w G σ0) s.heap.size) 5 33 [(0, .ref (G.2.2 10)), (1, .int (bI x1)), (2, .int (bI x2)), (3, .int (bI x3))] [] σ) (hP44 : ∀ (x1 : Int) (x2 : Int) (x3 : Int) (x4 : Int) (σ : bS), bR x1 → bR x2 → bR x3 → bR x4 → bRG σ → P44 x1 x2 x3 x4 σ → bA p l e { frames := 0, cells := 0, slots := 0, locals := 0 } s m args below meth c 0 0 (bQv below args s G σ0 Q) G (va_A (bk_w G σ0) s.heap.size) 5 44 [(0, .ref (G.2.2 10)), (1, .int (bI x1)), (2, .int (bI x2)), (3, .int (bI x3)), (4, .int (bI x4))] [] σ) (hx1 : bR x1) (hx2 : bR x2) (hx3 : bR x3) (hx4 : bR x4) (hσ : bRG σ) (h : vX9_mark_69 Q P2 P25 P33 P44 x1 x2 x3 x4 σ) : bA p l e { frames := 0, cells := 0, slots := 0, locals := 0 } s m args below meth c 0 0 (bQv below args s G σ0 Q) G (va_A (bk_w G σ0) s.heap.size) 5 69 [(0, .ref (G.2.2 10)), (1, .int (bI x1)), (2, .int (bI x2)), (3, .int (bI x3)), (4, .int (bI x4))] [] σ := by
  unfold vX9_mark_69 at h
  refine br_aload_n S 0 dX9_mark_69 rfl rfl ?_
  refine br_get (f := 7) (N := 37) (C := RX9) (T := TX9) S inT_X9 wd_4_1 (by decide) rfl rfl (by decide) rfl dX9_mark_70 ?_
  refine br_bipush S dX9_mark_73 rfl ?_
  refine br_iload_n S 3 dX9_mark_75 rfl rfl ?_
  refine br_imul S dX9_mark_76 ?_
  refine br_iload S 4 dX9_mark_77 rfl ?_
  refine br_iadd S dX9_mark_79 ?_
  obtain ⟨g1, h⟩ := h
  refine br_iald (n := 1200) S ⟨by decide, by decide, fun _ => rfl⟩ g1.1 g1.2 dX9_mark_80 ?_
  refine br_iconst S dX9_mark_81 ?_
  refine br_ic_ne S 125 (hσ 53 ((40 * x3) + x4)) (by decide) dX9_mark_82 (by decide) (fun c2 => ?_) (fun c2 => ?_)
  · replace h := h.1 c2
    exact wX9_mark_125 S hr hlk hP2 hP25 hP33 hP44 hx1 hx2 hx3 hx4 hσ h
  · replace h := h.2 c2
    refine br_aload_n S 0 dX9_mark_85 rfl rfl ?_
    refine br_get (f := 25) (N := 37) (C := RX9) (T := TX9) S inT_X9 wd_4_19 (by decide) rfl rfl (by decide) rfl dX9_mark_86 ?_
    refine br_aload_n S 0 dX9_mark_89 rfl rfl ?_
    refine br_get (f := 8) (N := 37) (C := RX9) (T := TX9) S inT_X9 wd_4_2 (by decide) rfl rfl (by decide) rfl dX9_mark_90 ?_
    refine br_bipush S dX9_mark_93 rfl ?_
    refine br_iload_n S 3 dX9_mark_95 rfl rfl ?_
    refine br_imul S dX9_mark_96 ?_
    refine br_iload S 4 dX9_mark_97 rfl ?_
    refine br_iadd S dX9_mark_99 ?_
    refine br_iald (n := 1200) S ⟨by decide, by decide, fun _ => rfl⟩ g1.1 g1.2 dX9_mark_100 ?_
    obtain ⟨g3, h⟩ := h
    refine br_zald S g3.1 g3.2 dX9_mark_101 ?_
    refine br_if_ne S 125 (hσ 12 (σ 54 ((40 * x3) + x4))) dX9_mark_102 (by decide) (fun c4 => ?_) (fun c4 => ?_)
    · replace h := h.1 c4
      exact wX9_mark_125 S hr hlk hP2 hP25 hP33 hP44 hx1 hx2 hx3 hx4 hσ h
    · replace h := h.2 c4
      refine br_aload_n S 0 dX9_mark_105 rfl rfl ?_
      refine br_get (f := 25) (N := 37) (C := RX9) (T := TX9) S inT_X9 wd_4_19 (by decide) rfl rfl (by decide) rfl dX9_mark_106 ?_
      refine br_aload_n S 0 dX9_mark_109 rfl rfl ?_
      refine br_get (f := 8) (N := 37) (C := RX9) (T := TX9) S inT_X9 wd_4_2 (by decide) rfl rfl (by decide) rfl dX9_mark_110 ?_
      refine br_bipush S dX9_mark_113 rfl ?_
      refine br_iload_n S 3 dX9_mark_115 rfl rfl ?_
      refine br_imul S dX9_mark_116 ?_
      refine br_iload S 4 dX9_mark_117 rfl ?_
      refine br_iadd S dX9_mark_119 ?_
      refine br_iald (n := 1200) S ⟨by decide, by decide, fun _ => rfl⟩ g1.1 g1.2 dX9_mark_120 ?_
      refine br_iconst S dX9_mark_121 ?_
      obtain ⟨σ5, e6⟩ : ∃ τ, τ = bup σ 12 (σ 54 ((40 * x3) + x4)) 1 := ⟨_, rfl⟩
      replace h := h σ5 e6
      have hσ5 : bRG σ5 := by rw [e6]; exact bup_rg hσ (by decide)
      refine br_zast S g3.1 g3.2 (by decide) dX9_mark_122 ?_
      refine bA.to rfl rfl e6.symm ?_
      refine br_iconst S dX9_mark_123 ?_
      refine br_istore_n S [(2, .int (bI 1)), (0, .ref (G.2.2 10)), (1, .int (bI x1)), (3, .int (bI x3)), (4, .int (bI x4))] dX9_mark_124 rfl (by decide) rfl ?_
      exact bA.perm [1, 2, 0, 3, 4] rfl <| wX9_mark_125 S hr hlk hP2 hP25 hP33 hP44 hx1 (by decide) hx3 hx4 hσ5 h
def vX9_mark_131 (Q : bS → Prop) (P2 : Int → Int → bS → Prop) (P25 : Int → Int → bS → Prop) (P33 : Int → Int → Int → bS → Prop) (P44 : Int → Int → Int → Int → bS → Prop) (x1 : Int) (x2 : Int) (x3 : Int) (σ : bS) : Prop := (bR (x3 + 1) ∧ (P33 x1 x2 (x3 + 1) σ))
theorem mono_vX9_mark_131 {Q Q9 : bS → Prop} {P2 P29 : Int → Int → bS → Prop} {P25 P259 : Int → Int → bS → Prop} {P33 P339 : Int → Int → Int → bS → Prop} {P44 P449 : Int → Int → Int → Int → bS → Prop} {x1 : Int} {x2 : Int} {x3 : Int} {σ : bS} (hQ : ∀ σ, Q σ → Q9 σ) (hP2 : ∀ x1 x2 σ, P2 x1 x2 σ → P29 x1 x2 σ) (hP25 : ∀ x1 x2 σ, P25 x1 x2 σ → P259 x1 x2 σ) (hP33 : ∀ x1 x2 x3 σ, P33 x1 x2 x3 σ → P339 x1 x2 x3 σ) (hP44 : ∀ x1 x2 x3 x4 σ, P44 x1 x2 x3 x4 σ → P449 x1 x2 x3 x4 σ) : vX9_mark_131 Q P2 P25 P33 P44 x1 x2 x3 σ → vX9_mark_131 Q9 P29 P259 P339 P449 x1 x2 x3 σ := (bm_r (hP33 _ _ _ _))
theorem wX9_mark_131 {p : Program} {l : Launch} {e : Env} {s : State} {m : MethodId} {args : Array Value} {below : List Frame} {meth : Method} {c : Code} {G : bG} {σ0 : bS} {Q : bS → Prop} {P2 : Int → Int → bS → Prop} {P25 : Int → Int → bS → Prop} {P33 : Int → Int → Int → bS → Prop} {P44 : Int → Int → Int → Int → bS → Prop} {x1 : Int} {x2 : Int} {x3 : Int} {σ : bS} (S : CallFix p m c cX9_mark 5 s args bT "BankLinkerModel") (hr : meth.sig.returnType = none) (hlk : meth.locks = false) (hP2 : ∀ (x1 : Int) (x2 : Int) (σ : bS), bR x1 → bR x2 → bRG σ → P2 x1 x2 σ → bA p l e { frames := 0, cells := 0, slots := 0, locals := 0 } s m args below meth c 0 0 (bQv below args s G σ0 Q) G (va_A (bk_w G σ0) s.heap.size) 5 2 [(0, .ref (G.2.2 10)), (1, .int (bI x1)), (2, .int (bI x2))] [] σ) (hP25 : ∀ (x1 : Int) (x2 : Int) (σ : bS), bR x1 → bR x2 → bRG σ → P25 x1 x2 σ → bA p l e { frames := 0, cells := 0, slots := 0, locals := 0 } s m args below meth c 0 0 (bQv below args s G σ0 Q) G (va_A (bk_w G σ0) s.heap.size) 5 25 [(0, .ref (G.2.2 10)), (1, .int (bI x1)), (2, .int (bI x2))] [] σ) (hP33 : ∀ (x1 : Int) (x2 : Int) (x3 : Int) (σ : bS), bR x1 → bR x2 → bR x3 → bRG σ → P33 x1 x2 x3 σ → bA p l e { frames := 0, cells := 0, slots := 0, locals := 0 } s m args below meth c 0 0 (bQv below args s G σ0 Q) G (va_A (bk_w G σ0) s.heap.size) 5 33 [(0, .ref (G.2.2 10)), (1, .int (bI x1)), (2, .int (bI x2)), (3, .int (bI x3))] [] σ) (hP44 : ∀ (x1 : Int) (x2 : Int) (x3 : Int) (x4 : Int) (σ : bS), bR x1 → bR x2 → bR x3 → bR x4 → bRG σ → P44 x1 x2 x3 x4 σ → bA p l e { frames := 0, cells := 0, slots := 0, locals := 0 } s m args below meth c 0 0 (bQv below args s G σ0 Q) G (va_A (bk_w G σ0) s.heap.size) 5 44 [(0, .ref (G.2.2 10)), (1, .int (bI x1)), (2, .int (bI x2)), (3, .int (bI x3)), (4, .int (bI x4))] [] σ) (hx1 : bR x1) (hx2 : bR x2) (hx3 : bR x3) (hσ : bRG σ) (h : vX9_mark_131 Q P2 P25 P33 P44 x1 x2 x3 σ) : bA p l e { frames := 0, cells := 0, slots := 0, locals := 0 } s m args below meth c 0 0 (bQv below args s G σ0 Q) G (va_A (bk_w G σ0) s.heap.size) 5 131 [(0, .ref (G.2.2 10)), (1, .int (bI x1)), (2, .int (bI x2)), (3, .int (bI x3))] [] σ := by
  unfold vX9_mark_131 at h
  refine br_iinc S 3 [(3, .int (bI (x3 + 1))), (0, .ref (G.2.2 10)), (1, .int (bI x1)), (2, .int (bI x2))] dX9_mark_131 rfl (by decide) rfl ?_
  refine br_goto S 33 dX9_mark_134 (by decide) ?_
  obtain ⟨g1, h⟩ := h
  exact bA.perm [1, 2, 3, 0] rfl <| hP33 x1 x2 (x3 + 1) σ hx1 hx2 g1 hσ h
def bX9_mark_44 (Q : bS → Prop) (P2 : Int → Int → bS → Prop) (P25 : Int → Int → bS → Prop) (P33 : Int → Int → Int → bS → Prop) (P44 : Int → Int → Int → Int → bS → Prop) (x1 : Int) (x2 : Int) (x3 : Int) (x4 : Int) (σ : bS) : Prop := ((0 ≤ x3 ∧ x3 < 30) ∧ (((σ 52 x3) ≤ x4 → (vX9_mark_131 Q P2 P25 P33 P44 x1 x2 x3 σ)) ∧ (¬ (σ 52 x3) ≤ x4 → ((x3 = x1 → (vX9_mark_69 Q P2 P25 P33 P44 x1 x2 x3 x4 σ)) ∧ (¬ x3 = x1 → (((σ 12 x3) = 0 → (vX9_mark_131 Q P2 P25 P33 P44 x1 x2 x3 σ)) ∧ (¬ (σ 12 x3) = 0 → (vX9_mark_69 Q P2 P25 P33 P44 x1 x2 x3 x4 σ))))))))
theorem mono_bX9_mark_44 {Q Q9 : bS → Prop} {P2 P29 : Int → Int → bS → Prop} {P25 P259 : Int → Int → bS → Prop} {P33 P339 : Int → Int → Int → bS → Prop} {P44 P449 : Int → Int → Int → Int → bS → Prop} {x1 : Int} {x2 : Int} {x3 : Int} {x4 : Int} {σ : bS} (hQ : ∀ σ, Q σ → Q9 σ) (hP2 : ∀ x1 x2 σ, P2 x1 x2 σ → P29 x1 x2 σ) (hP25 : ∀ x1 x2 σ, P25 x1 x2 σ → P259 x1 x2 σ) (hP33 : ∀ x1 x2 x3 σ, P33 x1 x2 x3 σ → P339 x1 x2 x3 σ) (hP44 : ∀ x1 x2 x3 x4 σ, P44 x1 x2 x3 x4 σ → P449 x1 x2 x3 x4 σ) : bX9_mark_44 Q P2 P25 P33 P44 x1 x2 x3 x4 σ → bX9_mark_44 Q9 P29 P259 P339 P449 x1 x2 x3 x4 σ := (bm_r (bm_and (bm_imp (mono_vX9_mark_131 hQ hP2 hP25 hP33 hP44)) (bm_imp (bm_and (bm_imp (mono_vX9_mark_69 hQ hP2 hP25 hP33 hP44)) (bm_imp (bm_and (bm_imp (mono_vX9_mark_131 hQ hP2 hP25 hP33 hP44)) (bm_imp (mono_vX9_mark_69 hQ hP2 hP25 hP33 hP44))))))))
theorem wX9_mark_44 {p : Program} {l : Launch} {e : Env} {s : State} {m : MethodId} {args : Array Value} {below : List Frame} {meth : Method} {c : Code} {G : bG} {σ0 : bS} {Q : bS → Prop} {P2 : Int → Int → bS → Prop} {P25 : Int → Int → bS → Prop} {P33 : Int → Int → Int → bS → Prop} {P44 : Int → Int → Int → Int → bS → Prop} {x1 : Int} {x2 : Int} {x3 : Int} {x4 : Int} {σ : bS} (S : CallFix p m c cX9_mark 5 s args bT "BankLinkerModel") (hr : meth.sig.returnType = none) (hlk : meth.locks = false) (hP2 : ∀ (x1 : Int) (x2 : Int) (σ : bS), bR x1 → bR x2 → bRG σ → P2 x1 x2 σ → bA p l e { frames := 0, cells := 0, slots := 0, locals := 0 } s m args below meth c 0 0 (bQv below args s G σ0 Q) G (va_A (bk_w G σ0) s.heap.size) 5 2 [(0, .ref (G.2.2 10)), (1, .int (bI x1)), (2, .int (bI x2))] [] σ) (hP25 : ∀ (x1 : Int) (x2 : Int) (σ : bS), bR x1 → bR x2 → bRG σ → P25 x1 x2 σ → bA p l e { frames := 0, cells := 0, slots := 0, locals := 0 } s m args below meth c 0 0 (bQv below args s G σ0 Q) G (va_A (bk_w G σ0) s.heap.size) 5 25 [(0, .ref (G.2.2 10)), (1, .int (bI x1)), (2, .int (bI x2))] [] σ) (hP33 : ∀ (x1 : Int) (x2 : Int) (x3 : Int) (σ : bS), bR x1 → bR x2 → bR x3 → bRG σ → P33 x1 x2 x3 σ → bA p l e { frames := 0, cells := 0, slots := 0, locals := 0 } s m args below meth c 0 0 (bQv below args s G σ0 Q) G (va_A (bk_w G σ0) s.heap.size) 5 33 [(0, .ref (G.2.2 10)), (1, .int (bI x1)), (2, .int (bI x2)), (3, .int (bI x3))] [] σ) (hP44 : ∀ (x1 : Int) (x2 : Int) (x3 : Int) (x4 : Int) (σ : bS), bR x1 → bR x2 → bR x3 → bR x4 → bRG σ → P44 x1 x2 x3 x4 σ → bA p l e { frames := 0, cells := 0, slots := 0, locals := 0 } s m args below meth c 0 0 (bQv below args s G σ0 Q) G (va_A (bk_w G σ0) s.heap.size) 5 44 [(0, .ref (G.2.2 10)), (1, .int (bI x1)), (2, .int (bI x2)), (3, .int (bI x3)), (4, .int (bI x4))] [] σ) (hx1 : bR x1) (hx2 : bR x2) (hx3 : bR x3) (hx4 : bR x4) (hσ : bRG σ) (h : bX9_mark_44 Q P2 P25 P33 P44 x1 x2 x3 x4 σ) : bA p l e { frames := 0, cells := 0, slots := 0, locals := 0 } s m args below meth c 0 0 (bQv below args s G σ0 Q) G (va_A (bk_w G σ0) s.heap.size) 5 44 [(0, .ref (G.2.2 10)), (1, .int (bI x1)), (2, .int (bI x2)), (3, .int (bI x3)), (4, .int (bI x4))] [] σ := by
  unfold bX9_mark_44 at h
  refine br_iload S 4 dX9_mark_44 rfl ?_
  refine br_aload_n S 0 dX9_mark_46 rfl rfl ?_
  refine br_get (f := 6) (N := 37) (C := RX9) (T := TX9) S inT_X9 wd_4_0 (by decide) rfl rfl (by decide) rfl dX9_mark_47 ?_
  refine br_iload_n S 3 dX9_mark_50 rfl rfl ?_
  obtain ⟨g1, h⟩ := h
  refine br_iald (n := 30) S ⟨by decide, by decide, fun _ => rfl⟩ g1.1 g1.2 dX9_mark_51 ?_
  refine br_ic_ge S 131 hx4 (hσ 52 x3) dX9_mark_52 (by decide) (fun c2 => ?_) (fun c2 => ?_)
  · replace h := h.1 c2
    exact bA.perm [0, 1, 2, 3] rfl <| wX9_mark_131 S hr hlk hP2 hP25 hP33 hP44 hx1 hx2 hx3 hσ h
  · replace h := h.2 c2
    refine br_iload_n S 3 dX9_mark_55 rfl rfl ?_
    refine br_iload_n S 1 dX9_mark_56 rfl rfl ?_
    refine br_ic_eq S 69 hx3 hx1 dX9_mark_57 (by decide) (fun c3 => ?_) (fun c3 => ?_)
    · replace h := h.1 c3
      exact wX9_mark_69 S hr hlk hP2 hP25 hP33 hP44 hx1 hx2 hx3 hx4 hσ h
    · replace h := h.2 c3
      refine br_aload_n S 0 dX9_mark_60 rfl rfl ?_
      refine br_get (f := 25) (N := 37) (C := RX9) (T := TX9) S inT_X9 wd_4_19 (by decide) rfl rfl (by decide) rfl dX9_mark_61 ?_
      refine br_iload_n S 3 dX9_mark_64 rfl rfl ?_
      refine br_zald S g1.1 g1.2 dX9_mark_65 ?_
      refine br_if_eq S 131 (hσ 12 x3) dX9_mark_66 (by decide) (fun c4 => ?_) (fun c4 => ?_)
      · replace h := h.1 c4
        exact bA.perm [0, 1, 2, 3] rfl <| wX9_mark_131 S hr hlk hP2 hP25 hP33 hP44 hx1 hx2 hx3 hσ h
      · replace h := h.2 c4
        exact wX9_mark_69 S hr hlk hP2 hP25 hP33 hP44 hx1 hx2 hx3 hx4 hσ h
def eX9_mark (Q : bS → Prop) (P2 : Int → Int → bS → Prop) (P25 : Int → Int → bS → Prop) (P33 : Int → Int → Int → bS → Prop) (P44 : Int → Int → Int → Int → bS → Prop) (a1 : Int) (σ : bS) : Prop := (P2 a1 0 σ)
theorem mono_eX9_mark {Q Q9 : bS → Prop} {P2 P29 : Int → Int → bS → Prop} {P25 P259 : Int → Int → bS → Prop} {P33 P339 : Int → Int → Int → bS → Prop} {P44 P449 : Int → Int → Int → Int → bS → Prop} {a1 : Int} {σ : bS} (hQ : ∀ σ, Q σ → Q9 σ) (hP2 : ∀ x1 x2 σ, P2 x1 x2 σ → P29 x1 x2 σ) (hP25 : ∀ x1 x2 σ, P25 x1 x2 σ → P259 x1 x2 σ) (hP33 : ∀ x1 x2 x3 σ, P33 x1 x2 x3 σ → P339 x1 x2 x3 σ) (hP44 : ∀ x1 x2 x3 x4 σ, P44 x1 x2 x3 x4 σ → P449 x1 x2 x3 x4 σ) : eX9_mark Q P2 P25 P33 P44 a1 σ → eX9_mark Q9 P29 P259 P339 P449 a1 σ := (hP2 _ _ _)
theorem wX9_mark_e {p : Program} {l : Launch} {e : Env} {s : State} {m : MethodId} {args : Array Value} {below : List Frame} {meth : Method} {c : Code} {G : bG} {σ0 : bS} {Q : bS → Prop} {P2 : Int → Int → bS → Prop} {P25 : Int → Int → bS → Prop} {P33 : Int → Int → Int → bS → Prop} {P44 : Int → Int → Int → Int → bS → Prop} {a1 : Int} {σ : bS} (S : CallFix p m c cX9_mark 5 s args bT "BankLinkerModel") (hr : meth.sig.returnType = none) (hlk : meth.locks = false) (hP2 : ∀ (x1 : Int) (x2 : Int) (σ : bS), bR x1 → bR x2 → bRG σ → P2 x1 x2 σ → bA p l e { frames := 0, cells := 0, slots := 0, locals := 0 } s m args below meth c 0 0 (bQv below args s G σ0 Q) G (va_A (bk_w G σ0) s.heap.size) 5 2 [(0, .ref (G.2.2 10)), (1, .int (bI x1)), (2, .int (bI x2))] [] σ) (hP25 : ∀ (x1 : Int) (x2 : Int) (σ : bS), bR x1 → bR x2 → bRG σ → P25 x1 x2 σ → bA p l e { frames := 0, cells := 0, slots := 0, locals := 0 } s m args below meth c 0 0 (bQv below args s G σ0 Q) G (va_A (bk_w G σ0) s.heap.size) 5 25 [(0, .ref (G.2.2 10)), (1, .int (bI x1)), (2, .int (bI x2))] [] σ) (hP33 : ∀ (x1 : Int) (x2 : Int) (x3 : Int) (σ : bS), bR x1 → bR x2 → bR x3 → bRG σ → P33 x1 x2 x3 σ → bA p l e { frames := 0, cells := 0, slots := 0, locals := 0 } s m args below meth c 0 0 (bQv below args s G σ0 Q) G (va_A (bk_w G σ0) s.heap.size) 5 33 [(0, .ref (G.2.2 10)), (1, .int (bI x1)), (2, .int (bI x2)), (3, .int (bI x3))] [] σ) (hP44 : ∀ (x1 : Int) (x2 : Int) (x3 : Int) (x4 : Int) (σ : bS), bR x1 → bR x2 → bR x3 → bR x4 → bRG σ → P44 x1 x2 x3 x4 σ → bA p l e { frames := 0, cells := 0, slots := 0, locals := 0 } s m args below meth c 0 0 (bQv below args s G σ0 Q) G (va_A (bk_w G σ0) s.heap.size) 5 44 [(0, .ref (G.2.2 10)), (1, .int (bI x1)), (2, .int (bI x2)), (3, .int (bI x3)), (4, .int (bI x4))] [] σ) (ha1 : bR a1) (hσ : bRG σ) (h : eX9_mark Q P2 P25 P33 P44 a1 σ) : bA p l e { frames := 0, cells := 0, slots := 0, locals := 0 } s m args below meth c 0 0 (bQv below args s G σ0 Q) G (va_A (bk_w G σ0) s.heap.size) 5 0 [(0, .ref (G.2.2 10)), (1, .int (bI a1))] [] σ := by
  unfold eX9_mark at h
  refine br_iconst S dX9_mark_0 ?_
  refine br_istore_n S [(2, .int (bI 0)), (0, .ref (G.2.2 10)), (1, .int (bI a1))] dX9_mark_1 rfl (by decide) rfl ?_
  exact bA.perm [1, 2, 0] rfl <| hP2 a1 0 σ ha1 (by decide) hσ h
def LX9_mark_2 (Q : bS → Prop) (x1 : Int) (x2 : Int) (σ : bS) : Prop := ∀ (P2 : Int → Int → bS → Prop) (P25 : Int → Int → bS → Prop) (P33 : Int → Int → Int → bS → Prop) (P44 : Int → Int → Int → Int → bS → Prop), (∀ x1 x2 σ, bX9_mark_2 Q P2 P25 P33 P44 x1 x2 σ → P2 x1 x2 σ) → (∀ x1 x2 σ, bX9_mark_25 Q P2 P25 P33 P44 x1 x2 σ → P25 x1 x2 σ) → (∀ x1 x2 x3 σ, bX9_mark_33 Q P2 P25 P33 P44 x1 x2 x3 σ → P33 x1 x2 x3 σ) → (∀ x1 x2 x3 x4 σ, bX9_mark_44 Q P2 P25 P33 P44 x1 x2 x3 x4 σ → P44 x1 x2 x3 x4 σ) → P2 x1 x2 σ
def LX9_mark_25 (Q : bS → Prop) (x1 : Int) (x2 : Int) (σ : bS) : Prop := ∀ (P2 : Int → Int → bS → Prop) (P25 : Int → Int → bS → Prop) (P33 : Int → Int → Int → bS → Prop) (P44 : Int → Int → Int → Int → bS → Prop), (∀ x1 x2 σ, bX9_mark_2 Q P2 P25 P33 P44 x1 x2 σ → P2 x1 x2 σ) → (∀ x1 x2 σ, bX9_mark_25 Q P2 P25 P33 P44 x1 x2 σ → P25 x1 x2 σ) → (∀ x1 x2 x3 σ, bX9_mark_33 Q P2 P25 P33 P44 x1 x2 x3 σ → P33 x1 x2 x3 σ) → (∀ x1 x2 x3 x4 σ, bX9_mark_44 Q P2 P25 P33 P44 x1 x2 x3 x4 σ → P44 x1 x2 x3 x4 σ) → P25 x1 x2 σ
def LX9_mark_33 (Q : bS → Prop) (x1 : Int) (x2 : Int) (x3 : Int) (σ : bS) : Prop := ∀ (P2 : Int → Int → bS → Prop) (P25 : Int → Int → bS → Prop) (P33 : Int → Int → Int → bS → Prop) (P44 : Int → Int → Int → Int → bS → Prop), (∀ x1 x2 σ, bX9_mark_2 Q P2 P25 P33 P44 x1 x2 σ → P2 x1 x2 σ) → (∀ x1 x2 σ, bX9_mark_25 Q P2 P25 P33 P44 x1 x2 σ → P25 x1 x2 σ) → (∀ x1 x2 x3 σ, bX9_mark_33 Q P2 P25 P33 P44 x1 x2 x3 σ → P33 x1 x2 x3 σ) → (∀ x1 x2 x3 x4 σ, bX9_mark_44 Q P2 P25 P33 P44 x1 x2 x3 x4 σ → P44 x1 x2 x3 x4 σ) → P33 x1 x2 x3 σ
def LX9_mark_44 (Q : bS → Prop) (x1 : Int) (x2 : Int) (x3 : Int) (x4 : Int) (σ : bS) : Prop := ∀ (P2 : Int → Int → bS → Prop) (P25 : Int → Int → bS → Prop) (P33 : Int → Int → Int → bS → Prop) (P44 : Int → Int → Int → Int → bS → Prop), (∀ x1 x2 σ, bX9_mark_2 Q P2 P25 P33 P44 x1 x2 σ → P2 x1 x2 σ) → (∀ x1 x2 σ, bX9_mark_25 Q P2 P25 P33 P44 x1 x2 σ → P25 x1 x2 σ) → (∀ x1 x2 x3 σ, bX9_mark_33 Q P2 P25 P33 P44 x1 x2 x3 σ → P33 x1 x2 x3 σ) → (∀ x1 x2 x3 x4 σ, bX9_mark_44 Q P2 P25 P33 P44 x1 x2 x3 x4 σ → P44 x1 x2 x3 x4 σ) → P44 x1 x2 x3 x4 σ
theorem LX9_mark_2_in {Q : bS → Prop} {x1 : Int} {x2 : Int} {σ : bS} (h : bX9_mark_2 Q (LX9_mark_2 Q) (LX9_mark_25 Q) (LX9_mark_33 Q) (LX9_mark_44 Q) x1 x2 σ) : LX9_mark_2 Q x1 x2 σ := fun P2 P25 P33 P44 H2 H25 H33 H44 => H2 _ _ _ (mono_bX9_mark_2 (fun _ h => h) (fun _ _ _ h => h P2 P25 P33 P44 H2 H25 H33 H44) (fun _ _ _ h => h P2 P25 P33 P44 H2 H25 H33 H44) (fun _ _ _ _ h => h P2 P25 P33 P44 H2 H25 H33 H44) (fun _ _ _ _ _ h => h P2 P25 P33 P44 H2 H25 H33 H44) h)
theorem mono_LX9_mark_2 {Q Q9 : bS → Prop} {x1 : Int} {x2 : Int} {σ : bS} (hQ : ∀ σ, Q σ → Q9 σ) (h : LX9_mark_2 Q x1 x2 σ) : LX9_mark_2 Q9 x1 x2 σ := fun P2 P25 P33 P44 H2 H25 H33 H44 => h P2 P25 P33 P44 (fun _ _ _ hb => H2 _ _ _ (mono_bX9_mark_2 hQ (fun _ _ _ h => h) (fun _ _ _ h => h) (fun _ _ _ _ h => h) (fun _ _ _ _ _ h => h) hb)) (fun _ _ _ hb => H25 _ _ _ (mono_bX9_mark_25 hQ (fun _ _ _ h => h) (fun _ _ _ h => h) (fun _ _ _ _ h => h) (fun _ _ _ _ _ h => h) hb)) (fun _ _ _ _ hb => H33 _ _ _ _ (mono_bX9_mark_33 hQ (fun _ _ _ h => h) (fun _ _ _ h => h) (fun _ _ _ _ h => h) (fun _ _ _ _ _ h => h) hb)) (fun _ _ _ _ _ hb => H44 _ _ _ _ _ (mono_bX9_mark_44 hQ (fun _ _ _ h => h) (fun _ _ _ h => h) (fun _ _ _ _ h => h) (fun _ _ _ _ _ h => h) hb))
theorem LX9_mark_25_in {Q : bS → Prop} {x1 : Int} {x2 : Int} {σ : bS} (h : bX9_mark_25 Q (LX9_mark_2 Q) (LX9_mark_25 Q) (LX9_mark_33 Q) (LX9_mark_44 Q) x1 x2 σ) : LX9_mark_25 Q x1 x2 σ := fun P2 P25 P33 P44 H2 H25 H33 H44 => H25 _ _ _ (mono_bX9_mark_25 (fun _ h => h) (fun _ _ _ h => h P2 P25 P33 P44 H2 H25 H33 H44) (fun _ _ _ h => h P2 P25 P33 P44 H2 H25 H33 H44) (fun _ _ _ _ h => h P2 P25 P33 P44 H2 H25 H33 H44) (fun _ _ _ _ _ h => h P2 P25 P33 P44 H2 H25 H33 H44) h)
theorem mono_LX9_mark_25 {Q Q9 : bS → Prop} {x1 : Int} {x2 : Int} {σ : bS} (hQ : ∀ σ, Q σ → Q9 σ) (h : LX9_mark_25 Q x1 x2 σ) : LX9_mark_25 Q9 x1 x2 σ := fun P2 P25 P33 P44 H2 H25 H33 H44 => h P2 P25 P33 P44 (fun _ _ _ hb => H2 _ _ _ (mono_bX9_mark_2 hQ (fun _ _ _ h => h) (fun _ _ _ h => h) (fun _ _ _ _ h => h) (fun _ _ _ _ _ h => h) hb)) (fun _ _ _ hb => H25 _ _ _ (mono_bX9_mark_25 hQ (fun _ _ _ h => h) (fun _ _ _ h => h) (fun _ _ _ _ h => h) (fun _ _ _ _ _ h => h) hb)) (fun _ _ _ _ hb => H33 _ _ _ _ (mono_bX9_mark_33 hQ (fun _ _ _ h => h) (fun _ _ _ h => h) (fun _ _ _ _ h => h) (fun _ _ _ _ _ h => h) hb)) (fun _ _ _ _ _ hb => H44 _ _ _ _ _ (mono_bX9_mark_44 hQ (fun _ _ _ h => h) (fun _ _ _ h => h) (fun _ _ _ _ h => h) (fun _ _ _ _ _ h => h) hb))
theorem LX9_mark_33_in {Q : bS → Prop} {x1 : Int} {x2 : Int} {x3 : Int} {σ : bS} (h : bX9_mark_33 Q (LX9_mark_2 Q) (LX9_mark_25 Q) (LX9_mark_33 Q) (LX9_mark_44 Q) x1 x2 x3 σ) : LX9_mark_33 Q x1 x2 x3 σ := fun P2 P25 P33 P44 H2 H25 H33 H44 => H33 _ _ _ _ (mono_bX9_mark_33 (fun _ h => h) (fun _ _ _ h => h P2 P25 P33 P44 H2 H25 H33 H44) (fun _ _ _ h => h P2 P25 P33 P44 H2 H25 H33 H44) (fun _ _ _ _ h => h P2 P25 P33 P44 H2 H25 H33 H44) (fun _ _ _ _ _ h => h P2 P25 P33 P44 H2 H25 H33 H44) h)
theorem mono_LX9_mark_33 {Q Q9 : bS → Prop} {x1 : Int} {x2 : Int} {x3 : Int} {σ : bS} (hQ : ∀ σ, Q σ → Q9 σ) (h : LX9_mark_33 Q x1 x2 x3 σ) : LX9_mark_33 Q9 x1 x2 x3 σ := fun P2 P25 P33 P44 H2 H25 H33 H44 => h P2 P25 P33 P44 (fun _ _ _ hb => H2 _ _ _ (mono_bX9_mark_2 hQ (fun _ _ _ h => h) (fun _ _ _ h => h) (fun _ _ _ _ h => h) (fun _ _ _ _ _ h => h) hb)) (fun _ _ _ hb => H25 _ _ _ (mono_bX9_mark_25 hQ (fun _ _ _ h => h) (fun _ _ _ h => h) (fun _ _ _ _ h => h) (fun _ _ _ _ _ h => h) hb)) (fun _ _ _ _ hb => H33 _ _ _ _ (mono_bX9_mark_33 hQ (fun _ _ _ h => h) (fun _ _ _ h => h) (fun _ _ _ _ h => h) (fun _ _ _ _ _ h => h) hb)) (fun _ _ _ _ _ hb => H44 _ _ _ _ _ (mono_bX9_mark_44 hQ (fun _ _ _ h => h) (fun _ _ _ h => h) (fun _ _ _ _ h => h) (fun _ _ _ _ _ h => h) hb))
theorem LX9_mark_44_in {Q : bS → Prop} {x1 : Int} {x2 : Int} {x3 : Int} {x4 : Int} {σ : bS} (h : bX9_mark_44 Q (LX9_mark_2 Q) (LX9_mark_25 Q) (LX9_mark_33 Q) (LX9_mark_44 Q) x1 x2 x3 x4 σ) : LX9_mark_44 Q x1 x2 x3 x4 σ := fun P2 P25 P33 P44 H2 H25 H33 H44 => H44 _ _ _ _ _ (mono_bX9_mark_44 (fun _ h => h) (fun _ _ _ h => h P2 P25 P33 P44 H2 H25 H33 H44) (fun _ _ _ h => h P2 P25 P33 P44 H2 H25 H33 H44) (fun _ _ _ _ h => h P2 P25 P33 P44 H2 H25 H33 H44) (fun _ _ _ _ _ h => h P2 P25 P33 P44 H2 H25 H33 H44) h)
theorem mono_LX9_mark_44 {Q Q9 : bS → Prop} {x1 : Int} {x2 : Int} {x3 : Int} {x4 : Int} {σ : bS} (hQ : ∀ σ, Q σ → Q9 σ) (h : LX9_mark_44 Q x1 x2 x3 x4 σ) : LX9_mark_44 Q9 x1 x2 x3 x4 σ := fun P2 P25 P33 P44 H2 H25 H33 H44 => h P2 P25 P33 P44 (fun _ _ _ hb => H2 _ _ _ (mono_bX9_mark_2 hQ (fun _ _ _ h => h) (fun _ _ _ h => h) (fun _ _ _ _ h => h) (fun _ _ _ _ _ h => h) hb)) (fun _ _ _ hb => H25 _ _ _ (mono_bX9_mark_25 hQ (fun _ _ _ h => h) (fun _ _ _ h => h) (fun _ _ _ _ h => h) (fun _ _ _ _ _ h => h) hb)) (fun _ _ _ _ hb => H33 _ _ _ _ (mono_bX9_mark_33 hQ (fun _ _ _ h => h) (fun _ _ _ h => h) (fun _ _ _ _ h => h) (fun _ _ _ _ _ h => h) hb)) (fun _ _ _ _ _ hb => H44 _ _ _ _ _ (mono_bX9_mark_44 hQ (fun _ _ _ h => h) (fun _ _ _ h => h) (fun _ _ _ _ h => h) (fun _ _ _ _ _ h => h) hb))
def vX9_mark (Q : bS → Prop) (a1 : Int) (σ : bS) : Prop := eX9_mark Q (LX9_mark_2 Q) (LX9_mark_25 Q) (LX9_mark_33 Q) (LX9_mark_44 Q) a1 σ
theorem mono_vX9_mark {Q Q9 : bS → Prop} {a1 : Int} {σ : bS} (hQ : ∀ σ, Q σ → Q9 σ) : vX9_mark Q a1 σ → vX9_mark Q9 a1 σ := mono_eX9_mark hQ (fun _ _ _ h => mono_LX9_mark_2 hQ h) (fun _ _ _ h => mono_LX9_mark_25 hQ h) (fun _ _ _ _ h => mono_LX9_mark_33 hQ h) (fun _ _ _ _ _ h => mono_LX9_mark_44 hQ h)
theorem mono_X9_mark {Q Q9 : bS → Prop} {a1 : Int} {σ : bS} (hQ : ∀ σ, Q σ → Q9 σ) : vX9_mark Q a1 σ → vX9_mark Q9 a1 σ := mono_vX9_mark hQ
theorem mX9_mark (l : Launch) (G : bG) (σ : bS) (a1 : Int) (ha1 : bR a1) {Q : bS → Prop} (h : vX9_mark Q a1 σ) : bk_Mv l yX9_mark (Cond.code yX9_mark cX9_mark 5 (none) :: bT) { frames := 0, cells := 0, slots := 0, locals := 0 } G σ [.ref (G.2.2 10), .int (bI a1)] Q := by
  refine bk_Mv.of (cc := cX9_mark) (maxL := 5) (ret := none) (by decide) rfl (Nat.le_of_ble_eq_true rfl) ?_
  intro p e s m args below meth c S hr hlk hσ
  let K2 : Int → Int → bS → Prop := fun x1 x2 τ => bR x1 → bR x2 → bRG τ → bA p l e { frames := 0, cells := 0, slots := 0, locals := 0 } s m args below meth c 0 0 (bQv below args s G σ Q) G (va_A (bk_w G σ) s.heap.size) 5 2 [(0, .ref (G.2.2 10)), (1, .int (bI x1)), (2, .int (bI x2))] [] τ
  let K25 : Int → Int → bS → Prop := fun x1 x2 τ => bR x1 → bR x2 → bRG τ → bA p l e { frames := 0, cells := 0, slots := 0, locals := 0 } s m args below meth c 0 0 (bQv below args s G σ Q) G (va_A (bk_w G σ) s.heap.size) 5 25 [(0, .ref (G.2.2 10)), (1, .int (bI x1)), (2, .int (bI x2))] [] τ
  let K33 : Int → Int → Int → bS → Prop := fun x1 x2 x3 τ => bR x1 → bR x2 → bR x3 → bRG τ → bA p l e { frames := 0, cells := 0, slots := 0, locals := 0 } s m args below meth c 0 0 (bQv below args s G σ Q) G (va_A (bk_w G σ) s.heap.size) 5 33 [(0, .ref (G.2.2 10)), (1, .int (bI x1)), (2, .int (bI x2)), (3, .int (bI x3))] [] τ
  let K44 : Int → Int → Int → Int → bS → Prop := fun x1 x2 x3 x4 τ => bR x1 → bR x2 → bR x3 → bR x4 → bRG τ → bA p l e { frames := 0, cells := 0, slots := 0, locals := 0 } s m args below meth c 0 0 (bQv below args s G σ Q) G (va_A (bk_w G σ) s.heap.size) 5 44 [(0, .ref (G.2.2 10)), (1, .int (bI x1)), (2, .int (bI x2)), (3, .int (bI x3)), (4, .int (bI x4))] [] τ
  have C2 : ∀ x1 x2 τ, bX9_mark_2 Q K2 K25 K33 K44 x1 x2 τ → K2 x1 x2 τ := fun x1 x2 τ hb hx1 hx2 hτ => wX9_mark_2 S hr hlk (fun x1 x2 σ hx1 hx2 hσ h => h hx1 hx2 hσ) (fun x1 x2 σ hx1 hx2 hσ h => h hx1 hx2 hσ) (fun x1 x2 x3 σ hx1 hx2 hx3 hσ h => h hx1 hx2 hx3 hσ) (fun x1 x2 x3 x4 σ hx1 hx2 hx3 hx4 hσ h => h hx1 hx2 hx3 hx4 hσ) hx1 hx2 hτ hb
  have C25 : ∀ x1 x2 τ, bX9_mark_25 Q K2 K25 K33 K44 x1 x2 τ → K25 x1 x2 τ := fun x1 x2 τ hb hx1 hx2 hτ => wX9_mark_25 S hr hlk (fun x1 x2 σ hx1 hx2 hσ h => h hx1 hx2 hσ) (fun x1 x2 σ hx1 hx2 hσ h => h hx1 hx2 hσ) (fun x1 x2 x3 σ hx1 hx2 hx3 hσ h => h hx1 hx2 hx3 hσ) (fun x1 x2 x3 x4 σ hx1 hx2 hx3 hx4 hσ h => h hx1 hx2 hx3 hx4 hσ) hx1 hx2 hτ hb
  have C33 : ∀ x1 x2 x3 τ, bX9_mark_33 Q K2 K25 K33 K44 x1 x2 x3 τ → K33 x1 x2 x3 τ := fun x1 x2 x3 τ hb hx1 hx2 hx3 hτ => wX9_mark_33 S hr hlk (fun x1 x2 σ hx1 hx2 hσ h => h hx1 hx2 hσ) (fun x1 x2 σ hx1 hx2 hσ h => h hx1 hx2 hσ) (fun x1 x2 x3 σ hx1 hx2 hx3 hσ h => h hx1 hx2 hx3 hσ) (fun x1 x2 x3 x4 σ hx1 hx2 hx3 hx4 hσ h => h hx1 hx2 hx3 hx4 hσ) hx1 hx2 hx3 hτ hb
  have C44 : ∀ x1 x2 x3 x4 τ, bX9_mark_44 Q K2 K25 K33 K44 x1 x2 x3 x4 τ → K44 x1 x2 x3 x4 τ := fun x1 x2 x3 x4 τ hb hx1 hx2 hx3 hx4 hτ => wX9_mark_44 S hr hlk (fun x1 x2 σ hx1 hx2 hσ h => h hx1 hx2 hσ) (fun x1 x2 σ hx1 hx2 hσ h => h hx1 hx2 hσ) (fun x1 x2 x3 σ hx1 hx2 hx3 hσ h => h hx1 hx2 hx3 hσ) (fun x1 x2 x3 x4 σ hx1 hx2 hx3 hx4 hσ h => h hx1 hx2 hx3 hx4 hσ) hx1 hx2 hx3 hx4 hτ hb
  exact wX9_mark_e S hr hlk (fun x1 x2 σ hx1 hx2 hσ h => h K2 K25 K33 K44 C2 C25 C33 C44 hx1 hx2 hσ) (fun x1 x2 σ hx1 hx2 hσ h => h K2 K25 K33 K44 C2 C25 C33 C44 hx1 hx2 hσ) (fun x1 x2 x3 σ hx1 hx2 hx3 hσ h => h K2 K25 K33 K44 C2 C25 C33 C44 hx1 hx2 hx3 hσ) (fun x1 x2 x3 x4 σ hx1 hx2 hx3 hx4 hσ h => h K2 K25 K33 K44 C2 C25 C33 C44 hx1 hx2 hx3 hx4 hσ) ha1 hσ h
def vX9_leads (Q : Int → bS → Prop) (a1 : Int) (a2 : Int) (σ : bS) : Prop := (∀ σ1 : bS, σ1 = bup σ 10 0 0 → (vX9_isRoutine (fun z3 σ4 => ((z3 = 0 → (Q (-2) σ4)) ∧ (¬ z3 = 0 → (vX9_isRoutine (fun z6 σ7 => ((¬ z6 = 0 → (vX9_mark (fun σ10 => ((0 ≤ a2 ∧ a2 < 30) ∧ (((σ10 12 a2) = 0 → (Q 0 σ10)) ∧ (¬ (σ10 12 a2) = 0 → (Q 1 σ10))))) a1 σ7)) ∧ (z6 = 0 → (Q (-2) σ7)))) a2 σ4)))) a1 σ1))
theorem mono_vX9_leads {Q Q9 : Int → bS → Prop} {a1 : Int} {a2 : Int} {σ : bS} (hQ : ∀ r σ, Q r σ → Q9 r σ) : vX9_leads Q a1 a2 σ → vX9_leads Q9 a1 a2 σ := (bm_all fun _ => bm_imp (mono_X9_isRoutine (fun _ _ => (bm_and (bm_imp (hQ _ _)) (bm_imp (mono_X9_isRoutine (fun _ _ => (bm_and (bm_imp (mono_X9_mark (fun _ => (bm_r (bm_and (bm_imp (hQ _ _)) (bm_imp (hQ _ _))))))) (bm_imp (hQ _ _))))))))))
theorem wX9_leads_e {p : Program} {l : Launch} {e : Env} {s : State} {m : MethodId} {args : Array Value} {below : List Frame} {meth : Method} {c : Code} {G : bG} {σ0 : bS} {Q : Int → bS → Prop} {a1 : Int} {a2 : Int} {σ : bS} (S : CallFix p m c cX9_leads 3 s args bT "BankLinkerModel") (hr : meth.sig.returnType = some .int) (hlk : meth.locks = false) (ha1 : bR a1) (ha2 : bR a2) (hσ : bRG σ) (h : vX9_leads Q a1 a2 σ) : bA p l e { frames := 2, cells := 0, slots := 0, locals := 46 } s m args below meth c 0 0 (bQi below args s G σ0 Q) G (va_A (bk_w G σ0) s.heap.size) 3 0 [(0, .ref (G.2.2 10)), (1, .int (bI a1)), (2, .int (bI a2))] [] σ := by
  unfold vX9_leads at h
  refine br_aload_n S 0 dX9_leads_0 rfl rfl ?_
  refine br_iconst S dX9_leads_1 ?_
  obtain ⟨σ1, e2⟩ : ∃ τ, τ = bup σ 10 0 0 := ⟨_, rfl⟩
  replace h := h σ1 e2
  have hσ1 : bRG σ1 := by rw [e2]; exact bup_rg hσ (by decide)
  refine br_put (f := 0) (N := 37) (C := RX9) (T := TX9) S tyX9 tyX9_ok nmX9 inT_X9 wd_3_234 (by decide) rfl (pf_10_0 _ _ _) rfl (by decide) (Nat.le_of_ble_eq_true rfl) rfl rfl rfl rfl dX9_leads_2 ?_
  refine bA.to rfl rfl e2.symm ?_
  refine br_aload_n S 0 dX9_leads_5 rfl rfl ?_
  refine br_iload_n S 1 dX9_leads_6 rfl rfl ?_
  refine br_callV (As := [.int (bI a1)]) (rest := []) S (cwV_X9_isRoutine S.2.2.2.2 wd_4_123 ⟨by decide, by decide⟩) (mX9_isRoutine l G σ1 a1 ha1 h) (by decide) rfl rfl rfl hσ1 rfl rfl (Nat.le_of_ble_eq_true rfl) ⟨by decide, by decide⟩ dX9_leads_7 (fun z3 σ4 hz3 hσ4 h => ?_)
  refine br_if_eq S 21 hz3 dX9_leads_10 (by decide) (fun c5 => ?_) (fun c5 => ?_)
  · replace h := h.1 c5
    refine br_bipush S dX9_leads_21 rfl ?_
    exact br_iret S hr hlk (by decide) hσ4 dX9_leads_23 h
  · replace h := h.2 c5
    refine br_aload_n S 0 dX9_leads_13 rfl rfl ?_
    refine br_iload_n S 2 dX9_leads_14 rfl rfl ?_
    refine br_callV (As := [.int (bI a2)]) (rest := []) S (cwV_X9_isRoutine S.2.2.2.2 wd_4_123 ⟨by decide, by decide⟩) (mX9_isRoutine l G σ4 a2 ha2 h) (by decide) rfl rfl rfl hσ4 rfl rfl (Nat.le_of_ble_eq_true rfl) ⟨by decide, by decide⟩ dX9_leads_15 (fun z6 σ7 hz6 hσ7 h => ?_)
    refine br_if_ne S 24 hz6 dX9_leads_18 (by decide) (fun c8 => ?_) (fun c8 => ?_)
    · replace h := h.1 c8
      refine br_aload_n S 0 dX9_leads_24 rfl rfl ?_
      refine br_iload_n S 1 dX9_leads_25 rfl rfl ?_
      refine br_callVv (As := [.int (bI a1)]) (rest := []) S (cwV_X9_mark S.2.2.2.2 wd_4_149 ⟨by decide, by decide⟩) (mX9_mark l G σ7 a1 ha1 h) (by decide) rfl rfl rfl hσ7 rfl rfl (Nat.le_of_ble_eq_true rfl) ⟨by decide, by decide⟩ dX9_leads_26 (fun σ10 hσ10 h => ?_)
      refine br_aload_n S 0 dX9_leads_29 rfl rfl ?_
      refine br_get (f := 25) (N := 37) (C := RX9) (T := TX9) S inT_X9 wd_4_19 (by decide) rfl rfl (by decide) rfl dX9_leads_30 ?_
      refine br_iload_n S 2 dX9_leads_33 rfl rfl ?_
      obtain ⟨g11, h⟩ := h
      refine br_zald S g11.1 g11.2 dX9_leads_34 ?_
      refine br_if_eq S 42 (hσ10 12 a2) dX9_leads_35 (by decide) (fun c12 => ?_) (fun c12 => ?_)
      · replace h := h.1 c12
        refine br_iconst S dX9_leads_42 ?_
        exact br_iret S hr hlk (by decide) hσ10 dX9_leads_43 h
      · replace h := h.2 c12
        refine br_iconst S dX9_leads_38 ?_
        refine br_goto S 43 dX9_leads_39 (by decide) ?_
        exact br_iret S hr hlk (by decide) hσ10 dX9_leads_43 h
    · replace h := h.2 c8
      refine br_bipush S dX9_leads_21 rfl ?_
      exact br_iret S hr hlk (by decide) hσ7 dX9_leads_23 h
theorem mono_X9_leads {Q Q9 : Int → bS → Prop} {a1 : Int} {a2 : Int} {σ : bS} (hQ : ∀ r σ, Q r σ → Q9 r σ) : vX9_leads Q a1 a2 σ → vX9_leads Q9 a1 a2 σ := mono_vX9_leads hQ
theorem mX9_leads (l : Launch) (G : bG) (σ : bS) (a1 : Int) (ha1 : bR a1) (a2 : Int) (ha2 : bR a2) {Q : Int → bS → Prop} (h : vX9_leads Q a1 a2 σ) : bk_Mi l yX9_leads (Cond.code yX9_leads cX9_leads 3 (some .int) :: bT) { frames := 2, cells := 0, slots := 0, locals := 46 } G σ [.ref (G.2.2 10), .int (bI a1), .int (bI a2)] Q := by
  refine bk_Mi.of (cc := cX9_leads) (maxL := 3) (ret := some .int) (by decide) rfl (Nat.le_of_ble_eq_true rfl) ?_
  intro p e s m args below meth c S hr hlk hσ
  exact wX9_leads_e S hr hlk ha1 ha2 hσ h
def vX9_isCommon (Q : Int → bS → Prop) (a1 : Int) (σ : bS) : Prop := ((0 ≤ a1 ∧ a1 < 30) ∧ ((0 ≤ (σ 50 a1) ∧ (σ 50 a1) < 12) ∧ ((¬ (σ 49 (σ 50 a1)) = 0 → (Q 0 σ)) ∧ ((σ 49 (σ 50 a1)) = 0 → (Q 1 σ)))))
theorem mono_vX9_isCommon {Q Q9 : Int → bS → Prop} {a1 : Int} {σ : bS} (hQ : ∀ r σ, Q r σ → Q9 r σ) : vX9_isCommon Q a1 σ → vX9_isCommon Q9 a1 σ := (bm_r (bm_r (bm_and (bm_imp (hQ _ _)) (bm_imp (hQ _ _)))))
theorem wX9_isCommon_e {p : Program} {l : Launch} {e : Env} {s : State} {m : MethodId} {args : Array Value} {below : List Frame} {meth : Method} {c : Code} {G : bG} {σ0 : bS} {Q : Int → bS → Prop} {a1 : Int} {σ : bS} (S : CallFix p m c cX9_isCommon 2 s args bT "BankLinkerModel") (hr : meth.sig.returnType = some .boolean) (hlk : meth.locks = false) (ha1 : bR a1) (hσ : bRG σ) (h : vX9_isCommon Q a1 σ) : bA p l e { frames := 0, cells := 0, slots := 0, locals := 0 } s m args below meth c 0 0 (bQi below args s G σ0 Q) G (va_A (bk_w G σ0) s.heap.size) 2 0 [(0, .ref (G.2.2 10)), (1, .int (bI a1))] [] σ := by
  unfold vX9_isCommon at h
  refine br_aload_n S 0 dX9_isCommon_0 rfl rfl ?_
  refine br_get (f := 2) (N := 37) (C := RX9) (T := TX9) S inT_X9 wd_3_236 (by decide) rfl rfl (by decide) rfl dX9_isCommon_1 ?_
  refine br_aload_n S 0 dX9_isCommon_4 rfl rfl ?_
  refine br_get (f := 4) (N := 37) (C := RX9) (T := TX9) S inT_X9 wd_3_238 (by decide) rfl rfl (by decide) rfl dX9_isCommon_5 ?_
  refine br_iload_n S 1 dX9_isCommon_8 rfl rfl ?_
  obtain ⟨g1, h⟩ := h
  refine br_iald (n := 30) S ⟨by decide, by decide, fun _ => rfl⟩ g1.1 g1.2 dX9_isCommon_9 ?_
  obtain ⟨g2, h⟩ := h
  refine br_iald (n := 12) S ⟨by decide, by decide, fun _ => rfl⟩ g2.1 g2.2 dX9_isCommon_10 ?_
  refine br_if_ne S 18 (hσ 49 (σ 50 a1)) dX9_isCommon_11 (by decide) (fun c3 => ?_) (fun c3 => ?_)
  · replace h := h.1 c3
    refine br_iconst S dX9_isCommon_18 ?_
    exact br_zret S hr hlk (by decide) hσ dX9_isCommon_19 h
  · replace h := h.2 c3
    refine br_iconst S dX9_isCommon_14 ?_
    refine br_goto S 19 dX9_isCommon_15 (by decide) ?_
    exact br_zret S hr hlk (by decide) hσ dX9_isCommon_19 h
theorem mono_X9_isCommon {Q Q9 : Int → bS → Prop} {a1 : Int} {σ : bS} (hQ : ∀ r σ, Q r σ → Q9 r σ) : vX9_isCommon Q a1 σ → vX9_isCommon Q9 a1 σ := mono_vX9_isCommon hQ
theorem mX9_isCommon (l : Launch) (G : bG) (σ : bS) (a1 : Int) (ha1 : bR a1) {Q : Int → bS → Prop} (h : vX9_isCommon Q a1 σ) : bk_Mi l yX9_isCommon (Cond.code yX9_isCommon cX9_isCommon 2 (some .boolean) :: bT) { frames := 0, cells := 0, slots := 0, locals := 0 } G σ [.ref (G.2.2 10), .int (bI a1)] Q := by
  refine bk_Mi.of (cc := cX9_isCommon) (maxL := 2) (ret := some .boolean) (by decide) rfl (Nat.le_of_ble_eq_true rfl) ?_
  intro p e s m args below meth c S hr hlk hσ
  exact wX9_isCommon_e S hr hlk ha1 hσ h
def vX9_isFar (Q : Int → bS → Prop) (a1 : Int) (a2 : Int) (σ : bS) : Prop := (vX9_isCommon (fun z1 σ2 => ((¬ z1 = 0 → (Q 0 σ2)) ∧ (z1 = 0 → (vX9_isCommon (fun z4 σ5 => ((¬ z4 = 0 → (Q 1 σ5)) ∧ (z4 = 0 → ((0 ≤ a1 ∧ a1 < 30) ∧ ((0 ≤ (σ5 50 a1) ∧ (σ5 50 a1) < 12) ∧ ((0 ≤ a2 ∧ a2 < 30) ∧ ((0 ≤ (σ5 50 a2) ∧ (σ5 50 a2) < 12) ∧ (((σ5 56 (σ5 50 a1)) = (σ5 56 (σ5 50 a2)) → (Q 0 σ5)) ∧ (¬ (σ5 56 (σ5 50 a1)) = (σ5 56 (σ5 50 a2)) → (Q 1 σ5)))))))))) a1 σ2)))) a2 σ)
theorem mono_vX9_isFar {Q Q9 : Int → bS → Prop} {a1 : Int} {a2 : Int} {σ : bS} (hQ : ∀ r σ, Q r σ → Q9 r σ) : vX9_isFar Q a1 a2 σ → vX9_isFar Q9 a1 a2 σ := (mono_X9_isCommon (fun _ _ => (bm_and (bm_imp (hQ _ _)) (bm_imp (mono_X9_isCommon (fun _ _ => (bm_and (bm_imp (hQ _ _)) (bm_imp (bm_r (bm_r (bm_r (bm_r (bm_and (bm_imp (hQ _ _)) (bm_imp (hQ _ _)))))))))))))))
theorem wX9_isFar_e {p : Program} {l : Launch} {e : Env} {s : State} {m : MethodId} {args : Array Value} {below : List Frame} {meth : Method} {c : Code} {G : bG} {σ0 : bS} {Q : Int → bS → Prop} {a1 : Int} {a2 : Int} {σ : bS} (S : CallFix p m c cX9_isFar 3 s args bT "BankLinkerModel") (hr : meth.sig.returnType = some .boolean) (hlk : meth.locks = false) (ha1 : bR a1) (ha2 : bR a2) (hσ : bRG σ) (h : vX9_isFar Q a1 a2 σ) : bA p l e { frames := 1, cells := 0, slots := 0, locals := 21 } s m args below meth c 0 0 (bQi below args s G σ0 Q) G (va_A (bk_w G σ0) s.heap.size) 3 0 [(0, .ref (G.2.2 10)), (1, .int (bI a1)), (2, .int (bI a2))] [] σ := by
  unfold vX9_isFar at h
  refine br_aload_n S 0 dX9_isFar_0 rfl rfl ?_
  refine br_iload_n S 2 dX9_isFar_1 rfl rfl ?_
  refine br_callV (As := [.int (bI a2)]) (rest := []) S (cwV_X9_isCommon S.2.2.2.2 wd_4_192 ⟨by decide, by decide⟩) (mX9_isCommon l G σ a2 ha2 h) (by decide) rfl rfl rfl hσ rfl rfl (Nat.le_of_ble_eq_true rfl) ⟨by decide, by decide⟩ dX9_isFar_2 (fun z1 σ2 hz1 hσ2 h => ?_)
  refine br_if_ne S 45 hz1 dX9_isFar_5 (by decide) (fun c3 => ?_) (fun c3 => ?_)
  · replace h := h.1 c3
    refine br_iconst S dX9_isFar_45 ?_
    exact br_zret S hr hlk (by decide) hσ2 dX9_isFar_46 h
  · replace h := h.2 c3
    refine br_aload_n S 0 dX9_isFar_8 rfl rfl ?_
    refine br_iload_n S 1 dX9_isFar_9 rfl rfl ?_
    refine br_callV (As := [.int (bI a1)]) (rest := []) S (cwV_X9_isCommon S.2.2.2.2 wd_4_192 ⟨by decide, by decide⟩) (mX9_isCommon l G σ2 a1 ha1 h) (by decide) rfl rfl rfl hσ2 rfl rfl (Nat.le_of_ble_eq_true rfl) ⟨by decide, by decide⟩ dX9_isFar_10 (fun z4 σ5 hz4 hσ5 h => ?_)
    refine br_if_ne S 41 hz4 dX9_isFar_13 (by decide) (fun c6 => ?_) (fun c6 => ?_)
    · replace h := h.1 c6
      refine br_iconst S dX9_isFar_41 ?_
      refine br_goto S 46 dX9_isFar_42 (by decide) ?_
      exact br_zret S hr hlk (by decide) hσ5 dX9_isFar_46 h
    · replace h := h.2 c6
      refine br_aload_n S 0 dX9_isFar_16 rfl rfl ?_
      refine br_get (f := 11) (N := 37) (C := RX9) (T := TX9) S inT_X9 wd_4_5 (by decide) rfl rfl (by decide) rfl dX9_isFar_17 ?_
      refine br_aload_n S 0 dX9_isFar_20 rfl rfl ?_
      refine br_get (f := 4) (N := 37) (C := RX9) (T := TX9) S inT_X9 wd_3_238 (by decide) rfl rfl (by decide) rfl dX9_isFar_21 ?_
      refine br_iload_n S 1 dX9_isFar_24 rfl rfl ?_
      obtain ⟨g7, h⟩ := h
      refine br_iald (n := 30) S ⟨by decide, by decide, fun _ => rfl⟩ g7.1 g7.2 dX9_isFar_25 ?_
      obtain ⟨g8, h⟩ := h
      refine br_iald (n := 12) S ⟨by decide, by decide, fun _ => rfl⟩ g8.1 g8.2 dX9_isFar_26 ?_
      refine br_aload_n S 0 dX9_isFar_27 rfl rfl ?_
      refine br_get (f := 11) (N := 37) (C := RX9) (T := TX9) S inT_X9 wd_4_5 (by decide) rfl rfl (by decide) rfl dX9_isFar_28 ?_
      refine br_aload_n S 0 dX9_isFar_31 rfl rfl ?_
      refine br_get (f := 4) (N := 37) (C := RX9) (T := TX9) S inT_X9 wd_3_238 (by decide) rfl rfl (by decide) rfl dX9_isFar_32 ?_
      refine br_iload_n S 2 dX9_isFar_35 rfl rfl ?_
      obtain ⟨g9, h⟩ := h
      refine br_iald (n := 30) S ⟨by decide, by decide, fun _ => rfl⟩ g9.1 g9.2 dX9_isFar_36 ?_
      obtain ⟨g10, h⟩ := h
      refine br_iald (n := 12) S ⟨by decide, by decide, fun _ => rfl⟩ g10.1 g10.2 dX9_isFar_37 ?_
      refine br_ic_eq S 45 (hσ5 56 (σ5 50 a1)) (hσ5 56 (σ5 50 a2)) dX9_isFar_38 (by decide) (fun c11 => ?_) (fun c11 => ?_)
      · replace h := h.1 c11
        refine br_iconst S dX9_isFar_45 ?_
        exact br_zret S hr hlk (by decide) hσ5 dX9_isFar_46 h
      · replace h := h.2 c11
        refine br_iconst S dX9_isFar_41 ?_
        refine br_goto S 46 dX9_isFar_42 (by decide) ?_
        exact br_zret S hr hlk (by decide) hσ5 dX9_isFar_46 h
theorem mono_X9_isFar {Q Q9 : Int → bS → Prop} {a1 : Int} {a2 : Int} {σ : bS} (hQ : ∀ r σ, Q r σ → Q9 r σ) : vX9_isFar Q a1 a2 σ → vX9_isFar Q9 a1 a2 σ := mono_vX9_isFar hQ
theorem mX9_isFar (l : Launch) (G : bG) (σ : bS) (a1 : Int) (ha1 : bR a1) (a2 : Int) (ha2 : bR a2) {Q : Int → bS → Prop} (h : vX9_isFar Q a1 a2 σ) : bk_Mi l yX9_isFar (Cond.code yX9_isFar cX9_isFar 3 (some .boolean) :: bT) { frames := 1, cells := 0, slots := 0, locals := 21 } G σ [.ref (G.2.2 10), .int (bI a1), .int (bI a2)] Q := by
  refine bk_Mi.of (cc := cX9_isFar) (maxL := 3) (ret := some .boolean) (by decide) rfl (Nat.le_of_ble_eq_true rfl) ?_
  intro p e s m args below meth c S hr hlk hσ
  exact wX9_isFar_e S hr hlk ha1 ha2 hσ h
def vX9_told (Q : Int → bS → Prop) (a1 : Int) (a2 : Int) (a3 : Int) (σ : bS) : Prop := (∀ σ1 : bS, σ1 = bup σ 10 22 a1 → (∀ σ3 : bS, σ3 = bup σ1 10 23 a2 → (∀ σ5 : bS, σ5 = bup σ3 10 24 a3 → (Q 0 σ5))))
theorem mono_vX9_told {Q Q9 : Int → bS → Prop} {a1 : Int} {a2 : Int} {a3 : Int} {σ : bS} (hQ : ∀ r σ, Q r σ → Q9 r σ) : vX9_told Q a1 a2 a3 σ → vX9_told Q9 a1 a2 a3 σ := (bm_all fun _ => bm_imp (bm_all fun _ => bm_imp (bm_all fun _ => bm_imp (hQ _ _))))
theorem wX9_told_e {p : Program} {l : Launch} {e : Env} {s : State} {m : MethodId} {args : Array Value} {below : List Frame} {meth : Method} {c : Code} {G : bG} {σ0 : bS} {Q : Int → bS → Prop} {a1 : Int} {a2 : Int} {a3 : Int} {σ : bS} (S : CallFix p m c cX9_told 4 s args bT "BankLinkerModel") (hr : meth.sig.returnType = some .boolean) (hlk : meth.locks = false) (ha1 : bR a1) (ha2 : bR a2) (ha3 : bR a3) (hσ : bRG σ) (h : vX9_told Q a1 a2 a3 σ) : bA p l e { frames := 0, cells := 0, slots := 0, locals := 0 } s m args below meth c 0 0 (bQi below args s G σ0 Q) G (va_A (bk_w G σ0) s.heap.size) 4 0 [(0, .ref (G.2.2 10)), (1, .int (bI a1)), (2, .int (bI a2)), (3, .int (bI a3))] [] σ := by
  unfold vX9_told at h
  refine br_aload_n S 0 dX9_told_0 rfl rfl ?_
  refine br_iload_n S 1 dX9_told_1 rfl rfl ?_
  obtain ⟨σ1, e2⟩ : ∃ τ, τ = bup σ 10 22 a1 := ⟨_, rfl⟩
  replace h := h σ1 e2
  have hσ1 : bRG σ1 := by rw [e2]; exact bup_rg hσ ha1
  refine br_put (f := 22) (N := 37) (C := RX9) (T := TX9) S tyX9 tyX9_ok nmX9 inT_X9 wd_4_16 (by decide) rfl (pf_10_22 _ _ _) rfl (by decide) (Nat.le_of_ble_eq_true rfl) rfl rfl rfl rfl dX9_told_2 ?_
  refine bA.to rfl rfl e2.symm ?_
  refine br_aload_n S 0 dX9_told_5 rfl rfl ?_
  refine br_iload_n S 2 dX9_told_6 rfl rfl ?_
  obtain ⟨σ3, e4⟩ : ∃ τ, τ = bup σ1 10 23 a2 := ⟨_, rfl⟩
  replace h := h σ3 e4
  have hσ3 : bRG σ3 := by rw [e4]; exact bup_rg hσ1 ha2
  refine br_put (f := 23) (N := 37) (C := RX9) (T := TX9) S tyX9 tyX9_ok nmX9 inT_X9 wd_4_17 (by decide) rfl (pf_10_23 _ _ _) rfl (by decide) (Nat.le_of_ble_eq_true rfl) rfl rfl rfl rfl dX9_told_7 ?_
  refine bA.to rfl rfl e4.symm ?_
  refine br_aload_n S 0 dX9_told_10 rfl rfl ?_
  refine br_iload_n S 3 dX9_told_11 rfl rfl ?_
  obtain ⟨σ5, e6⟩ : ∃ τ, τ = bup σ3 10 24 a3 := ⟨_, rfl⟩
  replace h := h σ5 e6
  have hσ5 : bRG σ5 := by rw [e6]; exact bup_rg hσ3 ha3
  refine br_put (f := 24) (N := 37) (C := RX9) (T := TX9) S tyX9 tyX9_ok nmX9 inT_X9 wd_4_18 (by decide) rfl (pf_10_24 _ _ _) rfl (by decide) (Nat.le_of_ble_eq_true rfl) rfl rfl rfl rfl dX9_told_12 ?_
  refine bA.to rfl rfl e6.symm ?_
  refine br_iconst S dX9_told_15 ?_
  exact br_zret S hr hlk (by decide) hσ5 dX9_told_16 h
theorem mono_X9_told {Q Q9 : Int → bS → Prop} {a1 : Int} {a2 : Int} {a3 : Int} {σ : bS} (hQ : ∀ r σ, Q r σ → Q9 r σ) : vX9_told Q a1 a2 a3 σ → vX9_told Q9 a1 a2 a3 σ := mono_vX9_told hQ
theorem mX9_told (l : Launch) (G : bG) (σ : bS) (a1 : Int) (ha1 : bR a1) (a2 : Int) (ha2 : bR a2) (a3 : Int) (ha3 : bR a3) {Q : Int → bS → Prop} (h : vX9_told Q a1 a2 a3 σ) : bk_Mi l yX9_told (Cond.code yX9_told cX9_told 4 (some .boolean) :: bT) { frames := 0, cells := 0, slots := 0, locals := 0 } G σ [.ref (G.2.2 10), .int (bI a1), .int (bI a2), .int (bI a3)] Q := by
  refine bk_Mi.of (cc := cX9_told) (maxL := 4) (ret := some .boolean) (by decide) rfl (Nat.le_of_ble_eq_true rfl) ?_
  intro p e s m args below meth c S hr hlk hσ
  exact wX9_told_e S hr hlk ha1 ha2 ha3 hσ h
def vX9_fault (Q : Int → bS → Prop) (a1 : Int) (σ : bS) : Prop := (∀ σ1 : bS, σ1 = bup σ 10 0 0 → ((¬ a1 = 0 → ((¬ a1 = 1 → ((¬ a1 = 2 → (Q (-2) σ1)) ∧ (a1 = 2 → (Q (σ1 10 24) σ1)))) ∧ (a1 = 1 → (Q (σ1 10 23) σ1)))) ∧ (a1 = 0 → (Q (σ1 10 22) σ1))))
theorem mono_vX9_fault {Q Q9 : Int → bS → Prop} {a1 : Int} {σ : bS} (hQ : ∀ r σ, Q r σ → Q9 r σ) : vX9_fault Q a1 σ → vX9_fault Q9 a1 σ := (bm_all fun _ => bm_imp (bm_and (bm_imp (bm_and (bm_imp (bm_and (bm_imp (hQ _ _)) (bm_imp (hQ _ _)))) (bm_imp (hQ _ _)))) (bm_imp (hQ _ _))))
theorem wX9_fault_e {p : Program} {l : Launch} {e : Env} {s : State} {m : MethodId} {args : Array Value} {below : List Frame} {meth : Method} {c : Code} {G : bG} {σ0 : bS} {Q : Int → bS → Prop} {a1 : Int} {σ : bS} (S : CallFix p m c cX9_fault 2 s args bT "BankLinkerModel") (hr : meth.sig.returnType = some .int) (hlk : meth.locks = false) (ha1 : bR a1) (hσ : bRG σ) (h : vX9_fault Q a1 σ) : bA p l e { frames := 0, cells := 0, slots := 0, locals := 0 } s m args below meth c 0 0 (bQi below args s G σ0 Q) G (va_A (bk_w G σ0) s.heap.size) 2 0 [(0, .ref (G.2.2 10)), (1, .int (bI a1))] [] σ := by
  unfold vX9_fault at h
  refine br_aload_n S 0 dX9_fault_0 rfl rfl ?_
  refine br_iconst S dX9_fault_1 ?_
  obtain ⟨σ1, e2⟩ : ∃ τ, τ = bup σ 10 0 0 := ⟨_, rfl⟩
  replace h := h σ1 e2
  have hσ1 : bRG σ1 := by rw [e2]; exact bup_rg hσ (by decide)
  refine br_put (f := 0) (N := 37) (C := RX9) (T := TX9) S tyX9 tyX9_ok nmX9 inT_X9 wd_3_234 (by decide) rfl (pf_10_0 _ _ _) rfl (by decide) (Nat.le_of_ble_eq_true rfl) rfl rfl rfl rfl dX9_fault_2 ?_
  refine bA.to rfl rfl e2.symm ?_
  refine br_iload_n S 1 dX9_fault_5 rfl rfl ?_
  refine br_if_ne S 16 ha1 dX9_fault_6 (by decide) (fun c3 => ?_) (fun c3 => ?_)
  · replace h := h.1 c3
    refine br_iload_n S 1 dX9_fault_16 rfl rfl ?_
    refine br_iconst S dX9_fault_17 ?_
    refine br_ic_ne S 28 ha1 (by decide) dX9_fault_18 (by decide) (fun c4 => ?_) (fun c4 => ?_)
    · replace h := h.1 c4
      refine br_iload_n S 1 dX9_fault_28 rfl rfl ?_
      refine br_iconst S dX9_fault_29 ?_
      refine br_ic_ne S 40 ha1 (by decide) dX9_fault_30 (by decide) (fun c5 => ?_) (fun c5 => ?_)
      · replace h := h.1 c5
        refine br_bipush S dX9_fault_40 rfl ?_
        exact br_iret S hr hlk (by decide) hσ1 dX9_fault_42 h
      · replace h := h.2 c5
        refine br_aload_n S 0 dX9_fault_33 rfl rfl ?_
        refine br_get (f := 24) (N := 37) (C := RX9) (T := TX9) S inT_X9 wd_4_18 (by decide) rfl rfl (by decide) rfl dX9_fault_34 ?_
        refine br_goto S 42 dX9_fault_37 (by decide) ?_
        exact br_iret S hr hlk (hσ1 10 24) hσ1 dX9_fault_42 h
    · replace h := h.2 c4
      refine br_aload_n S 0 dX9_fault_21 rfl rfl ?_
      refine br_get (f := 23) (N := 37) (C := RX9) (T := TX9) S inT_X9 wd_4_17 (by decide) rfl rfl (by decide) rfl dX9_fault_22 ?_
      refine br_goto S 42 dX9_fault_25 (by decide) ?_
      exact br_iret S hr hlk (hσ1 10 23) hσ1 dX9_fault_42 h
  · replace h := h.2 c3
    refine br_aload_n S 0 dX9_fault_9 rfl rfl ?_
    refine br_get (f := 22) (N := 37) (C := RX9) (T := TX9) S inT_X9 wd_4_16 (by decide) rfl rfl (by decide) rfl dX9_fault_10 ?_
    refine br_goto S 42 dX9_fault_13 (by decide) ?_
    exact br_iret S hr hlk (hσ1 10 22) hσ1 dX9_fault_42 h
theorem mono_X9_fault {Q Q9 : Int → bS → Prop} {a1 : Int} {σ : bS} (hQ : ∀ r σ, Q r σ → Q9 r σ) : vX9_fault Q a1 σ → vX9_fault Q9 a1 σ := mono_vX9_fault hQ
theorem mX9_fault (l : Launch) (G : bG) (σ : bS) (a1 : Int) (ha1 : bR a1) {Q : Int → bS → Prop} (h : vX9_fault Q a1 σ) : bk_Mi l yX9_fault (Cond.code yX9_fault cX9_fault 2 (some .int) :: bT) { frames := 0, cells := 0, slots := 0, locals := 0 } G σ [.ref (G.2.2 10), .int (bI a1)] Q := by
  refine bk_Mi.of (cc := cX9_fault) (maxL := 2) (ret := some .int) (by decide) rfl (Nat.le_of_ble_eq_true rfl) ?_
  intro p e s m args below meth c S hr hlk hσ
  exact wX9_fault_e S hr hlk ha1 hσ h
def vX9_place (Q : Int → bS → Prop) (a1 : Int) (a2 : Int) (σ : bS) : Prop := (∀ σ1 : bS, σ1 = bup σ 10 0 0 → (vX9_isRoutine (fun z3 σ4 => ((z3 = 0 → (Q (-2) σ4)) ∧ (¬ z3 = 0 → (vX9_in (fun z6 σ7 => ((¬ z6 = 0 → ((¬ (σ7 10 10) = 0 → ((¬ a2 = 0 → ((¬ a2 = 1 → ((¬ a2 = 2 → ((¬ a2 = 3 → ((¬ a2 = 4 → (vX9_sizeOf (fun z15 σ16 => (Q z15 σ16)) a1 σ7)) ∧ (a2 = 4 → ((0 ≤ a1 ∧ a1 < 30) ∧ (Q (σ7 61 a1) σ7))))) ∧ (a2 = 3 → ((0 ≤ a1 ∧ a1 < 30) ∧ (Q (σ7 60 a1) σ7))))) ∧ (a2 = 2 → ((0 ≤ a1 ∧ a1 < 30) ∧ (Q (σ7 59 a1) σ7))))) ∧ (a2 = 1 → ((0 ≤ a1 ∧ a1 < 30) ∧ (Q (σ7 58 a1) σ7))))) ∧ (a2 = 0 → (vX9_isCommon (fun z21 σ22 => ((z21 = 0 → ((0 ≤ a1 ∧ a1 < 30) ∧ ((0 ≤ (σ22 50 a1) ∧ (σ22 50 a1) < 12) ∧ (Q (σ22 56 (σ22 50 a1)) σ22)))) ∧ (¬ z21 = 0 → (Q (-1) σ22)))) a1 σ7)))) ∧ ((σ7 10 10) = 0 → (Q (-3) σ7)))) ∧ (z6 = 0 → (Q (-2) σ7)))) a2 0 5 σ4)))) a1 σ1))
theorem mono_vX9_place {Q Q9 : Int → bS → Prop} {a1 : Int} {a2 : Int} {σ : bS} (hQ : ∀ r σ, Q r σ → Q9 r σ) : vX9_place Q a1 a2 σ → vX9_place Q9 a1 a2 σ := (bm_all fun _ => bm_imp (mono_X9_isRoutine (fun _ _ => (bm_and (bm_imp (hQ _ _)) (bm_imp (mono_X9_in (fun _ _ => (bm_and (bm_imp (bm_and (bm_imp (bm_and (bm_imp (bm_and (bm_imp (bm_and (bm_imp (bm_and (bm_imp (bm_and (bm_imp (mono_X9_sizeOf (fun _ _ => (hQ _ _)))) (bm_imp (bm_r (hQ _ _))))) (bm_imp (bm_r (hQ _ _))))) (bm_imp (bm_r (hQ _ _))))) (bm_imp (bm_r (hQ _ _))))) (bm_imp (mono_X9_isCommon (fun _ _ => (bm_and (bm_imp (bm_r (bm_r (hQ _ _)))) (bm_imp (hQ _ _)))))))) (bm_imp (hQ _ _)))) (bm_imp (hQ _ _))))))))))
theorem wX9_place_e {p : Program} {l : Launch} {e : Env} {s : State} {m : MethodId} {args : Array Value} {below : List Frame} {meth : Method} {c : Code} {G : bG} {σ0 : bS} {Q : Int → bS → Prop} {a1 : Int} {a2 : Int} {σ : bS} (S : CallFix p m c cX9_place 3 s args bT "BankLinkerModel") (hr : meth.sig.returnType = some .int) (hlk : meth.locks = false) (ha1 : bR a1) (ha2 : bR a2) (hσ : bRG σ) (h : vX9_place Q a1 a2 σ) : bA p l e { frames := 3, cells := 0, slots := 0, locals := 65 } s m args below meth c 0 0 (bQi below args s G σ0 Q) G (va_A (bk_w G σ0) s.heap.size) 3 0 [(0, .ref (G.2.2 10)), (1, .int (bI a1)), (2, .int (bI a2))] [] σ := by
  unfold vX9_place at h
  refine br_aload_n S 0 dX9_place_0 rfl rfl ?_
  refine br_iconst S dX9_place_1 ?_
  obtain ⟨σ1, e2⟩ : ∃ τ, τ = bup σ 10 0 0 := ⟨_, rfl⟩
  replace h := h σ1 e2
  have hσ1 : bRG σ1 := by rw [e2]; exact bup_rg hσ (by decide)
  refine br_put (f := 0) (N := 37) (C := RX9) (T := TX9) S tyX9 tyX9_ok nmX9 inT_X9 wd_3_234 (by decide) rfl (pf_10_0 _ _ _) rfl (by decide) (Nat.le_of_ble_eq_true rfl) rfl rfl rfl rfl dX9_place_2 ?_
  refine bA.to rfl rfl e2.symm ?_
  refine br_aload_n S 0 dX9_place_5 rfl rfl ?_
  refine br_iload_n S 1 dX9_place_6 rfl rfl ?_
  refine br_callV (As := [.int (bI a1)]) (rest := []) S (cwV_X9_isRoutine S.2.2.2.2 wd_4_123 ⟨by decide, by decide⟩) (mX9_isRoutine l G σ1 a1 ha1 h) (by decide) rfl rfl rfl hσ1 rfl rfl (Nat.le_of_ble_eq_true rfl) ⟨by decide, by decide⟩ dX9_place_7 (fun z3 σ4 hz3 hσ4 h => ?_)
  refine br_if_eq S 25 hz3 dX9_place_10 (by decide) (fun c5 => ?_) (fun c5 => ?_)
  · replace h := h.1 c5
    refine br_bipush S dX9_place_25 rfl ?_
    exact br_iret S hr hlk (by decide) hσ4 dX9_place_27 h
  · replace h := h.2 c5
    refine br_iload_n S 2 dX9_place_13 rfl rfl ?_
    refine br_i2l S ha2 dX9_place_14 ?_
    refine br_lconst (z := 0) S dX9_place_15 rfl ?_
    refine br_ldc2 (z := 5) S wd_4_220 rfl dX9_place_16 ?_
    refine br_callS (As := [.long (bL a2), .long (bL 0), .long (bL 5)]) (rest := []) S (cwS_X9_in S.2.2.2.2 wd_4_111 ⟨by decide, by decide⟩) (mX9_in l G σ4 a2 ha2 0 (by decide) 5 (by decide) h) hσ4 rfl rfl (Nat.le_of_ble_eq_true rfl) ⟨by decide, by decide⟩ dX9_place_19 (fun z6 σ7 hz6 hσ7 h => ?_)
    refine br_if_ne S 28 hz6 dX9_place_22 (by decide) (fun c8 => ?_) (fun c8 => ?_)
    · replace h := h.1 c8
      refine br_aload_n S 0 dX9_place_28 rfl rfl ?_
      refine br_get (f := 10) (N := 37) (C := RX9) (T := TX9) S inT_X9 wd_4_4 (by decide) rfl rfl (by decide) rfl dX9_place_29 ?_
      refine br_if_ne S 38 (hσ7 10 10) dX9_place_32 (by decide) (fun c9 => ?_) (fun c9 => ?_)
      · replace h := h.1 c9
        refine br_iload_n S 2 dX9_place_38 rfl rfl ?_
        refine br_if_ne S 68 ha2 dX9_place_39 (by decide) (fun c10 => ?_) (fun c10 => ?_)
        · replace h := h.1 c10
          refine br_iload_n S 2 dX9_place_68 rfl rfl ?_
          refine br_iconst S dX9_place_69 ?_
          refine br_ic_ne S 82 ha2 (by decide) dX9_place_70 (by decide) (fun c11 => ?_) (fun c11 => ?_)
          · replace h := h.1 c11
            refine br_iload_n S 2 dX9_place_82 rfl rfl ?_
            refine br_iconst S dX9_place_83 ?_
            refine br_ic_ne S 96 ha2 (by decide) dX9_place_84 (by decide) (fun c12 => ?_) (fun c12 => ?_)
            · replace h := h.1 c12
              refine br_iload_n S 2 dX9_place_96 rfl rfl ?_
              refine br_iconst S dX9_place_97 ?_
              refine br_ic_ne S 110 ha2 (by decide) dX9_place_98 (by decide) (fun c13 => ?_) (fun c13 => ?_)
              · replace h := h.1 c13
                refine br_iload_n S 2 dX9_place_110 rfl rfl ?_
                refine br_iconst S dX9_place_111 ?_
                refine br_ic_ne S 124 ha2 (by decide) dX9_place_112 (by decide) (fun c14 => ?_) (fun c14 => ?_)
                · replace h := h.1 c14
                  refine br_aload_n S 0 dX9_place_124 rfl rfl ?_
                  refine br_iload_n S 1 dX9_place_125 rfl rfl ?_
                  refine br_callV (As := [.int (bI a1)]) (rest := []) S (cwV_X9_sizeOf S.2.2.2.2 wd_4_173 ⟨by decide, by decide⟩) (mX9_sizeOf l G σ7 a1 ha1 h) (by decide) rfl rfl rfl hσ7 rfl rfl (Nat.le_of_ble_eq_true rfl) ⟨by decide, by decide⟩ dX9_place_126 (fun z15 σ16 hz15 hσ16 h => ?_)
                  exact br_iret S hr hlk hz15 hσ16 dX9_place_129 h
                · replace h := h.2 c14
                  refine br_aload_n S 0 dX9_place_115 rfl rfl ?_
                  refine br_get (f := 16) (N := 37) (C := RX9) (T := TX9) S inT_X9 wd_4_10 (by decide) rfl rfl (by decide) rfl dX9_place_116 ?_
                  refine br_iload_n S 1 dX9_place_119 rfl rfl ?_
                  obtain ⟨g17, h⟩ := h
                  refine br_iald (n := 30) S ⟨by decide, by decide, fun _ => rfl⟩ g17.1 g17.2 dX9_place_120 ?_
                  refine br_goto S 129 dX9_place_121 (by decide) ?_
                  exact br_iret S hr hlk (hσ7 61 a1) hσ7 dX9_place_129 h
              · replace h := h.2 c13
                refine br_aload_n S 0 dX9_place_101 rfl rfl ?_
                refine br_get (f := 15) (N := 37) (C := RX9) (T := TX9) S inT_X9 wd_4_9 (by decide) rfl rfl (by decide) rfl dX9_place_102 ?_
                refine br_iload_n S 1 dX9_place_105 rfl rfl ?_
                obtain ⟨g18, h⟩ := h
                refine br_iald (n := 30) S ⟨by decide, by decide, fun _ => rfl⟩ g18.1 g18.2 dX9_place_106 ?_
                refine br_goto S 129 dX9_place_107 (by decide) ?_
                exact br_iret S hr hlk (hσ7 60 a1) hσ7 dX9_place_129 h
            · replace h := h.2 c12
              refine br_aload_n S 0 dX9_place_87 rfl rfl ?_
              refine br_get (f := 14) (N := 37) (C := RX9) (T := TX9) S inT_X9 wd_4_8 (by decide) rfl rfl (by decide) rfl dX9_place_88 ?_
              refine br_iload_n S 1 dX9_place_91 rfl rfl ?_
              obtain ⟨g19, h⟩ := h
              refine br_iald (n := 30) S ⟨by decide, by decide, fun _ => rfl⟩ g19.1 g19.2 dX9_place_92 ?_
              refine br_goto S 129 dX9_place_93 (by decide) ?_
              exact br_iret S hr hlk (hσ7 59 a1) hσ7 dX9_place_129 h
          · replace h := h.2 c11
            refine br_aload_n S 0 dX9_place_73 rfl rfl ?_
            refine br_get (f := 13) (N := 37) (C := RX9) (T := TX9) S inT_X9 wd_4_7 (by decide) rfl rfl (by decide) rfl dX9_place_74 ?_
            refine br_iload_n S 1 dX9_place_77 rfl rfl ?_
            obtain ⟨g20, h⟩ := h
            refine br_iald (n := 30) S ⟨by decide, by decide, fun _ => rfl⟩ g20.1 g20.2 dX9_place_78 ?_
            refine br_goto S 129 dX9_place_79 (by decide) ?_
            exact br_iret S hr hlk (hσ7 58 a1) hσ7 dX9_place_129 h
        · replace h := h.2 c10
          refine br_aload_n S 0 dX9_place_42 rfl rfl ?_
          refine br_iload_n S 1 dX9_place_43 rfl rfl ?_
          refine br_callV (As := [.int (bI a1)]) (rest := []) S (cwV_X9_isCommon S.2.2.2.2 wd_4_192 ⟨by decide, by decide⟩) (mX9_isCommon l G σ7 a1 ha1 h) (by decide) rfl rfl rfl hσ7 rfl rfl (Nat.le_of_ble_eq_true rfl) ⟨by decide, by decide⟩ dX9_place_44 (fun z21 σ22 hz21 hσ22 h => ?_)
          refine br_if_eq S 54 hz21 dX9_place_47 (by decide) (fun c23 => ?_) (fun c23 => ?_)
          · replace h := h.1 c23
            refine br_aload_n S 0 dX9_place_54 rfl rfl ?_
            refine br_get (f := 11) (N := 37) (C := RX9) (T := TX9) S inT_X9 wd_4_5 (by decide) rfl rfl (by decide) rfl dX9_place_55 ?_
            refine br_aload_n S 0 dX9_place_58 rfl rfl ?_
            refine br_get (f := 4) (N := 37) (C := RX9) (T := TX9) S inT_X9 wd_3_238 (by decide) rfl rfl (by decide) rfl dX9_place_59 ?_
            refine br_iload_n S 1 dX9_place_62 rfl rfl ?_
            obtain ⟨g24, h⟩ := h
            refine br_iald (n := 30) S ⟨by decide, by decide, fun _ => rfl⟩ g24.1 g24.2 dX9_place_63 ?_
            obtain ⟨g25, h⟩ := h
            refine br_iald (n := 12) S ⟨by decide, by decide, fun _ => rfl⟩ g25.1 g25.2 dX9_place_64 ?_
            refine br_goto S 129 dX9_place_65 (by decide) ?_
            exact br_iret S hr hlk (hσ22 56 (σ22 50 a1)) hσ22 dX9_place_129 h
          · replace h := h.2 c23
            refine br_iconst S dX9_place_50 ?_
            refine br_goto S 129 dX9_place_51 (by decide) ?_
            exact br_iret S hr hlk (by decide) hσ22 dX9_place_129 h
      · replace h := h.2 c9
        refine br_bipush S dX9_place_35 rfl ?_
        exact br_iret S hr hlk (by decide) hσ7 dX9_place_37 h
    · replace h := h.2 c8
      refine br_bipush S dX9_place_25 rfl ?_
      exact br_iret S hr hlk (by decide) hσ7 dX9_place_27 h
theorem mono_X9_place {Q Q9 : Int → bS → Prop} {a1 : Int} {a2 : Int} {σ : bS} (hQ : ∀ r σ, Q r σ → Q9 r σ) : vX9_place Q a1 a2 σ → vX9_place Q9 a1 a2 σ := mono_vX9_place hQ
theorem mX9_place (l : Launch) (G : bG) (σ : bS) (a1 : Int) (ha1 : bR a1) (a2 : Int) (ha2 : bR a2) {Q : Int → bS → Prop} (h : vX9_place Q a1 a2 σ) : bk_Mi l yX9_place (Cond.code yX9_place cX9_place 3 (some .int) :: bT) { frames := 3, cells := 0, slots := 0, locals := 65 } G σ [.ref (G.2.2 10), .int (bI a1), .int (bI a2)] Q := by
  refine bk_Mi.of (cc := cX9_place) (maxL := 3) (ret := some .int) (by decide) rfl (Nat.le_of_ble_eq_true rfl) ?_
  intro p e s m args below meth c S hr hlk hσ
  exact wX9_place_e S hr hlk ha1 ha2 hσ h
def vX9_image_62 (Q : Int → bS → Prop) (x1 : Int) (x2 : Int) (s0 : Int) (s1 : Int) (s2 : Int) (σ : bS) : Prop := (bR (s0 - 1) ∧ (vX9_in (fun z2 σ3 => ((¬ z2 = 0 → ((¬ x1 = (-1) → ((0 ≤ ((250 * x1) + x2) ∧ ((250 * x1) + x2) < 2000) ∧ (Q (σ3 63 ((250 * x1) + x2)) σ3))) ∧ (x1 = (-1) → ((0 ≤ x2 ∧ x2 < 256) ∧ (Q (σ3 62 x2) σ3))))) ∧ (z2 = 0 → (Q (-1) σ3)))) s2 s1 (s0 - 1) σ))
theorem mono_vX9_image_62 {Q Q9 : Int → bS → Prop} {x1 : Int} {x2 : Int} {s0 : Int} {s1 : Int} {s2 : Int} {σ : bS} (hQ : ∀ r σ, Q r σ → Q9 r σ) : vX9_image_62 Q x1 x2 s0 s1 s2 σ → vX9_image_62 Q9 x1 x2 s0 s1 s2 σ := (bm_r (mono_X9_in (fun _ _ => (bm_and (bm_imp (bm_and (bm_imp (bm_r (hQ _ _))) (bm_imp (bm_r (hQ _ _))))) (bm_imp (hQ _ _))))))
theorem wX9_image_62 {p : Program} {l : Launch} {e : Env} {s : State} {m : MethodId} {args : Array Value} {below : List Frame} {meth : Method} {c : Code} {G : bG} {σ0 : bS} {Q : Int → bS → Prop} {x1 : Int} {x2 : Int} {s0 : Int} {s1 : Int} {s2 : Int} {σ : bS} (S : CallFix p m c cX9_image 3 s args bT "BankLinkerModel") (hr : meth.sig.returnType = some .int) (hlk : meth.locks = false) (hx1 : bR x1) (hx2 : bR x2) (hs0 : bR s0) (hs1 : bR s1) (hs2 : bR s2) (hσ : bRG σ) (h : vX9_image_62 Q x1 x2 s0 s1 s2 σ) : bA p l e { frames := 1, cells := 0, slots := 0, locals := 25 } s m args below meth c 0 0 (bQi below args s G σ0 Q) G (va_A (bk_w G σ0) s.heap.size) 3 62 [(0, .ref (G.2.2 10)), (1, .int (bI x1)), (2, .int (bI x2))] [.int (bI s0), .long (bL s1), .long (bL s2)] σ := by
  unfold vX9_image_62 at h
  refine br_iconst S dX9_image_62 ?_
  refine br_isub S dX9_image_63 ?_
  obtain ⟨g1, h⟩ := h
  refine br_i2l S g1 dX9_image_64 ?_
  refine br_callS (As := [.long (bL s2), .long (bL s1), .long (bL (s0 - 1))]) (rest := []) S (cwS_X9_in S.2.2.2.2 wd_4_111 ⟨by decide, by decide⟩) (mX9_in l G σ s2 hs2 s1 hs1 (s0 - 1) g1 h) hσ rfl rfl (Nat.le_of_ble_eq_true rfl) ⟨by decide, by decide⟩ dX9_image_65 (fun z2 σ3 hz2 hσ3 h => ?_)
  refine br_if_ne S 75 hz2 dX9_image_68 (by decide) (fun c4 => ?_) (fun c4 => ?_)
  · replace h := h.1 c4
    refine br_iload_n S 1 dX9_image_75 rfl rfl ?_
    refine br_iconst S dX9_image_76 ?_
    refine br_ic_ne S 89 hx1 (by decide) dX9_image_77 (by decide) (fun c5 => ?_) (fun c5 => ?_)
    · replace h := h.1 c5
      refine br_aload_n S 0 dX9_image_89 rfl rfl ?_
      refine br_get (f := 18) (N := 37) (C := RX9) (T := TX9) S inT_X9 wd_4_12 (by decide) rfl rfl (by decide) rfl dX9_image_90 ?_
      refine br_sipush S dX9_image_93 rfl ?_
      refine br_iload_n S 1 dX9_image_96 rfl rfl ?_
      refine br_imul S dX9_image_97 ?_
      refine br_iload_n S 2 dX9_image_98 rfl rfl ?_
      refine br_iadd S dX9_image_99 ?_
      obtain ⟨g6, h⟩ := h
      refine br_iald (n := 2000) S ⟨by decide, by decide, fun _ => rfl⟩ g6.1 g6.2 dX9_image_100 ?_
      exact br_iret S hr hlk (hσ3 63 ((250 * x1) + x2)) hσ3 dX9_image_101 h
    · replace h := h.2 c5
      refine br_aload_n S 0 dX9_image_80 rfl rfl ?_
      refine br_get (f := 17) (N := 37) (C := RX9) (T := TX9) S inT_X9 wd_4_11 (by decide) rfl rfl (by decide) rfl dX9_image_81 ?_
      refine br_iload_n S 2 dX9_image_84 rfl rfl ?_
      obtain ⟨g7, h⟩ := h
      refine br_iald (n := 256) S ⟨by decide, by decide, fun _ => rfl⟩ g7.1 g7.2 dX9_image_85 ?_
      refine br_goto S 101 dX9_image_86 (by decide) ?_
      exact br_iret S hr hlk (hσ3 62 x2) hσ3 dX9_image_101 h
  · replace h := h.2 c4
    refine br_iconst S dX9_image_71 ?_
    refine br_goto S 101 dX9_image_72 (by decide) ?_
    exact br_iret S hr hlk (by decide) hσ3 dX9_image_101 h
def vX9_image_31 (Q : Int → bS → Prop) (x1 : Int) (x2 : Int) (σ : bS) : Prop := ((¬ (σ 10 10) = 0 → ((¬ x1 = (-1) → ((0 ≤ x1 ∧ x1 < 8) ∧ (vX9_image_62 Q x1 x2 (σ 57 x1) 0 x2 σ))) ∧ (x1 = (-1) → (vX9_image_62 Q x1 x2 (σ 10 19) 0 x2 σ)))) ∧ ((σ 10 10) = 0 → (Q (-3) σ)))
theorem mono_vX9_image_31 {Q Q9 : Int → bS → Prop} {x1 : Int} {x2 : Int} {σ : bS} (hQ : ∀ r σ, Q r σ → Q9 r σ) : vX9_image_31 Q x1 x2 σ → vX9_image_31 Q9 x1 x2 σ := (bm_and (bm_imp (bm_and (bm_imp (bm_r (mono_vX9_image_62 hQ))) (bm_imp (mono_vX9_image_62 hQ)))) (bm_imp (hQ _ _)))
theorem wX9_image_31 {p : Program} {l : Launch} {e : Env} {s : State} {m : MethodId} {args : Array Value} {below : List Frame} {meth : Method} {c : Code} {G : bG} {σ0 : bS} {Q : Int → bS → Prop} {x1 : Int} {x2 : Int} {σ : bS} (S : CallFix p m c cX9_image 3 s args bT "BankLinkerModel") (hr : meth.sig.returnType = some .int) (hlk : meth.locks = false) (hx1 : bR x1) (hx2 : bR x2) (hσ : bRG σ) (h : vX9_image_31 Q x1 x2 σ) : bA p l e { frames := 1, cells := 0, slots := 0, locals := 25 } s m args below meth c 0 0 (bQi below args s G σ0 Q) G (va_A (bk_w G σ0) s.heap.size) 3 31 [(0, .ref (G.2.2 10)), (1, .int (bI x1)), (2, .int (bI x2))] [] σ := by
  unfold vX9_image_31 at h
  refine br_aload_n S 0 dX9_image_31 rfl rfl ?_
  refine br_get (f := 10) (N := 37) (C := RX9) (T := TX9) S inT_X9 wd_4_4 (by decide) rfl rfl (by decide) rfl dX9_image_32 ?_
  refine br_if_ne S 41 (hσ 10 10) dX9_image_35 (by decide) (fun c1 => ?_) (fun c1 => ?_)
  · replace h := h.1 c1
    refine br_iload_n S 2 dX9_image_41 rfl rfl ?_
    refine br_i2l S hx2 dX9_image_42 ?_
    refine br_lconst (z := 0) S dX9_image_43 rfl ?_
    refine br_iload_n S 1 dX9_image_44 rfl rfl ?_
    refine br_iconst S dX9_image_45 ?_
    refine br_ic_ne S 56 hx1 (by decide) dX9_image_46 (by decide) (fun c2 => ?_) (fun c2 => ?_)
    · replace h := h.1 c2
      refine br_aload_n S 0 dX9_image_56 rfl rfl ?_
      refine br_get (f := 12) (N := 37) (C := RX9) (T := TX9) S inT_X9 wd_4_6 (by decide) rfl rfl (by decide) rfl dX9_image_57 ?_
      refine br_iload_n S 1 dX9_image_60 rfl rfl ?_
      obtain ⟨g3, h⟩ := h
      refine br_iald (n := 8) S ⟨by decide, by decide, fun _ => rfl⟩ g3.1 g3.2 dX9_image_61 ?_
      exact wX9_image_62 S hr hlk hx1 hx2 (hσ 57 x1) (by decide) hx2 hσ h
    · replace h := h.2 c2
      refine br_aload_n S 0 dX9_image_49 rfl rfl ?_
      refine br_get (f := 19) (N := 37) (C := RX9) (T := TX9) S inT_X9 wd_4_13 (by decide) rfl rfl (by decide) rfl dX9_image_50 ?_
      refine br_goto S 62 dX9_image_53 (by decide) ?_
      exact wX9_image_62 S hr hlk hx1 hx2 (hσ 10 19) (by decide) hx2 hσ h
  · replace h := h.2 c1
    refine br_bipush S dX9_image_38 rfl ?_
    exact br_iret S hr hlk (by decide) hσ dX9_image_40 h
def vX9_image (Q : Int → bS → Prop) (a1 : Int) (a2 : Int) (σ : bS) : Prop := (∀ σ1 : bS, σ1 = bup σ 10 0 0 → ((a1 = (-1) → (vX9_image_31 Q a1 a2 σ1)) ∧ (¬ a1 = (-1) → (bR ((σ1 55 0) - 1) ∧ (vX9_in (fun z5 σ6 => ((¬ z5 = 0 → (vX9_image_31 Q a1 a2 σ6)) ∧ (z5 = 0 → (Q (-2) σ6)))) a1 0 ((σ1 55 0) - 1) σ1)))))
theorem mono_vX9_image {Q Q9 : Int → bS → Prop} {a1 : Int} {a2 : Int} {σ : bS} (hQ : ∀ r σ, Q r σ → Q9 r σ) : vX9_image Q a1 a2 σ → vX9_image Q9 a1 a2 σ := (bm_all fun _ => bm_imp (bm_and (bm_imp (mono_vX9_image_31 hQ)) (bm_imp (bm_r (mono_X9_in (fun _ _ => (bm_and (bm_imp (mono_vX9_image_31 hQ)) (bm_imp (hQ _ _)))))))))
theorem wX9_image_e {p : Program} {l : Launch} {e : Env} {s : State} {m : MethodId} {args : Array Value} {below : List Frame} {meth : Method} {c : Code} {G : bG} {σ0 : bS} {Q : Int → bS → Prop} {a1 : Int} {a2 : Int} {σ : bS} (S : CallFix p m c cX9_image 3 s args bT "BankLinkerModel") (hr : meth.sig.returnType = some .int) (hlk : meth.locks = false) (ha1 : bR a1) (ha2 : bR a2) (hσ : bRG σ) (h : vX9_image Q a1 a2 σ) : bA p l e { frames := 1, cells := 0, slots := 0, locals := 25 } s m args below meth c 0 0 (bQi below args s G σ0 Q) G (va_A (bk_w G σ0) s.heap.size) 3 0 [(0, .ref (G.2.2 10)), (1, .int (bI a1)), (2, .int (bI a2))] [] σ := by
  unfold vX9_image at h
  refine br_aload_n S 0 dX9_image_0 rfl rfl ?_
  refine br_iconst S dX9_image_1 ?_
  obtain ⟨σ1, e2⟩ : ∃ τ, τ = bup σ 10 0 0 := ⟨_, rfl⟩
  replace h := h σ1 e2
  have hσ1 : bRG σ1 := by rw [e2]; exact bup_rg hσ (by decide)
  refine br_put (f := 0) (N := 37) (C := RX9) (T := TX9) S tyX9 tyX9_ok nmX9 inT_X9 wd_3_234 (by decide) rfl (pf_10_0 _ _ _) rfl (by decide) (Nat.le_of_ble_eq_true rfl) rfl rfl rfl rfl dX9_image_2 ?_
  refine bA.to rfl rfl e2.symm ?_
  refine br_iload_n S 1 dX9_image_5 rfl rfl ?_
  refine br_iconst S dX9_image_6 ?_
  refine br_ic_eq S 31 ha1 (by decide) dX9_image_7 (by decide) (fun c3 => ?_) (fun c3 => ?_)
  · replace h := h.1 c3
    exact wX9_image_31 S hr hlk ha1 ha2 hσ1 h
  · replace h := h.2 c3
    refine br_iload_n S 1 dX9_image_10 rfl rfl ?_
    refine br_i2l S ha1 dX9_image_11 ?_
    refine br_lconst (z := 0) S dX9_image_12 rfl ?_
    refine br_aload_n S 0 dX9_image_13 rfl rfl ?_
    refine br_get (f := 9) (N := 37) (C := RX9) (T := TX9) S inT_X9 wd_4_3 (by decide) rfl rfl (by decide) rfl dX9_image_14 ?_
    refine br_iconst S dX9_image_17 ?_
    refine br_iald (n := 5) S ⟨by decide, by decide, fun _ => rfl⟩ (by decide) (by decide) dX9_image_18 ?_
    refine br_iconst S dX9_image_19 ?_
    refine br_isub S dX9_image_20 ?_
    obtain ⟨g4, h⟩ := h
    refine br_i2l S g4 dX9_image_21 ?_
    refine br_callS (As := [.long (bL a1), .long (bL 0), .long (bL ((σ1 55 0) - 1))]) (rest := []) S (cwS_X9_in S.2.2.2.2 wd_4_111 ⟨by decide, by decide⟩) (mX9_in l G σ1 a1 ha1 0 (by decide) ((σ1 55 0) - 1) g4 h) hσ1 rfl rfl (Nat.le_of_ble_eq_true rfl) ⟨by decide, by decide⟩ dX9_image_22 (fun z5 σ6 hz5 hσ6 h => ?_)
    refine br_if_ne S 31 hz5 dX9_image_25 (by decide) (fun c7 => ?_) (fun c7 => ?_)
    · replace h := h.1 c7
      exact wX9_image_31 S hr hlk ha1 ha2 hσ6 h
    · replace h := h.2 c7
      refine br_bipush S dX9_image_28 rfl ?_
      exact br_iret S hr hlk (by decide) hσ6 dX9_image_30 h
theorem mono_X9_image {Q Q9 : Int → bS → Prop} {a1 : Int} {a2 : Int} {σ : bS} (hQ : ∀ r σ, Q r σ → Q9 r σ) : vX9_image Q a1 a2 σ → vX9_image Q9 a1 a2 σ := mono_vX9_image hQ
theorem mX9_image (l : Launch) (G : bG) (σ : bS) (a1 : Int) (ha1 : bR a1) (a2 : Int) (ha2 : bR a2) {Q : Int → bS → Prop} (h : vX9_image Q a1 a2 σ) : bk_Mi l yX9_image (Cond.code yX9_image cX9_image 3 (some .int) :: bT) { frames := 1, cells := 0, slots := 0, locals := 25 } G σ [.ref (G.2.2 10), .int (bI a1), .int (bI a2)] Q := by
  refine bk_Mi.of (cc := cX9_image) (maxL := 3) (ret := some .int) (by decide) rfl (Nat.le_of_ble_eq_true rfl) ?_
  intro p e s m args below meth c S hr hlk hσ
  exact wX9_image_e S hr hlk ha1 ha2 hσ h
def vX9_count_35 (Q : Int → bS → Prop) (P92 : Int → Int → bS → Prop) (P129 : Int → Int → bS → Prop) (P166 : Int → Int → bS → Prop) (x1 : Int) (σ : bS) : Prop := (((x1 < 0 ∨ 6 < x1) → (Q (σ 10 21) σ)) ∧ (x1 = 0 → (Q (σ 10 1) σ)) ∧ (x1 = 1 → (Q (σ 10 3) σ)) ∧ (x1 = 2 → (P92 0 0 σ)) ∧ (x1 = 3 → (Q (σ 10 19) σ)) ∧ (x1 = 4 → (Q (σ 10 20) σ)) ∧ (x1 = 5 → (P129 0 0 σ)) ∧ (x1 = 6 → (P166 0 0 σ)))
theorem mono_vX9_count_35 {Q Q9 : Int → bS → Prop} {P92 P929 : Int → Int → bS → Prop} {P129 P1299 : Int → Int → bS → Prop} {P166 P1669 : Int → Int → bS → Prop} {x1 : Int} {σ : bS} (hQ : ∀ r σ, Q r σ → Q9 r σ) (hP92 : ∀ x2 x3 σ, P92 x2 x3 σ → P929 x2 x3 σ) (hP129 : ∀ x2 x3 σ, P129 x2 x3 σ → P1299 x2 x3 σ) (hP166 : ∀ x2 x3 σ, P166 x2 x3 σ → P1669 x2 x3 σ) : vX9_count_35 Q P92 P129 P166 x1 σ → vX9_count_35 Q9 P929 P1299 P1669 x1 σ := (bm_and (bm_imp (hQ _ _)) (bm_and (bm_imp (hQ _ _)) (bm_and (bm_imp (hQ _ _)) (bm_and (bm_imp (hP92 _ _ _)) (bm_and (bm_imp (hQ _ _)) (bm_and (bm_imp (hQ _ _)) (bm_and (bm_imp (hP129 _ _ _)) (bm_imp (hP166 _ _ _)))))))))
theorem wX9_count_35 {p : Program} {l : Launch} {e : Env} {s : State} {m : MethodId} {args : Array Value} {below : List Frame} {meth : Method} {c : Code} {G : bG} {σ0 : bS} {Q : Int → bS → Prop} {P92 : Int → Int → bS → Prop} {P129 : Int → Int → bS → Prop} {P166 : Int → Int → bS → Prop} {x1 : Int} {σ : bS} (S : CallFix p m c cX9_count 4 s args bT "BankLinkerModel") (hr : meth.sig.returnType = some .int) (hlk : meth.locks = false) (hP92 : ∀ (x2 : Int) (x3 : Int) (σ : bS), bR x2 → bR x3 → bRG σ → P92 x2 x3 σ → bA p l e { frames := 1, cells := 0, slots := 0, locals := 25 } s m args below meth c 0 0 (bQi below args s G σ0 Q) G (va_A (bk_w G σ0) s.heap.size) 4 92 [(0, .ref (G.2.2 10)), (2, .int (bI x2)), (3, .int (bI x3))] [] σ) (hP129 : ∀ (x2 : Int) (x3 : Int) (σ : bS), bR x2 → bR x3 → bRG σ → P129 x2 x3 σ → bA p l e { frames := 1, cells := 0, slots := 0, locals := 25 } s m args below meth c 0 0 (bQi below args s G σ0 Q) G (va_A (bk_w G σ0) s.heap.size) 4 129 [(0, .ref (G.2.2 10)), (2, .int (bI x2)), (3, .int (bI x3))] [] σ) (hP166 : ∀ (x2 : Int) (x3 : Int) (σ : bS), bR x2 → bR x3 → bRG σ → P166 x2 x3 σ → bA p l e { frames := 1, cells := 0, slots := 0, locals := 25 } s m args below meth c 0 0 (bQi below args s G σ0 Q) G (va_A (bk_w G σ0) s.heap.size) 4 166 [(0, .ref (G.2.2 10)), (2, .int (bI x2)), (3, .int (bI x3))] [] σ) (hx1 : bR x1) (hσ : bRG σ) (h : vX9_count_35 Q P92 P129 P166 x1 σ) : bA p l e { frames := 1, cells := 0, slots := 0, locals := 25 } s m args below meth c 0 0 (bQi below args s G σ0 Q) G (va_A (bk_w G σ0) s.heap.size) 4 35 [(0, .ref (G.2.2 10)), (1, .int (bI x1))] [] σ := by
  unfold vX9_count_35 at h
  refine br_iconst S dX9_count_35 ?_
  refine br_istore_n S [(2, .int (bI 0)), (0, .ref (G.2.2 10)), (1, .int (bI x1))] dX9_count_36 rfl (by decide) rfl ?_
  refine br_iload_n S 2 dX9_count_37 rfl rfl ?_
  by_cases c1 : x1 < 0 ∨ 6 < x1
  · replace h := h.1 c1
    refine br_tblO S 217 hx1 c1 dX9_count_38 (by decide) ?_
    refine br_aload_n S 1 dX9_count_217 rfl rfl ?_
    refine br_get (f := 21) (N := 37) (C := RX9) (T := TX9) S inT_X9 wd_4_15 (by decide) rfl rfl (by decide) rfl dX9_count_218 ?_
    exact br_iret S hr hlk (hσ 10 21) hσ dX9_count_221 h
  · rcases (show x1 = 0 ∨ x1 = 1 ∨ x1 = 2 ∨ x1 = 3 ∨ x1 = 4 ∨ x1 = 5 ∨ x1 = 6 by omega) with c2 | c2 | c2 | c2 | c2 | c2 | c2
    · replace h := h.2.1 c2
      refine br_tblI S 80 0 hx1 c2 (by decide) rfl dX9_count_38 (by decide) ?_
      refine br_aload_n S 1 dX9_count_80 rfl rfl ?_
      refine br_get (f := 1) (N := 37) (C := RX9) (T := TX9) S inT_X9 wd_3_235 (by decide) rfl rfl (by decide) rfl dX9_count_81 ?_
      exact br_iret S hr hlk (hσ 10 1) hσ dX9_count_84 h
    · replace h := h.2.2.1 c2
      refine br_tblI S 85 1 hx1 c2 (by decide) rfl dX9_count_38 (by decide) ?_
      refine br_aload_n S 1 dX9_count_85 rfl rfl ?_
      refine br_get (f := 3) (N := 37) (C := RX9) (T := TX9) S inT_X9 wd_3_237 (by decide) rfl rfl (by decide) rfl dX9_count_86 ?_
      exact br_iret S hr hlk (hσ 10 3) hσ dX9_count_89 h
    · replace h := h.2.2.2.1 c2
      refine br_tblI S 90 2 hx1 c2 (by decide) rfl dX9_count_38 (by decide) ?_
      refine br_iconst S dX9_count_90 ?_
      refine br_istore_n S [(3, .int (bI 0)), (2, .int (bI 0)), (0, .ref (G.2.2 10)), (1, .int (bI x1))] dX9_count_91 rfl (by decide) rfl ?_
      exact bA.perm [2, 1, 0] rfl <| hP92 0 0 σ (by decide) (by decide) hσ h
    · replace h := h.2.2.2.2.1 c2
      refine br_tblI S 117 3 hx1 c2 (by decide) rfl dX9_count_38 (by decide) ?_
      refine br_aload_n S 1 dX9_count_117 rfl rfl ?_
      refine br_get (f := 19) (N := 37) (C := RX9) (T := TX9) S inT_X9 wd_4_13 (by decide) rfl rfl (by decide) rfl dX9_count_118 ?_
      exact br_iret S hr hlk (hσ 10 19) hσ dX9_count_121 h
    · replace h := h.2.2.2.2.2.1 c2
      refine br_tblI S 122 4 hx1 c2 (by decide) rfl dX9_count_38 (by decide) ?_
      refine br_aload_n S 1 dX9_count_122 rfl rfl ?_
      refine br_get (f := 20) (N := 37) (C := RX9) (T := TX9) S inT_X9 wd_4_14 (by decide) rfl rfl (by decide) rfl dX9_count_123 ?_
      exact br_iret S hr hlk (hσ 10 20) hσ dX9_count_126 h
    · replace h := h.2.2.2.2.2.2.1 c2
      refine br_tblI S 127 5 hx1 c2 (by decide) rfl dX9_count_38 (by decide) ?_
      refine br_iconst S dX9_count_127 ?_
      refine br_istore_n S [(3, .int (bI 0)), (2, .int (bI 0)), (0, .ref (G.2.2 10)), (1, .int (bI x1))] dX9_count_128 rfl (by decide) rfl ?_
      exact bA.perm [2, 1, 0] rfl <| hP129 0 0 σ (by decide) (by decide) hσ h
    · replace h := h.2.2.2.2.2.2.2 c2
      refine br_tblI S 164 6 hx1 c2 (by decide) rfl dX9_count_38 (by decide) ?_
      refine br_iconst S dX9_count_164 ?_
      refine br_istore_n S [(3, .int (bI 0)), (2, .int (bI 0)), (0, .ref (G.2.2 10)), (1, .int (bI x1))] dX9_count_165 rfl (by decide) rfl ?_
      exact bA.perm [2, 1, 0] rfl <| hP166 0 0 σ (by decide) (by decide) hσ h
def bX9_count_92 (Q : Int → bS → Prop) (P92 : Int → Int → bS → Prop) (P129 : Int → Int → bS → Prop) (P166 : Int → Int → bS → Prop) (x2 : Int) (x3 : Int) (σ : bS) : Prop := (((σ 10 3) ≤ x3 → (Q x2 σ)) ∧ (¬ (σ 10 3) ≤ x3 → ((0 ≤ x3 ∧ x3 < 30) ∧ (bR (x2 + (σ 52 x3)) ∧ (bR (x3 + 1) ∧ (P92 (x2 + (σ 52 x3)) (x3 + 1) σ))))))
theorem mono_bX9_count_92 {Q Q9 : Int → bS → Prop} {P92 P929 : Int → Int → bS → Prop} {P129 P1299 : Int → Int → bS → Prop} {P166 P1669 : Int → Int → bS → Prop} {x2 : Int} {x3 : Int} {σ : bS} (hQ : ∀ r σ, Q r σ → Q9 r σ) (hP92 : ∀ x2 x3 σ, P92 x2 x3 σ → P929 x2 x3 σ) (hP129 : ∀ x2 x3 σ, P129 x2 x3 σ → P1299 x2 x3 σ) (hP166 : ∀ x2 x3 σ, P166 x2 x3 σ → P1669 x2 x3 σ) : bX9_count_92 Q P92 P129 P166 x2 x3 σ → bX9_count_92 Q9 P929 P1299 P1669 x2 x3 σ := (bm_and (bm_imp (hQ _ _)) (bm_imp (bm_r (bm_r (bm_r (hP92 _ _ _))))))
theorem wX9_count_92 {p : Program} {l : Launch} {e : Env} {s : State} {m : MethodId} {args : Array Value} {below : List Frame} {meth : Method} {c : Code} {G : bG} {σ0 : bS} {Q : Int → bS → Prop} {P92 : Int → Int → bS → Prop} {P129 : Int → Int → bS → Prop} {P166 : Int → Int → bS → Prop} {x2 : Int} {x3 : Int} {σ : bS} (S : CallFix p m c cX9_count 4 s args bT "BankLinkerModel") (hr : meth.sig.returnType = some .int) (hlk : meth.locks = false) (hP92 : ∀ (x2 : Int) (x3 : Int) (σ : bS), bR x2 → bR x3 → bRG σ → P92 x2 x3 σ → bA p l e { frames := 1, cells := 0, slots := 0, locals := 25 } s m args below meth c 0 0 (bQi below args s G σ0 Q) G (va_A (bk_w G σ0) s.heap.size) 4 92 [(0, .ref (G.2.2 10)), (2, .int (bI x2)), (3, .int (bI x3))] [] σ) (hP129 : ∀ (x2 : Int) (x3 : Int) (σ : bS), bR x2 → bR x3 → bRG σ → P129 x2 x3 σ → bA p l e { frames := 1, cells := 0, slots := 0, locals := 25 } s m args below meth c 0 0 (bQi below args s G σ0 Q) G (va_A (bk_w G σ0) s.heap.size) 4 129 [(0, .ref (G.2.2 10)), (2, .int (bI x2)), (3, .int (bI x3))] [] σ) (hP166 : ∀ (x2 : Int) (x3 : Int) (σ : bS), bR x2 → bR x3 → bRG σ → P166 x2 x3 σ → bA p l e { frames := 1, cells := 0, slots := 0, locals := 25 } s m args below meth c 0 0 (bQi below args s G σ0 Q) G (va_A (bk_w G σ0) s.heap.size) 4 166 [(0, .ref (G.2.2 10)), (2, .int (bI x2)), (3, .int (bI x3))] [] σ) (hx2 : bR x2) (hx3 : bR x3) (hσ : bRG σ) (h : bX9_count_92 Q P92 P129 P166 x2 x3 σ) : bA p l e { frames := 1, cells := 0, slots := 0, locals := 25 } s m args below meth c 0 0 (bQi below args s G σ0 Q) G (va_A (bk_w G σ0) s.heap.size) 4 92 [(0, .ref (G.2.2 10)), (2, .int (bI x2)), (3, .int (bI x3))] [] σ := by
  unfold bX9_count_92 at h
  refine br_iload_n S 2 dX9_count_92 rfl rfl ?_
  refine br_aload_n S 0 dX9_count_93 rfl rfl ?_
  refine br_get (f := 3) (N := 37) (C := RX9) (T := TX9) S inT_X9 wd_3_237 (by decide) rfl rfl (by decide) rfl dX9_count_94 ?_
  refine br_ic_ge S 115 hx3 (hσ 10 3) dX9_count_97 (by decide) (fun c1 => ?_) (fun c1 => ?_)
  · replace h := h.1 c1
    refine br_iload_n S 1 dX9_count_115 rfl rfl ?_
    exact br_iret S hr hlk hx2 hσ dX9_count_116 h
  · replace h := h.2 c1
    refine br_iload_n S 1 dX9_count_100 rfl rfl ?_
    refine br_aload_n S 0 dX9_count_101 rfl rfl ?_
    refine br_get (f := 6) (N := 37) (C := RX9) (T := TX9) S inT_X9 wd_4_0 (by decide) rfl rfl (by decide) rfl dX9_count_102 ?_
    refine br_iload_n S 2 dX9_count_105 rfl rfl ?_
    obtain ⟨g2, h⟩ := h
    refine br_iald (n := 30) S ⟨by decide, by decide, fun _ => rfl⟩ g2.1 g2.2 dX9_count_106 ?_
    refine br_iadd S dX9_count_107 ?_
    refine br_istore_n S [(2, .int (bI (x2 + (σ 52 x3)))), (0, .ref (G.2.2 10)), (3, .int (bI x3))] dX9_count_108 rfl (by decide) rfl ?_
    refine br_iinc S 2 [(3, .int (bI (x3 + 1))), (2, .int (bI (x2 + (σ 52 x3)))), (0, .ref (G.2.2 10))] dX9_count_109 rfl (by decide) rfl ?_
    refine br_goto S 92 dX9_count_112 (by decide) ?_
    obtain ⟨g3, h⟩ := h
    obtain ⟨g4, h⟩ := h
    exact bA.perm [2, 1, 0] rfl <| hP92 (x2 + (σ 52 x3)) (x3 + 1) σ g3 g4 hσ h
def vX9_count_154 (Q : Int → bS → Prop) (P92 : Int → Int → bS → Prop) (P129 : Int → Int → bS → Prop) (P166 : Int → Int → bS → Prop) (x3 : Int) (s0 : Int) (s1 : Int) (σ : bS) : Prop := (bR (s1 + s0) ∧ (bR (x3 + 1) ∧ (P129 (s1 + s0) (x3 + 1) σ)))
theorem mono_vX9_count_154 {Q Q9 : Int → bS → Prop} {P92 P929 : Int → Int → bS → Prop} {P129 P1299 : Int → Int → bS → Prop} {P166 P1669 : Int → Int → bS → Prop} {x3 : Int} {s0 : Int} {s1 : Int} {σ : bS} (hQ : ∀ r σ, Q r σ → Q9 r σ) (hP92 : ∀ x2 x3 σ, P92 x2 x3 σ → P929 x2 x3 σ) (hP129 : ∀ x2 x3 σ, P129 x2 x3 σ → P1299 x2 x3 σ) (hP166 : ∀ x2 x3 σ, P166 x2 x3 σ → P1669 x2 x3 σ) : vX9_count_154 Q P92 P129 P166 x3 s0 s1 σ → vX9_count_154 Q9 P929 P1299 P1669 x3 s0 s1 σ := (bm_r (bm_r (hP129 _ _ _)))
theorem wX9_count_154 {p : Program} {l : Launch} {e : Env} {s : State} {m : MethodId} {args : Array Value} {below : List Frame} {meth : Method} {c : Code} {G : bG} {σ0 : bS} {Q : Int → bS → Prop} {P92 : Int → Int → bS → Prop} {P129 : Int → Int → bS → Prop} {P166 : Int → Int → bS → Prop} {x3 : Int} {s0 : Int} {s1 : Int} {σ : bS} (S : CallFix p m c cX9_count 4 s args bT "BankLinkerModel") (hr : meth.sig.returnType = some .int) (hlk : meth.locks = false) (hP92 : ∀ (x2 : Int) (x3 : Int) (σ : bS), bR x2 → bR x3 → bRG σ → P92 x2 x3 σ → bA p l e { frames := 1, cells := 0, slots := 0, locals := 25 } s m args below meth c 0 0 (bQi below args s G σ0 Q) G (va_A (bk_w G σ0) s.heap.size) 4 92 [(0, .ref (G.2.2 10)), (2, .int (bI x2)), (3, .int (bI x3))] [] σ) (hP129 : ∀ (x2 : Int) (x3 : Int) (σ : bS), bR x2 → bR x3 → bRG σ → P129 x2 x3 σ → bA p l e { frames := 1, cells := 0, slots := 0, locals := 25 } s m args below meth c 0 0 (bQi below args s G σ0 Q) G (va_A (bk_w G σ0) s.heap.size) 4 129 [(0, .ref (G.2.2 10)), (2, .int (bI x2)), (3, .int (bI x3))] [] σ) (hP166 : ∀ (x2 : Int) (x3 : Int) (σ : bS), bR x2 → bR x3 → bRG σ → P166 x2 x3 σ → bA p l e { frames := 1, cells := 0, slots := 0, locals := 25 } s m args below meth c 0 0 (bQi below args s G σ0 Q) G (va_A (bk_w G σ0) s.heap.size) 4 166 [(0, .ref (G.2.2 10)), (2, .int (bI x2)), (3, .int (bI x3))] [] σ) (hx3 : bR x3) (hs0 : bR s0) (hs1 : bR s1) (hσ : bRG σ) (h : vX9_count_154 Q P92 P129 P166 x3 s0 s1 σ) : bA p l e { frames := 1, cells := 0, slots := 0, locals := 25 } s m args below meth c 0 0 (bQi below args s G σ0 Q) G (va_A (bk_w G σ0) s.heap.size) 4 154 [(0, .ref (G.2.2 10)), (3, .int (bI x3))] [.int (bI s0), .int (bI s1)] σ := by
  unfold vX9_count_154 at h
  refine br_iadd S dX9_count_154 ?_
  refine br_istore_n S [(2, .int (bI (s1 + s0))), (0, .ref (G.2.2 10)), (3, .int (bI x3))] dX9_count_155 rfl (by decide) rfl ?_
  refine br_iinc S 2 [(3, .int (bI (x3 + 1))), (2, .int (bI (s1 + s0))), (0, .ref (G.2.2 10))] dX9_count_156 rfl (by decide) rfl ?_
  refine br_goto S 129 dX9_count_159 (by decide) ?_
  obtain ⟨g1, h⟩ := h
  obtain ⟨g2, h⟩ := h
  exact bA.perm [2, 1, 0] rfl <| hP129 (s1 + s0) (x3 + 1) σ g1 g2 hσ h
def bX9_count_129 (Q : Int → bS → Prop) (P92 : Int → Int → bS → Prop) (P129 : Int → Int → bS → Prop) (P166 : Int → Int → bS → Prop) (x2 : Int) (x3 : Int) (σ : bS) : Prop := (((σ 55 0) ≤ x3 → (Q x2 σ)) ∧ (¬ (σ 55 0) ≤ x3 → ((0 ≤ x3 ∧ x3 < 8) ∧ (((σ 57 x3) ≤ 0 → (vX9_count_154 Q P92 P129 P166 x3 0 x2 σ)) ∧ (¬ (σ 57 x3) ≤ 0 → (vX9_count_154 Q P92 P129 P166 x3 1 x2 σ))))))
theorem mono_bX9_count_129 {Q Q9 : Int → bS → Prop} {P92 P929 : Int → Int → bS → Prop} {P129 P1299 : Int → Int → bS → Prop} {P166 P1669 : Int → Int → bS → Prop} {x2 : Int} {x3 : Int} {σ : bS} (hQ : ∀ r σ, Q r σ → Q9 r σ) (hP92 : ∀ x2 x3 σ, P92 x2 x3 σ → P929 x2 x3 σ) (hP129 : ∀ x2 x3 σ, P129 x2 x3 σ → P1299 x2 x3 σ) (hP166 : ∀ x2 x3 σ, P166 x2 x3 σ → P1669 x2 x3 σ) : bX9_count_129 Q P92 P129 P166 x2 x3 σ → bX9_count_129 Q9 P929 P1299 P1669 x2 x3 σ := (bm_and (bm_imp (hQ _ _)) (bm_imp (bm_r (bm_and (bm_imp (mono_vX9_count_154 hQ hP92 hP129 hP166)) (bm_imp (mono_vX9_count_154 hQ hP92 hP129 hP166))))))
theorem wX9_count_129 {p : Program} {l : Launch} {e : Env} {s : State} {m : MethodId} {args : Array Value} {below : List Frame} {meth : Method} {c : Code} {G : bG} {σ0 : bS} {Q : Int → bS → Prop} {P92 : Int → Int → bS → Prop} {P129 : Int → Int → bS → Prop} {P166 : Int → Int → bS → Prop} {x2 : Int} {x3 : Int} {σ : bS} (S : CallFix p m c cX9_count 4 s args bT "BankLinkerModel") (hr : meth.sig.returnType = some .int) (hlk : meth.locks = false) (hP92 : ∀ (x2 : Int) (x3 : Int) (σ : bS), bR x2 → bR x3 → bRG σ → P92 x2 x3 σ → bA p l e { frames := 1, cells := 0, slots := 0, locals := 25 } s m args below meth c 0 0 (bQi below args s G σ0 Q) G (va_A (bk_w G σ0) s.heap.size) 4 92 [(0, .ref (G.2.2 10)), (2, .int (bI x2)), (3, .int (bI x3))] [] σ) (hP129 : ∀ (x2 : Int) (x3 : Int) (σ : bS), bR x2 → bR x3 → bRG σ → P129 x2 x3 σ → bA p l e { frames := 1, cells := 0, slots := 0, locals := 25 } s m args below meth c 0 0 (bQi below args s G σ0 Q) G (va_A (bk_w G σ0) s.heap.size) 4 129 [(0, .ref (G.2.2 10)), (2, .int (bI x2)), (3, .int (bI x3))] [] σ) (hP166 : ∀ (x2 : Int) (x3 : Int) (σ : bS), bR x2 → bR x3 → bRG σ → P166 x2 x3 σ → bA p l e { frames := 1, cells := 0, slots := 0, locals := 25 } s m args below meth c 0 0 (bQi below args s G σ0 Q) G (va_A (bk_w G σ0) s.heap.size) 4 166 [(0, .ref (G.2.2 10)), (2, .int (bI x2)), (3, .int (bI x3))] [] σ) (hx2 : bR x2) (hx3 : bR x3) (hσ : bRG σ) (h : bX9_count_129 Q P92 P129 P166 x2 x3 σ) : bA p l e { frames := 1, cells := 0, slots := 0, locals := 25 } s m args below meth c 0 0 (bQi below args s G σ0 Q) G (va_A (bk_w G σ0) s.heap.size) 4 129 [(0, .ref (G.2.2 10)), (2, .int (bI x2)), (3, .int (bI x3))] [] σ := by
  unfold bX9_count_129 at h
  refine br_iload_n S 2 dX9_count_129 rfl rfl ?_
  refine br_aload_n S 0 dX9_count_130 rfl rfl ?_
  refine br_get (f := 9) (N := 37) (C := RX9) (T := TX9) S inT_X9 wd_4_3 (by decide) rfl rfl (by decide) rfl dX9_count_131 ?_
  refine br_iconst S dX9_count_134 ?_
  refine br_iald (n := 5) S ⟨by decide, by decide, fun _ => rfl⟩ (by decide) (by decide) dX9_count_135 ?_
  refine br_ic_ge S 162 hx3 (hσ 55 0) dX9_count_136 (by decide) (fun c1 => ?_) (fun c1 => ?_)
  · replace h := h.1 c1
    refine br_iload_n S 1 dX9_count_162 rfl rfl ?_
    exact br_iret S hr hlk hx2 hσ dX9_count_163 h
  · replace h := h.2 c1
    refine br_iload_n S 1 dX9_count_139 rfl rfl ?_
    refine br_aload_n S 0 dX9_count_140 rfl rfl ?_
    refine br_get (f := 12) (N := 37) (C := RX9) (T := TX9) S inT_X9 wd_4_6 (by decide) rfl rfl (by decide) rfl dX9_count_141 ?_
    refine br_iload_n S 2 dX9_count_144 rfl rfl ?_
    obtain ⟨g2, h⟩ := h
    refine br_iald (n := 8) S ⟨by decide, by decide, fun _ => rfl⟩ g2.1 g2.2 dX9_count_145 ?_
    refine br_if_le S 153 (hσ 57 x3) dX9_count_146 (by decide) (fun c3 => ?_) (fun c3 => ?_)
    · replace h := h.1 c3
      refine br_iconst S dX9_count_153 ?_
      exact bA.perm [0, 2] rfl <| wX9_count_154 S hr hlk hP92 hP129 hP166 hx3 (by decide) hx2 hσ h
    · replace h := h.2 c3
      refine br_iconst S dX9_count_149 ?_
      refine br_goto S 154 dX9_count_150 (by decide) ?_
      exact bA.perm [0, 2] rfl <| wX9_count_154 S hr hlk hP92 hP129 hP166 hx3 (by decide) hx2 hσ h
def vX9_count_208 (Q : Int → bS → Prop) (P92 : Int → Int → bS → Prop) (P129 : Int → Int → bS → Prop) (P166 : Int → Int → bS → Prop) (x3 : Int) (s0 : Int) (σ : bS) : Prop := (bR (x3 + 1) ∧ (P166 s0 (x3 + 1) σ))
theorem mono_vX9_count_208 {Q Q9 : Int → bS → Prop} {P92 P929 : Int → Int → bS → Prop} {P129 P1299 : Int → Int → bS → Prop} {P166 P1669 : Int → Int → bS → Prop} {x3 : Int} {s0 : Int} {σ : bS} (hQ : ∀ r σ, Q r σ → Q9 r σ) (hP92 : ∀ x2 x3 σ, P92 x2 x3 σ → P929 x2 x3 σ) (hP129 : ∀ x2 x3 σ, P129 x2 x3 σ → P1299 x2 x3 σ) (hP166 : ∀ x2 x3 σ, P166 x2 x3 σ → P1669 x2 x3 σ) : vX9_count_208 Q P92 P129 P166 x3 s0 σ → vX9_count_208 Q9 P929 P1299 P1669 x3 s0 σ := (bm_r (hP166 _ _ _))
theorem wX9_count_208 {p : Program} {l : Launch} {e : Env} {s : State} {m : MethodId} {args : Array Value} {below : List Frame} {meth : Method} {c : Code} {G : bG} {σ0 : bS} {Q : Int → bS → Prop} {P92 : Int → Int → bS → Prop} {P129 : Int → Int → bS → Prop} {P166 : Int → Int → bS → Prop} {x3 : Int} {s0 : Int} {σ : bS} (S : CallFix p m c cX9_count 4 s args bT "BankLinkerModel") (hr : meth.sig.returnType = some .int) (hlk : meth.locks = false) (hP92 : ∀ (x2 : Int) (x3 : Int) (σ : bS), bR x2 → bR x3 → bRG σ → P92 x2 x3 σ → bA p l e { frames := 1, cells := 0, slots := 0, locals := 25 } s m args below meth c 0 0 (bQi below args s G σ0 Q) G (va_A (bk_w G σ0) s.heap.size) 4 92 [(0, .ref (G.2.2 10)), (2, .int (bI x2)), (3, .int (bI x3))] [] σ) (hP129 : ∀ (x2 : Int) (x3 : Int) (σ : bS), bR x2 → bR x3 → bRG σ → P129 x2 x3 σ → bA p l e { frames := 1, cells := 0, slots := 0, locals := 25 } s m args below meth c 0 0 (bQi below args s G σ0 Q) G (va_A (bk_w G σ0) s.heap.size) 4 129 [(0, .ref (G.2.2 10)), (2, .int (bI x2)), (3, .int (bI x3))] [] σ) (hP166 : ∀ (x2 : Int) (x3 : Int) (σ : bS), bR x2 → bR x3 → bRG σ → P166 x2 x3 σ → bA p l e { frames := 1, cells := 0, slots := 0, locals := 25 } s m args below meth c 0 0 (bQi below args s G σ0 Q) G (va_A (bk_w G σ0) s.heap.size) 4 166 [(0, .ref (G.2.2 10)), (2, .int (bI x2)), (3, .int (bI x3))] [] σ) (hx3 : bR x3) (hs0 : bR s0) (hσ : bRG σ) (h : vX9_count_208 Q P92 P129 P166 x3 s0 σ) : bA p l e { frames := 1, cells := 0, slots := 0, locals := 25 } s m args below meth c 0 0 (bQi below args s G σ0 Q) G (va_A (bk_w G σ0) s.heap.size) 4 208 [(0, .ref (G.2.2 10)), (3, .int (bI x3))] [.int (bI s0)] σ := by
  unfold vX9_count_208 at h
  refine br_istore_n S [(2, .int (bI s0)), (0, .ref (G.2.2 10)), (3, .int (bI x3))] dX9_count_208 rfl (by decide) rfl ?_
  refine br_iinc S 2 [(3, .int (bI (x3 + 1))), (2, .int (bI s0)), (0, .ref (G.2.2 10))] dX9_count_209 rfl (by decide) rfl ?_
  refine br_goto S 166 dX9_count_212 (by decide) ?_
  obtain ⟨g1, h⟩ := h
  exact bA.perm [2, 1, 0] rfl <| hP166 s0 (x3 + 1) σ hs0 g1 hσ h
def bX9_count_166 (Q : Int → bS → Prop) (P92 : Int → Int → bS → Prop) (P129 : Int → Int → bS → Prop) (P166 : Int → Int → bS → Prop) (x2 : Int) (x3 : Int) (σ : bS) : Prop := (((σ 10 3) ≤ x3 → (Q x2 σ)) ∧ (¬ (σ 10 3) ≤ x3 → ((0 ≤ x3 ∧ x3 < 30) ∧ (bR ((σ 60 x3) + (σ 51 x3)) ∧ ((((σ 60 x3) + (σ 51 x3)) ≤ x2 → (vX9_count_208 Q P92 P129 P166 x3 x2 σ)) ∧ (¬ ((σ 60 x3) + (σ 51 x3)) ≤ x2 → (vX9_count_208 Q P92 P129 P166 x3 ((σ 60 x3) + (σ 51 x3)) σ)))))))
theorem mono_bX9_count_166 {Q Q9 : Int → bS → Prop} {P92 P929 : Int → Int → bS → Prop} {P129 P1299 : Int → Int → bS → Prop} {P166 P1669 : Int → Int → bS → Prop} {x2 : Int} {x3 : Int} {σ : bS} (hQ : ∀ r σ, Q r σ → Q9 r σ) (hP92 : ∀ x2 x3 σ, P92 x2 x3 σ → P929 x2 x3 σ) (hP129 : ∀ x2 x3 σ, P129 x2 x3 σ → P1299 x2 x3 σ) (hP166 : ∀ x2 x3 σ, P166 x2 x3 σ → P1669 x2 x3 σ) : bX9_count_166 Q P92 P129 P166 x2 x3 σ → bX9_count_166 Q9 P929 P1299 P1669 x2 x3 σ := (bm_and (bm_imp (hQ _ _)) (bm_imp (bm_r (bm_r (bm_and (bm_imp (mono_vX9_count_208 hQ hP92 hP129 hP166)) (bm_imp (mono_vX9_count_208 hQ hP92 hP129 hP166)))))))
theorem wX9_count_166 {p : Program} {l : Launch} {e : Env} {s : State} {m : MethodId} {args : Array Value} {below : List Frame} {meth : Method} {c : Code} {G : bG} {σ0 : bS} {Q : Int → bS → Prop} {P92 : Int → Int → bS → Prop} {P129 : Int → Int → bS → Prop} {P166 : Int → Int → bS → Prop} {x2 : Int} {x3 : Int} {σ : bS} (S : CallFix p m c cX9_count 4 s args bT "BankLinkerModel") (hr : meth.sig.returnType = some .int) (hlk : meth.locks = false) (hP92 : ∀ (x2 : Int) (x3 : Int) (σ : bS), bR x2 → bR x3 → bRG σ → P92 x2 x3 σ → bA p l e { frames := 1, cells := 0, slots := 0, locals := 25 } s m args below meth c 0 0 (bQi below args s G σ0 Q) G (va_A (bk_w G σ0) s.heap.size) 4 92 [(0, .ref (G.2.2 10)), (2, .int (bI x2)), (3, .int (bI x3))] [] σ) (hP129 : ∀ (x2 : Int) (x3 : Int) (σ : bS), bR x2 → bR x3 → bRG σ → P129 x2 x3 σ → bA p l e { frames := 1, cells := 0, slots := 0, locals := 25 } s m args below meth c 0 0 (bQi below args s G σ0 Q) G (va_A (bk_w G σ0) s.heap.size) 4 129 [(0, .ref (G.2.2 10)), (2, .int (bI x2)), (3, .int (bI x3))] [] σ) (hP166 : ∀ (x2 : Int) (x3 : Int) (σ : bS), bR x2 → bR x3 → bRG σ → P166 x2 x3 σ → bA p l e { frames := 1, cells := 0, slots := 0, locals := 25 } s m args below meth c 0 0 (bQi below args s G σ0 Q) G (va_A (bk_w G σ0) s.heap.size) 4 166 [(0, .ref (G.2.2 10)), (2, .int (bI x2)), (3, .int (bI x3))] [] σ) (hx2 : bR x2) (hx3 : bR x3) (hσ : bRG σ) (h : bX9_count_166 Q P92 P129 P166 x2 x3 σ) : bA p l e { frames := 1, cells := 0, slots := 0, locals := 25 } s m args below meth c 0 0 (bQi below args s G σ0 Q) G (va_A (bk_w G σ0) s.heap.size) 4 166 [(0, .ref (G.2.2 10)), (2, .int (bI x2)), (3, .int (bI x3))] [] σ := by
  unfold bX9_count_166 at h
  refine br_iload_n S 2 dX9_count_166 rfl rfl ?_
  refine br_aload_n S 0 dX9_count_167 rfl rfl ?_
  refine br_get (f := 3) (N := 37) (C := RX9) (T := TX9) S inT_X9 wd_3_237 (by decide) rfl rfl (by decide) rfl dX9_count_168 ?_
  refine br_ic_ge S 215 hx3 (hσ 10 3) dX9_count_171 (by decide) (fun c1 => ?_) (fun c1 => ?_)
  · replace h := h.1 c1
    refine br_iload_n S 1 dX9_count_215 rfl rfl ?_
    exact br_iret S hr hlk hx2 hσ dX9_count_216 h
  · replace h := h.2 c1
    refine br_aload_n S 0 dX9_count_174 rfl rfl ?_
    refine br_get (f := 15) (N := 37) (C := RX9) (T := TX9) S inT_X9 wd_4_9 (by decide) rfl rfl (by decide) rfl dX9_count_175 ?_
    refine br_iload_n S 2 dX9_count_178 rfl rfl ?_
    obtain ⟨g2, h⟩ := h
    refine br_iald (n := 30) S ⟨by decide, by decide, fun _ => rfl⟩ g2.1 g2.2 dX9_count_179 ?_
    refine br_aload_n S 0 dX9_count_180 rfl rfl ?_
    refine br_get (f := 5) (N := 37) (C := RX9) (T := TX9) S inT_X9 wd_3_239 (by decide) rfl rfl (by decide) rfl dX9_count_181 ?_
    refine br_iload_n S 2 dX9_count_184 rfl rfl ?_
    refine br_iald (n := 30) S ⟨by decide, by decide, fun _ => rfl⟩ g2.1 g2.2 dX9_count_185 ?_
    refine br_iadd S dX9_count_186 ?_
    refine br_iload_n S 1 dX9_count_187 rfl rfl ?_
    obtain ⟨g3, h⟩ := h
    refine br_ic_le S 207 g3 hx2 dX9_count_188 (by decide) (fun c4 => ?_) (fun c4 => ?_)
    · replace h := h.1 c4
      refine br_iload_n S 1 dX9_count_207 rfl rfl ?_
      exact bA.perm [0, 2] rfl <| wX9_count_208 S hr hlk hP92 hP129 hP166 hx3 hx2 hσ h
    · replace h := h.2 c4
      refine br_aload_n S 0 dX9_count_191 rfl rfl ?_
      refine br_get (f := 15) (N := 37) (C := RX9) (T := TX9) S inT_X9 wd_4_9 (by decide) rfl rfl (by decide) rfl dX9_count_192 ?_
      refine br_iload_n S 2 dX9_count_195 rfl rfl ?_
      refine br_iald (n := 30) S ⟨by decide, by decide, fun _ => rfl⟩ g2.1 g2.2 dX9_count_196 ?_
      refine br_aload_n S 0 dX9_count_197 rfl rfl ?_
      refine br_get (f := 5) (N := 37) (C := RX9) (T := TX9) S inT_X9 wd_3_239 (by decide) rfl rfl (by decide) rfl dX9_count_198 ?_
      refine br_iload_n S 2 dX9_count_201 rfl rfl ?_
      refine br_iald (n := 30) S ⟨by decide, by decide, fun _ => rfl⟩ g2.1 g2.2 dX9_count_202 ?_
      refine br_iadd S dX9_count_203 ?_
      refine br_goto S 208 dX9_count_204 (by decide) ?_
      exact bA.perm [0, 2] rfl <| wX9_count_208 S hr hlk hP92 hP129 hP166 hx3 g3 hσ h
def eX9_count (Q : Int → bS → Prop) (P92 : Int → Int → bS → Prop) (P129 : Int → Int → bS → Prop) (P166 : Int → Int → bS → Prop) (a1 : Int) (σ : bS) : Prop := (∀ σ1 : bS, σ1 = bup σ 10 0 0 → (vX9_in (fun z3 σ4 => ((¬ z3 = 0 → ((a1 ≤ 2 → (vX9_count_35 Q P92 P129 P166 a1 σ4)) ∧ (¬ a1 ≤ 2 → ((¬ (σ4 10 10) = 0 → (vX9_count_35 Q P92 P129 P166 a1 σ4)) ∧ ((σ4 10 10) = 0 → (Q (-3) σ4)))))) ∧ (z3 = 0 → (Q (-2) σ4)))) a1 0 7 σ1))
theorem mono_eX9_count {Q Q9 : Int → bS → Prop} {P92 P929 : Int → Int → bS → Prop} {P129 P1299 : Int → Int → bS → Prop} {P166 P1669 : Int → Int → bS → Prop} {a1 : Int} {σ : bS} (hQ : ∀ r σ, Q r σ → Q9 r σ) (hP92 : ∀ x2 x3 σ, P92 x2 x3 σ → P929 x2 x3 σ) (hP129 : ∀ x2 x3 σ, P129 x2 x3 σ → P1299 x2 x3 σ) (hP166 : ∀ x2 x3 σ, P166 x2 x3 σ → P1669 x2 x3 σ) : eX9_count Q P92 P129 P166 a1 σ → eX9_count Q9 P929 P1299 P1669 a1 σ := (bm_all fun _ => bm_imp (mono_X9_in (fun _ _ => (bm_and (bm_imp (bm_and (bm_imp (mono_vX9_count_35 hQ hP92 hP129 hP166)) (bm_imp (bm_and (bm_imp (mono_vX9_count_35 hQ hP92 hP129 hP166)) (bm_imp (hQ _ _)))))) (bm_imp (hQ _ _))))))
theorem wX9_count_e {p : Program} {l : Launch} {e : Env} {s : State} {m : MethodId} {args : Array Value} {below : List Frame} {meth : Method} {c : Code} {G : bG} {σ0 : bS} {Q : Int → bS → Prop} {P92 : Int → Int → bS → Prop} {P129 : Int → Int → bS → Prop} {P166 : Int → Int → bS → Prop} {a1 : Int} {σ : bS} (S : CallFix p m c cX9_count 4 s args bT "BankLinkerModel") (hr : meth.sig.returnType = some .int) (hlk : meth.locks = false) (hP92 : ∀ (x2 : Int) (x3 : Int) (σ : bS), bR x2 → bR x3 → bRG σ → P92 x2 x3 σ → bA p l e { frames := 1, cells := 0, slots := 0, locals := 25 } s m args below meth c 0 0 (bQi below args s G σ0 Q) G (va_A (bk_w G σ0) s.heap.size) 4 92 [(0, .ref (G.2.2 10)), (2, .int (bI x2)), (3, .int (bI x3))] [] σ) (hP129 : ∀ (x2 : Int) (x3 : Int) (σ : bS), bR x2 → bR x3 → bRG σ → P129 x2 x3 σ → bA p l e { frames := 1, cells := 0, slots := 0, locals := 25 } s m args below meth c 0 0 (bQi below args s G σ0 Q) G (va_A (bk_w G σ0) s.heap.size) 4 129 [(0, .ref (G.2.2 10)), (2, .int (bI x2)), (3, .int (bI x3))] [] σ) (hP166 : ∀ (x2 : Int) (x3 : Int) (σ : bS), bR x2 → bR x3 → bRG σ → P166 x2 x3 σ → bA p l e { frames := 1, cells := 0, slots := 0, locals := 25 } s m args below meth c 0 0 (bQi below args s G σ0 Q) G (va_A (bk_w G σ0) s.heap.size) 4 166 [(0, .ref (G.2.2 10)), (2, .int (bI x2)), (3, .int (bI x3))] [] σ) (ha1 : bR a1) (hσ : bRG σ) (h : eX9_count Q P92 P129 P166 a1 σ) : bA p l e { frames := 1, cells := 0, slots := 0, locals := 25 } s m args below meth c 0 0 (bQi below args s G σ0 Q) G (va_A (bk_w G σ0) s.heap.size) 4 0 [(0, .ref (G.2.2 10)), (1, .int (bI a1))] [] σ := by
  unfold eX9_count at h
  refine br_aload_n S 0 dX9_count_0 rfl rfl ?_
  refine br_iconst S dX9_count_1 ?_
  obtain ⟨σ1, e2⟩ : ∃ τ, τ = bup σ 10 0 0 := ⟨_, rfl⟩
  replace h := h σ1 e2
  have hσ1 : bRG σ1 := by rw [e2]; exact bup_rg hσ (by decide)
  refine br_put (f := 0) (N := 37) (C := RX9) (T := TX9) S tyX9 tyX9_ok nmX9 inT_X9 wd_3_234 (by decide) rfl (pf_10_0 _ _ _) rfl (by decide) (Nat.le_of_ble_eq_true rfl) rfl rfl rfl rfl dX9_count_2 ?_
  refine bA.to rfl rfl e2.symm ?_
  refine br_iload_n S 1 dX9_count_5 rfl rfl ?_
  refine br_i2l S ha1 dX9_count_6 ?_
  refine br_lconst (z := 0) S dX9_count_7 rfl ?_
  refine br_ldc2 (z := 7) S wd_4_229 rfl dX9_count_8 ?_
  refine br_callS (As := [.long (bL a1), .long (bL 0), .long (bL 7)]) (rest := []) S (cwS_X9_in S.2.2.2.2 wd_4_111 ⟨by decide, by decide⟩) (mX9_in l G σ1 a1 ha1 0 (by decide) 7 (by decide) h) hσ1 rfl rfl (Nat.le_of_ble_eq_true rfl) ⟨by decide, by decide⟩ dX9_count_11 (fun z3 σ4 hz3 hσ4 h => ?_)
  refine br_if_ne S 20 hz3 dX9_count_14 (by decide) (fun c5 => ?_) (fun c5 => ?_)
  · replace h := h.1 c5
    refine br_iload_n S 1 dX9_count_20 rfl rfl ?_
    refine br_iconst S dX9_count_21 ?_
    refine br_ic_le S 35 ha1 (by decide) dX9_count_22 (by decide) (fun c6 => ?_) (fun c6 => ?_)
    · replace h := h.1 c6
      exact wX9_count_35 S hr hlk hP92 hP129 hP166 ha1 hσ4 h
    · replace h := h.2 c6
      refine br_aload_n S 0 dX9_count_25 rfl rfl ?_
      refine br_get (f := 10) (N := 37) (C := RX9) (T := TX9) S inT_X9 wd_4_4 (by decide) rfl rfl (by decide) rfl dX9_count_26 ?_
      refine br_if_ne S 35 (hσ4 10 10) dX9_count_29 (by decide) (fun c7 => ?_) (fun c7 => ?_)
      · replace h := h.1 c7
        exact wX9_count_35 S hr hlk hP92 hP129 hP166 ha1 hσ4 h
      · replace h := h.2 c7
        refine br_bipush S dX9_count_32 rfl ?_
        exact br_iret S hr hlk (by decide) hσ4 dX9_count_34 h
  · replace h := h.2 c5
    refine br_bipush S dX9_count_17 rfl ?_
    exact br_iret S hr hlk (by decide) hσ4 dX9_count_19 h
def LX9_count_92 (Q : Int → bS → Prop) (x2 : Int) (x3 : Int) (σ : bS) : Prop := ∀ (P92 : Int → Int → bS → Prop) (P129 : Int → Int → bS → Prop) (P166 : Int → Int → bS → Prop), (∀ x2 x3 σ, bX9_count_92 Q P92 P129 P166 x2 x3 σ → P92 x2 x3 σ) → (∀ x2 x3 σ, bX9_count_129 Q P92 P129 P166 x2 x3 σ → P129 x2 x3 σ) → (∀ x2 x3 σ, bX9_count_166 Q P92 P129 P166 x2 x3 σ → P166 x2 x3 σ) → P92 x2 x3 σ
def LX9_count_129 (Q : Int → bS → Prop) (x2 : Int) (x3 : Int) (σ : bS) : Prop := ∀ (P92 : Int → Int → bS → Prop) (P129 : Int → Int → bS → Prop) (P166 : Int → Int → bS → Prop), (∀ x2 x3 σ, bX9_count_92 Q P92 P129 P166 x2 x3 σ → P92 x2 x3 σ) → (∀ x2 x3 σ, bX9_count_129 Q P92 P129 P166 x2 x3 σ → P129 x2 x3 σ) → (∀ x2 x3 σ, bX9_count_166 Q P92 P129 P166 x2 x3 σ → P166 x2 x3 σ) → P129 x2 x3 σ
def LX9_count_166 (Q : Int → bS → Prop) (x2 : Int) (x3 : Int) (σ : bS) : Prop := ∀ (P92 : Int → Int → bS → Prop) (P129 : Int → Int → bS → Prop) (P166 : Int → Int → bS → Prop), (∀ x2 x3 σ, bX9_count_92 Q P92 P129 P166 x2 x3 σ → P92 x2 x3 σ) → (∀ x2 x3 σ, bX9_count_129 Q P92 P129 P166 x2 x3 σ → P129 x2 x3 σ) → (∀ x2 x3 σ, bX9_count_166 Q P92 P129 P166 x2 x3 σ → P166 x2 x3 σ) → P166 x2 x3 σ
theorem LX9_count_92_in {Q : Int → bS → Prop} {x2 : Int} {x3 : Int} {σ : bS} (h : bX9_count_92 Q (LX9_count_92 Q) (LX9_count_129 Q) (LX9_count_166 Q) x2 x3 σ) : LX9_count_92 Q x2 x3 σ := fun P92 P129 P166 H92 H129 H166 => H92 _ _ _ (mono_bX9_count_92 (fun _ _ h => h) (fun _ _ _ h => h P92 P129 P166 H92 H129 H166) (fun _ _ _ h => h P92 P129 P166 H92 H129 H166) (fun _ _ _ h => h P92 P129 P166 H92 H129 H166) h)
theorem mono_LX9_count_92 {Q Q9 : Int → bS → Prop} {x2 : Int} {x3 : Int} {σ : bS} (hQ : ∀ r σ, Q r σ → Q9 r σ) (h : LX9_count_92 Q x2 x3 σ) : LX9_count_92 Q9 x2 x3 σ := fun P92 P129 P166 H92 H129 H166 => h P92 P129 P166 (fun _ _ _ hb => H92 _ _ _ (mono_bX9_count_92 hQ (fun _ _ _ h => h) (fun _ _ _ h => h) (fun _ _ _ h => h) hb)) (fun _ _ _ hb => H129 _ _ _ (mono_bX9_count_129 hQ (fun _ _ _ h => h) (fun _ _ _ h => h) (fun _ _ _ h => h) hb)) (fun _ _ _ hb => H166 _ _ _ (mono_bX9_count_166 hQ (fun _ _ _ h => h) (fun _ _ _ h => h) (fun _ _ _ h => h) hb))
theorem LX9_count_129_in {Q : Int → bS → Prop} {x2 : Int} {x3 : Int} {σ : bS} (h : bX9_count_129 Q (LX9_count_92 Q) (LX9_count_129 Q) (LX9_count_166 Q) x2 x3 σ) : LX9_count_129 Q x2 x3 σ := fun P92 P129 P166 H92 H129 H166 => H129 _ _ _ (mono_bX9_count_129 (fun _ _ h => h) (fun _ _ _ h => h P92 P129 P166 H92 H129 H166) (fun _ _ _ h => h P92 P129 P166 H92 H129 H166) (fun _ _ _ h => h P92 P129 P166 H92 H129 H166) h)
theorem mono_LX9_count_129 {Q Q9 : Int → bS → Prop} {x2 : Int} {x3 : Int} {σ : bS} (hQ : ∀ r σ, Q r σ → Q9 r σ) (h : LX9_count_129 Q x2 x3 σ) : LX9_count_129 Q9 x2 x3 σ := fun P92 P129 P166 H92 H129 H166 => h P92 P129 P166 (fun _ _ _ hb => H92 _ _ _ (mono_bX9_count_92 hQ (fun _ _ _ h => h) (fun _ _ _ h => h) (fun _ _ _ h => h) hb)) (fun _ _ _ hb => H129 _ _ _ (mono_bX9_count_129 hQ (fun _ _ _ h => h) (fun _ _ _ h => h) (fun _ _ _ h => h) hb)) (fun _ _ _ hb => H166 _ _ _ (mono_bX9_count_166 hQ (fun _ _ _ h => h) (fun _ _ _ h => h) (fun _ _ _ h => h) hb))
theorem LX9_count_166_in {Q : Int → bS → Prop} {x2 : Int} {x3 : Int} {σ : bS} (h : bX9_count_166 Q (LX9_count_92 Q) (LX9_count_129 Q) (LX9_count_166 Q) x2 x3 σ) : LX9_count_166 Q x2 x3 σ := fun P92 P129 P166 H92 H129 H166 => H166 _ _ _ (mono_bX9_count_166 (fun _ _ h => h) (fun _ _ _ h => h P92 P129 P166 H92 H129 H166) (fun _ _ _ h => h P92 P129 P166 H92 H129 H166) (fun _ _ _ h => h P92 P129 P166 H92 H129 H166) h)
theorem mono_LX9_count_166 {Q Q9 : Int → bS → Prop} {x2 : Int} {x3 : Int} {σ : bS} (hQ : ∀ r σ, Q r σ → Q9 r σ) (h : LX9_count_166 Q x2 x3 σ) : LX9_count_166 Q9 x2 x3 σ := fun P92 P129 P166 H92 H129 H166 => h P92 P129 P166 (fun _ _ _ hb => H92 _ _ _ (mono_bX9_count_92 hQ (fun _ _ _ h => h) (fun _ _ _ h => h) (fun _ _ _ h => h) hb)) (fun _ _ _ hb => H129 _ _ _ (mono_bX9_count_129 hQ (fun _ _ _ h => h) (fun _ _ _ h => h) (fun _ _ _ h => h) hb)) (fun _ _ _ hb => H166 _ _ _ (mono_bX9_count_166 hQ (fun _ _ _ h => h) (fun _ _ _ h => h) (fun _ _ _ h => h) hb))
def vX9_count (Q : Int → bS → Prop) (a1 : Int) (σ : bS) : Prop := eX9_count Q (LX9_count_92 Q) (LX9_count_129 Q) (LX9_count_166 Q) a1 σ
theorem mono_vX9_count {Q Q9 : Int → bS → Prop} {a1 : Int} {σ : bS} (hQ : ∀ r σ, Q r σ → Q9 r σ) : vX9_count Q a1 σ → vX9_count Q9 a1 σ := mono_eX9_count hQ (fun _ _ _ h => mono_LX9_count_92 hQ h) (fun _ _ _ h => mono_LX9_count_129 hQ h) (fun _ _ _ h => mono_LX9_count_166 hQ h)
theorem mono_X9_count {Q Q9 : Int → bS → Prop} {a1 : Int} {σ : bS} (hQ : ∀ r σ, Q r σ → Q9 r σ) : vX9_count Q a1 σ → vX9_count Q9 a1 σ := mono_vX9_count hQ
theorem mX9_count (l : Launch) (G : bG) (σ : bS) (a1 : Int) (ha1 : bR a1) {Q : Int → bS → Prop} (h : vX9_count Q a1 σ) : bk_Mi l yX9_count (Cond.code yX9_count cX9_count 4 (some .int) :: bT) { frames := 1, cells := 0, slots := 0, locals := 25 } G σ [.ref (G.2.2 10), .int (bI a1)] Q := by
  refine bk_Mi.of (cc := cX9_count) (maxL := 4) (ret := some .int) (by decide) rfl (Nat.le_of_ble_eq_true rfl) ?_
  intro p e s m args below meth c S hr hlk hσ
  let K92 : Int → Int → bS → Prop := fun x2 x3 τ => bR x2 → bR x3 → bRG τ → bA p l e { frames := 1, cells := 0, slots := 0, locals := 25 } s m args below meth c 0 0 (bQi below args s G σ Q) G (va_A (bk_w G σ) s.heap.size) 4 92 [(0, .ref (G.2.2 10)), (2, .int (bI x2)), (3, .int (bI x3))] [] τ
  let K129 : Int → Int → bS → Prop := fun x2 x3 τ => bR x2 → bR x3 → bRG τ → bA p l e { frames := 1, cells := 0, slots := 0, locals := 25 } s m args below meth c 0 0 (bQi below args s G σ Q) G (va_A (bk_w G σ) s.heap.size) 4 129 [(0, .ref (G.2.2 10)), (2, .int (bI x2)), (3, .int (bI x3))] [] τ
  let K166 : Int → Int → bS → Prop := fun x2 x3 τ => bR x2 → bR x3 → bRG τ → bA p l e { frames := 1, cells := 0, slots := 0, locals := 25 } s m args below meth c 0 0 (bQi below args s G σ Q) G (va_A (bk_w G σ) s.heap.size) 4 166 [(0, .ref (G.2.2 10)), (2, .int (bI x2)), (3, .int (bI x3))] [] τ
  have C92 : ∀ x2 x3 τ, bX9_count_92 Q K92 K129 K166 x2 x3 τ → K92 x2 x3 τ := fun x2 x3 τ hb hx2 hx3 hτ => wX9_count_92 S hr hlk (fun x2 x3 σ hx2 hx3 hσ h => h hx2 hx3 hσ) (fun x2 x3 σ hx2 hx3 hσ h => h hx2 hx3 hσ) (fun x2 x3 σ hx2 hx3 hσ h => h hx2 hx3 hσ) hx2 hx3 hτ hb
  have C129 : ∀ x2 x3 τ, bX9_count_129 Q K92 K129 K166 x2 x3 τ → K129 x2 x3 τ := fun x2 x3 τ hb hx2 hx3 hτ => wX9_count_129 S hr hlk (fun x2 x3 σ hx2 hx3 hσ h => h hx2 hx3 hσ) (fun x2 x3 σ hx2 hx3 hσ h => h hx2 hx3 hσ) (fun x2 x3 σ hx2 hx3 hσ h => h hx2 hx3 hσ) hx2 hx3 hτ hb
  have C166 : ∀ x2 x3 τ, bX9_count_166 Q K92 K129 K166 x2 x3 τ → K166 x2 x3 τ := fun x2 x3 τ hb hx2 hx3 hτ => wX9_count_166 S hr hlk (fun x2 x3 σ hx2 hx3 hσ h => h hx2 hx3 hσ) (fun x2 x3 σ hx2 hx3 hσ h => h hx2 hx3 hσ) (fun x2 x3 σ hx2 hx3 hσ h => h hx2 hx3 hσ) hx2 hx3 hτ hb
  exact wX9_count_e S hr hlk (fun x2 x3 σ hx2 hx3 hσ h => h K92 K129 K166 C92 C129 C166 hx2 hx3 hσ) (fun x2 x3 σ hx2 hx3 hσ h => h K92 K129 K166 C92 C129 C166 hx2 hx3 hσ) (fun x2 x3 σ hx2 hx3 hσ h => h K92 K129 K166 C92 C129 C166 hx2 hx3 hσ) ha1 hσ h
def vX9_out (Q : Int → bS → Prop) (a1 : Int) (a2 : Int) (σ : bS) : Prop := (∀ σ1 : bS, σ1 = bup σ 10 0 0 → (vX9_in (fun z3 σ4 => ((¬ z3 = 0 → (vX9_in (fun z6 σ7 => ((z6 = 0 → (Q (-1) σ7)) ∧ (¬ z6 = 0 → ((0 ≤ ((5 * a1) + 2) ∧ ((5 * a1) + 2) < 10) ∧ (((σ7 64 ((5 * a1) + 2)) ≤ a2 → (Q (-1) σ7)) ∧ (¬ (σ7 64 ((5 * a1) + 2)) ≤ a2 → ((0 ≤ ((100 * a1) + a2) ∧ ((100 * a1) + a2) < 200) ∧ (Q (σ7 65 ((100 * a1) + a2)) σ7)))))))) a2 0 99 σ4)) ∧ (z3 = 0 → (Q (-2) σ4)))) a1 0 1 σ1))
theorem mono_vX9_out {Q Q9 : Int → bS → Prop} {a1 : Int} {a2 : Int} {σ : bS} (hQ : ∀ r σ, Q r σ → Q9 r σ) : vX9_out Q a1 a2 σ → vX9_out Q9 a1 a2 σ := (bm_all fun _ => bm_imp (mono_X9_in (fun _ _ => (bm_and (bm_imp (mono_X9_in (fun _ _ => (bm_and (bm_imp (hQ _ _)) (bm_imp (bm_r (bm_and (bm_imp (hQ _ _)) (bm_imp (bm_r (hQ _ _)))))))))) (bm_imp (hQ _ _))))))
theorem wX9_out_e {p : Program} {l : Launch} {e : Env} {s : State} {m : MethodId} {args : Array Value} {below : List Frame} {meth : Method} {c : Code} {G : bG} {σ0 : bS} {Q : Int → bS → Prop} {a1 : Int} {a2 : Int} {σ : bS} (S : CallFix p m c cX9_out 3 s args bT "BankLinkerModel") (hr : meth.sig.returnType = some .int) (hlk : meth.locks = false) (ha1 : bR a1) (ha2 : bR a2) (hσ : bRG σ) (h : vX9_out Q a1 a2 σ) : bA p l e { frames := 1, cells := 0, slots := 0, locals := 25 } s m args below meth c 0 0 (bQi below args s G σ0 Q) G (va_A (bk_w G σ0) s.heap.size) 3 0 [(0, .ref (G.2.2 10)), (1, .int (bI a1)), (2, .int (bI a2))] [] σ := by
  unfold vX9_out at h
  refine br_aload_n S 0 dX9_out_0 rfl rfl ?_
  refine br_iconst S dX9_out_1 ?_
  obtain ⟨σ1, e2⟩ : ∃ τ, τ = bup σ 10 0 0 := ⟨_, rfl⟩
  replace h := h σ1 e2
  have hσ1 : bRG σ1 := by rw [e2]; exact bup_rg hσ (by decide)
  refine br_put (f := 0) (N := 37) (C := RX9) (T := TX9) S tyX9 tyX9_ok nmX9 inT_X9 wd_3_234 (by decide) rfl (pf_10_0 _ _ _) rfl (by decide) (Nat.le_of_ble_eq_true rfl) rfl rfl rfl rfl dX9_out_2 ?_
  refine bA.to rfl rfl e2.symm ?_
  refine br_iload_n S 1 dX9_out_5 rfl rfl ?_
  refine br_i2l S ha1 dX9_out_6 ?_
  refine br_lconst (z := 0) S dX9_out_7 rfl ?_
  refine br_lconst (z := 1) S dX9_out_8 rfl ?_
  refine br_callS (As := [.long (bL a1), .long (bL 0), .long (bL 1)]) (rest := []) S (cwS_X9_in S.2.2.2.2 wd_4_111 ⟨by decide, by decide⟩) (mX9_in l G σ1 a1 ha1 0 (by decide) 1 (by decide) h) hσ1 rfl rfl (Nat.le_of_ble_eq_true rfl) ⟨by decide, by decide⟩ dX9_out_9 (fun z3 σ4 hz3 hσ4 h => ?_)
  refine br_if_ne S 18 hz3 dX9_out_12 (by decide) (fun c5 => ?_) (fun c5 => ?_)
  · replace h := h.1 c5
    refine br_iload_n S 2 dX9_out_18 rfl rfl ?_
    refine br_i2l S ha2 dX9_out_19 ?_
    refine br_lconst (z := 0) S dX9_out_20 rfl ?_
    refine br_ldc2 (z := 99) S wd_5_31 rfl dX9_out_21 ?_
    refine br_callS (As := [.long (bL a2), .long (bL 0), .long (bL 99)]) (rest := []) S (cwS_X9_in S.2.2.2.2 wd_4_111 ⟨by decide, by decide⟩) (mX9_in l G σ4 a2 ha2 0 (by decide) 99 (by decide) h) hσ4 rfl rfl (Nat.le_of_ble_eq_true rfl) ⟨by decide, by decide⟩ dX9_out_24 (fun z6 σ7 hz6 hσ7 h => ?_)
    refine br_if_eq S 58 hz6 dX9_out_27 (by decide) (fun c8 => ?_) (fun c8 => ?_)
    · replace h := h.1 c8
      refine br_iconst S dX9_out_58 ?_
      exact br_iret S hr hlk (by decide) hσ7 dX9_out_59 h
    · replace h := h.2 c8
      refine br_iload_n S 2 dX9_out_30 rfl rfl ?_
      refine br_aload_n S 0 dX9_out_31 rfl rfl ?_
      refine br_get (f := 26) (N := 37) (C := RX9) (T := TX9) S inT_X9 wd_4_20 (by decide) rfl rfl (by decide) rfl dX9_out_32 ?_
      refine br_iconst S dX9_out_35 ?_
      refine br_iload_n S 1 dX9_out_36 rfl rfl ?_
      refine br_imul S dX9_out_37 ?_
      refine br_iconst S dX9_out_38 ?_
      refine br_iadd S dX9_out_39 ?_
      obtain ⟨g9, h⟩ := h
      refine br_iald (n := 10) S ⟨by decide, by decide, fun _ => rfl⟩ g9.1 g9.2 dX9_out_40 ?_
      refine br_ic_ge S 58 ha2 (hσ7 64 ((5 * a1) + 2)) dX9_out_41 (by decide) (fun c10 => ?_) (fun c10 => ?_)
      · replace h := h.1 c10
        refine br_iconst S dX9_out_58 ?_
        exact br_iret S hr hlk (by decide) hσ7 dX9_out_59 h
      · replace h := h.2 c10
        refine br_aload_n S 0 dX9_out_44 rfl rfl ?_
        refine br_get (f := 27) (N := 37) (C := RX9) (T := TX9) S inT_X9 wd_4_21 (by decide) rfl rfl (by decide) rfl dX9_out_45 ?_
        refine br_bipush S dX9_out_48 rfl ?_
        refine br_iload_n S 1 dX9_out_50 rfl rfl ?_
        refine br_imul S dX9_out_51 ?_
        refine br_iload_n S 2 dX9_out_52 rfl rfl ?_
        refine br_iadd S dX9_out_53 ?_
        obtain ⟨g11, h⟩ := h
        refine br_iald (n := 200) S ⟨by decide, by decide, fun _ => rfl⟩ g11.1 g11.2 dX9_out_54 ?_
        refine br_goto S 59 dX9_out_55 (by decide) ?_
        exact br_iret S hr hlk (hσ7 65 ((100 * a1) + a2)) hσ7 dX9_out_59 h
  · replace h := h.2 c5
    refine br_bipush S dX9_out_15 rfl ?_
    exact br_iret S hr hlk (by decide) hσ4 dX9_out_17 h
theorem mono_X9_out {Q Q9 : Int → bS → Prop} {a1 : Int} {a2 : Int} {σ : bS} (hQ : ∀ r σ, Q r σ → Q9 r σ) : vX9_out Q a1 a2 σ → vX9_out Q9 a1 a2 σ := mono_vX9_out hQ
theorem mX9_out (l : Launch) (G : bG) (σ : bS) (a1 : Int) (ha1 : bR a1) (a2 : Int) (ha2 : bR a2) {Q : Int → bS → Prop} (h : vX9_out Q a1 a2 σ) : bk_Mi l yX9_out (Cond.code yX9_out cX9_out 3 (some .int) :: bT) { frames := 1, cells := 0, slots := 0, locals := 25 } G σ [.ref (G.2.2 10), .int (bI a1), .int (bI a2)] Q := by
  refine bk_Mi.of (cc := cX9_out) (maxL := 3) (ret := some .int) (by decide) rfl (Nat.le_of_ble_eq_true rfl) ?_
  intro p e s m args below meth c S hr hlk hσ
  exact wX9_out_e S hr hlk ha1 ha2 hσ h
def vX9_told_ (Q : Int → bS → Prop) (a1 : Int) (a2 : Int) (σ : bS) : Prop := (∀ σ1 : bS, σ1 = bup σ 10 0 0 → (vX9_in (fun z3 σ4 => ((z3 = 0 → (Q (-2) σ4)) ∧ (¬ z3 = 0 → (vX9_in (fun z6 σ7 => ((z6 = 0 → (Q (-2) σ7)) ∧ (¬ z6 = 0 → ((0 ≤ ((5 * a1) + a2) ∧ ((5 * a1) + a2) < 10) ∧ (Q (σ7 64 ((5 * a1) + a2)) σ7))))) a2 0 4 σ4)))) a1 0 1 σ1))
theorem mono_vX9_told_ {Q Q9 : Int → bS → Prop} {a1 : Int} {a2 : Int} {σ : bS} (hQ : ∀ r σ, Q r σ → Q9 r σ) : vX9_told_ Q a1 a2 σ → vX9_told_ Q9 a1 a2 σ := (bm_all fun _ => bm_imp (mono_X9_in (fun _ _ => (bm_and (bm_imp (hQ _ _)) (bm_imp (mono_X9_in (fun _ _ => (bm_and (bm_imp (hQ _ _)) (bm_imp (bm_r (hQ _ _)))))))))))
theorem wX9_told__e {p : Program} {l : Launch} {e : Env} {s : State} {m : MethodId} {args : Array Value} {below : List Frame} {meth : Method} {c : Code} {G : bG} {σ0 : bS} {Q : Int → bS → Prop} {a1 : Int} {a2 : Int} {σ : bS} (S : CallFix p m c cX9_told_ 3 s args bT "BankLinkerModel") (hr : meth.sig.returnType = some .int) (hlk : meth.locks = false) (ha1 : bR a1) (ha2 : bR a2) (hσ : bRG σ) (h : vX9_told_ Q a1 a2 σ) : bA p l e { frames := 1, cells := 0, slots := 0, locals := 25 } s m args below meth c 0 0 (bQi below args s G σ0 Q) G (va_A (bk_w G σ0) s.heap.size) 3 0 [(0, .ref (G.2.2 10)), (1, .int (bI a1)), (2, .int (bI a2))] [] σ := by
  unfold vX9_told_ at h
  refine br_aload_n S 0 dX9_told__0 rfl rfl ?_
  refine br_iconst S dX9_told__1 ?_
  obtain ⟨σ1, e2⟩ : ∃ τ, τ = bup σ 10 0 0 := ⟨_, rfl⟩
  replace h := h σ1 e2
  have hσ1 : bRG σ1 := by rw [e2]; exact bup_rg hσ (by decide)
  refine br_put (f := 0) (N := 37) (C := RX9) (T := TX9) S tyX9 tyX9_ok nmX9 inT_X9 wd_3_234 (by decide) rfl (pf_10_0 _ _ _) rfl (by decide) (Nat.le_of_ble_eq_true rfl) rfl rfl rfl rfl dX9_told__2 ?_
  refine bA.to rfl rfl e2.symm ?_
  refine br_iload_n S 1 dX9_told__5 rfl rfl ?_
  refine br_i2l S ha1 dX9_told__6 ?_
  refine br_lconst (z := 0) S dX9_told__7 rfl ?_
  refine br_lconst (z := 1) S dX9_told__8 rfl ?_
  refine br_callS (As := [.long (bL a1), .long (bL 0), .long (bL 1)]) (rest := []) S (cwS_X9_in S.2.2.2.2 wd_4_111 ⟨by decide, by decide⟩) (mX9_in l G σ1 a1 ha1 0 (by decide) 1 (by decide) h) hσ1 rfl rfl (Nat.le_of_ble_eq_true rfl) ⟨by decide, by decide⟩ dX9_told__9 (fun z3 σ4 hz3 hσ4 h => ?_)
  refine br_if_eq S 40 hz3 dX9_told__12 (by decide) (fun c5 => ?_) (fun c5 => ?_)
  · replace h := h.1 c5
    refine br_bipush S dX9_told__40 rfl ?_
    exact br_iret S hr hlk (by decide) hσ4 dX9_told__42 h
  · replace h := h.2 c5
    refine br_iload_n S 2 dX9_told__15 rfl rfl ?_
    refine br_i2l S ha2 dX9_told__16 ?_
    refine br_lconst (z := 0) S dX9_told__17 rfl ?_
    refine br_ldc2 (z := 4) S wd_5_36 rfl dX9_told__18 ?_
    refine br_callS (As := [.long (bL a2), .long (bL 0), .long (bL 4)]) (rest := []) S (cwS_X9_in S.2.2.2.2 wd_4_111 ⟨by decide, by decide⟩) (mX9_in l G σ4 a2 ha2 0 (by decide) 4 (by decide) h) hσ4 rfl rfl (Nat.le_of_ble_eq_true rfl) ⟨by decide, by decide⟩ dX9_told__21 (fun z6 σ7 hz6 hσ7 h => ?_)
    refine br_if_eq S 40 hz6 dX9_told__24 (by decide) (fun c8 => ?_) (fun c8 => ?_)
    · replace h := h.1 c8
      refine br_bipush S dX9_told__40 rfl ?_
      exact br_iret S hr hlk (by decide) hσ7 dX9_told__42 h
    · replace h := h.2 c8
      refine br_aload_n S 0 dX9_told__27 rfl rfl ?_
      refine br_get (f := 26) (N := 37) (C := RX9) (T := TX9) S inT_X9 wd_4_20 (by decide) rfl rfl (by decide) rfl dX9_told__28 ?_
      refine br_iconst S dX9_told__31 ?_
      refine br_iload_n S 1 dX9_told__32 rfl rfl ?_
      refine br_imul S dX9_told__33 ?_
      refine br_iload_n S 2 dX9_told__34 rfl rfl ?_
      refine br_iadd S dX9_told__35 ?_
      obtain ⟨g9, h⟩ := h
      refine br_iald (n := 10) S ⟨by decide, by decide, fun _ => rfl⟩ g9.1 g9.2 dX9_told__36 ?_
      refine br_goto S 42 dX9_told__37 (by decide) ?_
      exact br_iret S hr hlk (hσ7 64 ((5 * a1) + a2)) hσ7 dX9_told__42 h
theorem mono_X9_told_ {Q Q9 : Int → bS → Prop} {a1 : Int} {a2 : Int} {σ : bS} (hQ : ∀ r σ, Q r σ → Q9 r σ) : vX9_told_ Q a1 a2 σ → vX9_told_ Q9 a1 a2 σ := mono_vX9_told_ hQ
theorem mX9_told_ (l : Launch) (G : bG) (σ : bS) (a1 : Int) (ha1 : bR a1) (a2 : Int) (ha2 : bR a2) {Q : Int → bS → Prop} (h : vX9_told_ Q a1 a2 σ) : bk_Mi l yX9_told_ (Cond.code yX9_told_ cX9_told_ 3 (some .int) :: bT) { frames := 1, cells := 0, slots := 0, locals := 25 } G σ [.ref (G.2.2 10), .int (bI a1), .int (bI a2)] Q := by
  refine bk_Mi.of (cc := cX9_told_) (maxL := 3) (ret := some .int) (by decide) rfl (Nat.le_of_ble_eq_true rfl) ?_
  intro p e s m args below meth c S hr hlk hσ
  exact wX9_told__e S hr hlk ha1 ha2 hσ h

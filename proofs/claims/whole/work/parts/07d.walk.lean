def vX1_beginRoutine (Q : Int → bS → Prop) (a1 : Int) (σ : bS) : Prop := (((σ 7 5) < 60 → (bR ((σ 7 5) + 1) ∧ (∀ σ3 : bS, σ3 = bup σ 7 5 ((σ 7 5) + 1) → ((0 ≤ (σ3 7 5) ∧ (σ3 7 5) < 61) ∧ (∀ σ6 : bS, σ6 = bup σ3 44 (σ3 7 5) a1 → ((0 ≤ (σ6 7 5) ∧ (σ6 7 5) < 61) ∧ (∀ σ9 : bS, σ9 = bup σ6 45 (σ6 7 5) 0 → (bR ((σ9 7 5) * 9) ∧ (bR (((σ9 7 5) + 1) * 9) ∧ (vJ7_fill_fda19_46 (fun σ14 => (vX7_reach_9 (fun σ16 => (Q 2 σ16)) (σ14 7 5) σ14)) ((σ9 7 5) * 9) (((σ9 7 5) + 1) * 9) 0 σ9)))))))))) ∧ (¬ (σ 7 5) < 60 → (Q 0 σ)))
theorem mono_vX1_beginRoutine {Q Q9 : Int → bS → Prop} {a1 : Int} {σ : bS} (hQ : ∀ r σ, Q r σ → Q9 r σ) : vX1_beginRoutine Q a1 σ → vX1_beginRoutine Q9 a1 σ := (bm_and (bm_imp (bm_r (bm_all fun _ => bm_imp (bm_r (bm_all fun _ => bm_imp (bm_r (bm_all fun _ => bm_imp (bm_r (bm_r (mono_J7_fill_fda19_46 (fun _ => (mono_X7_reach_9 (fun _ => (hQ _ _)))))))))))))) (bm_imp (hQ _ _)))
theorem wX1_beginRoutine_e {p : Program} {l : Launch} {e : Env} {s : State} {m : MethodId} {args : Array Value} {below : List Frame} {meth : Method} {c : Code} {G : bG} {σ0 : bS} {Q : Int → bS → Prop} {a1 : Int} {σ : bS} (S : CallFix p m c cX1_beginRoutine 2 s args bT "BankLinker$FlatMachine") (hr : meth.sig.returnType = some .int) (hlk : meth.locks = false) (ha1 : bR a1) (hσ : bRG σ) (h : vX1_beginRoutine Q a1 σ) : bA p l e { frames := 2, cells := 0, slots := 0, locals := 46 } s m args below meth c 0 0 (bQi below args s G σ0 Q) G (va_A (bk_w G σ0) s.heap.size) 2 0 [(0, .ref (G.2.2 7)), (1, .int (bI a1))] [] σ := by
  unfold vX1_beginRoutine at h
  refine br_aload_n S 0 dX1_beginRoutine_0 rfl rfl ?_
  refine br_get (f := 5) (N := 6) (C := RX1) (T := TX1) S inT_X1 wd_2_49 (by decide) rfl rfl (by decide) rfl dX1_beginRoutine_1 ?_
  refine br_bipush S dX1_beginRoutine_4 rfl ?_
  refine br_ic_lt S 11 (hσ 7 5) (by decide) dX1_beginRoutine_6 (by decide) (fun c1 => ?_) (fun c1 => ?_)
  · replace h := h.1 c1
    refine br_aload_n S 0 dX1_beginRoutine_11 rfl rfl ?_
    refine br_dup S dX1_beginRoutine_12 rfl ?_
    refine br_get (f := 5) (N := 6) (C := RX1) (T := TX1) S inT_X1 wd_2_49 (by decide) rfl rfl (by decide) rfl dX1_beginRoutine_13 ?_
    refine br_iconst S dX1_beginRoutine_16 ?_
    refine br_iadd S dX1_beginRoutine_17 ?_
    obtain ⟨g2, h⟩ := h
    obtain ⟨σ3, e4⟩ : ∃ τ, τ = bup σ 7 5 ((σ 7 5) + 1) := ⟨_, rfl⟩
    replace h := h σ3 e4
    have hσ3 : bRG σ3 := by rw [e4]; exact bup_rg hσ g2
    refine br_put (f := 5) (N := 6) (C := RX1) (T := TX1) S tyX1 tyX1_ok nmX1 inT_X1 wd_2_49 (by decide) rfl (pf_7_5 _ _ _) rfl (by decide) (Nat.le_of_ble_eq_true rfl) rfl rfl rfl rfl dX1_beginRoutine_18 ?_
    refine bA.to rfl rfl e4.symm ?_
    refine br_aload_n S 0 dX1_beginRoutine_21 rfl rfl ?_
    refine br_get (f := 2) (N := 6) (C := RX1) (T := TX1) S inT_X1 wd_2_46 (by decide) rfl rfl (by decide) rfl dX1_beginRoutine_22 ?_
    refine br_aload_n S 0 dX1_beginRoutine_25 rfl rfl ?_
    refine br_get (f := 5) (N := 6) (C := RX1) (T := TX1) S inT_X1 wd_2_49 (by decide) rfl rfl (by decide) rfl dX1_beginRoutine_26 ?_
    refine br_iload_n S 1 dX1_beginRoutine_29 rfl rfl ?_
    obtain ⟨g5, h⟩ := h
    obtain ⟨σ6, e7⟩ : ∃ τ, τ = bup σ3 44 (σ3 7 5) a1 := ⟨_, rfl⟩
    replace h := h σ6 e7
    have hσ6 : bRG σ6 := by rw [e7]; exact bup_rg hσ3 ha1
    refine br_iast (n := 61) S ⟨by decide, by decide, fun _ => rfl⟩ g5.1 g5.2 dX1_beginRoutine_30 ?_
    refine bA.to rfl rfl e7.symm ?_
    refine br_aload_n S 0 dX1_beginRoutine_31 rfl rfl ?_
    refine br_get (f := 3) (N := 6) (C := RX1) (T := TX1) S inT_X1 wd_2_47 (by decide) rfl rfl (by decide) rfl dX1_beginRoutine_32 ?_
    refine br_aload_n S 0 dX1_beginRoutine_35 rfl rfl ?_
    refine br_get (f := 5) (N := 6) (C := RX1) (T := TX1) S inT_X1 wd_2_49 (by decide) rfl rfl (by decide) rfl dX1_beginRoutine_36 ?_
    refine br_iconst S dX1_beginRoutine_39 ?_
    obtain ⟨g8, h⟩ := h
    obtain ⟨σ9, e10⟩ : ∃ τ, τ = bup σ6 45 (σ6 7 5) 0 := ⟨_, rfl⟩
    replace h := h σ9 e10
    have hσ9 : bRG σ9 := by rw [e10]; exact bup_rg hσ6 (by decide)
    refine br_iast (n := 61) S ⟨by decide, by decide, fun _ => rfl⟩ g8.1 g8.2 dX1_beginRoutine_40 ?_
    refine bA.to rfl rfl e10.symm ?_
    refine br_aload_n S 0 dX1_beginRoutine_41 rfl rfl ?_
    refine br_get (f := 4) (N := 6) (C := RX1) (T := TX1) S inT_X1 wd_2_48 (by decide) rfl rfl (by decide) rfl dX1_beginRoutine_42 ?_
    refine br_aload_n S 0 dX1_beginRoutine_45 rfl rfl ?_
    refine br_get (f := 5) (N := 6) (C := RX1) (T := TX1) S inT_X1 wd_2_49 (by decide) rfl rfl (by decide) rfl dX1_beginRoutine_46 ?_
    refine br_bipush S dX1_beginRoutine_49 rfl ?_
    refine br_imul S dX1_beginRoutine_51 ?_
    refine br_aload_n S 0 dX1_beginRoutine_52 rfl rfl ?_
    refine br_get (f := 5) (N := 6) (C := RX1) (T := TX1) S inT_X1 wd_2_49 (by decide) rfl rfl (by decide) rfl dX1_beginRoutine_53 ?_
    refine br_iconst S dX1_beginRoutine_56 ?_
    refine br_iadd S dX1_beginRoutine_57 ?_
    refine br_bipush S dX1_beginRoutine_58 rfl ?_
    refine br_imul S dX1_beginRoutine_60 ?_
    refine br_iconst S dX1_beginRoutine_61 ?_
    obtain ⟨g11, h⟩ := h
    obtain ⟨g12, h⟩ := h
    refine br_callSv (As := [.ref (G.2.2 46), .int (bI ((σ9 7 5) * 9)), .int (bI (((σ9 7 5) + 1) * 9)), .int (bI 0)]) (rest := []) S (cwS_J7_fill_fda19 S.2.2.2.2 wd_3_189 ⟨by decide, by decide⟩) (mJ7_fill_fda19_46 l G σ9 ((σ9 7 5) * 9) g11 (((σ9 7 5) + 1) * 9) g12 0 (by decide) h) hσ9 rfl rfl (Nat.le_of_ble_eq_true rfl) ⟨by decide, by decide⟩ dX1_beginRoutine_62 (fun σ14 hσ14 h => ?_)
    refine br_aload_n S 0 dX1_beginRoutine_65 rfl rfl ?_
    refine br_get (f := 0) (N := 6) (C := RX1) (T := TX1) S inT_X1 wd_2_43 (by decide) rfl rfl (by decide) rfl dX1_beginRoutine_66 ?_
    refine br_aload_n S 0 dX1_beginRoutine_69 rfl rfl ?_
    refine br_get (f := 5) (N := 6) (C := RX1) (T := TX1) S inT_X1 wd_2_49 (by decide) rfl rfl (by decide) rfl dX1_beginRoutine_70 ?_
    refine br_callVv (As := [.int (bI (σ14 7 5))]) (rest := []) S (cwV_X7_reach S.2.2.2.2 wd_3_195 ⟨by decide, by decide⟩) (mX7_reach_9 l G σ14 (σ14 7 5) (hσ14 7 5) h) (by decide) rfl rfl rfl hσ14 rfl rfl (Nat.le_of_ble_eq_true rfl) ⟨by decide, by decide⟩ dX1_beginRoutine_73 (fun σ16 hσ16 h => ?_)
    refine br_iconst S dX1_beginRoutine_76 ?_
    exact br_iret S hr hlk (by decide) hσ16 dX1_beginRoutine_77 h
  · replace h := h.2 c1
    refine br_iconst S dX1_beginRoutine_9 ?_
    exact br_iret S hr hlk (by decide) hσ dX1_beginRoutine_10 h
theorem mono_X1_beginRoutine {Q Q9 : Int → bS → Prop} {a1 : Int} {σ : bS} (hQ : ∀ r σ, Q r σ → Q9 r σ) : vX1_beginRoutine Q a1 σ → vX1_beginRoutine Q9 a1 σ := mono_vX1_beginRoutine hQ
theorem mX1_beginRoutine (l : Launch) (G : bG) (σ : bS) (a1 : Int) (ha1 : bR a1) {Q : Int → bS → Prop} (h : vX1_beginRoutine Q a1 σ) : bk_Mi l yX1_beginRoutine (Cond.code yX1_beginRoutine cX1_beginRoutine 2 (some .int) :: bT) { frames := 2, cells := 0, slots := 0, locals := 46 } G σ [.ref (G.2.2 7), .int (bI a1)] Q := by
  refine bk_Mi.of (cc := cX1_beginRoutine) (maxL := 2) (ret := some .int) (by decide) rfl (Nat.le_of_ble_eq_true rfl) ?_
  intro p e s m args below meth c S hr hlk hσ
  exact wX1_beginRoutine_e S hr hlk ha1 hσ h
def vX1_endRoutine (Q : Int → bS → Prop) (σ : bS) : Prop := ((¬ (σ 7 5) = 0 → (bR ((σ 7 5) - 1) ∧ (∀ σ3 : bS, σ3 = bup σ 7 5 ((σ 7 5) - 1) → (Q 2 σ3)))) ∧ ((σ 7 5) = 0 → (Q 1 σ)))
theorem mono_vX1_endRoutine {Q Q9 : Int → bS → Prop} {σ : bS} (hQ : ∀ r σ, Q r σ → Q9 r σ) : vX1_endRoutine Q σ → vX1_endRoutine Q9 σ := (bm_and (bm_imp (bm_r (bm_all fun _ => bm_imp (hQ _ _)))) (bm_imp (hQ _ _)))
theorem wX1_endRoutine_e {p : Program} {l : Launch} {e : Env} {s : State} {m : MethodId} {args : Array Value} {below : List Frame} {meth : Method} {c : Code} {G : bG} {σ0 : bS} {Q : Int → bS → Prop} {σ : bS} (S : CallFix p m c cX1_endRoutine 1 s args bT "BankLinker$FlatMachine") (hr : meth.sig.returnType = some .int) (hlk : meth.locks = false) (hσ : bRG σ) (h : vX1_endRoutine Q σ) : bA p l e { frames := 0, cells := 0, slots := 0, locals := 0 } s m args below meth c 0 0 (bQi below args s G σ0 Q) G (va_A (bk_w G σ0) s.heap.size) 1 0 [(0, .ref (G.2.2 7))] [] σ := by
  unfold vX1_endRoutine at h
  refine br_aload_n S 0 dX1_endRoutine_0 rfl rfl ?_
  refine br_get (f := 5) (N := 6) (C := RX1) (T := TX1) S inT_X1 wd_2_49 (by decide) rfl rfl (by decide) rfl dX1_endRoutine_1 ?_
  refine br_if_ne S 9 (hσ 7 5) dX1_endRoutine_4 (by decide) (fun c1 => ?_) (fun c1 => ?_)
  · replace h := h.1 c1
    refine br_aload_n S 0 dX1_endRoutine_9 rfl rfl ?_
    refine br_dup S dX1_endRoutine_10 rfl ?_
    refine br_get (f := 5) (N := 6) (C := RX1) (T := TX1) S inT_X1 wd_2_49 (by decide) rfl rfl (by decide) rfl dX1_endRoutine_11 ?_
    refine br_iconst S dX1_endRoutine_14 ?_
    refine br_isub S dX1_endRoutine_15 ?_
    obtain ⟨g2, h⟩ := h
    obtain ⟨σ3, e4⟩ : ∃ τ, τ = bup σ 7 5 ((σ 7 5) - 1) := ⟨_, rfl⟩
    replace h := h σ3 e4
    have hσ3 : bRG σ3 := by rw [e4]; exact bup_rg hσ g2
    refine br_put (f := 5) (N := 6) (C := RX1) (T := TX1) S tyX1 tyX1_ok nmX1 inT_X1 wd_2_49 (by decide) rfl (pf_7_5 _ _ _) rfl (by decide) (Nat.le_of_ble_eq_true rfl) rfl rfl rfl rfl dX1_endRoutine_16 ?_
    refine bA.to rfl rfl e4.symm ?_
    refine br_iconst S dX1_endRoutine_19 ?_
    exact br_iret S hr hlk (by decide) hσ3 dX1_endRoutine_20 h
  · replace h := h.2 c1
    refine br_iconst S dX1_endRoutine_7 ?_
    exact br_iret S hr hlk (by decide) hσ dX1_endRoutine_8 h
theorem mono_X1_endRoutine {Q Q9 : Int → bS → Prop} {σ : bS} (hQ : ∀ r σ, Q r σ → Q9 r σ) : vX1_endRoutine Q σ → vX1_endRoutine Q9 σ := mono_vX1_endRoutine hQ
theorem mX1_endRoutine (l : Launch) (G : bG) (σ : bS) {Q : Int → bS → Prop} (h : vX1_endRoutine Q σ) : bk_Mi l yX1_endRoutine (Cond.code yX1_endRoutine cX1_endRoutine 1 (some .int) :: bT) { frames := 0, cells := 0, slots := 0, locals := 0 } G σ [.ref (G.2.2 7)] Q := by
  refine bk_Mi.of (cc := cX1_endRoutine) (maxL := 1) (ret := some .int) (by decide) rfl (Nat.le_of_ble_eq_true rfl) ?_
  intro p e s m args below meth c S hr hlk hσ
  exact wX1_endRoutine_e S hr hlk hσ h
def vX1_jumpTo (Q : Int → bS → Prop) (a1 : Int) (σ : bS) : Prop := ((0 ≤ (σ 7 5) ∧ (σ 7 5) < 61) ∧ ((0 ≤ (σ 44 (σ 7 5)) ∧ (σ 44 (σ 7 5)) < 30) ∧ ((a1 ≤ (σ 16 (σ 44 (σ 7 5))) → (∀ σ4 : bS, σ4 = bup σ 45 (σ 7 5) a1 → (Q 2 σ4))) ∧ (¬ a1 ≤ (σ 16 (σ 44 (σ 7 5))) → (Q 0 σ)))))
theorem mono_vX1_jumpTo {Q Q9 : Int → bS → Prop} {a1 : Int} {σ : bS} (hQ : ∀ r σ, Q r σ → Q9 r σ) : vX1_jumpTo Q a1 σ → vX1_jumpTo Q9 a1 σ := (bm_r (bm_r (bm_and (bm_imp (bm_all fun _ => bm_imp (hQ _ _))) (bm_imp (hQ _ _)))))
theorem wX1_jumpTo_e {p : Program} {l : Launch} {e : Env} {s : State} {m : MethodId} {args : Array Value} {below : List Frame} {meth : Method} {c : Code} {G : bG} {σ0 : bS} {Q : Int → bS → Prop} {a1 : Int} {σ : bS} (S : CallFix p m c cX1_jumpTo 2 s args bT "BankLinker$FlatMachine") (hr : meth.sig.returnType = some .int) (hlk : meth.locks = false) (ha1 : bR a1) (hσ : bRG σ) (h : vX1_jumpTo Q a1 σ) : bA p l e { frames := 0, cells := 0, slots := 0, locals := 0 } s m args below meth c 0 0 (bQi below args s G σ0 Q) G (va_A (bk_w G σ0) s.heap.size) 2 0 [(0, .ref (G.2.2 7)), (1, .int (bI a1))] [] σ := by
  unfold vX1_jumpTo at h
  refine br_iload_n S 1 dX1_jumpTo_0 rfl rfl ?_
  refine br_aload_n S 0 dX1_jumpTo_1 rfl rfl ?_
  refine br_get (f := 1) (N := 6) (C := RX1) (T := TX1) S inT_X1 wd_2_45 (by decide) rfl rfl (by decide) rfl dX1_jumpTo_2 ?_
  refine br_get (f := 5) (N := 9) (C := RX6) (T := TX6) S inT_X6 wd_1_58 (by decide) rfl rfl (by decide) rfl dX1_jumpTo_5 ?_
  refine br_aload_n S 0 dX1_jumpTo_8 rfl rfl ?_
  refine br_get (f := 2) (N := 6) (C := RX1) (T := TX1) S inT_X1 wd_2_46 (by decide) rfl rfl (by decide) rfl dX1_jumpTo_9 ?_
  refine br_aload_n S 0 dX1_jumpTo_12 rfl rfl ?_
  refine br_get (f := 5) (N := 6) (C := RX1) (T := TX1) S inT_X1 wd_2_49 (by decide) rfl rfl (by decide) rfl dX1_jumpTo_13 ?_
  obtain ⟨g1, h⟩ := h
  refine br_iald (n := 61) S ⟨by decide, by decide, fun _ => rfl⟩ g1.1 g1.2 dX1_jumpTo_16 ?_
  obtain ⟨g2, h⟩ := h
  refine br_iald (n := 30) S ⟨by decide, by decide, fun _ => rfl⟩ g2.1 g2.2 dX1_jumpTo_17 ?_
  refine br_ic_le S 23 ha1 (hσ 16 (σ 44 (σ 7 5))) dX1_jumpTo_18 (by decide) (fun c3 => ?_) (fun c3 => ?_)
  · replace h := h.1 c3
    refine br_aload_n S 0 dX1_jumpTo_23 rfl rfl ?_
    refine br_get (f := 3) (N := 6) (C := RX1) (T := TX1) S inT_X1 wd_2_47 (by decide) rfl rfl (by decide) rfl dX1_jumpTo_24 ?_
    refine br_aload_n S 0 dX1_jumpTo_27 rfl rfl ?_
    refine br_get (f := 5) (N := 6) (C := RX1) (T := TX1) S inT_X1 wd_2_49 (by decide) rfl rfl (by decide) rfl dX1_jumpTo_28 ?_
    refine br_iload_n S 1 dX1_jumpTo_31 rfl rfl ?_
    obtain ⟨σ4, e5⟩ : ∃ τ, τ = bup σ 45 (σ 7 5) a1 := ⟨_, rfl⟩
    replace h := h σ4 e5
    have hσ4 : bRG σ4 := by rw [e5]; exact bup_rg hσ ha1
    refine br_iast (n := 61) S ⟨by decide, by decide, fun _ => rfl⟩ g1.1 g1.2 dX1_jumpTo_32 ?_
    refine bA.to rfl rfl e5.symm ?_
    refine br_iconst S dX1_jumpTo_33 ?_
    exact br_iret S hr hlk (by decide) hσ4 dX1_jumpTo_34 h
  · replace h := h.2 c3
    refine br_iconst S dX1_jumpTo_21 ?_
    exact br_iret S hr hlk (by decide) hσ dX1_jumpTo_22 h
theorem mono_X1_jumpTo {Q Q9 : Int → bS → Prop} {a1 : Int} {σ : bS} (hQ : ∀ r σ, Q r σ → Q9 r σ) : vX1_jumpTo Q a1 σ → vX1_jumpTo Q9 a1 σ := mono_vX1_jumpTo hQ
theorem mX1_jumpTo (l : Launch) (G : bG) (σ : bS) (a1 : Int) (ha1 : bR a1) {Q : Int → bS → Prop} (h : vX1_jumpTo Q a1 σ) : bk_Mi l yX1_jumpTo (Cond.code yX1_jumpTo cX1_jumpTo 2 (some .int) :: bT) { frames := 0, cells := 0, slots := 0, locals := 0 } G σ [.ref (G.2.2 7), .int (bI a1)] Q := by
  refine bk_Mi.of (cc := cX1_jumpTo) (maxL := 2) (ret := some .int) (by decide) rfl (Nat.le_of_ble_eq_true rfl) ?_
  intro p e s m args below meth c S hr hlk hσ
  exact wX1_jumpTo_e S hr hlk ha1 hσ h
def vX1_doOp (Q : Int → bS → Prop) (σ : bS) : Prop := ((0 ≤ (σ 7 5) ∧ (σ 7 5) < 61) ∧ (vX6_valueAt (fun z2 σ3 => ((0 ≤ (σ3 7 5) ∧ (σ3 7 5) < 61) ∧ (bR ((σ 45 (σ 7 5)) + 1) ∧ (∀ σ6 : bS, σ6 = bup σ3 45 (σ3 7 5) ((σ 45 (σ 7 5)) + 1) → (vX6_codeAt (fun z8 σ9 => (((z8 < 0 ∨ 7 < z8) → (vX1_endRoutine (fun z12 σ13 => (Q z12 σ13))  σ9)) ∧ (z8 = 0 → (∀ σ14 : bS, σ14 = bup σ9 9 2 z2 → (Q 2 σ14))) ∧ (z8 = 1 → (vX7_add_9 (fun σ17 => (Q 2 σ17)) z2 σ9)) ∧ (z8 = 2 → (vX7_tellA_9 (fun σ19 => (Q 2 σ19))  σ9)) ∧ (z8 = 3 → ((0 ≤ (((σ9 7 5) * 9) + z2) ∧ (((σ9 7 5) * 9) + z2) < 549) ∧ (∀ σ21 : bS, σ21 = bup σ9 9 2 (σ9 46 (((σ9 7 5) * 9) + z2)) → (Q 2 σ21)))) ∧ (z8 = 4 → ((0 ≤ (((σ9 7 5) * 9) + z2) ∧ (((σ9 7 5) * 9) + z2) < 549) ∧ (∀ σ24 : bS, σ24 = bup σ9 46 (((σ9 7 5) * 9) + z2) (σ9 9 2) → (Q 2 σ24)))) ∧ (z8 = 5 → (vX1_beginRoutine (fun z26 σ27 => (Q z26 σ27)) z2 σ9)) ∧ (z8 = 6 → ((¬ (σ9 9 2) = 0 → (Q 2 σ9)) ∧ ((σ9 9 2) = 0 → (vX1_jumpTo (fun z29 σ30 => (Q z29 σ30)) z2 σ9)))) ∧ (z8 = 7 → (vX1_jumpTo (fun z31 σ32 => (Q z31 σ32)) z2 σ9)))) (σ 44 (σ 7 5)) (σ 45 (σ 7 5)) σ6))))) (σ 44 (σ 7 5)) (σ 45 (σ 7 5)) σ))
theorem mono_vX1_doOp {Q Q9 : Int → bS → Prop} {σ : bS} (hQ : ∀ r σ, Q r σ → Q9 r σ) : vX1_doOp Q σ → vX1_doOp Q9 σ := (bm_r (mono_X6_valueAt (fun _ _ => (bm_r (bm_r (bm_all fun _ => bm_imp (mono_X6_codeAt (fun _ _ => (bm_and (bm_imp (mono_X1_endRoutine (fun _ _ => (hQ _ _)))) (bm_and (bm_imp (bm_all fun _ => bm_imp (hQ _ _))) (bm_and (bm_imp (mono_X7_add_9 (fun _ => (hQ _ _)))) (bm_and (bm_imp (mono_X7_tellA_9 (fun _ => (hQ _ _)))) (bm_and (bm_imp (bm_r (bm_all fun _ => bm_imp (hQ _ _)))) (bm_and (bm_imp (bm_r (bm_all fun _ => bm_imp (hQ _ _)))) (bm_and (bm_imp (mono_X1_beginRoutine (fun _ _ => (hQ _ _)))) (bm_and (bm_imp (bm_and (bm_imp (hQ _ _)) (bm_imp (mono_X1_jumpTo (fun _ _ => (hQ _ _)))))) (bm_imp (mono_X1_jumpTo (fun _ _ => (hQ _ _))))))))))))))))))))
theorem wX1_doOp_e {p : Program} {l : Launch} {e : Env} {s : State} {m : MethodId} {args : Array Value} {below : List Frame} {meth : Method} {c : Code} {G : bG} {σ0 : bS} {Q : Int → bS → Prop} {σ : bS} (S : CallFix p m c cX1_doOp 4 s args bT "BankLinker$FlatMachine") (hr : meth.sig.returnType = some .int) (hlk : meth.locks = false) (hσ : bRG σ) (h : vX1_doOp Q σ) : bA p l e { frames := 3, cells := 0, slots := 0, locals := 67 } s m args below meth c 0 0 (bQi below args s G σ0 Q) G (va_A (bk_w G σ0) s.heap.size) 4 0 [(0, .ref (G.2.2 7))] [] σ := by
  unfold vX1_doOp at h
  refine br_aload_n S 0 dX1_doOp_0 rfl rfl ?_
  refine br_get (f := 2) (N := 6) (C := RX1) (T := TX1) S inT_X1 wd_2_46 (by decide) rfl rfl (by decide) rfl dX1_doOp_1 ?_
  refine br_aload_n S 0 dX1_doOp_4 rfl rfl ?_
  refine br_get (f := 5) (N := 6) (C := RX1) (T := TX1) S inT_X1 wd_2_49 (by decide) rfl rfl (by decide) rfl dX1_doOp_5 ?_
  obtain ⟨g1, h⟩ := h
  refine br_iald (n := 61) S ⟨by decide, by decide, fun _ => rfl⟩ g1.1 g1.2 dX1_doOp_8 ?_
  refine br_istore_n S [(1, .int (bI (σ 44 (σ 7 5)))), (0, .ref (G.2.2 7))] dX1_doOp_9 rfl (by decide) rfl ?_
  refine br_aload_n S 1 dX1_doOp_10 rfl rfl ?_
  refine br_get (f := 3) (N := 6) (C := RX1) (T := TX1) S inT_X1 wd_2_47 (by decide) rfl rfl (by decide) rfl dX1_doOp_11 ?_
  refine br_aload_n S 1 dX1_doOp_14 rfl rfl ?_
  refine br_get (f := 5) (N := 6) (C := RX1) (T := TX1) S inT_X1 wd_2_49 (by decide) rfl rfl (by decide) rfl dX1_doOp_15 ?_
  refine br_iald (n := 61) S ⟨by decide, by decide, fun _ => rfl⟩ g1.1 g1.2 dX1_doOp_18 ?_
  refine br_istore_n S [(2, .int (bI (σ 45 (σ 7 5)))), (1, .int (bI (σ 44 (σ 7 5)))), (0, .ref (G.2.2 7))] dX1_doOp_19 rfl (by decide) rfl ?_
  refine br_aload_n S 2 dX1_doOp_20 rfl rfl ?_
  refine br_get (f := 1) (N := 6) (C := RX1) (T := TX1) S inT_X1 wd_2_45 (by decide) rfl rfl (by decide) rfl dX1_doOp_21 ?_
  refine br_iload_n S 1 dX1_doOp_24 rfl rfl ?_
  refine br_iload_n S 0 dX1_doOp_25 rfl rfl ?_
  refine br_callV (As := [.int (bI (σ 44 (σ 7 5))), .int (bI (σ 45 (σ 7 5)))]) (rest := []) S (cwV_X6_valueAt S.2.2.2.2 wd_3_200 ⟨by decide, by decide⟩) (mX6_valueAt l G σ (σ 44 (σ 7 5)) (hσ 44 (σ 7 5)) (σ 45 (σ 7 5)) (hσ 45 (σ 7 5)) h) (by decide) rfl rfl rfl hσ rfl rfl (Nat.le_of_ble_eq_true rfl) ⟨by decide, by decide⟩ dX1_doOp_26 (fun z2 σ3 hz2 hσ3 h => ?_)
  refine br_istore_n S [(3, .int (bI z2)), (2, .int (bI (σ 45 (σ 7 5)))), (1, .int (bI (σ 44 (σ 7 5)))), (0, .ref (G.2.2 7))] dX1_doOp_29 rfl (by decide) rfl ?_
  refine br_aload_n S 3 dX1_doOp_30 rfl rfl ?_
  refine br_get (f := 3) (N := 6) (C := RX1) (T := TX1) S inT_X1 wd_2_47 (by decide) rfl rfl (by decide) rfl dX1_doOp_31 ?_
  refine br_aload_n S 3 dX1_doOp_34 rfl rfl ?_
  refine br_get (f := 5) (N := 6) (C := RX1) (T := TX1) S inT_X1 wd_2_49 (by decide) rfl rfl (by decide) rfl dX1_doOp_35 ?_
  refine br_iload_n S 1 dX1_doOp_38 rfl rfl ?_
  refine br_iconst S dX1_doOp_39 ?_
  refine br_iadd S dX1_doOp_40 ?_
  obtain ⟨g4, h⟩ := h
  obtain ⟨g5, h⟩ := h
  obtain ⟨σ6, e7⟩ : ∃ τ, τ = bup σ3 45 (σ3 7 5) ((σ 45 (σ 7 5)) + 1) := ⟨_, rfl⟩
  replace h := h σ6 e7
  have hσ6 : bRG σ6 := by rw [e7]; exact bup_rg hσ3 g5
  refine br_iast (n := 61) S ⟨by decide, by decide, fun _ => rfl⟩ g4.1 g4.2 dX1_doOp_41 ?_
  refine bA.to rfl rfl e7.symm ?_
  refine br_aload_n S 3 dX1_doOp_42 rfl rfl ?_
  refine br_get (f := 1) (N := 6) (C := RX1) (T := TX1) S inT_X1 wd_2_45 (by decide) rfl rfl (by decide) rfl dX1_doOp_43 ?_
  refine br_iload_n S 2 dX1_doOp_46 rfl rfl ?_
  refine br_iload_n S 1 dX1_doOp_47 rfl rfl ?_
  refine br_callV (As := [.int (bI (σ 44 (σ 7 5))), .int (bI (σ 45 (σ 7 5)))]) (rest := []) S (cwV_X6_codeAt S.2.2.2.2 wd_3_201 ⟨by decide, by decide⟩) (mX6_codeAt l G σ6 (σ 44 (σ 7 5)) (hσ 44 (σ 7 5)) (σ 45 (σ 7 5)) (hσ 45 (σ 7 5)) h) (by decide) rfl rfl rfl hσ6 rfl rfl (Nat.le_of_ble_eq_true rfl) ⟨by decide, by decide⟩ dX1_doOp_48 (fun z8 σ9 hz8 hσ9 h => ?_)
  by_cases c10 : z8 < 0 ∨ 7 < z8
  · replace h := h.1 c10
    refine br_tblO S 203 hz8 c10 dX1_doOp_51 (by decide) ?_
    refine br_aload_n S 3 dX1_doOp_203 rfl rfl ?_
    refine br_callV (As := []) (rest := []) S (cwV_X1_endRoutine S.2.2.2.2 wd_3_208 ⟨by decide, by decide⟩) (mX1_endRoutine l G σ9 h) (by decide) rfl rfl rfl hσ9 rfl rfl (Nat.le_of_ble_eq_true rfl) ⟨by decide, by decide⟩ dX1_doOp_204 (fun z12 σ13 hz12 hσ13 h => ?_)
    exact br_iret S hr hlk hz12 hσ13 dX1_doOp_207 h
  · rcases (show z8 = 0 ∨ z8 = 1 ∨ z8 = 2 ∨ z8 = 3 ∨ z8 = 4 ∨ z8 = 5 ∨ z8 = 6 ∨ z8 = 7 by omega) with c11 | c11 | c11 | c11 | c11 | c11 | c11 | c11
    · replace h := h.2.1 c11
      refine br_tblI S 96 0 hz8 c11 (by decide) rfl dX1_doOp_51 (by decide) ?_
      refine br_aload_n S 3 dX1_doOp_96 rfl rfl ?_
      refine br_get (f := 0) (N := 6) (C := RX1) (T := TX1) S inT_X1 wd_2_43 (by decide) rfl rfl (by decide) rfl dX1_doOp_97 ?_
      refine br_iload_n S 0 dX1_doOp_100 rfl rfl ?_
      obtain ⟨σ14, e15⟩ : ∃ τ, τ = bup σ9 9 2 z2 := ⟨_, rfl⟩
      replace h := h σ14 e15
      have hσ14 : bRG σ14 := by rw [e15]; exact bup_rg hσ9 hz2
      refine br_put (f := 2) (N := 6) (C := RX7) (T := TX7) S tyX7 tyX7_ok nmX7 inT_X7 wd_1_229 (by decide) rfl (pf_9_2 _ _ _) rfl (by decide) (Nat.le_of_ble_eq_true rfl) rfl rfl rfl rfl dX1_doOp_101 ?_
      refine bA.to rfl rfl e15.symm ?_
      refine br_iconst S dX1_doOp_104 ?_
      exact br_iret S hr hlk (by decide) hσ14 dX1_doOp_105 h
    · replace h := h.2.2.1 c11
      refine br_tblI S 106 1 hz8 c11 (by decide) rfl dX1_doOp_51 (by decide) ?_
      refine br_aload_n S 3 dX1_doOp_106 rfl rfl ?_
      refine br_get (f := 0) (N := 6) (C := RX1) (T := TX1) S inT_X1 wd_2_43 (by decide) rfl rfl (by decide) rfl dX1_doOp_107 ?_
      refine br_iload_n S 0 dX1_doOp_110 rfl rfl ?_
      refine br_callVv (As := [.int (bI z2)]) (rest := []) S (cwV_X7_add S.2.2.2.2 wd_3_202 ⟨by decide, by decide⟩) (mX7_add_9 l G σ9 z2 hz2 h) (by decide) rfl rfl rfl hσ9 rfl rfl (Nat.le_of_ble_eq_true rfl) ⟨by decide, by decide⟩ dX1_doOp_111 (fun σ17 hσ17 h => ?_)
      refine br_iconst S dX1_doOp_114 ?_
      exact br_iret S hr hlk (by decide) hσ17 dX1_doOp_115 h
    · replace h := h.2.2.2.1 c11
      refine br_tblI S 116 2 hz8 c11 (by decide) rfl dX1_doOp_51 (by decide) ?_
      refine br_aload_n S 3 dX1_doOp_116 rfl rfl ?_
      refine br_get (f := 0) (N := 6) (C := RX1) (T := TX1) S inT_X1 wd_2_43 (by decide) rfl rfl (by decide) rfl dX1_doOp_117 ?_
      refine br_callVv (As := []) (rest := []) S (cwV_X7_tellA S.2.2.2.2 wd_3_203 ⟨by decide, by decide⟩) (mX7_tellA_9 l G σ9 h) (by decide) rfl rfl rfl hσ9 rfl rfl (Nat.le_of_ble_eq_true rfl) ⟨by decide, by decide⟩ dX1_doOp_120 (fun σ19 hσ19 h => ?_)
      refine br_iconst S dX1_doOp_123 ?_
      exact br_iret S hr hlk (by decide) hσ19 dX1_doOp_124 h
    · replace h := h.2.2.2.2.1 c11
      refine br_tblI S 125 3 hz8 c11 (by decide) rfl dX1_doOp_51 (by decide) ?_
      refine br_aload_n S 3 dX1_doOp_125 rfl rfl ?_
      refine br_get (f := 0) (N := 6) (C := RX1) (T := TX1) S inT_X1 wd_2_43 (by decide) rfl rfl (by decide) rfl dX1_doOp_126 ?_
      refine br_aload_n S 3 dX1_doOp_129 rfl rfl ?_
      refine br_get (f := 4) (N := 6) (C := RX1) (T := TX1) S inT_X1 wd_2_48 (by decide) rfl rfl (by decide) rfl dX1_doOp_130 ?_
      refine br_aload_n S 3 dX1_doOp_133 rfl rfl ?_
      refine br_get (f := 5) (N := 6) (C := RX1) (T := TX1) S inT_X1 wd_2_49 (by decide) rfl rfl (by decide) rfl dX1_doOp_134 ?_
      refine br_bipush S dX1_doOp_137 rfl ?_
      refine br_imul S dX1_doOp_139 ?_
      refine br_iload_n S 0 dX1_doOp_140 rfl rfl ?_
      refine br_iadd S dX1_doOp_141 ?_
      obtain ⟨g20, h⟩ := h
      refine br_iald (n := 549) S ⟨by decide, by decide, fun _ => rfl⟩ g20.1 g20.2 dX1_doOp_142 ?_
      obtain ⟨σ21, e22⟩ : ∃ τ, τ = bup σ9 9 2 (σ9 46 (((σ9 7 5) * 9) + z2)) := ⟨_, rfl⟩
      replace h := h σ21 e22
      have hσ21 : bRG σ21 := by rw [e22]; exact bup_rg hσ9 (hσ9 46 (((σ9 7 5) * 9) + z2))
      refine br_put (f := 2) (N := 6) (C := RX7) (T := TX7) S tyX7 tyX7_ok nmX7 inT_X7 wd_1_229 (by decide) rfl (pf_9_2 _ _ _) rfl (by decide) (Nat.le_of_ble_eq_true rfl) rfl rfl rfl rfl dX1_doOp_143 ?_
      refine bA.to rfl rfl e22.symm ?_
      refine br_iconst S dX1_doOp_146 ?_
      exact br_iret S hr hlk (by decide) hσ21 dX1_doOp_147 h
    · replace h := h.2.2.2.2.2.1 c11
      refine br_tblI S 148 4 hz8 c11 (by decide) rfl dX1_doOp_51 (by decide) ?_
      refine br_aload_n S 3 dX1_doOp_148 rfl rfl ?_
      refine br_get (f := 4) (N := 6) (C := RX1) (T := TX1) S inT_X1 wd_2_48 (by decide) rfl rfl (by decide) rfl dX1_doOp_149 ?_
      refine br_aload_n S 3 dX1_doOp_152 rfl rfl ?_
      refine br_get (f := 5) (N := 6) (C := RX1) (T := TX1) S inT_X1 wd_2_49 (by decide) rfl rfl (by decide) rfl dX1_doOp_153 ?_
      refine br_bipush S dX1_doOp_156 rfl ?_
      refine br_imul S dX1_doOp_158 ?_
      refine br_iload_n S 0 dX1_doOp_159 rfl rfl ?_
      refine br_iadd S dX1_doOp_160 ?_
      refine br_aload_n S 3 dX1_doOp_161 rfl rfl ?_
      refine br_get (f := 0) (N := 6) (C := RX1) (T := TX1) S inT_X1 wd_2_43 (by decide) rfl rfl (by decide) rfl dX1_doOp_162 ?_
      refine br_get (f := 2) (N := 6) (C := RX7) (T := TX7) S inT_X7 wd_1_229 (by decide) rfl rfl (by decide) rfl dX1_doOp_165 ?_
      obtain ⟨g23, h⟩ := h
      obtain ⟨σ24, e25⟩ : ∃ τ, τ = bup σ9 46 (((σ9 7 5) * 9) + z2) (σ9 9 2) := ⟨_, rfl⟩
      replace h := h σ24 e25
      have hσ24 : bRG σ24 := by rw [e25]; exact bup_rg hσ9 (hσ9 9 2)
      refine br_iast (n := 549) S ⟨by decide, by decide, fun _ => rfl⟩ g23.1 g23.2 dX1_doOp_168 ?_
      refine bA.to rfl rfl e25.symm ?_
      refine br_iconst S dX1_doOp_169 ?_
      exact br_iret S hr hlk (by decide) hσ24 dX1_doOp_170 h
    · replace h := h.2.2.2.2.2.2.1 c11
      refine br_tblI S 171 5 hz8 c11 (by decide) rfl dX1_doOp_51 (by decide) ?_
      refine br_aload_n S 3 dX1_doOp_171 rfl rfl ?_
      refine br_iload_n S 0 dX1_doOp_172 rfl rfl ?_
      refine br_callV (As := [.int (bI z2)]) (rest := []) S (cwV_X1_beginRoutine S.2.2.2.2 wd_3_185 ⟨by decide, by decide⟩) (mX1_beginRoutine l G σ9 z2 hz2 h) (by decide) rfl rfl rfl hσ9 rfl rfl (Nat.le_of_ble_eq_true rfl) ⟨by decide, by decide⟩ dX1_doOp_173 (fun z26 σ27 hz26 hσ27 h => ?_)
      exact br_iret S hr hlk hz26 hσ27 dX1_doOp_176 h
    · replace h := h.2.2.2.2.2.2.2.1 c11
      refine br_tblI S 177 6 hz8 c11 (by decide) rfl dX1_doOp_51 (by decide) ?_
      refine br_aload_n S 3 dX1_doOp_177 rfl rfl ?_
      refine br_get (f := 0) (N := 6) (C := RX1) (T := TX1) S inT_X1 wd_2_43 (by decide) rfl rfl (by decide) rfl dX1_doOp_178 ?_
      refine br_get (f := 2) (N := 6) (C := RX7) (T := TX7) S inT_X7 wd_1_229 (by decide) rfl rfl (by decide) rfl dX1_doOp_181 ?_
      refine br_if_ne S 195 (hσ9 9 2) dX1_doOp_184 (by decide) (fun c28 => ?_) (fun c28 => ?_)
      · replace h := h.1 c28
        refine br_iconst S dX1_doOp_195 ?_
        exact br_iret S hr hlk (by decide) hσ9 dX1_doOp_196 h
      · replace h := h.2 c28
        refine br_aload_n S 3 dX1_doOp_187 rfl rfl ?_
        refine br_iload_n S 0 dX1_doOp_188 rfl rfl ?_
        refine br_callV (As := [.int (bI z2)]) (rest := []) S (cwV_X1_jumpTo S.2.2.2.2 wd_3_204 ⟨by decide, by decide⟩) (mX1_jumpTo l G σ9 z2 hz2 h) (by decide) rfl rfl rfl hσ9 rfl rfl (Nat.le_of_ble_eq_true rfl) ⟨by decide, by decide⟩ dX1_doOp_189 (fun z29 σ30 hz29 hσ30 h => ?_)
        refine br_goto S 196 dX1_doOp_192 (by decide) ?_
        exact br_iret S hr hlk hz29 hσ30 dX1_doOp_196 h
    · replace h := h.2.2.2.2.2.2.2.2 c11
      refine br_tblI S 197 7 hz8 c11 (by decide) rfl dX1_doOp_51 (by decide) ?_
      refine br_aload_n S 3 dX1_doOp_197 rfl rfl ?_
      refine br_iload_n S 0 dX1_doOp_198 rfl rfl ?_
      refine br_callV (As := [.int (bI z2)]) (rest := []) S (cwV_X1_jumpTo S.2.2.2.2 wd_3_204 ⟨by decide, by decide⟩) (mX1_jumpTo l G σ9 z2 hz2 h) (by decide) rfl rfl rfl hσ9 rfl rfl (Nat.le_of_ble_eq_true rfl) ⟨by decide, by decide⟩ dX1_doOp_199 (fun z31 σ32 hz31 hσ32 h => ?_)
      exact br_iret S hr hlk hz31 hσ32 dX1_doOp_202 h
theorem mono_X1_doOp {Q Q9 : Int → bS → Prop} {σ : bS} (hQ : ∀ r σ, Q r σ → Q9 r σ) : vX1_doOp Q σ → vX1_doOp Q9 σ := mono_vX1_doOp hQ
theorem mX1_doOp (l : Launch) (G : bG) (σ : bS) {Q : Int → bS → Prop} (h : vX1_doOp Q σ) : bk_Mi l yX1_doOp (Cond.code yX1_doOp cX1_doOp 4 (some .int) :: bT) { frames := 3, cells := 0, slots := 0, locals := 67 } G σ [.ref (G.2.2 7)] Q := by
  refine bk_Mi.of (cc := cX1_doOp) (maxL := 4) (ret := some .int) (by decide) rfl (Nat.le_of_ble_eq_true rfl) ?_
  intro p e s m args below meth c S hr hlk hσ
  exact wX1_doOp_e S hr hlk hσ h
def bX1_perform_22 (Q : Int → bS → Prop) (P22 : Int → Int → bS → Prop) (x3 : Int) (x4 : Int) (σ : bS) : Prop := ((x3 ≤ x4 → (Q (-5) σ)) ∧ (¬ x3 ≤ x4 → (bR ((σ 9 1) + 1) ∧ (∀ σ3 : bS, σ3 = bup σ 9 1 ((σ 9 1) + 1) → (vX1_doOp (fun z5 σ6 => ((z5 = 2 → (bR (x4 + 1) ∧ (P22 x3 (x4 + 1) σ6))) ∧ (¬ z5 = 2 → (Q z5 σ6))))  σ3)))))
theorem mono_bX1_perform_22 {Q Q9 : Int → bS → Prop} {P22 P229 : Int → Int → bS → Prop} {x3 : Int} {x4 : Int} {σ : bS} (hQ : ∀ r σ, Q r σ → Q9 r σ) (hP22 : ∀ x3 x4 σ, P22 x3 x4 σ → P229 x3 x4 σ) : bX1_perform_22 Q P22 x3 x4 σ → bX1_perform_22 Q9 P229 x3 x4 σ := (bm_and (bm_imp (hQ _ _)) (bm_imp (bm_r (bm_all fun _ => bm_imp (mono_X1_doOp (fun _ _ => (bm_and (bm_imp (bm_r (hP22 _ _ _))) (bm_imp (hQ _ _)))))))))
theorem wX1_perform_22 {p : Program} {l : Launch} {e : Env} {s : State} {m : MethodId} {args : Array Value} {below : List Frame} {meth : Method} {c : Code} {G : bG} {σ0 : bS} {Q : Int → bS → Prop} {P22 : Int → Int → bS → Prop} {x3 : Int} {x4 : Int} {σ : bS} (S : CallFix p m c cX1_perform 6 s args bT "BankLinker$FlatMachine") (hr : meth.sig.returnType = some .int) (hlk : meth.locks = false) (hP22 : ∀ (x3 : Int) (x4 : Int) (σ : bS), bR x3 → bR x4 → bRG σ → P22 x3 x4 σ → bA p l e { frames := 4, cells := 0, slots := 0, locals := 90 } s m args below meth c 0 0 (bQi below args s G σ0 Q) G (va_A (bk_w G σ0) s.heap.size) 6 22 [(0, .ref (G.2.2 7)), (3, .int (bI x3)), (4, .int (bI x4))] [] σ) (hx3 : bR x3) (hx4 : bR x4) (hσ : bRG σ) (h : bX1_perform_22 Q P22 x3 x4 σ) : bA p l e { frames := 4, cells := 0, slots := 0, locals := 90 } s m args below meth c 0 0 (bQi below args s G σ0 Q) G (va_A (bk_w G σ0) s.heap.size) 6 22 [(0, .ref (G.2.2 7)), (3, .int (bI x3)), (4, .int (bI x4))] [] σ := by
  unfold bX1_perform_22 at h
  refine br_iload S 2 dX1_perform_22 rfl ?_
  refine br_iload_n S 1 dX1_perform_24 rfl rfl ?_
  refine br_ic_ge S 62 hx4 hx3 dX1_perform_25 (by decide) (fun c1 => ?_) (fun c1 => ?_)
  · replace h := h.1 c1
    refine br_bipush S dX1_perform_62 rfl ?_
    exact br_iret S hr hlk (by decide) hσ dX1_perform_64 h
  · replace h := h.2 c1
    refine br_aload_n S 0 dX1_perform_28 rfl rfl ?_
    refine br_get (f := 0) (N := 6) (C := RX1) (T := TX1) S inT_X1 wd_2_43 (by decide) rfl rfl (by decide) rfl dX1_perform_29 ?_
    refine br_dup S dX1_perform_32 rfl ?_
    refine br_get (f := 1) (N := 6) (C := RX7) (T := TX7) S inT_X7 wd_1_225 (by decide) rfl rfl (by decide) rfl dX1_perform_33 ?_
    refine br_iconst S dX1_perform_36 ?_
    refine br_iadd S dX1_perform_37 ?_
    obtain ⟨g2, h⟩ := h
    obtain ⟨σ3, e4⟩ : ∃ τ, τ = bup σ 9 1 ((σ 9 1) + 1) := ⟨_, rfl⟩
    replace h := h σ3 e4
    have hσ3 : bRG σ3 := by rw [e4]; exact bup_rg hσ g2
    refine br_put (f := 1) (N := 6) (C := RX7) (T := TX7) S tyX7 tyX7_ok nmX7 inT_X7 wd_1_225 (by decide) rfl (pf_9_1 _ _ _) rfl (by decide) (Nat.le_of_ble_eq_true rfl) rfl rfl rfl rfl dX1_perform_38 ?_
    refine bA.to rfl rfl e4.symm ?_
    refine br_aload_n S 0 dX1_perform_41 rfl rfl ?_
    refine br_callV (As := []) (rest := []) S (cwV_X1_doOp S.2.2.2.2 wd_3_196 ⟨by decide, by decide⟩) (mX1_doOp l G σ3 h) (by decide) rfl rfl rfl hσ3 rfl rfl (Nat.le_of_ble_eq_true rfl) ⟨by decide, by decide⟩ dX1_perform_42 (fun z5 σ6 hz5 hσ6 h => ?_)
    refine br_istore S [(5, .int (bI z5)), (0, .ref (G.2.2 7)), (3, .int (bI x3)), (4, .int (bI x4))] dX1_perform_45 (by decide) rfl ?_
    refine br_iload S 0 dX1_perform_47 rfl ?_
    refine br_iconst S dX1_perform_49 ?_
    refine br_ic_eq S 56 hz5 (by decide) dX1_perform_50 (by decide) (fun c7 => ?_) (fun c7 => ?_)
    · replace h := h.1 c7
      refine br_iinc S 3 [(4, .int (bI (x4 + 1))), (5, .int (bI z5)), (0, .ref (G.2.2 7)), (3, .int (bI x3))] dX1_perform_56 rfl (by decide) rfl ?_
      refine br_goto S 22 dX1_perform_59 (by decide) ?_
      obtain ⟨g8, h⟩ := h
      exact bA.perm [2, 3, 0] rfl <| hP22 x3 (x4 + 1) σ6 hx3 g8 hσ6 h
    · replace h := h.2 c7
      refine br_iload S 0 dX1_perform_53 rfl ?_
      exact br_iret S hr hlk hz5 hσ6 dX1_perform_55 h
def eX1_perform (Q : Int → bS → Prop) (P22 : Int → Int → bS → Prop) (a1 : Int) (a2 : Int) (a3 : Int) (σ : bS) : Prop := (vX7_begin_9 (fun σ2 => (∀ σ3 : bS, σ3 = bup σ2 7 5 (-1) → (vX1_beginRoutine (fun z5 σ6 => (P22 a3 0 σ6)) a1 σ3))) a2 σ)
theorem mono_eX1_perform {Q Q9 : Int → bS → Prop} {P22 P229 : Int → Int → bS → Prop} {a1 : Int} {a2 : Int} {a3 : Int} {σ : bS} (hQ : ∀ r σ, Q r σ → Q9 r σ) (hP22 : ∀ x3 x4 σ, P22 x3 x4 σ → P229 x3 x4 σ) : eX1_perform Q P22 a1 a2 a3 σ → eX1_perform Q9 P229 a1 a2 a3 σ := (mono_X7_begin_9 (fun _ => (bm_all fun _ => bm_imp (mono_X1_beginRoutine (fun _ _ => (hP22 _ _ _))))))
theorem wX1_perform_e {p : Program} {l : Launch} {e : Env} {s : State} {m : MethodId} {args : Array Value} {below : List Frame} {meth : Method} {c : Code} {G : bG} {σ0 : bS} {Q : Int → bS → Prop} {P22 : Int → Int → bS → Prop} {a1 : Int} {a2 : Int} {a3 : Int} {σ : bS} (S : CallFix p m c cX1_perform 6 s args bT "BankLinker$FlatMachine") (hr : meth.sig.returnType = some .int) (hlk : meth.locks = false) (hP22 : ∀ (x3 : Int) (x4 : Int) (σ : bS), bR x3 → bR x4 → bRG σ → P22 x3 x4 σ → bA p l e { frames := 4, cells := 0, slots := 0, locals := 90 } s m args below meth c 0 0 (bQi below args s G σ0 Q) G (va_A (bk_w G σ0) s.heap.size) 6 22 [(0, .ref (G.2.2 7)), (3, .int (bI x3)), (4, .int (bI x4))] [] σ) (ha1 : bR a1) (ha2 : bR a2) (ha3 : bR a3) (hσ : bRG σ) (h : eX1_perform Q P22 a1 a2 a3 σ) : bA p l e { frames := 4, cells := 0, slots := 0, locals := 90 } s m args below meth c 0 0 (bQi below args s G σ0 Q) G (va_A (bk_w G σ0) s.heap.size) 6 0 [(0, .ref (G.2.2 7)), (1, .int (bI a1)), (2, .int (bI a2)), (3, .int (bI a3))] [] σ := by
  unfold eX1_perform at h
  refine br_aload_n S 0 dX1_perform_0 rfl rfl ?_
  refine br_get (f := 0) (N := 6) (C := RX1) (T := TX1) S inT_X1 wd_2_43 (by decide) rfl rfl (by decide) rfl dX1_perform_1 ?_
  refine br_iload_n S 2 dX1_perform_4 rfl rfl ?_
  refine br_callVv (As := [.int (bI a2)]) (rest := []) S (cwV_X7_begin S.2.2.2.2 wd_3_184 ⟨by decide, by decide⟩) (mX7_begin_9 l G σ a2 ha2 h) (by decide) rfl rfl rfl hσ rfl rfl (Nat.le_of_ble_eq_true rfl) ⟨by decide, by decide⟩ dX1_perform_5 (fun σ2 hσ2 h => ?_)
  refine br_aload_n S 0 dX1_perform_8 rfl rfl ?_
  refine br_iconst S dX1_perform_9 ?_
  obtain ⟨σ3, e4⟩ : ∃ τ, τ = bup σ2 7 5 (-1) := ⟨_, rfl⟩
  replace h := h σ3 e4
  have hσ3 : bRG σ3 := by rw [e4]; exact bup_rg hσ2 (by decide)
  refine br_put (f := 5) (N := 6) (C := RX1) (T := TX1) S tyX1 tyX1_ok nmX1 inT_X1 wd_2_49 (by decide) rfl (pf_7_5 _ _ _) rfl (by decide) (Nat.le_of_ble_eq_true rfl) rfl rfl rfl rfl dX1_perform_10 ?_
  refine bA.to rfl rfl e4.symm ?_
  refine br_aload_n S 0 dX1_perform_13 rfl rfl ?_
  refine br_iload_n S 1 dX1_perform_14 rfl rfl ?_
  refine br_callV (As := [.int (bI a1)]) (rest := []) S (cwV_X1_beginRoutine S.2.2.2.2 wd_3_185 ⟨by decide, by decide⟩) (mX1_beginRoutine l G σ3 a1 ha1 h) (by decide) rfl rfl rfl hσ3 rfl rfl (Nat.le_of_ble_eq_true rfl) ⟨by decide, by decide⟩ dX1_perform_15 (fun z5 σ6 hz5 hσ6 h => ?_)
  refine br_pop S dX1_perform_18 rfl ?_
  refine br_iconst S dX1_perform_19 ?_
  refine br_istore S [(4, .int (bI 0)), (0, .ref (G.2.2 7)), (1, .int (bI a1)), (2, .int (bI a2)), (3, .int (bI a3))] dX1_perform_20 (by decide) rfl ?_
  exact bA.perm [1, 4, 0] rfl <| hP22 a3 0 σ6 ha3 (by decide) hσ6 h
def LX1_perform_22 (Q : Int → bS → Prop) (x3 : Int) (x4 : Int) (σ : bS) : Prop := ∀ (P22 : Int → Int → bS → Prop), (∀ x3 x4 σ, bX1_perform_22 Q P22 x3 x4 σ → P22 x3 x4 σ) → P22 x3 x4 σ
theorem LX1_perform_22_in {Q : Int → bS → Prop} {x3 : Int} {x4 : Int} {σ : bS} (h : bX1_perform_22 Q (LX1_perform_22 Q) x3 x4 σ) : LX1_perform_22 Q x3 x4 σ := fun P22 H22 => H22 _ _ _ (mono_bX1_perform_22 (fun _ _ h => h) (fun _ _ _ h => h P22 H22) h)
theorem mono_LX1_perform_22 {Q Q9 : Int → bS → Prop} {x3 : Int} {x4 : Int} {σ : bS} (hQ : ∀ r σ, Q r σ → Q9 r σ) (h : LX1_perform_22 Q x3 x4 σ) : LX1_perform_22 Q9 x3 x4 σ := fun P22 H22 => h P22 (fun _ _ _ hb => H22 _ _ _ (mono_bX1_perform_22 hQ (fun _ _ _ h => h) hb))
def vX1_perform (Q : Int → bS → Prop) (a1 : Int) (a2 : Int) (a3 : Int) (σ : bS) : Prop := eX1_perform Q (LX1_perform_22 Q) a1 a2 a3 σ
theorem mono_vX1_perform {Q Q9 : Int → bS → Prop} {a1 : Int} {a2 : Int} {a3 : Int} {σ : bS} (hQ : ∀ r σ, Q r σ → Q9 r σ) : vX1_perform Q a1 a2 a3 σ → vX1_perform Q9 a1 a2 a3 σ := mono_eX1_perform hQ (fun _ _ _ h => mono_LX1_perform_22 hQ h)
theorem mono_X1_perform {Q Q9 : Int → bS → Prop} {a1 : Int} {a2 : Int} {a3 : Int} {σ : bS} (hQ : ∀ r σ, Q r σ → Q9 r σ) : vX1_perform Q a1 a2 a3 σ → vX1_perform Q9 a1 a2 a3 σ := mono_vX1_perform hQ
theorem mX1_perform (l : Launch) (G : bG) (σ : bS) (a1 : Int) (ha1 : bR a1) (a2 : Int) (ha2 : bR a2) (a3 : Int) (ha3 : bR a3) {Q : Int → bS → Prop} (h : vX1_perform Q a1 a2 a3 σ) : bk_Mi l yX1_perform (Cond.code yX1_perform cX1_perform 6 (some .int) :: bT) { frames := 4, cells := 0, slots := 0, locals := 90 } G σ [.ref (G.2.2 7), .int (bI a1), .int (bI a2), .int (bI a3)] Q := by
  refine bk_Mi.of (cc := cX1_perform) (maxL := 6) (ret := some .int) (by decide) rfl (Nat.le_of_ble_eq_true rfl) ?_
  intro p e s m args below meth c S hr hlk hσ
  let K22 : Int → Int → bS → Prop := fun x3 x4 τ => bR x3 → bR x4 → bRG τ → bA p l e { frames := 4, cells := 0, slots := 0, locals := 90 } s m args below meth c 0 0 (bQi below args s G σ Q) G (va_A (bk_w G σ) s.heap.size) 6 22 [(0, .ref (G.2.2 7)), (3, .int (bI x3)), (4, .int (bI x4))] [] τ
  have C22 : ∀ x3 x4 τ, bX1_perform_22 Q K22 x3 x4 τ → K22 x3 x4 τ := fun x3 x4 τ hb hx3 hx4 hτ => wX1_perform_22 S hr hlk (fun x3 x4 σ hx3 hx4 hσ h => h hx3 hx4 hσ) hx3 hx4 hτ hb
  exact wX1_perform_e S hr hlk (fun x3 x4 σ hx3 hx4 hσ h => h K22 C22 hx3 hx4 hσ) ha1 ha2 ha3 hσ h
def vX4_cellAt (Q : Int → bS → Prop) (a1 : Int) (σ : bS) : Prop := ((a1 < 0 → (Q 0 σ)) ∧ (¬ a1 < 0 → ((64 ≤ a1 → (Q 0 σ)) ∧ (¬ 64 ≤ a1 → ((0 ≤ a1 ∧ a1 < 64) ∧ (Q (σ 42 a1) σ))))))
theorem mono_vX4_cellAt {Q Q9 : Int → bS → Prop} {a1 : Int} {σ : bS} (hQ : ∀ r σ, Q r σ → Q9 r σ) : vX4_cellAt Q a1 σ → vX4_cellAt Q9 a1 σ := (bm_and (bm_imp (hQ _ _)) (bm_imp (bm_and (bm_imp (hQ _ _)) (bm_imp (bm_r (hQ _ _))))))
theorem wX4_cellAt_e {p : Program} {l : Launch} {e : Env} {s : State} {m : MethodId} {args : Array Value} {below : List Frame} {meth : Method} {c : Code} {G : bG} {σ0 : bS} {Q : Int → bS → Prop} {a1 : Int} {σ : bS} (S : CallFix p m c cX4_cellAt 2 s args bT "BankLinker$Machine") (hr : meth.sig.returnType = some .int) (hlk : meth.locks = false) (ha1 : bR a1) (hσ : bRG σ) (h : vX4_cellAt Q a1 σ) : bA p l e { frames := 0, cells := 0, slots := 0, locals := 0 } s m args below meth c 0 0 (bQi below args s G σ0 Q) G (va_A (bk_w G σ0) s.heap.size) 2 0 [(0, .ref (G.2.2 6)), (1, .int (bI a1))] [] σ := by
  unfold vX4_cellAt at h
  refine br_iload_n S 1 dX4_cellAt_0 rfl rfl ?_
  refine br_if_lt S 19 ha1 dX4_cellAt_1 (by decide) (fun c1 => ?_) (fun c1 => ?_)
  · replace h := h.1 c1
    refine br_iconst S dX4_cellAt_19 ?_
    exact br_iret S hr hlk (by decide) hσ dX4_cellAt_20 h
  · replace h := h.2 c1
    refine br_iload_n S 1 dX4_cellAt_4 rfl rfl ?_
    refine br_bipush S dX4_cellAt_5 rfl ?_
    refine br_ic_ge S 19 ha1 (by decide) dX4_cellAt_7 (by decide) (fun c2 => ?_) (fun c2 => ?_)
    · replace h := h.1 c2
      refine br_iconst S dX4_cellAt_19 ?_
      exact br_iret S hr hlk (by decide) hσ dX4_cellAt_20 h
    · replace h := h.2 c2
      refine br_aload_n S 0 dX4_cellAt_10 rfl rfl ?_
      refine br_get (f := 2) (N := 7) (C := RX4) (T := TX4) S inT_X4 wd_2_15 (by decide) rfl rfl (by decide) rfl dX4_cellAt_11 ?_
      refine br_iload_n S 1 dX4_cellAt_14 rfl rfl ?_
      obtain ⟨g3, h⟩ := h
      refine br_iald (n := 64) S ⟨by decide, by decide, fun _ => rfl⟩ g3.1 g3.2 dX4_cellAt_15 ?_
      refine br_goto S 20 dX4_cellAt_16 (by decide) ?_
      exact br_iret S hr hlk (hσ 42 a1) hσ dX4_cellAt_20 h
theorem mono_X4_cellAt {Q Q9 : Int → bS → Prop} {a1 : Int} {σ : bS} (hQ : ∀ r σ, Q r σ → Q9 r σ) : vX4_cellAt Q a1 σ → vX4_cellAt Q9 a1 σ := mono_vX4_cellAt hQ
theorem mX4_cellAt (l : Launch) (G : bG) (σ : bS) (a1 : Int) (ha1 : bR a1) {Q : Int → bS → Prop} (h : vX4_cellAt Q a1 σ) : bk_Mi l yX4_cellAt (Cond.code yX4_cellAt cX4_cellAt 2 (some .int) :: bT) { frames := 0, cells := 0, slots := 0, locals := 0 } G σ [.ref (G.2.2 6), .int (bI a1)] Q := by
  refine bk_Mi.of (cc := cX4_cellAt) (maxL := 2) (ret := some .int) (by decide) rfl (Nat.le_of_ble_eq_true rfl) ?_
  intro p e s m args below meth c S hr hlk hσ
  exact wX4_cellAt_e S hr hlk ha1 hσ h
def vX4_fetch (Q : Int → bS → Prop) (σ : bS) : Prop := (vX5_seenAt (fun z1 σ2 => (bR ((σ2 6 5) + 1) ∧ (∀ σ4 : bS, σ4 = bup σ2 6 5 ((σ2 6 5) + 1) → (Q z1 σ4)))) (σ 6 6) (σ 6 5) σ)
theorem mono_vX4_fetch {Q Q9 : Int → bS → Prop} {σ : bS} (hQ : ∀ r σ, Q r σ → Q9 r σ) : vX4_fetch Q σ → vX4_fetch Q9 σ := (mono_X5_seenAt (fun _ _ => (bm_r (bm_all fun _ => bm_imp (hQ _ _)))))
theorem wX4_fetch_e {p : Program} {l : Launch} {e : Env} {s : State} {m : MethodId} {args : Array Value} {below : List Frame} {meth : Method} {c : Code} {G : bG} {σ0 : bS} {Q : Int → bS → Prop} {σ : bS} (S : CallFix p m c cX4_fetch 2 s args bT "BankLinker$Machine") (hr : meth.sig.returnType = some .int) (hlk : meth.locks = false) (hσ : bRG σ) (h : vX4_fetch Q σ) : bA p l e { frames := 2, cells := 0, slots := 0, locals := 45 } s m args below meth c 0 0 (bQi below args s G σ0 Q) G (va_A (bk_w G σ0) s.heap.size) 2 0 [(0, .ref (G.2.2 6))] [] σ := by
  unfold vX4_fetch at h
  refine br_aload_n S 0 dX4_fetch_0 rfl rfl ?_
  refine br_get (f := 1) (N := 7) (C := RX4) (T := TX4) S inT_X4 wd_2_14 (by decide) rfl rfl (by decide) rfl dX4_fetch_1 ?_
  refine br_aload_n S 0 dX4_fetch_4 rfl rfl ?_
  refine br_get (f := 6) (N := 7) (C := RX4) (T := TX4) S inT_X4 wd_2_19 (by decide) rfl rfl (by decide) rfl dX4_fetch_5 ?_
  refine br_aload_n S 0 dX4_fetch_8 rfl rfl ?_
  refine br_get (f := 5) (N := 7) (C := RX4) (T := TX4) S inT_X4 wd_2_18 (by decide) rfl rfl (by decide) rfl dX4_fetch_9 ?_
  refine br_callV (As := [.int (bI (σ 6 6)), .int (bI (σ 6 5))]) (rest := []) S (cwV_X5_seenAt S.2.2.2.2 wd_3_122 ⟨by decide, by decide⟩) (mX5_seenAt l G σ (σ 6 6) (hσ 6 6) (σ 6 5) (hσ 6 5) h) (by decide) rfl rfl rfl hσ rfl rfl (Nat.le_of_ble_eq_true rfl) ⟨by decide, by decide⟩ dX4_fetch_12 (fun z1 σ2 hz1 hσ2 h => ?_)
  refine br_istore_n S [(1, .int (bI z1)), (0, .ref (G.2.2 6))] dX4_fetch_15 rfl (by decide) rfl ?_
  refine br_aload_n S 1 dX4_fetch_16 rfl rfl ?_
  refine br_dup S dX4_fetch_17 rfl ?_
  refine br_get (f := 5) (N := 7) (C := RX4) (T := TX4) S inT_X4 wd_2_18 (by decide) rfl rfl (by decide) rfl dX4_fetch_18 ?_
  refine br_iconst S dX4_fetch_21 ?_
  refine br_iadd S dX4_fetch_22 ?_
  obtain ⟨g3, h⟩ := h
  obtain ⟨σ4, e5⟩ : ∃ τ, τ = bup σ2 6 5 ((σ2 6 5) + 1) := ⟨_, rfl⟩
  replace h := h σ4 e5
  have hσ4 : bRG σ4 := by rw [e5]; exact bup_rg hσ2 g3
  refine br_put (f := 5) (N := 7) (C := RX4) (T := TX4) S tyX4 tyX4_ok nmX4 inT_X4 wd_2_18 (by decide) rfl (pf_6_5 _ _ _) rfl (by decide) (Nat.le_of_ble_eq_true rfl) rfl rfl rfl rfl dX4_fetch_23 ?_
  refine bA.to rfl rfl e5.symm ?_
  refine br_iload_n S 0 dX4_fetch_26 rfl rfl ?_
  exact br_iret S hr hlk hz1 hσ4 dX4_fetch_27 h
theorem mono_X4_fetch {Q Q9 : Int → bS → Prop} {σ : bS} (hQ : ∀ r σ, Q r σ → Q9 r σ) : vX4_fetch Q σ → vX4_fetch Q9 σ := mono_vX4_fetch hQ
theorem mX4_fetch (l : Launch) (G : bG) (σ : bS) {Q : Int → bS → Prop} (h : vX4_fetch Q σ) : bk_Mi l yX4_fetch (Cond.code yX4_fetch cX4_fetch 2 (some .int) :: bT) { frames := 2, cells := 0, slots := 0, locals := 45 } G σ [.ref (G.2.2 6)] Q := by
  refine bk_Mi.of (cc := cX4_fetch) (maxL := 2) (ret := some .int) (by decide) rfl (Nat.le_of_ble_eq_true rfl) ?_
  intro p e s m args below meth c S hr hlk hσ
  exact wX4_fetch_e S hr hlk hσ h
def vX4_setCell (Q : bS → Prop) (a1 : Int) (a2 : Int) (σ : bS) : Prop := ((a1 < 0 → (Q σ)) ∧ (¬ a1 < 0 → ((64 ≤ a1 → (Q σ)) ∧ (¬ 64 ≤ a1 → ((0 ≤ a1 ∧ a1 < 64) ∧ (∀ σ4 : bS, σ4 = bup σ 42 a1 a2 → (Q σ4)))))))
theorem mono_vX4_setCell {Q Q9 : bS → Prop} {a1 : Int} {a2 : Int} {σ : bS} (hQ : ∀ σ, Q σ → Q9 σ) : vX4_setCell Q a1 a2 σ → vX4_setCell Q9 a1 a2 σ := (bm_and (bm_imp (hQ _)) (bm_imp (bm_and (bm_imp (hQ _)) (bm_imp (bm_r (bm_all fun _ => bm_imp (hQ _)))))))
theorem wX4_setCell_e {p : Program} {l : Launch} {e : Env} {s : State} {m : MethodId} {args : Array Value} {below : List Frame} {meth : Method} {c : Code} {G : bG} {σ0 : bS} {Q : bS → Prop} {a1 : Int} {a2 : Int} {σ : bS} (S : CallFix p m c cX4_setCell 3 s args bT "BankLinker$Machine") (hr : meth.sig.returnType = none) (hlk : meth.locks = false) (ha1 : bR a1) (ha2 : bR a2) (hσ : bRG σ) (h : vX4_setCell Q a1 a2 σ) : bA p l e { frames := 0, cells := 0, slots := 0, locals := 0 } s m args below meth c 0 0 (bQv below args s G σ0 Q) G (va_A (bk_w G σ0) s.heap.size) 3 0 [(0, .ref (G.2.2 6)), (1, .int (bI a1)), (2, .int (bI a2))] [] σ := by
  unfold vX4_setCell at h
  refine br_iload_n S 1 dX4_setCell_0 rfl rfl ?_
  refine br_if_lt S 17 ha1 dX4_setCell_1 (by decide) (fun c1 => ?_) (fun c1 => ?_)
  · replace h := h.1 c1
    exact br_vret S hr hlk hσ dX4_setCell_17 h
  · replace h := h.2 c1
    refine br_iload_n S 1 dX4_setCell_4 rfl rfl ?_
    refine br_bipush S dX4_setCell_5 rfl ?_
    refine br_ic_ge S 17 ha1 (by decide) dX4_setCell_7 (by decide) (fun c2 => ?_) (fun c2 => ?_)
    · replace h := h.1 c2
      exact br_vret S hr hlk hσ dX4_setCell_17 h
    · replace h := h.2 c2
      refine br_aload_n S 0 dX4_setCell_10 rfl rfl ?_
      refine br_get (f := 2) (N := 7) (C := RX4) (T := TX4) S inT_X4 wd_2_15 (by decide) rfl rfl (by decide) rfl dX4_setCell_11 ?_
      refine br_iload_n S 1 dX4_setCell_14 rfl rfl ?_
      refine br_iload_n S 2 dX4_setCell_15 rfl rfl ?_
      obtain ⟨g3, h⟩ := h
      obtain ⟨σ4, e5⟩ : ∃ τ, τ = bup σ 42 a1 a2 := ⟨_, rfl⟩
      replace h := h σ4 e5
      have hσ4 : bRG σ4 := by rw [e5]; exact bup_rg hσ ha2
      refine br_iast (n := 64) S ⟨by decide, by decide, fun _ => rfl⟩ g3.1 g3.2 dX4_setCell_16 ?_
      refine bA.to rfl rfl e5.symm ?_
      exact br_vret S hr hlk hσ4 dX4_setCell_17 h
theorem mono_X4_setCell {Q Q9 : bS → Prop} {a1 : Int} {a2 : Int} {σ : bS} (hQ : ∀ σ, Q σ → Q9 σ) : vX4_setCell Q a1 a2 σ → vX4_setCell Q9 a1 a2 σ := mono_vX4_setCell hQ
theorem mX4_setCell (l : Launch) (G : bG) (σ : bS) (a1 : Int) (ha1 : bR a1) (a2 : Int) (ha2 : bR a2) {Q : bS → Prop} (h : vX4_setCell Q a1 a2 σ) : bk_Mv l yX4_setCell (Cond.code yX4_setCell cX4_setCell 3 (none) :: bT) { frames := 0, cells := 0, slots := 0, locals := 0 } G σ [.ref (G.2.2 6), .int (bI a1), .int (bI a2)] Q := by
  refine bk_Mv.of (cc := cX4_setCell) (maxL := 3) (ret := none) (by decide) rfl (Nat.le_of_ble_eq_true rfl) ?_
  intro p e s m args below meth c S hr hlk hσ
  exact wX4_setCell_e S hr hlk ha1 ha2 hσ h
def bX4_clearCells_12 (Q : bS → Prop) (P12 : Int → Int → Int → bS → Prop) (x1 : Int) (x2 : Int) (x3 : Int) (σ : bS) : Prop := ((x2 ≤ x3 → (Q σ)) ∧ (¬ x2 ≤ x3 → (bR (x1 + x3) ∧ (vX4_setCell (fun σ4 => (bR (x3 + 1) ∧ (P12 x1 x2 (x3 + 1) σ4))) (x1 + x3) 0 σ))))
theorem mono_bX4_clearCells_12 {Q Q9 : bS → Prop} {P12 P129 : Int → Int → Int → bS → Prop} {x1 : Int} {x2 : Int} {x3 : Int} {σ : bS} (hQ : ∀ σ, Q σ → Q9 σ) (hP12 : ∀ x1 x2 x3 σ, P12 x1 x2 x3 σ → P129 x1 x2 x3 σ) : bX4_clearCells_12 Q P12 x1 x2 x3 σ → bX4_clearCells_12 Q9 P129 x1 x2 x3 σ := (bm_and (bm_imp (hQ _)) (bm_imp (bm_r (mono_X4_setCell (fun _ => (bm_r (hP12 _ _ _ _)))))))
theorem wX4_clearCells_12 {p : Program} {l : Launch} {e : Env} {s : State} {m : MethodId} {args : Array Value} {below : List Frame} {meth : Method} {c : Code} {G : bG} {σ0 : bS} {Q : bS → Prop} {P12 : Int → Int → Int → bS → Prop} {x1 : Int} {x2 : Int} {x3 : Int} {σ : bS} (S : CallFix p m c cX4_clearCells 4 s args bT "BankLinker$Machine") (hr : meth.sig.returnType = none) (hlk : meth.locks = false) (hP12 : ∀ (x1 : Int) (x2 : Int) (x3 : Int) (σ : bS), bR x1 → bR x2 → bR x3 → bRG σ → P12 x1 x2 x3 σ → bA p l e { frames := 3, cells := 0, slots := 0, locals := 66 } s m args below meth c 0 0 (bQv below args s G σ0 Q) G (va_A (bk_w G σ0) s.heap.size) 4 12 [(0, .ref (G.2.2 6)), (1, .int (bI x1)), (2, .int (bI x2)), (3, .int (bI x3))] [] σ) (hx1 : bR x1) (hx2 : bR x2) (hx3 : bR x3) (hσ : bRG σ) (h : bX4_clearCells_12 Q P12 x1 x2 x3 σ) : bA p l e { frames := 3, cells := 0, slots := 0, locals := 66 } s m args below meth c 0 0 (bQv below args s G σ0 Q) G (va_A (bk_w G σ0) s.heap.size) 4 12 [(0, .ref (G.2.2 6)), (1, .int (bI x1)), (2, .int (bI x2)), (3, .int (bI x3))] [] σ := by
  unfold bX4_clearCells_12 at h
  refine br_iload_n S 3 dX4_clearCells_12 rfl rfl ?_
  refine br_iload_n S 2 dX4_clearCells_13 rfl rfl ?_
  refine br_ic_ge S 31 hx3 hx2 dX4_clearCells_14 (by decide) (fun c1 => ?_) (fun c1 => ?_)
  · replace h := h.1 c1
    exact br_vret S hr hlk hσ dX4_clearCells_31 h
  · replace h := h.2 c1
    refine br_aload_n S 0 dX4_clearCells_17 rfl rfl ?_
    refine br_iload_n S 1 dX4_clearCells_18 rfl rfl ?_
    refine br_iload_n S 3 dX4_clearCells_19 rfl rfl ?_
    refine br_iadd S dX4_clearCells_20 ?_
    refine br_iconst S dX4_clearCells_21 ?_
    obtain ⟨g2, h⟩ := h
    refine br_callVv (As := [.int (bI (x1 + x3)), .int (bI 0)]) (rest := []) S (cwV_X4_setCell S.2.2.2.2 wd_3_143 ⟨by decide, by decide⟩) (mX4_setCell l G σ (x1 + x3) g2 0 (by decide) h) (by decide) rfl rfl rfl hσ rfl rfl (Nat.le_of_ble_eq_true rfl) ⟨by decide, by decide⟩ dX4_clearCells_22 (fun σ4 hσ4 h => ?_)
    refine br_iinc S 3 [(3, .int (bI (x3 + 1))), (0, .ref (G.2.2 6)), (1, .int (bI x1)), (2, .int (bI x2))] dX4_clearCells_25 rfl (by decide) rfl ?_
    refine br_goto S 12 dX4_clearCells_28 (by decide) ?_
    obtain ⟨g5, h⟩ := h
    exact bA.perm [1, 2, 3, 0] rfl <| hP12 x1 x2 (x3 + 1) σ4 hx1 hx2 g5 hσ4 h
def eX4_clearCells (Q : bS → Prop) (P12 : Int → Int → Int → bS → Prop) (σ : bS) : Prop := (vX4_fetch (fun z1 σ2 => (vX4_fetch (fun z3 σ4 => (P12 z1 z3 0 σ4))  σ2))  σ)
theorem mono_eX4_clearCells {Q Q9 : bS → Prop} {P12 P129 : Int → Int → Int → bS → Prop} {σ : bS} (hQ : ∀ σ, Q σ → Q9 σ) (hP12 : ∀ x1 x2 x3 σ, P12 x1 x2 x3 σ → P129 x1 x2 x3 σ) : eX4_clearCells Q P12 σ → eX4_clearCells Q9 P129 σ := (mono_X4_fetch (fun _ _ => (mono_X4_fetch (fun _ _ => (hP12 _ _ _ _)))))
theorem wX4_clearCells_e {p : Program} {l : Launch} {e : Env} {s : State} {m : MethodId} {args : Array Value} {below : List Frame} {meth : Method} {c : Code} {G : bG} {σ0 : bS} {Q : bS → Prop} {P12 : Int → Int → Int → bS → Prop} {σ : bS} (S : CallFix p m c cX4_clearCells 4 s args bT "BankLinker$Machine") (hr : meth.sig.returnType = none) (hlk : meth.locks = false) (hP12 : ∀ (x1 : Int) (x2 : Int) (x3 : Int) (σ : bS), bR x1 → bR x2 → bR x3 → bRG σ → P12 x1 x2 x3 σ → bA p l e { frames := 3, cells := 0, slots := 0, locals := 66 } s m args below meth c 0 0 (bQv below args s G σ0 Q) G (va_A (bk_w G σ0) s.heap.size) 4 12 [(0, .ref (G.2.2 6)), (1, .int (bI x1)), (2, .int (bI x2)), (3, .int (bI x3))] [] σ) (hσ : bRG σ) (h : eX4_clearCells Q P12 σ) : bA p l e { frames := 3, cells := 0, slots := 0, locals := 66 } s m args below meth c 0 0 (bQv below args s G σ0 Q) G (va_A (bk_w G σ0) s.heap.size) 4 0 [(0, .ref (G.2.2 6))] [] σ := by
  unfold eX4_clearCells at h
  refine br_aload_n S 0 dX4_clearCells_0 rfl rfl ?_
  refine br_callV (As := []) (rest := []) S (cwV_X4_fetch S.2.2.2.2 wd_3_118 ⟨by decide, by decide⟩) (mX4_fetch l G σ h) (by decide) rfl rfl rfl hσ rfl rfl (Nat.le_of_ble_eq_true rfl) ⟨by decide, by decide⟩ dX4_clearCells_1 (fun z1 σ2 hz1 hσ2 h => ?_)
  refine br_istore_n S [(1, .int (bI z1)), (0, .ref (G.2.2 6))] dX4_clearCells_4 rfl (by decide) rfl ?_
  refine br_aload_n S 1 dX4_clearCells_5 rfl rfl ?_
  refine br_callV (As := []) (rest := []) S (cwV_X4_fetch S.2.2.2.2 wd_3_118 ⟨by decide, by decide⟩) (mX4_fetch l G σ2 h) (by decide) rfl rfl rfl hσ2 rfl rfl (Nat.le_of_ble_eq_true rfl) ⟨by decide, by decide⟩ dX4_clearCells_6 (fun z3 σ4 hz3 hσ4 h => ?_)
  refine br_istore_n S [(2, .int (bI z3)), (1, .int (bI z1)), (0, .ref (G.2.2 6))] dX4_clearCells_9 rfl (by decide) rfl ?_
  refine br_iconst S dX4_clearCells_10 ?_
  refine br_istore_n S [(3, .int (bI 0)), (2, .int (bI z3)), (1, .int (bI z1)), (0, .ref (G.2.2 6))] dX4_clearCells_11 rfl (by decide) rfl ?_
  exact bA.perm [3, 2, 1, 0] rfl <| hP12 z1 z3 0 σ4 hz1 hz3 (by decide) hσ4 h
def LX4_clearCells_12 (Q : bS → Prop) (x1 : Int) (x2 : Int) (x3 : Int) (σ : bS) : Prop := ∀ (P12 : Int → Int → Int → bS → Prop), (∀ x1 x2 x3 σ, bX4_clearCells_12 Q P12 x1 x2 x3 σ → P12 x1 x2 x3 σ) → P12 x1 x2 x3 σ
theorem LX4_clearCells_12_in {Q : bS → Prop} {x1 : Int} {x2 : Int} {x3 : Int} {σ : bS} (h : bX4_clearCells_12 Q (LX4_clearCells_12 Q) x1 x2 x3 σ) : LX4_clearCells_12 Q x1 x2 x3 σ := fun P12 H12 => H12 _ _ _ _ (mono_bX4_clearCells_12 (fun _ h => h) (fun _ _ _ _ h => h P12 H12) h)
theorem mono_LX4_clearCells_12 {Q Q9 : bS → Prop} {x1 : Int} {x2 : Int} {x3 : Int} {σ : bS} (hQ : ∀ σ, Q σ → Q9 σ) (h : LX4_clearCells_12 Q x1 x2 x3 σ) : LX4_clearCells_12 Q9 x1 x2 x3 σ := fun P12 H12 => h P12 (fun _ _ _ _ hb => H12 _ _ _ _ (mono_bX4_clearCells_12 hQ (fun _ _ _ _ h => h) hb))
def vX4_clearCells (Q : bS → Prop) (σ : bS) : Prop := eX4_clearCells Q (LX4_clearCells_12 Q) σ
theorem mono_vX4_clearCells {Q Q9 : bS → Prop} {σ : bS} (hQ : ∀ σ, Q σ → Q9 σ) : vX4_clearCells Q σ → vX4_clearCells Q9 σ := mono_eX4_clearCells hQ (fun _ _ _ _ h => mono_LX4_clearCells_12 hQ h)
theorem mono_X4_clearCells {Q Q9 : bS → Prop} {σ : bS} (hQ : ∀ σ, Q σ → Q9 σ) : vX4_clearCells Q σ → vX4_clearCells Q9 σ := mono_vX4_clearCells hQ
theorem mX4_clearCells (l : Launch) (G : bG) (σ : bS) {Q : bS → Prop} (h : vX4_clearCells Q σ) : bk_Mv l yX4_clearCells (Cond.code yX4_clearCells cX4_clearCells 4 (none) :: bT) { frames := 3, cells := 0, slots := 0, locals := 66 } G σ [.ref (G.2.2 6)] Q := by
  refine bk_Mv.of (cc := cX4_clearCells) (maxL := 4) (ret := none) (by decide) rfl (Nat.le_of_ble_eq_true rfl) ?_
  intro p e s m args below meth c S hr hlk hσ
  let K12 : Int → Int → Int → bS → Prop := fun x1 x2 x3 τ => bR x1 → bR x2 → bR x3 → bRG τ → bA p l e { frames := 3, cells := 0, slots := 0, locals := 66 } s m args below meth c 0 0 (bQv below args s G σ Q) G (va_A (bk_w G σ) s.heap.size) 4 12 [(0, .ref (G.2.2 6)), (1, .int (bI x1)), (2, .int (bI x2)), (3, .int (bI x3))] [] τ
  have C12 : ∀ x1 x2 x3 τ, bX4_clearCells_12 Q K12 x1 x2 x3 τ → K12 x1 x2 x3 τ := fun x1 x2 x3 τ hb hx1 hx2 hx3 hτ => wX4_clearCells_12 S hr hlk (fun x1 x2 x3 σ hx1 hx2 hx3 hσ h => h hx1 hx2 hx3 hσ) hx1 hx2 hx3 hτ hb
  exact wX4_clearCells_e S hr hlk (fun x1 x2 x3 σ hx1 hx2 hx3 hσ h => h K12 C12 hx1 hx2 hx3 hσ) hσ h
def vX4_push (Q : bS → Prop) (a1 : Int) (σ : bS) : Prop := (((σ 6 4) < 60 → ((0 ≤ (σ 6 4) ∧ (σ 6 4) < 60) ∧ (∀ σ3 : bS, σ3 = bup σ 43 (σ 6 4) a1 → (bR ((σ3 6 4) + 1) ∧ (∀ σ6 : bS, σ6 = bup σ3 6 4 ((σ3 6 4) + 1) → (vX7_reach_8 (fun σ9 => (Q σ9)) (σ6 6 4) σ6)))))) ∧ (¬ (σ 6 4) < 60 → (Q σ)))
theorem mono_vX4_push {Q Q9 : bS → Prop} {a1 : Int} {σ : bS} (hQ : ∀ σ, Q σ → Q9 σ) : vX4_push Q a1 σ → vX4_push Q9 a1 σ := (bm_and (bm_imp (bm_r (bm_all fun _ => bm_imp (bm_r (bm_all fun _ => bm_imp (mono_X7_reach_8 (fun _ => (hQ _)))))))) (bm_imp (hQ _)))
theorem wX4_push_e {p : Program} {l : Launch} {e : Env} {s : State} {m : MethodId} {args : Array Value} {below : List Frame} {meth : Method} {c : Code} {G : bG} {σ0 : bS} {Q : bS → Prop} {a1 : Int} {σ : bS} (S : CallFix p m c cX4_push 2 s args bT "BankLinker$Machine") (hr : meth.sig.returnType = none) (hlk : meth.locks = false) (ha1 : bR a1) (hσ : bRG σ) (h : vX4_push Q a1 σ) : bA p l e { frames := 2, cells := 0, slots := 0, locals := 42 } s m args below meth c 0 0 (bQv below args s G σ0 Q) G (va_A (bk_w G σ0) s.heap.size) 2 0 [(0, .ref (G.2.2 6)), (1, .int (bI a1))] [] σ := by
  unfold vX4_push at h
  refine br_aload_n S 0 dX4_push_0 rfl rfl ?_
  refine br_get (f := 4) (N := 7) (C := RX4) (T := TX4) S inT_X4 wd_2_17 (by decide) rfl rfl (by decide) rfl dX4_push_1 ?_
  refine br_bipush S dX4_push_4 rfl ?_
  refine br_ic_lt S 10 (hσ 6 4) (by decide) dX4_push_6 (by decide) (fun c1 => ?_) (fun c1 => ?_)
  · replace h := h.1 c1
    refine br_aload_n S 0 dX4_push_10 rfl rfl ?_
    refine br_get (f := 3) (N := 7) (C := RX4) (T := TX4) S inT_X4 wd_2_16 (by decide) rfl rfl (by decide) rfl dX4_push_11 ?_
    refine br_aload_n S 0 dX4_push_14 rfl rfl ?_
    refine br_get (f := 4) (N := 7) (C := RX4) (T := TX4) S inT_X4 wd_2_17 (by decide) rfl rfl (by decide) rfl dX4_push_15 ?_
    refine br_iload_n S 1 dX4_push_18 rfl rfl ?_
    obtain ⟨g2, h⟩ := h
    obtain ⟨σ3, e4⟩ : ∃ τ, τ = bup σ 43 (σ 6 4) a1 := ⟨_, rfl⟩
    replace h := h σ3 e4
    have hσ3 : bRG σ3 := by rw [e4]; exact bup_rg hσ ha1
    refine br_iast (n := 60) S ⟨by decide, by decide, fun _ => rfl⟩ g2.1 g2.2 dX4_push_19 ?_
    refine bA.to rfl rfl e4.symm ?_
    refine br_aload_n S 0 dX4_push_20 rfl rfl ?_
    refine br_dup S dX4_push_21 rfl ?_
    refine br_get (f := 4) (N := 7) (C := RX4) (T := TX4) S inT_X4 wd_2_17 (by decide) rfl rfl (by decide) rfl dX4_push_22 ?_
    refine br_iconst S dX4_push_25 ?_
    refine br_iadd S dX4_push_26 ?_
    obtain ⟨g5, h⟩ := h
    obtain ⟨σ6, e7⟩ : ∃ τ, τ = bup σ3 6 4 ((σ3 6 4) + 1) := ⟨_, rfl⟩
    replace h := h σ6 e7
    have hσ6 : bRG σ6 := by rw [e7]; exact bup_rg hσ3 g5
    refine br_put (f := 4) (N := 7) (C := RX4) (T := TX4) S tyX4 tyX4_ok nmX4 inT_X4 wd_2_17 (by decide) rfl (pf_6_4 _ _ _) rfl (by decide) (Nat.le_of_ble_eq_true rfl) rfl rfl rfl rfl dX4_push_27 ?_
    refine bA.to rfl rfl e7.symm ?_
    refine br_aload_n S 0 dX4_push_30 rfl rfl ?_
    refine br_get (f := 0) (N := 7) (C := RX4) (T := TX4) S inT_X4 wd_2_12 (by decide) rfl rfl (by decide) rfl dX4_push_31 ?_
    refine br_aload_n S 0 dX4_push_34 rfl rfl ?_
    refine br_get (f := 4) (N := 7) (C := RX4) (T := TX4) S inT_X4 wd_2_17 (by decide) rfl rfl (by decide) rfl dX4_push_35 ?_
    refine br_callVv (As := [.int (bI (σ6 6 4))]) (rest := []) S (cwV_X7_reach S.2.2.2.2 wd_3_155 ⟨by decide, by decide⟩) (mX7_reach_8 l G σ6 (σ6 6 4) (hσ6 6 4) h) (by decide) rfl rfl rfl hσ6 rfl rfl (Nat.le_of_ble_eq_true rfl) ⟨by decide, by decide⟩ dX4_push_38 (fun σ9 hσ9 h => ?_)
    exact br_vret S hr hlk hσ9 dX4_push_41 h
  · replace h := h.2 c1
    exact br_vret S hr hlk hσ dX4_push_9 h
theorem mono_X4_push {Q Q9 : bS → Prop} {a1 : Int} {σ : bS} (hQ : ∀ σ, Q σ → Q9 σ) : vX4_push Q a1 σ → vX4_push Q9 a1 σ := mono_vX4_push hQ
theorem mX4_push (l : Launch) (G : bG) (σ : bS) (a1 : Int) (ha1 : bR a1) {Q : bS → Prop} (h : vX4_push Q a1 σ) : bk_Mv l yX4_push (Cond.code yX4_push cX4_push 2 (none) :: bT) { frames := 2, cells := 0, slots := 0, locals := 42 } G σ [.ref (G.2.2 6), .int (bI a1)] Q := by
  refine bk_Mv.of (cc := cX4_push) (maxL := 2) (ret := none) (by decide) rfl (Nat.le_of_ble_eq_true rfl) ?_
  intro p e s m args below meth c S hr hlk hσ
  exact wX4_push_e S hr hlk ha1 hσ h
def vX4_goInto (Q : bS → Prop) (σ : bS) : Prop := (vX4_fetch (fun z1 σ2 => (vX4_fetch (fun z3 σ4 => (vX4_push (fun σ6 => (bR ((z3 * 256) + z1) ∧ (∀ σ8 : bS, σ8 = bup σ6 6 5 ((z3 * 256) + z1) → (Q σ8)))) (σ4 6 5) σ4))  σ2))  σ)
theorem mono_vX4_goInto {Q Q9 : bS → Prop} {σ : bS} (hQ : ∀ σ, Q σ → Q9 σ) : vX4_goInto Q σ → vX4_goInto Q9 σ := (mono_X4_fetch (fun _ _ => (mono_X4_fetch (fun _ _ => (mono_X4_push (fun _ => (bm_r (bm_all fun _ => bm_imp (hQ _)))))))))
theorem wX4_goInto_e {p : Program} {l : Launch} {e : Env} {s : State} {m : MethodId} {args : Array Value} {below : List Frame} {meth : Method} {c : Code} {G : bG} {σ0 : bS} {Q : bS → Prop} {σ : bS} (S : CallFix p m c cX4_goInto 3 s args bT "BankLinker$Machine") (hr : meth.sig.returnType = none) (hlk : meth.locks = false) (hσ : bRG σ) (h : vX4_goInto Q σ) : bA p l e { frames := 3, cells := 0, slots := 0, locals := 66 } s m args below meth c 0 0 (bQv below args s G σ0 Q) G (va_A (bk_w G σ0) s.heap.size) 3 0 [(0, .ref (G.2.2 6))] [] σ := by
  unfold vX4_goInto at h
  refine br_aload_n S 0 dX4_goInto_0 rfl rfl ?_
  refine br_callV (As := []) (rest := []) S (cwV_X4_fetch S.2.2.2.2 wd_3_118 ⟨by decide, by decide⟩) (mX4_fetch l G σ h) (by decide) rfl rfl rfl hσ rfl rfl (Nat.le_of_ble_eq_true rfl) ⟨by decide, by decide⟩ dX4_goInto_1 (fun z1 σ2 hz1 hσ2 h => ?_)
  refine br_istore_n S [(1, .int (bI z1)), (0, .ref (G.2.2 6))] dX4_goInto_4 rfl (by decide) rfl ?_
  refine br_aload_n S 1 dX4_goInto_5 rfl rfl ?_
  refine br_callV (As := []) (rest := []) S (cwV_X4_fetch S.2.2.2.2 wd_3_118 ⟨by decide, by decide⟩) (mX4_fetch l G σ2 h) (by decide) rfl rfl rfl hσ2 rfl rfl (Nat.le_of_ble_eq_true rfl) ⟨by decide, by decide⟩ dX4_goInto_6 (fun z3 σ4 hz3 hσ4 h => ?_)
  refine br_istore_n S [(2, .int (bI z3)), (1, .int (bI z1)), (0, .ref (G.2.2 6))] dX4_goInto_9 rfl (by decide) rfl ?_
  refine br_aload_n S 2 dX4_goInto_10 rfl rfl ?_
  refine br_aload_n S 2 dX4_goInto_11 rfl rfl ?_
  refine br_get (f := 5) (N := 7) (C := RX4) (T := TX4) S inT_X4 wd_2_18 (by decide) rfl rfl (by decide) rfl dX4_goInto_12 ?_
  refine br_callVv (As := [.int (bI (σ4 6 5))]) (rest := []) S (cwV_X4_push S.2.2.2.2 wd_3_151 ⟨by decide, by decide⟩) (mX4_push l G σ4 (σ4 6 5) (hσ4 6 5) h) (by decide) rfl rfl rfl hσ4 rfl rfl (Nat.le_of_ble_eq_true rfl) ⟨by decide, by decide⟩ dX4_goInto_15 (fun σ6 hσ6 h => ?_)
  refine br_aload_n S 2 dX4_goInto_18 rfl rfl ?_
  refine br_iload_n S 0 dX4_goInto_19 rfl rfl ?_
  refine br_sipush S dX4_goInto_20 rfl ?_
  refine br_imul S dX4_goInto_23 ?_
  refine br_iload_n S 1 dX4_goInto_24 rfl rfl ?_
  refine br_iadd S dX4_goInto_25 ?_
  obtain ⟨g7, h⟩ := h
  obtain ⟨σ8, e9⟩ : ∃ τ, τ = bup σ6 6 5 ((z3 * 256) + z1) := ⟨_, rfl⟩
  replace h := h σ8 e9
  have hσ8 : bRG σ8 := by rw [e9]; exact bup_rg hσ6 g7
  refine br_put (f := 5) (N := 7) (C := RX4) (T := TX4) S tyX4 tyX4_ok nmX4 inT_X4 wd_2_18 (by decide) rfl (pf_6_5 _ _ _) rfl (by decide) (Nat.le_of_ble_eq_true rfl) rfl rfl rfl rfl dX4_goInto_26 ?_
  refine bA.to rfl rfl e9.symm ?_
  exact br_vret S hr hlk hσ8 dX4_goInto_29 h
theorem mono_X4_goInto {Q Q9 : bS → Prop} {σ : bS} (hQ : ∀ σ, Q σ → Q9 σ) : vX4_goInto Q σ → vX4_goInto Q9 σ := mono_vX4_goInto hQ
theorem mX4_goInto (l : Launch) (G : bG) (σ : bS) {Q : bS → Prop} (h : vX4_goInto Q σ) : bk_Mv l yX4_goInto (Cond.code yX4_goInto cX4_goInto 3 (none) :: bT) { frames := 3, cells := 0, slots := 0, locals := 66 } G σ [.ref (G.2.2 6)] Q := by
  refine bk_Mv.of (cc := cX4_goInto) (maxL := 3) (ret := none) (by decide) rfl (Nat.le_of_ble_eq_true rfl) ?_
  intro p e s m args below meth c S hr hlk hσ
  exact wX4_goInto_e S hr hlk hσ h
def vX4_jumpIf_29 (Q : bS → Prop) (s0 : Int) (s1 : Int) (σ : bS) : Prop := (bR (s1 + s0) ∧ (∀ σ2 : bS, σ2 = bup σ 6 5 (s1 + s0) → (Q σ2)))
theorem mono_vX4_jumpIf_29 {Q Q9 : bS → Prop} {s0 : Int} {s1 : Int} {σ : bS} (hQ : ∀ σ, Q σ → Q9 σ) : vX4_jumpIf_29 Q s0 s1 σ → vX4_jumpIf_29 Q9 s0 s1 σ := (bm_r (bm_all fun _ => bm_imp (hQ _)))
theorem wX4_jumpIf_29 {p : Program} {l : Launch} {e : Env} {s : State} {m : MethodId} {args : Array Value} {below : List Frame} {meth : Method} {c : Code} {G : bG} {σ0 : bS} {Q : bS → Prop} {s0 : Int} {s1 : Int} {σ : bS} (S : CallFix p m c cX4_jumpIf 3 s args bT "BankLinker$Machine") (hr : meth.sig.returnType = none) (hlk : meth.locks = false) (hs0 : bR s0) (hs1 : bR s1) (hσ : bRG σ) (h : vX4_jumpIf_29 Q s0 s1 σ) : bA p l e { frames := 3, cells := 0, slots := 0, locals := 66 } s m args below meth c 0 0 (bQv below args s G σ0 Q) G (va_A (bk_w G σ0) s.heap.size) 3 29 [] [.int (bI s0), .int (bI s1), .ref (G.2.2 6)] σ := by
  unfold vX4_jumpIf_29 at h
  refine br_iadd S dX4_jumpIf_29 ?_
  obtain ⟨g1, h⟩ := h
  obtain ⟨σ2, e3⟩ : ∃ τ, τ = bup σ 6 5 (s1 + s0) := ⟨_, rfl⟩
  replace h := h σ2 e3
  have hσ2 : bRG σ2 := by rw [e3]; exact bup_rg hσ g1
  refine br_put (f := 5) (N := 7) (C := RX4) (T := TX4) S tyX4 tyX4_ok nmX4 inT_X4 wd_2_18 (by decide) rfl (pf_6_5 _ _ _) rfl (by decide) (Nat.le_of_ble_eq_true rfl) rfl rfl rfl rfl dX4_jumpIf_30 ?_
  refine bA.to rfl rfl e3.symm ?_
  exact br_vret S hr hlk hσ2 dX4_jumpIf_33 h
def vX4_jumpIf (Q : bS → Prop) (a1 : Int) (σ : bS) : Prop := (vX4_fetch (fun z1 σ2 => ((a1 = 0 → (Q σ2)) ∧ (¬ a1 = 0 → ((z1 ≤ 127 → (vX4_jumpIf_29 Q z1 (σ2 6 5) σ2)) ∧ (¬ z1 ≤ 127 → (bR (z1 - 256) ∧ (vX4_jumpIf_29 Q (z1 - 256) (σ2 6 5) σ2)))))))  σ)
theorem mono_vX4_jumpIf {Q Q9 : bS → Prop} {a1 : Int} {σ : bS} (hQ : ∀ σ, Q σ → Q9 σ) : vX4_jumpIf Q a1 σ → vX4_jumpIf Q9 a1 σ := (mono_X4_fetch (fun _ _ => (bm_and (bm_imp (hQ _)) (bm_imp (bm_and (bm_imp (mono_vX4_jumpIf_29 hQ)) (bm_imp (bm_r (mono_vX4_jumpIf_29 hQ))))))))
theorem wX4_jumpIf_e {p : Program} {l : Launch} {e : Env} {s : State} {m : MethodId} {args : Array Value} {below : List Frame} {meth : Method} {c : Code} {G : bG} {σ0 : bS} {Q : bS → Prop} {a1 : Int} {σ : bS} (S : CallFix p m c cX4_jumpIf 3 s args bT "BankLinker$Machine") (hr : meth.sig.returnType = none) (hlk : meth.locks = false) (ha1 : bR a1) (hσ : bRG σ) (h : vX4_jumpIf Q a1 σ) : bA p l e { frames := 3, cells := 0, slots := 0, locals := 66 } s m args below meth c 0 0 (bQv below args s G σ0 Q) G (va_A (bk_w G σ0) s.heap.size) 3 0 [(0, .ref (G.2.2 6)), (1, .int (bI a1))] [] σ := by
  unfold vX4_jumpIf at h
  refine br_aload_n S 0 dX4_jumpIf_0 rfl rfl ?_
  refine br_callV (As := []) (rest := []) S (cwV_X4_fetch S.2.2.2.2 wd_3_118 ⟨by decide, by decide⟩) (mX4_fetch l G σ h) (by decide) rfl rfl rfl hσ rfl rfl (Nat.le_of_ble_eq_true rfl) ⟨by decide, by decide⟩ dX4_jumpIf_1 (fun z1 σ2 hz1 hσ2 h => ?_)
  refine br_istore_n S [(2, .int (bI z1)), (0, .ref (G.2.2 6)), (1, .int (bI a1))] dX4_jumpIf_4 rfl (by decide) rfl ?_
  refine br_iload_n S 2 dX4_jumpIf_5 rfl rfl ?_
  refine br_if_eq S 33 ha1 dX4_jumpIf_6 (by decide) (fun c3 => ?_) (fun c3 => ?_)
  · replace h := h.1 c3
    exact br_vret S hr hlk hσ2 dX4_jumpIf_33 h
  · replace h := h.2 c3
    refine br_aload_n S 1 dX4_jumpIf_9 rfl rfl ?_
    refine br_dup S dX4_jumpIf_10 rfl ?_
    refine br_get (f := 5) (N := 7) (C := RX4) (T := TX4) S inT_X4 wd_2_18 (by decide) rfl rfl (by decide) rfl dX4_jumpIf_11 ?_
    refine br_iload_n S 0 dX4_jumpIf_14 rfl rfl ?_
    refine br_bipush S dX4_jumpIf_15 rfl ?_
    refine br_ic_le S 28 hz1 (by decide) dX4_jumpIf_17 (by decide) (fun c4 => ?_) (fun c4 => ?_)
    · replace h := h.1 c4
      refine br_iload_n S 0 dX4_jumpIf_28 rfl rfl ?_
      exact bA.perm [] rfl <| wX4_jumpIf_29 S hr hlk hz1 (hσ2 6 5) hσ2 h
    · replace h := h.2 c4
      refine br_iload_n S 0 dX4_jumpIf_20 rfl rfl ?_
      refine br_sipush S dX4_jumpIf_21 rfl ?_
      refine br_isub S dX4_jumpIf_24 ?_
      refine br_goto S 29 dX4_jumpIf_25 (by decide) ?_
      obtain ⟨g5, h⟩ := h
      exact bA.perm [] rfl <| wX4_jumpIf_29 S hr hlk g5 (hσ2 6 5) hσ2 h
theorem mono_X4_jumpIf {Q Q9 : bS → Prop} {a1 : Int} {σ : bS} (hQ : ∀ σ, Q σ → Q9 σ) : vX4_jumpIf Q a1 σ → vX4_jumpIf Q9 a1 σ := mono_vX4_jumpIf hQ
theorem mX4_jumpIf (l : Launch) (G : bG) (σ : bS) (a1 : Int) (ha1 : bR a1) {Q : bS → Prop} (h : vX4_jumpIf Q a1 σ) : bk_Mv l yX4_jumpIf (Cond.code yX4_jumpIf cX4_jumpIf 3 (none) :: bT) { frames := 3, cells := 0, slots := 0, locals := 66 } G σ [.ref (G.2.2 6), .int (bI a1)] Q := by
  refine bk_Mv.of (cc := cX4_jumpIf) (maxL := 3) (ret := none) (by decide) rfl (Nat.le_of_ble_eq_true rfl) ?_
  intro p e s m args below meth c S hr hlk hσ
  exact wX4_jumpIf_e S hr hlk ha1 hσ h
def vX4_pop (Q : Int → bS → Prop) (σ : bS) : Prop := ((0 < (σ 6 4) → (bR ((σ 6 4) - 1) ∧ (∀ σ3 : bS, σ3 = bup σ 6 4 ((σ 6 4) - 1) → ((0 ≤ (σ3 6 4) ∧ (σ3 6 4) < 60) ∧ (Q (σ3 43 (σ3 6 4)) σ3))))) ∧ (¬ 0 < (σ 6 4) → (Q 0 σ)))
theorem mono_vX4_pop {Q Q9 : Int → bS → Prop} {σ : bS} (hQ : ∀ r σ, Q r σ → Q9 r σ) : vX4_pop Q σ → vX4_pop Q9 σ := (bm_and (bm_imp (bm_r (bm_all fun _ => bm_imp (bm_r (hQ _ _))))) (bm_imp (hQ _ _)))
theorem wX4_pop_e {p : Program} {l : Launch} {e : Env} {s : State} {m : MethodId} {args : Array Value} {below : List Frame} {meth : Method} {c : Code} {G : bG} {σ0 : bS} {Q : Int → bS → Prop} {σ : bS} (S : CallFix p m c cX4_pop 1 s args bT "BankLinker$Machine") (hr : meth.sig.returnType = some .int) (hlk : meth.locks = false) (hσ : bRG σ) (h : vX4_pop Q σ) : bA p l e { frames := 0, cells := 0, slots := 0, locals := 0 } s m args below meth c 0 0 (bQi below args s G σ0 Q) G (va_A (bk_w G σ0) s.heap.size) 1 0 [(0, .ref (G.2.2 6))] [] σ := by
  unfold vX4_pop at h
  refine br_aload_n S 0 dX4_pop_0 rfl rfl ?_
  refine br_get (f := 4) (N := 7) (C := RX4) (T := TX4) S inT_X4 wd_2_17 (by decide) rfl rfl (by decide) rfl dX4_pop_1 ?_
  refine br_if_gt S 9 (hσ 6 4) dX4_pop_4 (by decide) (fun c1 => ?_) (fun c1 => ?_)
  · replace h := h.1 c1
    refine br_aload_n S 0 dX4_pop_9 rfl rfl ?_
    refine br_dup S dX4_pop_10 rfl ?_
    refine br_get (f := 4) (N := 7) (C := RX4) (T := TX4) S inT_X4 wd_2_17 (by decide) rfl rfl (by decide) rfl dX4_pop_11 ?_
    refine br_iconst S dX4_pop_14 ?_
    refine br_isub S dX4_pop_15 ?_
    obtain ⟨g2, h⟩ := h
    obtain ⟨σ3, e4⟩ : ∃ τ, τ = bup σ 6 4 ((σ 6 4) - 1) := ⟨_, rfl⟩
    replace h := h σ3 e4
    have hσ3 : bRG σ3 := by rw [e4]; exact bup_rg hσ g2
    refine br_put (f := 4) (N := 7) (C := RX4) (T := TX4) S tyX4 tyX4_ok nmX4 inT_X4 wd_2_17 (by decide) rfl (pf_6_4 _ _ _) rfl (by decide) (Nat.le_of_ble_eq_true rfl) rfl rfl rfl rfl dX4_pop_16 ?_
    refine bA.to rfl rfl e4.symm ?_
    refine br_aload_n S 0 dX4_pop_19 rfl rfl ?_
    refine br_get (f := 3) (N := 7) (C := RX4) (T := TX4) S inT_X4 wd_2_16 (by decide) rfl rfl (by decide) rfl dX4_pop_20 ?_
    refine br_aload_n S 0 dX4_pop_23 rfl rfl ?_
    refine br_get (f := 4) (N := 7) (C := RX4) (T := TX4) S inT_X4 wd_2_17 (by decide) rfl rfl (by decide) rfl dX4_pop_24 ?_
    obtain ⟨g5, h⟩ := h
    refine br_iald (n := 60) S ⟨by decide, by decide, fun _ => rfl⟩ g5.1 g5.2 dX4_pop_27 ?_
    exact br_iret S hr hlk (hσ3 43 (σ3 6 4)) hσ3 dX4_pop_28 h
  · replace h := h.2 c1
    refine br_iconst S dX4_pop_7 ?_
    exact br_iret S hr hlk (by decide) hσ dX4_pop_8 h
theorem mono_X4_pop {Q Q9 : Int → bS → Prop} {σ : bS} (hQ : ∀ r σ, Q r σ → Q9 r σ) : vX4_pop Q σ → vX4_pop Q9 σ := mono_vX4_pop hQ
theorem mX4_pop (l : Launch) (G : bG) (σ : bS) {Q : Int → bS → Prop} (h : vX4_pop Q σ) : bk_Mi l yX4_pop (Cond.code yX4_pop cX4_pop 1 (some .int) :: bT) { frames := 0, cells := 0, slots := 0, locals := 0 } G σ [.ref (G.2.2 6)] Q := by
  refine bk_Mi.of (cc := cX4_pop) (maxL := 1) (ret := some .int) (by decide) rfl (Nat.le_of_ble_eq_true rfl) ?_
  intro p e s m args below meth c S hr hlk hσ
  exact wX4_pop_e S hr hlk hσ h
def vX4_switchTo (Q : bS → Prop) (a1 : Int) (σ : bS) : Prop := (∀ σ1 : bS, σ1 = bup σ 6 6 a1 → (bR ((σ1 8 5) + 1) ∧ (∀ σ4 : bS, σ4 = bup σ1 8 5 ((σ1 8 5) + 1) → (Q σ4))))
theorem mono_vX4_switchTo {Q Q9 : bS → Prop} {a1 : Int} {σ : bS} (hQ : ∀ σ, Q σ → Q9 σ) : vX4_switchTo Q a1 σ → vX4_switchTo Q9 a1 σ := (bm_all fun _ => bm_imp (bm_r (bm_all fun _ => bm_imp (hQ _))))
theorem wX4_switchTo_e {p : Program} {l : Launch} {e : Env} {s : State} {m : MethodId} {args : Array Value} {below : List Frame} {meth : Method} {c : Code} {G : bG} {σ0 : bS} {Q : bS → Prop} {a1 : Int} {σ : bS} (S : CallFix p m c cX4_switchTo 2 s args bT "BankLinker$Machine") (hr : meth.sig.returnType = none) (hlk : meth.locks = false) (ha1 : bR a1) (hσ : bRG σ) (h : vX4_switchTo Q a1 σ) : bA p l e { frames := 0, cells := 0, slots := 0, locals := 0 } s m args below meth c 0 0 (bQv below args s G σ0 Q) G (va_A (bk_w G σ0) s.heap.size) 2 0 [(0, .ref (G.2.2 6)), (1, .int (bI a1))] [] σ := by
  unfold vX4_switchTo at h
  refine br_aload_n S 0 dX4_switchTo_0 rfl rfl ?_
  refine br_iload_n S 1 dX4_switchTo_1 rfl rfl ?_
  obtain ⟨σ1, e2⟩ : ∃ τ, τ = bup σ 6 6 a1 := ⟨_, rfl⟩
  replace h := h σ1 e2
  have hσ1 : bRG σ1 := by rw [e2]; exact bup_rg hσ ha1
  refine br_put (f := 6) (N := 7) (C := RX4) (T := TX4) S tyX4 tyX4_ok nmX4 inT_X4 wd_2_19 (by decide) rfl (pf_6_6 _ _ _) rfl (by decide) (Nat.le_of_ble_eq_true rfl) rfl rfl rfl rfl dX4_switchTo_2 ?_
  refine bA.to rfl rfl e2.symm ?_
  refine br_aload_n S 0 dX4_switchTo_5 rfl rfl ?_
  refine br_get (f := 0) (N := 7) (C := RX4) (T := TX4) S inT_X4 wd_2_12 (by decide) rfl rfl (by decide) rfl dX4_switchTo_6 ?_
  refine br_dup S dX4_switchTo_9 rfl ?_
  refine br_get (f := 5) (N := 6) (C := RX7) (T := TX7) S inT_X7 wd_1_237 (by decide) rfl rfl (by decide) rfl dX4_switchTo_10 ?_
  refine br_iconst S dX4_switchTo_13 ?_
  refine br_iadd S dX4_switchTo_14 ?_
  obtain ⟨g3, h⟩ := h
  obtain ⟨σ4, e5⟩ : ∃ τ, τ = bup σ1 8 5 ((σ1 8 5) + 1) := ⟨_, rfl⟩
  replace h := h σ4 e5
  have hσ4 : bRG σ4 := by rw [e5]; exact bup_rg hσ1 g3
  refine br_put (f := 5) (N := 6) (C := RX7) (T := TX7) S tyX7 tyX7_ok nmX7 inT_X7 wd_1_237 (by decide) rfl (pf_8_5 _ _ _) rfl (by decide) (Nat.le_of_ble_eq_true rfl) rfl rfl rfl rfl dX4_switchTo_15 ?_
  refine bA.to rfl rfl e5.symm ?_
  exact br_vret S hr hlk hσ4 dX4_switchTo_18 h
theorem mono_X4_switchTo {Q Q9 : bS → Prop} {a1 : Int} {σ : bS} (hQ : ∀ σ, Q σ → Q9 σ) : vX4_switchTo Q a1 σ → vX4_switchTo Q9 a1 σ := mono_vX4_switchTo hQ
theorem mX4_switchTo (l : Launch) (G : bG) (σ : bS) (a1 : Int) (ha1 : bR a1) {Q : bS → Prop} (h : vX4_switchTo Q a1 σ) : bk_Mv l yX4_switchTo (Cond.code yX4_switchTo cX4_switchTo 2 (none) :: bT) { frames := 0, cells := 0, slots := 0, locals := 0 } G σ [.ref (G.2.2 6), .int (bI a1)] Q := by
  refine bk_Mv.of (cc := cX4_switchTo) (maxL := 2) (ret := none) (by decide) rfl (Nat.le_of_ble_eq_true rfl) ?_
  intro p e s m args below meth c S hr hlk hσ
  exact wX4_switchTo_e S hr hlk ha1 hσ h
def vX4_doCode_165 (Q : bS → Prop) (s0 : Int) (σ : bS) : Prop := (vX4_jumpIf (fun σ2 => (Q σ2)) s0 σ)
theorem mono_vX4_doCode_165 {Q Q9 : bS → Prop} {s0 : Int} {σ : bS} (hQ : ∀ σ, Q σ → Q9 σ) : vX4_doCode_165 Q s0 σ → vX4_doCode_165 Q9 s0 σ := (mono_X4_jumpIf (fun _ => (hQ _)))
theorem wX4_doCode_165 {p : Program} {l : Launch} {e : Env} {s : State} {m : MethodId} {args : Array Value} {below : List Frame} {meth : Method} {c : Code} {G : bG} {σ0 : bS} {Q : bS → Prop} {s0 : Int} {σ : bS} (S : CallFix p m c cX4_doCode 2 s args bT "BankLinker$Machine") (hr : meth.sig.returnType = none) (hlk : meth.locks = false) (hs0 : bR s0) (hσ : bRG σ) (h : vX4_doCode_165 Q s0 σ) : bA p l e { frames := 4, cells := 0, slots := 0, locals := 89 } s m args below meth c 0 0 (bQv below args s G σ0 Q) G (va_A (bk_w G σ0) s.heap.size) 2 165 [] [.int (bI s0), .ref (G.2.2 6)] σ := by
  unfold vX4_doCode_165 at h
  refine br_callVv (As := [.int (bI s0)]) (rest := []) S (cwV_X4_jumpIf S.2.2.2.2 wd_3_160 ⟨by decide, by decide⟩) (mX4_jumpIf l G σ s0 hs0 h) (by decide) rfl rfl rfl hσ rfl rfl (Nat.le_of_ble_eq_true rfl) ⟨by decide, by decide⟩ dX4_doCode_165 (fun σ2 hσ2 h => ?_)
  refine br_goto S 230 dX4_doCode_168 (by decide) ?_
  exact br_vret S hr hlk hσ2 dX4_doCode_230 h
def vX4_doCode (Q : bS → Prop) (a1 : Int) (σ : bS) : Prop := (((a1 < 0 ∨ 12 < a1) → (Q σ)) ∧ (a1 = 0 → (vX4_fetch (fun z3 σ4 => (∀ σ5 : bS, σ5 = bup σ4 8 2 z3 → (Q σ5)))  σ)) ∧ (a1 = 1 → (vX4_fetch (fun z7 σ8 => (vX7_add_8 (fun σ10 => (Q σ10)) z7 σ8))  σ)) ∧ (a1 = 2 → (vX7_tellA_8 (fun σ12 => (Q σ12))  σ)) ∧ (a1 = 3 → (vX4_fetch (fun z13 σ14 => (vX4_cellAt (fun z15 σ16 => (∀ σ17 : bS, σ17 = bup σ16 8 2 z15 → (Q σ17))) z13 σ14))  σ)) ∧ (a1 = 4 → (vX4_fetch (fun z19 σ20 => (vX4_setCell (fun σ22 => (Q σ22)) z19 (σ20 8 2) σ20))  σ)) ∧ (a1 = 5 → (vX4_goInto (fun σ24 => (Q σ24))  σ)) ∧ (a1 = 6 → ((¬ (σ 8 2) = 0 → (vX4_doCode_165 Q 0 σ)) ∧ ((σ 8 2) = 0 → (vX4_doCode_165 Q 1 σ)))) ∧ (a1 = 7 → (vX4_jumpIf (fun σ27 => (Q σ27)) 1 σ)) ∧ (a1 = 8 → (vX4_pop (fun z28 σ29 => (∀ σ30 : bS, σ30 = bup σ29 6 5 z28 → (Q σ30)))  σ)) ∧ (a1 = 9 → (vX4_push (fun σ33 => (Q σ33)) (σ 6 6) σ)) ∧ (a1 = 10 → (vX4_fetch (fun z34 σ35 => (vX4_switchTo (fun σ37 => (Q σ37)) z34 σ35))  σ)) ∧ (a1 = 11 → (vX4_pop (fun z38 σ39 => (vX4_switchTo (fun σ41 => (Q σ41)) z38 σ39))  σ)) ∧ (a1 = 12 → (vX4_clearCells (fun σ43 => (Q σ43))  σ)))
theorem mono_vX4_doCode {Q Q9 : bS → Prop} {a1 : Int} {σ : bS} (hQ : ∀ σ, Q σ → Q9 σ) : vX4_doCode Q a1 σ → vX4_doCode Q9 a1 σ := (bm_and (bm_imp (hQ _)) (bm_and (bm_imp (mono_X4_fetch (fun _ _ => (bm_all fun _ => bm_imp (hQ _))))) (bm_and (bm_imp (mono_X4_fetch (fun _ _ => (mono_X7_add_8 (fun _ => (hQ _)))))) (bm_and (bm_imp (mono_X7_tellA_8 (fun _ => (hQ _)))) (bm_and (bm_imp (mono_X4_fetch (fun _ _ => (mono_X4_cellAt (fun _ _ => (bm_all fun _ => bm_imp (hQ _))))))) (bm_and (bm_imp (mono_X4_fetch (fun _ _ => (mono_X4_setCell (fun _ => (hQ _)))))) (bm_and (bm_imp (mono_X4_goInto (fun _ => (hQ _)))) (bm_and (bm_imp (bm_and (bm_imp (mono_vX4_doCode_165 hQ)) (bm_imp (mono_vX4_doCode_165 hQ)))) (bm_and (bm_imp (mono_X4_jumpIf (fun _ => (hQ _)))) (bm_and (bm_imp (mono_X4_pop (fun _ _ => (bm_all fun _ => bm_imp (hQ _))))) (bm_and (bm_imp (mono_X4_push (fun _ => (hQ _)))) (bm_and (bm_imp (mono_X4_fetch (fun _ _ => (mono_X4_switchTo (fun _ => (hQ _)))))) (bm_and (bm_imp (mono_X4_pop (fun _ _ => (mono_X4_switchTo (fun _ => (hQ _)))))) (bm_imp (mono_X4_clearCells (fun _ => (hQ _)))))))))))))))))
theorem wX4_doCode_e {p : Program} {l : Launch} {e : Env} {s : State} {m : MethodId} {args : Array Value} {below : List Frame} {meth : Method} {c : Code} {G : bG} {σ0 : bS} {Q : bS → Prop} {a1 : Int} {σ : bS} (S : CallFix p m c cX4_doCode 2 s args bT "BankLinker$Machine") (hr : meth.sig.returnType = none) (hlk : meth.locks = false) (ha1 : bR a1) (hσ : bRG σ) (h : vX4_doCode Q a1 σ) : bA p l e { frames := 4, cells := 0, slots := 0, locals := 89 } s m args below meth c 0 0 (bQv below args s G σ0 Q) G (va_A (bk_w G σ0) s.heap.size) 2 0 [(0, .ref (G.2.2 6)), (1, .int (bI a1))] [] σ := by
  unfold vX4_doCode at h
  refine br_iload_n S 1 dX4_doCode_0 rfl rfl ?_
  by_cases c1 : a1 < 0 ∨ 12 < a1
  · replace h := h.1 c1
    refine br_tblO S 230 ha1 c1 dX4_doCode_1 (by decide) ?_
    exact br_vret S hr hlk hσ dX4_doCode_230 h
  · rcases (show a1 = 0 ∨ a1 = 1 ∨ a1 = 2 ∨ a1 = 3 ∨ a1 = 4 ∨ a1 = 5 ∨ a1 = 6 ∨ a1 = 7 ∨ a1 = 8 ∨ a1 = 9 ∨ a1 = 10 ∨ a1 = 11 ∨ a1 = 12 by omega) with c2 | c2 | c2 | c2 | c2 | c2 | c2 | c2 | c2 | c2 | c2 | c2 | c2
    · replace h := h.2.1 c2
      refine br_tblI S 68 0 ha1 c2 (by decide) rfl dX4_doCode_1 (by decide) ?_
      refine br_aload_n S 0 dX4_doCode_68 rfl rfl ?_
      refine br_get (f := 0) (N := 7) (C := RX4) (T := TX4) S inT_X4 wd_2_12 (by decide) rfl rfl (by decide) rfl dX4_doCode_69 ?_
      refine br_aload_n S 0 dX4_doCode_72 rfl rfl ?_
      refine br_callV (As := []) (rest := [.ref (G.2.2 8)]) S (cwV_X4_fetch S.2.2.2.2 wd_3_118 ⟨by decide, by decide⟩) (mX4_fetch l G σ h) (by decide) rfl rfl rfl hσ rfl rfl (Nat.le_of_ble_eq_true rfl) ⟨by decide, by decide⟩ dX4_doCode_73 (fun z3 σ4 hz3 hσ4 h => ?_)
      obtain ⟨σ5, e6⟩ : ∃ τ, τ = bup σ4 8 2 z3 := ⟨_, rfl⟩
      replace h := h σ5 e6
      have hσ5 : bRG σ5 := by rw [e6]; exact bup_rg hσ4 hz3
      refine br_put (f := 2) (N := 6) (C := RX7) (T := TX7) S tyX7 tyX7_ok nmX7 inT_X7 wd_1_230 (by decide) rfl (pf_8_2 _ _ _) rfl (by decide) (Nat.le_of_ble_eq_true rfl) rfl rfl rfl rfl dX4_doCode_76 ?_
      refine bA.to rfl rfl e6.symm ?_
      refine br_goto S 230 dX4_doCode_79 (by decide) ?_
      exact br_vret S hr hlk hσ5 dX4_doCode_230 h
    · replace h := h.2.2.1 c2
      refine br_tblI S 82 1 ha1 c2 (by decide) rfl dX4_doCode_1 (by decide) ?_
      refine br_aload_n S 0 dX4_doCode_82 rfl rfl ?_
      refine br_get (f := 0) (N := 7) (C := RX4) (T := TX4) S inT_X4 wd_2_12 (by decide) rfl rfl (by decide) rfl dX4_doCode_83 ?_
      refine br_aload_n S 0 dX4_doCode_86 rfl rfl ?_
      refine br_callV (As := []) (rest := [.ref (G.2.2 8)]) S (cwV_X4_fetch S.2.2.2.2 wd_3_118 ⟨by decide, by decide⟩) (mX4_fetch l G σ h) (by decide) rfl rfl rfl hσ rfl rfl (Nat.le_of_ble_eq_true rfl) ⟨by decide, by decide⟩ dX4_doCode_87 (fun z7 σ8 hz7 hσ8 h => ?_)
      refine br_callVv (As := [.int (bI z7)]) (rest := []) S (cwV_X7_add S.2.2.2.2 wd_3_131 ⟨by decide, by decide⟩) (mX7_add_8 l G σ8 z7 hz7 h) (by decide) rfl rfl rfl hσ8 rfl rfl (Nat.le_of_ble_eq_true rfl) ⟨by decide, by decide⟩ dX4_doCode_90 (fun σ10 hσ10 h => ?_)
      refine br_goto S 230 dX4_doCode_93 (by decide) ?_
      exact br_vret S hr hlk hσ10 dX4_doCode_230 h
    · replace h := h.2.2.2.1 c2
      refine br_tblI S 96 2 ha1 c2 (by decide) rfl dX4_doCode_1 (by decide) ?_
      refine br_aload_n S 0 dX4_doCode_96 rfl rfl ?_
      refine br_get (f := 0) (N := 7) (C := RX4) (T := TX4) S inT_X4 wd_2_12 (by decide) rfl rfl (by decide) rfl dX4_doCode_97 ?_
      refine br_callVv (As := []) (rest := []) S (cwV_X7_tellA S.2.2.2.2 wd_3_135 ⟨by decide, by decide⟩) (mX7_tellA_8 l G σ h) (by decide) rfl rfl rfl hσ rfl rfl (Nat.le_of_ble_eq_true rfl) ⟨by decide, by decide⟩ dX4_doCode_100 (fun σ12 hσ12 h => ?_)
      refine br_goto S 230 dX4_doCode_103 (by decide) ?_
      exact br_vret S hr hlk hσ12 dX4_doCode_230 h
    · replace h := h.2.2.2.2.1 c2
      refine br_tblI S 106 3 ha1 c2 (by decide) rfl dX4_doCode_1 (by decide) ?_
      refine br_aload_n S 0 dX4_doCode_106 rfl rfl ?_
      refine br_get (f := 0) (N := 7) (C := RX4) (T := TX4) S inT_X4 wd_2_12 (by decide) rfl rfl (by decide) rfl dX4_doCode_107 ?_
      refine br_aload_n S 0 dX4_doCode_110 rfl rfl ?_
      refine br_aload_n S 0 dX4_doCode_111 rfl rfl ?_
      refine br_callV (As := []) (rest := [.ref (G.2.2 6), .ref (G.2.2 8)]) S (cwV_X4_fetch S.2.2.2.2 wd_3_118 ⟨by decide, by decide⟩) (mX4_fetch l G σ h) (by decide) rfl rfl rfl hσ rfl rfl (Nat.le_of_ble_eq_true rfl) ⟨by decide, by decide⟩ dX4_doCode_112 (fun z13 σ14 hz13 hσ14 h => ?_)
      refine br_callV (As := [.int (bI z13)]) (rest := [.ref (G.2.2 8)]) S (cwV_X4_cellAt S.2.2.2.2 wd_3_139 ⟨by decide, by decide⟩) (mX4_cellAt l G σ14 z13 hz13 h) (by decide) rfl rfl rfl hσ14 rfl rfl (Nat.le_of_ble_eq_true rfl) ⟨by decide, by decide⟩ dX4_doCode_115 (fun z15 σ16 hz15 hσ16 h => ?_)
      obtain ⟨σ17, e18⟩ : ∃ τ, τ = bup σ16 8 2 z15 := ⟨_, rfl⟩
      replace h := h σ17 e18
      have hσ17 : bRG σ17 := by rw [e18]; exact bup_rg hσ16 hz15
      refine br_put (f := 2) (N := 6) (C := RX7) (T := TX7) S tyX7 tyX7_ok nmX7 inT_X7 wd_1_230 (by decide) rfl (pf_8_2 _ _ _) rfl (by decide) (Nat.le_of_ble_eq_true rfl) rfl rfl rfl rfl dX4_doCode_118 ?_
      refine bA.to rfl rfl e18.symm ?_
      refine br_goto S 230 dX4_doCode_121 (by decide) ?_
      exact br_vret S hr hlk hσ17 dX4_doCode_230 h
    · replace h := h.2.2.2.2.2.1 c2
      refine br_tblI S 124 4 ha1 c2 (by decide) rfl dX4_doCode_1 (by decide) ?_
      refine br_aload_n S 0 dX4_doCode_124 rfl rfl ?_
      refine br_aload_n S 0 dX4_doCode_125 rfl rfl ?_
      refine br_callV (As := []) (rest := [.ref (G.2.2 6)]) S (cwV_X4_fetch S.2.2.2.2 wd_3_118 ⟨by decide, by decide⟩) (mX4_fetch l G σ h) (by decide) rfl rfl rfl hσ rfl rfl (Nat.le_of_ble_eq_true rfl) ⟨by decide, by decide⟩ dX4_doCode_126 (fun z19 σ20 hz19 hσ20 h => ?_)
      refine br_aload_n S 0 dX4_doCode_129 rfl rfl ?_
      refine br_get (f := 0) (N := 7) (C := RX4) (T := TX4) S inT_X4 wd_2_12 (by decide) rfl rfl (by decide) rfl dX4_doCode_130 ?_
      refine br_get (f := 2) (N := 6) (C := RX7) (T := TX7) S inT_X7 wd_1_230 (by decide) rfl rfl (by decide) rfl dX4_doCode_133 ?_
      refine br_callVv (As := [.int (bI z19), .int (bI (σ20 8 2))]) (rest := []) S (cwV_X4_setCell S.2.2.2.2 wd_3_143 ⟨by decide, by decide⟩) (mX4_setCell l G σ20 z19 hz19 (σ20 8 2) (hσ20 8 2) h) (by decide) rfl rfl rfl hσ20 rfl rfl (Nat.le_of_ble_eq_true rfl) ⟨by decide, by decide⟩ dX4_doCode_136 (fun σ22 hσ22 h => ?_)
      refine br_goto S 230 dX4_doCode_139 (by decide) ?_
      exact br_vret S hr hlk hσ22 dX4_doCode_230 h
    · replace h := h.2.2.2.2.2.2.1 c2
      refine br_tblI S 142 5 ha1 c2 (by decide) rfl dX4_doCode_1 (by decide) ?_
      refine br_aload_n S 0 dX4_doCode_142 rfl rfl ?_
      refine br_callVv (As := []) (rest := []) S (cwV_X4_goInto S.2.2.2.2 wd_3_147 ⟨by decide, by decide⟩) (mX4_goInto l G σ h) (by decide) rfl rfl rfl hσ rfl rfl (Nat.le_of_ble_eq_true rfl) ⟨by decide, by decide⟩ dX4_doCode_143 (fun σ24 hσ24 h => ?_)
      refine br_goto S 230 dX4_doCode_146 (by decide) ?_
      exact br_vret S hr hlk hσ24 dX4_doCode_230 h
    · replace h := h.2.2.2.2.2.2.2.1 c2
      refine br_tblI S 149 6 ha1 c2 (by decide) rfl dX4_doCode_1 (by decide) ?_
      refine br_aload_n S 0 dX4_doCode_149 rfl rfl ?_
      refine br_aload_n S 0 dX4_doCode_150 rfl rfl ?_
      refine br_get (f := 0) (N := 7) (C := RX4) (T := TX4) S inT_X4 wd_2_12 (by decide) rfl rfl (by decide) rfl dX4_doCode_151 ?_
      refine br_get (f := 2) (N := 6) (C := RX7) (T := TX7) S inT_X7 wd_1_230 (by decide) rfl rfl (by decide) rfl dX4_doCode_154 ?_
      refine br_if_ne S 164 (hσ 8 2) dX4_doCode_157 (by decide) (fun c25 => ?_) (fun c25 => ?_)
      · replace h := h.1 c25
        refine br_iconst S dX4_doCode_164 ?_
        exact bA.perm [] rfl <| wX4_doCode_165 S hr hlk (by decide) hσ h
      · replace h := h.2 c25
        refine br_iconst S dX4_doCode_160 ?_
        refine br_goto S 165 dX4_doCode_161 (by decide) ?_
        exact bA.perm [] rfl <| wX4_doCode_165 S hr hlk (by decide) hσ h
    · replace h := h.2.2.2.2.2.2.2.2.1 c2
      refine br_tblI S 171 7 ha1 c2 (by decide) rfl dX4_doCode_1 (by decide) ?_
      refine br_aload_n S 0 dX4_doCode_171 rfl rfl ?_
      refine br_iconst S dX4_doCode_172 ?_
      refine br_callVv (As := [.int (bI 1)]) (rest := []) S (cwV_X4_jumpIf S.2.2.2.2 wd_3_160 ⟨by decide, by decide⟩) (mX4_jumpIf l G σ 1 (by decide) h) (by decide) rfl rfl rfl hσ rfl rfl (Nat.le_of_ble_eq_true rfl) ⟨by decide, by decide⟩ dX4_doCode_173 (fun σ27 hσ27 h => ?_)
      refine br_goto S 230 dX4_doCode_176 (by decide) ?_
      exact br_vret S hr hlk hσ27 dX4_doCode_230 h
    · replace h := h.2.2.2.2.2.2.2.2.2.1 c2
      refine br_tblI S 179 8 ha1 c2 (by decide) rfl dX4_doCode_1 (by decide) ?_
      refine br_aload_n S 0 dX4_doCode_179 rfl rfl ?_
      refine br_aload_n S 0 dX4_doCode_180 rfl rfl ?_
      refine br_callV (As := []) (rest := [.ref (G.2.2 6)]) S (cwV_X4_pop S.2.2.2.2 wd_3_164 ⟨by decide, by decide⟩) (mX4_pop l G σ h) (by decide) rfl rfl rfl hσ rfl rfl (Nat.le_of_ble_eq_true rfl) ⟨by decide, by decide⟩ dX4_doCode_181 (fun z28 σ29 hz28 hσ29 h => ?_)
      obtain ⟨σ30, e31⟩ : ∃ τ, τ = bup σ29 6 5 z28 := ⟨_, rfl⟩
      replace h := h σ30 e31
      have hσ30 : bRG σ30 := by rw [e31]; exact bup_rg hσ29 hz28
      refine br_put (f := 5) (N := 7) (C := RX4) (T := TX4) S tyX4 tyX4_ok nmX4 inT_X4 wd_2_18 (by decide) rfl (pf_6_5 _ _ _) rfl (by decide) (Nat.le_of_ble_eq_true rfl) rfl rfl rfl rfl dX4_doCode_184 ?_
      refine bA.to rfl rfl e31.symm ?_
      refine br_goto S 230 dX4_doCode_187 (by decide) ?_
      exact br_vret S hr hlk hσ30 dX4_doCode_230 h
    · replace h := h.2.2.2.2.2.2.2.2.2.2.1 c2
      refine br_tblI S 190 9 ha1 c2 (by decide) rfl dX4_doCode_1 (by decide) ?_
      refine br_aload_n S 0 dX4_doCode_190 rfl rfl ?_
      refine br_aload_n S 0 dX4_doCode_191 rfl rfl ?_
      refine br_get (f := 6) (N := 7) (C := RX4) (T := TX4) S inT_X4 wd_2_19 (by decide) rfl rfl (by decide) rfl dX4_doCode_192 ?_
      refine br_callVv (As := [.int (bI (σ 6 6))]) (rest := []) S (cwV_X4_push S.2.2.2.2 wd_3_151 ⟨by decide, by decide⟩) (mX4_push l G σ (σ 6 6) (hσ 6 6) h) (by decide) rfl rfl rfl hσ rfl rfl (Nat.le_of_ble_eq_true rfl) ⟨by decide, by decide⟩ dX4_doCode_195 (fun σ33 hσ33 h => ?_)
      refine br_goto S 230 dX4_doCode_198 (by decide) ?_
      exact br_vret S hr hlk hσ33 dX4_doCode_230 h
    · replace h := h.2.2.2.2.2.2.2.2.2.2.2.1 c2
      refine br_tblI S 201 10 ha1 c2 (by decide) rfl dX4_doCode_1 (by decide) ?_
      refine br_aload_n S 0 dX4_doCode_201 rfl rfl ?_
      refine br_aload_n S 0 dX4_doCode_202 rfl rfl ?_
      refine br_callV (As := []) (rest := [.ref (G.2.2 6)]) S (cwV_X4_fetch S.2.2.2.2 wd_3_118 ⟨by decide, by decide⟩) (mX4_fetch l G σ h) (by decide) rfl rfl rfl hσ rfl rfl (Nat.le_of_ble_eq_true rfl) ⟨by decide, by decide⟩ dX4_doCode_203 (fun z34 σ35 hz34 hσ35 h => ?_)
      refine br_callVv (As := [.int (bI z34)]) (rest := []) S (cwV_X4_switchTo S.2.2.2.2 wd_3_168 ⟨by decide, by decide⟩) (mX4_switchTo l G σ35 z34 hz34 h) (by decide) rfl rfl rfl hσ35 rfl rfl (Nat.le_of_ble_eq_true rfl) ⟨by decide, by decide⟩ dX4_doCode_206 (fun σ37 hσ37 h => ?_)
      refine br_goto S 230 dX4_doCode_209 (by decide) ?_
      exact br_vret S hr hlk hσ37 dX4_doCode_230 h
    · replace h := h.2.2.2.2.2.2.2.2.2.2.2.2.1 c2
      refine br_tblI S 212 11 ha1 c2 (by decide) rfl dX4_doCode_1 (by decide) ?_
      refine br_aload_n S 0 dX4_doCode_212 rfl rfl ?_
      refine br_aload_n S 0 dX4_doCode_213 rfl rfl ?_
      refine br_callV (As := []) (rest := [.ref (G.2.2 6)]) S (cwV_X4_pop S.2.2.2.2 wd_3_164 ⟨by decide, by decide⟩) (mX4_pop l G σ h) (by decide) rfl rfl rfl hσ rfl rfl (Nat.le_of_ble_eq_true rfl) ⟨by decide, by decide⟩ dX4_doCode_214 (fun z38 σ39 hz38 hσ39 h => ?_)
      refine br_callVv (As := [.int (bI z38)]) (rest := []) S (cwV_X4_switchTo S.2.2.2.2 wd_3_168 ⟨by decide, by decide⟩) (mX4_switchTo l G σ39 z38 hz38 h) (by decide) rfl rfl rfl hσ39 rfl rfl (Nat.le_of_ble_eq_true rfl) ⟨by decide, by decide⟩ dX4_doCode_217 (fun σ41 hσ41 h => ?_)
      refine br_goto S 230 dX4_doCode_220 (by decide) ?_
      exact br_vret S hr hlk hσ41 dX4_doCode_230 h
    · replace h := h.2.2.2.2.2.2.2.2.2.2.2.2.2 c2
      refine br_tblI S 223 12 ha1 c2 (by decide) rfl dX4_doCode_1 (by decide) ?_
      refine br_aload_n S 0 dX4_doCode_223 rfl rfl ?_
      refine br_callVv (As := []) (rest := []) S (cwV_X4_clearCells S.2.2.2.2 wd_3_172 ⟨by decide, by decide⟩) (mX4_clearCells l G σ h) (by decide) rfl rfl rfl hσ rfl rfl (Nat.le_of_ble_eq_true rfl) ⟨by decide, by decide⟩ dX4_doCode_224 (fun σ43 hσ43 h => ?_)
      refine br_goto S 230 dX4_doCode_227 (by decide) ?_
      exact br_vret S hr hlk hσ43 dX4_doCode_230 h
theorem mono_X4_doCode {Q Q9 : bS → Prop} {a1 : Int} {σ : bS} (hQ : ∀ σ, Q σ → Q9 σ) : vX4_doCode Q a1 σ → vX4_doCode Q9 a1 σ := mono_vX4_doCode hQ
theorem mX4_doCode (l : Launch) (G : bG) (σ : bS) (a1 : Int) (ha1 : bR a1) {Q : bS → Prop} (h : vX4_doCode Q a1 σ) : bk_Mv l yX4_doCode (Cond.code yX4_doCode cX4_doCode 2 (none) :: bT) { frames := 4, cells := 0, slots := 0, locals := 89 } G σ [.ref (G.2.2 6), .int (bI a1)] Q := by
  refine bk_Mv.of (cc := cX4_doCode) (maxL := 2) (ret := none) (by decide) rfl (Nat.le_of_ble_eq_true rfl) ?_
  intro p e s m args below meth c S hr hlk hσ
  exact wX4_doCode_e S hr hlk ha1 hσ h
def vX4_perform_76 (Q : Int → bS → Prop) (P34 : Int → Int → bS → Prop) (x4 : Int) (x5 : Int) (x6 : Int) (σ : bS) : Prop := (vX4_doCode (fun σ2 => (bR (x5 + 1) ∧ (P34 x4 (x5 + 1) σ2))) x6 σ)
theorem mono_vX4_perform_76 {Q Q9 : Int → bS → Prop} {P34 P349 : Int → Int → bS → Prop} {x4 : Int} {x5 : Int} {x6 : Int} {σ : bS} (hQ : ∀ r σ, Q r σ → Q9 r σ) (hP34 : ∀ x4 x5 σ, P34 x4 x5 σ → P349 x4 x5 σ) : vX4_perform_76 Q P34 x4 x5 x6 σ → vX4_perform_76 Q9 P349 x4 x5 x6 σ := (mono_X4_doCode (fun _ => (bm_r (hP34 _ _ _))))
theorem wX4_perform_76 {p : Program} {l : Launch} {e : Env} {s : State} {m : MethodId} {args : Array Value} {below : List Frame} {meth : Method} {c : Code} {G : bG} {σ0 : bS} {Q : Int → bS → Prop} {P34 : Int → Int → bS → Prop} {x4 : Int} {x5 : Int} {x6 : Int} {σ : bS} (S : CallFix p m c cX4_perform 7 s args bT "BankLinker$Machine") (hr : meth.sig.returnType = some .int) (hlk : meth.locks = false) (hP34 : ∀ (x4 : Int) (x5 : Int) (σ : bS), bR x4 → bR x5 → bRG σ → P34 x4 x5 σ → bA p l e { frames := 5, cells := 0, slots := 0, locals := 110 } s m args below meth c 0 0 (bQi below args s G σ0 Q) G (va_A (bk_w G σ0) s.heap.size) 7 34 [(0, .ref (G.2.2 6)), (4, .int (bI x4)), (5, .int (bI x5))] [] σ) (hx4 : bR x4) (hx5 : bR x5) (hx6 : bR x6) (hσ : bRG σ) (h : vX4_perform_76 Q P34 x4 x5 x6 σ) : bA p l e { frames := 5, cells := 0, slots := 0, locals := 110 } s m args below meth c 0 0 (bQi below args s G σ0 Q) G (va_A (bk_w G σ0) s.heap.size) 7 76 [(0, .ref (G.2.2 6)), (4, .int (bI x4)), (5, .int (bI x5)), (6, .int (bI x6))] [] σ := by
  unfold vX4_perform_76 at h
  refine br_aload_n S 0 dX4_perform_76 rfl rfl ?_
  refine br_iload S 3 dX4_perform_77 rfl ?_
  refine br_callVv (As := [.int (bI x6)]) (rest := []) S (cwV_X4_doCode S.2.2.2.2 wd_3_127 ⟨by decide, by decide⟩) (mX4_doCode l G σ x6 hx6 h) (by decide) rfl rfl rfl hσ rfl rfl (Nat.le_of_ble_eq_true rfl) ⟨by decide, by decide⟩ dX4_perform_79 (fun σ2 hσ2 h => ?_)
  refine br_iinc S 2 [(5, .int (bI (x5 + 1))), (0, .ref (G.2.2 6)), (4, .int (bI x4)), (6, .int (bI x6))] dX4_perform_82 rfl (by decide) rfl ?_
  refine br_goto S 34 dX4_perform_85 (by decide) ?_
  obtain ⟨g3, h⟩ := h
  exact bA.perm [1, 2, 0] rfl <| hP34 x4 (x5 + 1) σ2 hx4 g3 hσ2 h
def bX4_perform_34 (Q : Int → bS → Prop) (P34 : Int → Int → bS → Prop) (x4 : Int) (x5 : Int) (σ : bS) : Prop := ((x4 ≤ x5 → (Q (-5) σ)) ∧ (¬ x4 ≤ x5 → (bR ((σ 8 1) + 1) ∧ (∀ σ3 : bS, σ3 = bup σ 8 1 ((σ 8 1) + 1) → (vX4_fetch (fun z5 σ6 => ((¬ z5 = 8 → (vX4_perform_76 Q P34 x4 x5 z5 σ6)) ∧ (z5 = 8 → ((¬ (σ6 6 4) = 0 → (vX4_perform_76 Q P34 x4 x5 z5 σ6)) ∧ ((σ6 6 4) = 0 → (Q 1 σ6))))))  σ3)))))
theorem mono_bX4_perform_34 {Q Q9 : Int → bS → Prop} {P34 P349 : Int → Int → bS → Prop} {x4 : Int} {x5 : Int} {σ : bS} (hQ : ∀ r σ, Q r σ → Q9 r σ) (hP34 : ∀ x4 x5 σ, P34 x4 x5 σ → P349 x4 x5 σ) : bX4_perform_34 Q P34 x4 x5 σ → bX4_perform_34 Q9 P349 x4 x5 σ := (bm_and (bm_imp (hQ _ _)) (bm_imp (bm_r (bm_all fun _ => bm_imp (mono_X4_fetch (fun _ _ => (bm_and (bm_imp (mono_vX4_perform_76 hQ hP34)) (bm_imp (bm_and (bm_imp (mono_vX4_perform_76 hQ hP34)) (bm_imp (hQ _ _)))))))))))
theorem wX4_perform_34 {p : Program} {l : Launch} {e : Env} {s : State} {m : MethodId} {args : Array Value} {below : List Frame} {meth : Method} {c : Code} {G : bG} {σ0 : bS} {Q : Int → bS → Prop} {P34 : Int → Int → bS → Prop} {x4 : Int} {x5 : Int} {σ : bS} (S : CallFix p m c cX4_perform 7 s args bT "BankLinker$Machine") (hr : meth.sig.returnType = some .int) (hlk : meth.locks = false) (hP34 : ∀ (x4 : Int) (x5 : Int) (σ : bS), bR x4 → bR x5 → bRG σ → P34 x4 x5 σ → bA p l e { frames := 5, cells := 0, slots := 0, locals := 110 } s m args below meth c 0 0 (bQi below args s G σ0 Q) G (va_A (bk_w G σ0) s.heap.size) 7 34 [(0, .ref (G.2.2 6)), (4, .int (bI x4)), (5, .int (bI x5))] [] σ) (hx4 : bR x4) (hx5 : bR x5) (hσ : bRG σ) (h : bX4_perform_34 Q P34 x4 x5 σ) : bA p l e { frames := 5, cells := 0, slots := 0, locals := 110 } s m args below meth c 0 0 (bQi below args s G σ0 Q) G (va_A (bk_w G σ0) s.heap.size) 7 34 [(0, .ref (G.2.2 6)), (4, .int (bI x4)), (5, .int (bI x5))] [] σ := by
  unfold bX4_perform_34 at h
  refine br_iload S 2 dX4_perform_34 rfl ?_
  refine br_iload S 1 dX4_perform_36 rfl ?_
  refine br_ic_ge S 88 hx5 hx4 dX4_perform_38 (by decide) (fun c1 => ?_) (fun c1 => ?_)
  · replace h := h.1 c1
    refine br_bipush S dX4_perform_88 rfl ?_
    exact br_iret S hr hlk (by decide) hσ dX4_perform_90 h
  · replace h := h.2 c1
    refine br_aload_n S 0 dX4_perform_41 rfl rfl ?_
    refine br_get (f := 0) (N := 7) (C := RX4) (T := TX4) S inT_X4 wd_2_12 (by decide) rfl rfl (by decide) rfl dX4_perform_42 ?_
    refine br_dup S dX4_perform_45 rfl ?_
    refine br_get (f := 1) (N := 6) (C := RX7) (T := TX7) S inT_X7 wd_1_226 (by decide) rfl rfl (by decide) rfl dX4_perform_46 ?_
    refine br_iconst S dX4_perform_49 ?_
    refine br_iadd S dX4_perform_50 ?_
    obtain ⟨g2, h⟩ := h
    obtain ⟨σ3, e4⟩ : ∃ τ, τ = bup σ 8 1 ((σ 8 1) + 1) := ⟨_, rfl⟩
    replace h := h σ3 e4
    have hσ3 : bRG σ3 := by rw [e4]; exact bup_rg hσ g2
    refine br_put (f := 1) (N := 6) (C := RX7) (T := TX7) S tyX7 tyX7_ok nmX7 inT_X7 wd_1_226 (by decide) rfl (pf_8_1 _ _ _) rfl (by decide) (Nat.le_of_ble_eq_true rfl) rfl rfl rfl rfl dX4_perform_51 ?_
    refine bA.to rfl rfl e4.symm ?_
    refine br_aload_n S 0 dX4_perform_54 rfl rfl ?_
    refine br_callV (As := []) (rest := []) S (cwV_X4_fetch S.2.2.2.2 wd_3_118 ⟨by decide, by decide⟩) (mX4_fetch l G σ3 h) (by decide) rfl rfl rfl hσ3 rfl rfl (Nat.le_of_ble_eq_true rfl) ⟨by decide, by decide⟩ dX4_perform_55 (fun z5 σ6 hz5 hσ6 h => ?_)
    refine br_istore S [(6, .int (bI z5)), (0, .ref (G.2.2 6)), (4, .int (bI x4)), (5, .int (bI x5))] dX4_perform_58 (by decide) rfl ?_
    refine br_iload S 0 dX4_perform_60 rfl ?_
    refine br_bipush S dX4_perform_62 rfl ?_
    refine br_ic_ne S 76 hz5 (by decide) dX4_perform_64 (by decide) (fun c7 => ?_) (fun c7 => ?_)
    · replace h := h.1 c7
      exact bA.perm [1, 2, 3, 0] rfl <| wX4_perform_76 S hr hlk hP34 hx4 hx5 hz5 hσ6 h
    · replace h := h.2 c7
      refine br_aload_n S 1 dX4_perform_67 rfl rfl ?_
      refine br_get (f := 4) (N := 7) (C := RX4) (T := TX4) S inT_X4 wd_2_17 (by decide) rfl rfl (by decide) rfl dX4_perform_68 ?_
      refine br_if_ne S 76 (hσ6 6 4) dX4_perform_71 (by decide) (fun c8 => ?_) (fun c8 => ?_)
      · replace h := h.1 c8
        exact bA.perm [1, 2, 3, 0] rfl <| wX4_perform_76 S hr hlk hP34 hx4 hx5 hz5 hσ6 h
      · replace h := h.2 c8
        refine br_iconst S dX4_perform_74 ?_
        exact br_iret S hr hlk (by decide) hσ6 dX4_perform_75 h
def eX4_perform (Q : Int → bS → Prop) (P34 : Int → Int → bS → Prop) (a1 : Int) (a2 : Int) (a3 : Int) (a4 : Int) (σ : bS) : Prop := (vX7_begin_8 (fun σ2 => (vJ7_fill_53178_42 (fun σ4 => (∀ σ5 : bS, σ5 = bup σ4 6 4 0 → (∀ σ7 : bS, σ7 = bup σ5 6 5 a2 → (∀ σ9 : bS, σ9 = bup σ7 6 6 a1 → (P34 a4 0 σ9))))) 0 σ2)) a3 σ)
theorem mono_eX4_perform {Q Q9 : Int → bS → Prop} {P34 P349 : Int → Int → bS → Prop} {a1 : Int} {a2 : Int} {a3 : Int} {a4 : Int} {σ : bS} (hQ : ∀ r σ, Q r σ → Q9 r σ) (hP34 : ∀ x4 x5 σ, P34 x4 x5 σ → P349 x4 x5 σ) : eX4_perform Q P34 a1 a2 a3 a4 σ → eX4_perform Q9 P349 a1 a2 a3 a4 σ := (mono_X7_begin_8 (fun _ => (mono_J7_fill_53178_42 (fun _ => (bm_all fun _ => bm_imp (bm_all fun _ => bm_imp (bm_all fun _ => bm_imp (hP34 _ _ _))))))))
theorem wX4_perform_e {p : Program} {l : Launch} {e : Env} {s : State} {m : MethodId} {args : Array Value} {below : List Frame} {meth : Method} {c : Code} {G : bG} {σ0 : bS} {Q : Int → bS → Prop} {P34 : Int → Int → bS → Prop} {a1 : Int} {a2 : Int} {a3 : Int} {a4 : Int} {σ : bS} (S : CallFix p m c cX4_perform 7 s args bT "BankLinker$Machine") (hr : meth.sig.returnType = some .int) (hlk : meth.locks = false) (hP34 : ∀ (x4 : Int) (x5 : Int) (σ : bS), bR x4 → bR x5 → bRG σ → P34 x4 x5 σ → bA p l e { frames := 5, cells := 0, slots := 0, locals := 110 } s m args below meth c 0 0 (bQi below args s G σ0 Q) G (va_A (bk_w G σ0) s.heap.size) 7 34 [(0, .ref (G.2.2 6)), (4, .int (bI x4)), (5, .int (bI x5))] [] σ) (ha1 : bR a1) (ha2 : bR a2) (ha3 : bR a3) (ha4 : bR a4) (hσ : bRG σ) (h : eX4_perform Q P34 a1 a2 a3 a4 σ) : bA p l e { frames := 5, cells := 0, slots := 0, locals := 110 } s m args below meth c 0 0 (bQi below args s G σ0 Q) G (va_A (bk_w G σ0) s.heap.size) 7 0 [(0, .ref (G.2.2 6)), (1, .int (bI a1)), (2, .int (bI a2)), (3, .int (bI a3)), (4, .int (bI a4))] [] σ := by
  unfold eX4_perform at h
  refine br_aload_n S 0 dX4_perform_0 rfl rfl ?_
  refine br_get (f := 0) (N := 7) (C := RX4) (T := TX4) S inT_X4 wd_2_12 (by decide) rfl rfl (by decide) rfl dX4_perform_1 ?_
  refine br_iload_n S 3 dX4_perform_4 rfl rfl ?_
  refine br_callVv (As := [.int (bI a3)]) (rest := []) S (cwV_X7_begin S.2.2.2.2 wd_3_113 ⟨by decide, by decide⟩) (mX7_begin_8 l G σ a3 ha3 h) (by decide) rfl rfl rfl hσ rfl rfl (Nat.le_of_ble_eq_true rfl) ⟨by decide, by decide⟩ dX4_perform_5 (fun σ2 hσ2 h => ?_)
  refine br_aload_n S 0 dX4_perform_8 rfl rfl ?_
  refine br_get (f := 2) (N := 7) (C := RX4) (T := TX4) S inT_X4 wd_2_15 (by decide) rfl rfl (by decide) rfl dX4_perform_9 ?_
  refine br_iconst S dX4_perform_12 ?_
  refine br_callSv (As := [.ref (G.2.2 42), .int (bI 0)]) (rest := []) S (cwS_J7_fill_53178 S.2.2.2.2 wd_3_117 ⟨by decide, by decide⟩) (mJ7_fill_53178_42 l G σ2 0 (by decide) h) hσ2 rfl rfl (Nat.le_of_ble_eq_true rfl) ⟨by decide, by decide⟩ dX4_perform_13 (fun σ4 hσ4 h => ?_)
  refine br_aload_n S 0 dX4_perform_16 rfl rfl ?_
  refine br_iconst S dX4_perform_17 ?_
  obtain ⟨σ5, e6⟩ : ∃ τ, τ = bup σ4 6 4 0 := ⟨_, rfl⟩
  replace h := h σ5 e6
  have hσ5 : bRG σ5 := by rw [e6]; exact bup_rg hσ4 (by decide)
  refine br_put (f := 4) (N := 7) (C := RX4) (T := TX4) S tyX4 tyX4_ok nmX4 inT_X4 wd_2_17 (by decide) rfl (pf_6_4 _ _ _) rfl (by decide) (Nat.le_of_ble_eq_true rfl) rfl rfl rfl rfl dX4_perform_18 ?_
  refine bA.to rfl rfl e6.symm ?_
  refine br_aload_n S 0 dX4_perform_21 rfl rfl ?_
  refine br_iload_n S 2 dX4_perform_22 rfl rfl ?_
  obtain ⟨σ7, e8⟩ : ∃ τ, τ = bup σ5 6 5 a2 := ⟨_, rfl⟩
  replace h := h σ7 e8
  have hσ7 : bRG σ7 := by rw [e8]; exact bup_rg hσ5 ha2
  refine br_put (f := 5) (N := 7) (C := RX4) (T := TX4) S tyX4 tyX4_ok nmX4 inT_X4 wd_2_18 (by decide) rfl (pf_6_5 _ _ _) rfl (by decide) (Nat.le_of_ble_eq_true rfl) rfl rfl rfl rfl dX4_perform_23 ?_
  refine bA.to rfl rfl e8.symm ?_
  refine br_aload_n S 0 dX4_perform_26 rfl rfl ?_
  refine br_iload_n S 1 dX4_perform_27 rfl rfl ?_
  obtain ⟨σ9, e10⟩ : ∃ τ, τ = bup σ7 6 6 a1 := ⟨_, rfl⟩
  replace h := h σ9 e10
  have hσ9 : bRG σ9 := by rw [e10]; exact bup_rg hσ7 ha1
  refine br_put (f := 6) (N := 7) (C := RX4) (T := TX4) S tyX4 tyX4_ok nmX4 inT_X4 wd_2_19 (by decide) rfl (pf_6_6 _ _ _) rfl (by decide) (Nat.le_of_ble_eq_true rfl) rfl rfl rfl rfl dX4_perform_28 ?_
  refine bA.to rfl rfl e10.symm ?_
  refine br_iconst S dX4_perform_31 ?_
  refine br_istore S [(5, .int (bI 0)), (0, .ref (G.2.2 6)), (1, .int (bI a1)), (2, .int (bI a2)), (3, .int (bI a3)), (4, .int (bI a4))] dX4_perform_32 (by decide) rfl ?_
  exact bA.perm [1, 5, 0] rfl <| hP34 a4 0 σ9 ha4 (by decide) hσ9 h
def LX4_perform_34 (Q : Int → bS → Prop) (x4 : Int) (x5 : Int) (σ : bS) : Prop := ∀ (P34 : Int → Int → bS → Prop), (∀ x4 x5 σ, bX4_perform_34 Q P34 x4 x5 σ → P34 x4 x5 σ) → P34 x4 x5 σ
theorem LX4_perform_34_in {Q : Int → bS → Prop} {x4 : Int} {x5 : Int} {σ : bS} (h : bX4_perform_34 Q (LX4_perform_34 Q) x4 x5 σ) : LX4_perform_34 Q x4 x5 σ := fun P34 H34 => H34 _ _ _ (mono_bX4_perform_34 (fun _ _ h => h) (fun _ _ _ h => h P34 H34) h)
theorem mono_LX4_perform_34 {Q Q9 : Int → bS → Prop} {x4 : Int} {x5 : Int} {σ : bS} (hQ : ∀ r σ, Q r σ → Q9 r σ) (h : LX4_perform_34 Q x4 x5 σ) : LX4_perform_34 Q9 x4 x5 σ := fun P34 H34 => h P34 (fun _ _ _ hb => H34 _ _ _ (mono_bX4_perform_34 hQ (fun _ _ _ h => h) hb))
def vX4_perform (Q : Int → bS → Prop) (a1 : Int) (a2 : Int) (a3 : Int) (a4 : Int) (σ : bS) : Prop := eX4_perform Q (LX4_perform_34 Q) a1 a2 a3 a4 σ
theorem mono_vX4_perform {Q Q9 : Int → bS → Prop} {a1 : Int} {a2 : Int} {a3 : Int} {a4 : Int} {σ : bS} (hQ : ∀ r σ, Q r σ → Q9 r σ) : vX4_perform Q a1 a2 a3 a4 σ → vX4_perform Q9 a1 a2 a3 a4 σ := mono_eX4_perform hQ (fun _ _ _ h => mono_LX4_perform_34 hQ h)
theorem mono_X4_perform {Q Q9 : Int → bS → Prop} {a1 : Int} {a2 : Int} {a3 : Int} {a4 : Int} {σ : bS} (hQ : ∀ r σ, Q r σ → Q9 r σ) : vX4_perform Q a1 a2 a3 a4 σ → vX4_perform Q9 a1 a2 a3 a4 σ := mono_vX4_perform hQ
theorem mX4_perform (l : Launch) (G : bG) (σ : bS) (a1 : Int) (ha1 : bR a1) (a2 : Int) (ha2 : bR a2) (a3 : Int) (ha3 : bR a3) (a4 : Int) (ha4 : bR a4) {Q : Int → bS → Prop} (h : vX4_perform Q a1 a2 a3 a4 σ) : bk_Mi l yX4_perform (Cond.code yX4_perform cX4_perform 7 (some .int) :: bT) { frames := 5, cells := 0, slots := 0, locals := 110 } G σ [.ref (G.2.2 6), .int (bI a1), .int (bI a2), .int (bI a3), .int (bI a4)] Q := by
  refine bk_Mi.of (cc := cX4_perform) (maxL := 7) (ret := some .int) (by decide) rfl (Nat.le_of_ble_eq_true rfl) ?_
  intro p e s m args below meth c S hr hlk hσ
  let K34 : Int → Int → bS → Prop := fun x4 x5 τ => bR x4 → bR x5 → bRG τ → bA p l e { frames := 5, cells := 0, slots := 0, locals := 110 } s m args below meth c 0 0 (bQi below args s G σ Q) G (va_A (bk_w G σ) s.heap.size) 7 34 [(0, .ref (G.2.2 6)), (4, .int (bI x4)), (5, .int (bI x5))] [] τ
  have C34 : ∀ x4 x5 τ, bX4_perform_34 Q K34 x4 x5 τ → K34 x4 x5 τ := fun x4 x5 τ hb hx4 hx5 hτ => wX4_perform_34 S hr hlk (fun x4 x5 σ hx4 hx5 hσ h => h hx4 hx5 hσ) hx4 hx5 hτ hb
  exact wX4_perform_e S hr hlk (fun x4 x5 σ hx4 hx5 hσ h => h K34 C34 hx4 hx5 hσ) ha1 ha2 ha3 ha4 hσ h

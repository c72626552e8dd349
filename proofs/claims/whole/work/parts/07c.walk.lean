def vX3_blame (Q : Int → bS → Prop) (a1 : Int) (a2 : Int) (a3 : Int) (σ : bS) : Prop := (∀ σ1 : bS, σ1 = bup σ 5 4 a1 → (∀ σ3 : bS, σ3 = bup σ1 5 5 a2 → (∀ σ5 : bS, σ5 = bup σ3 5 6 a3 → (Q 1 σ5))))
theorem mono_vX3_blame {Q Q9 : Int → bS → Prop} {a1 : Int} {a2 : Int} {a3 : Int} {σ : bS} (hQ : ∀ r σ, Q r σ → Q9 r σ) : vX3_blame Q a1 a2 a3 σ → vX3_blame Q9 a1 a2 a3 σ := (bm_all fun _ => bm_imp (bm_all fun _ => bm_imp (bm_all fun _ => bm_imp (hQ _ _))))
theorem wX3_blame_e {p : Program} {l : Launch} {e : Env} {s : State} {m : MethodId} {args : Array Value} {below : List Frame} {meth : Method} {c : Code} {G : bG} {σ0 : bS} {Q : Int → bS → Prop} {a1 : Int} {a2 : Int} {a3 : Int} {σ : bS} (S : CallFix p m c cX3_blame 4 s args bT "BankLinker$Linker") (hr : meth.sig.returnType = some .boolean) (hlk : meth.locks = false) (ha1 : bR a1) (ha2 : bR a2) (ha3 : bR a3) (hσ : bRG σ) (h : vX3_blame Q a1 a2 a3 σ) : bA p l e { frames := 0, cells := 0, slots := 0, locals := 0 } s m args below meth c 0 0 (bQi below args s G σ0 Q) G (va_A (bk_w G σ0) s.heap.size) 4 0 [(0, .ref (G.2.2 5)), (1, .int (bI a1)), (2, .int (bI a2)), (3, .int (bI a3))] [] σ := by
  unfold vX3_blame at h
  refine br_aload_n S 0 dX3_blame_0 rfl rfl ?_
  refine br_iload_n S 1 dX3_blame_1 rfl rfl ?_
  obtain ⟨σ1, e2⟩ : ∃ τ, τ = bup σ 5 4 a1 := ⟨_, rfl⟩
  replace h := h σ1 e2
  have hσ1 : bRG σ1 := by rw [e2]; exact bup_rg hσ ha1
  refine br_put (f := 4) (N := 7) (C := RX3) (T := TX3) S tyX3 tyX3_ok nmX3 inT_X3 wd_1_190 (by decide) rfl (pf_5_4 _ _ _) rfl (by decide) (Nat.le_of_ble_eq_true rfl) rfl rfl rfl rfl dX3_blame_2 ?_
  refine bA.to rfl rfl e2.symm ?_
  refine br_aload_n S 0 dX3_blame_5 rfl rfl ?_
  refine br_iload_n S 2 dX3_blame_6 rfl rfl ?_
  obtain ⟨σ3, e4⟩ : ∃ τ, τ = bup σ1 5 5 a2 := ⟨_, rfl⟩
  replace h := h σ3 e4
  have hσ3 : bRG σ3 := by rw [e4]; exact bup_rg hσ1 ha2
  refine br_put (f := 5) (N := 7) (C := RX3) (T := TX3) S tyX3 tyX3_ok nmX3 inT_X3 wd_1_192 (by decide) rfl (pf_5_5 _ _ _) rfl (by decide) (Nat.le_of_ble_eq_true rfl) rfl rfl rfl rfl dX3_blame_7 ?_
  refine bA.to rfl rfl e4.symm ?_
  refine br_aload_n S 0 dX3_blame_10 rfl rfl ?_
  refine br_iload_n S 3 dX3_blame_11 rfl rfl ?_
  obtain ⟨σ5, e6⟩ : ∃ τ, τ = bup σ3 5 6 a3 := ⟨_, rfl⟩
  replace h := h σ5 e6
  have hσ5 : bRG σ5 := by rw [e6]; exact bup_rg hσ3 ha3
  refine br_put (f := 6) (N := 7) (C := RX3) (T := TX3) S tyX3 tyX3_ok nmX3 inT_X3 wd_1_194 (by decide) rfl (pf_5_6 _ _ _) rfl (by decide) (Nat.le_of_ble_eq_true rfl) rfl rfl rfl rfl dX3_blame_12 ?_
  refine bA.to rfl rfl e6.symm ?_
  refine br_iconst S dX3_blame_15 ?_
  exact br_zret S hr hlk (by decide) hσ5 dX3_blame_16 h
theorem mono_X3_blame {Q Q9 : Int → bS → Prop} {a1 : Int} {a2 : Int} {a3 : Int} {σ : bS} (hQ : ∀ r σ, Q r σ → Q9 r σ) : vX3_blame Q a1 a2 a3 σ → vX3_blame Q9 a1 a2 a3 σ := mono_vX3_blame hQ
theorem mX3_blame (l : Launch) (G : bG) (σ : bS) (a1 : Int) (ha1 : bR a1) (a2 : Int) (ha2 : bR a2) (a3 : Int) (ha3 : bR a3) {Q : Int → bS → Prop} (h : vX3_blame Q a1 a2 a3 σ) : bk_Mi l yX3_blame (Cond.code yX3_blame cX3_blame 4 (some .boolean) :: bT) { frames := 0, cells := 0, slots := 0, locals := 0 } G σ [.ref (G.2.2 5), .int (bI a1), .int (bI a2), .int (bI a3)] Q := by
  refine bk_Mi.of (cc := cX3_blame) (maxL := 4) (ret := some .boolean) (by decide) rfl (Nat.le_of_ble_eq_true rfl) ?_
  intro p e s m args below meth c S hr hlk hσ
  exact wX3_blame_e S hr hlk ha1 ha2 ha3 hσ h
def vX3_findBigModule_55 (Q : Int → bS → Prop) (P2 : Int → bS → Prop) (x1 : Int) (σ : bS) : Prop := (bR (x1 + 1) ∧ (P2 (x1 + 1) σ))
theorem mono_vX3_findBigModule_55 {Q Q9 : Int → bS → Prop} {P2 P29 : Int → bS → Prop} {x1 : Int} {σ : bS} (hQ : ∀ r σ, Q r σ → Q9 r σ) (hP2 : ∀ x1 σ, P2 x1 σ → P29 x1 σ) : vX3_findBigModule_55 Q P2 x1 σ → vX3_findBigModule_55 Q9 P29 x1 σ := (bm_r (hP2 _ _))
theorem wX3_findBigModule_55 {p : Program} {l : Launch} {e : Env} {s : State} {m : MethodId} {args : Array Value} {below : List Frame} {meth : Method} {c : Code} {G : bG} {σ0 : bS} {Q : Int → bS → Prop} {P2 : Int → bS → Prop} {x1 : Int} {σ : bS} (S : CallFix p m c cX3_findBigModule 2 s args bT "BankLinker$Linker") (hr : meth.sig.returnType = some .boolean) (hlk : meth.locks = false) (hP2 : ∀ (x1 : Int) (σ : bS), bR x1 → bRG σ → P2 x1 σ → bA p l e { frames := 1, cells := 0, slots := 0, locals := 23 } s m args below meth c 0 0 (bQi below args s G σ0 Q) G (va_A (bk_w G σ0) s.heap.size) 2 2 [(0, .ref (G.2.2 5)), (1, .int (bI x1))] [] σ) (hx1 : bR x1) (hσ : bRG σ) (h : vX3_findBigModule_55 Q P2 x1 σ) : bA p l e { frames := 1, cells := 0, slots := 0, locals := 23 } s m args below meth c 0 0 (bQi below args s G σ0 Q) G (va_A (bk_w G σ0) s.heap.size) 2 55 [(0, .ref (G.2.2 5)), (1, .int (bI x1))] [] σ := by
  unfold vX3_findBigModule_55 at h
  refine br_iinc S 1 [(1, .int (bI (x1 + 1))), (0, .ref (G.2.2 5))] dX3_findBigModule_55 rfl (by decide) rfl ?_
  refine br_goto S 2 dX3_findBigModule_58 (by decide) ?_
  obtain ⟨g1, h⟩ := h
  exact bA.perm [1, 0] rfl <| hP2 (x1 + 1) σ g1 hσ h
def bX3_findBigModule_2 (Q : Int → bS → Prop) (P2 : Int → bS → Prop) (x1 : Int) (σ : bS) : Prop := (((σ 1 0) ≤ x1 → (Q 0 σ)) ∧ (¬ (σ 1 0) ≤ x1 → ((0 ≤ x1 ∧ x1 < 12) ∧ ((¬ (σ 13 x1) = 1 → (vX3_findBigModule_55 Q P2 x1 σ)) ∧ ((σ 13 x1) = 1 → (((σ 28 x1) ≤ (σ 19 1) → (vX3_findBigModule_55 Q P2 x1 σ)) ∧ (¬ (σ 28 x1) ≤ (σ 19 1) → (vX3_blame (fun z5 σ6 => ((z5 = 0 ∨ z5 = 1) ∧ (Q z5 σ6))) 3 x1 (-1) σ))))))))
theorem mono_bX3_findBigModule_2 {Q Q9 : Int → bS → Prop} {P2 P29 : Int → bS → Prop} {x1 : Int} {σ : bS} (hQ : ∀ r σ, Q r σ → Q9 r σ) (hP2 : ∀ x1 σ, P2 x1 σ → P29 x1 σ) : bX3_findBigModule_2 Q P2 x1 σ → bX3_findBigModule_2 Q9 P29 x1 σ := (bm_and (bm_imp (hQ _ _)) (bm_imp (bm_r (bm_and (bm_imp (mono_vX3_findBigModule_55 hQ hP2)) (bm_imp (bm_and (bm_imp (mono_vX3_findBigModule_55 hQ hP2)) (bm_imp (mono_X3_blame (fun _ _ => (bm_r (hQ _ _)))))))))))
theorem wX3_findBigModule_2 {p : Program} {l : Launch} {e : Env} {s : State} {m : MethodId} {args : Array Value} {below : List Frame} {meth : Method} {c : Code} {G : bG} {σ0 : bS} {Q : Int → bS → Prop} {P2 : Int → bS → Prop} {x1 : Int} {σ : bS} (S : CallFix p m c cX3_findBigModule 2 s args bT "BankLinker$Linker") (hr : meth.sig.returnType = some .boolean) (hlk : meth.locks = false) (hP2 : ∀ (x1 : Int) (σ : bS), bR x1 → bRG σ → P2 x1 σ → bA p l e { frames := 1, cells := 0, slots := 0, locals := 23 } s m args below meth c 0 0 (bQi below args s G σ0 Q) G (va_A (bk_w G σ0) s.heap.size) 2 2 [(0, .ref (G.2.2 5)), (1, .int (bI x1))] [] σ) (hx1 : bR x1) (hσ : bRG σ) (h : bX3_findBigModule_2 Q P2 x1 σ) : bA p l e { frames := 1, cells := 0, slots := 0, locals := 23 } s m args below meth c 0 0 (bQi below args s G σ0 Q) G (va_A (bk_w G σ0) s.heap.size) 2 2 [(0, .ref (G.2.2 5)), (1, .int (bI x1))] [] σ := by
  unfold bX3_findBigModule_2 at h
  refine br_iload_n S 1 dX3_findBigModule_2 rfl rfl ?_
  refine br_aload_n S 0 dX3_findBigModule_3 rfl rfl ?_
  refine br_get (f := 0) (N := 7) (C := RX3) (T := TX3) S inT_X3 wd_1_186 (by decide) rfl rfl (by decide) rfl dX3_findBigModule_4 ?_
  refine br_get (f := 0) (N := 9) (C := RX6) (T := TX6) S inT_X6 wd_1_39 (by decide) rfl rfl (by decide) rfl dX3_findBigModule_7 ?_
  refine br_ic_ge S 61 hx1 (hσ 1 0) dX3_findBigModule_10 (by decide) (fun c1 => ?_) (fun c1 => ?_)
  · replace h := h.1 c1
    refine br_iconst S dX3_findBigModule_61 ?_
    exact br_zret S hr hlk (by decide) hσ dX3_findBigModule_62 h
  · replace h := h.2 c1
    refine br_aload_n S 0 dX3_findBigModule_13 rfl rfl ?_
    refine br_get (f := 0) (N := 7) (C := RX3) (T := TX3) S inT_X3 wd_1_186 (by decide) rfl rfl (by decide) rfl dX3_findBigModule_14 ?_
    refine br_get (f := 1) (N := 9) (C := RX6) (T := TX6) S inT_X6 wd_1_42 (by decide) rfl rfl (by decide) rfl dX3_findBigModule_17 ?_
    refine br_iload_n S 1 dX3_findBigModule_20 rfl rfl ?_
    obtain ⟨g2, h⟩ := h
    refine br_iald (n := 12) S ⟨by decide, by decide, fun _ => rfl⟩ g2.1 g2.2 dX3_findBigModule_21 ?_
    refine br_iconst S dX3_findBigModule_22 ?_
    refine br_ic_ne S 55 (hσ 13 x1) (by decide) dX3_findBigModule_23 (by decide) (fun c3 => ?_) (fun c3 => ?_)
    · replace h := h.1 c3
      exact wX3_findBigModule_55 S hr hlk hP2 hx1 hσ h
    · replace h := h.2 c3
      refine br_aload_n S 0 dX3_findBigModule_26 rfl rfl ?_
      refine br_get (f := 2) (N := 7) (C := RX3) (T := TX3) S inT_X3 wd_1_188 (by decide) rfl rfl (by decide) rfl dX3_findBigModule_27 ?_
      refine br_get (f := 6) (N := 14) (C := RX2) (T := TX2) S inT_X2 wd_1_123 (by decide) rfl rfl (by decide) rfl dX3_findBigModule_30 ?_
      refine br_iload_n S 1 dX3_findBigModule_33 rfl rfl ?_
      refine br_iald (n := 12) S ⟨by decide, by decide, fun _ => rfl⟩ g2.1 g2.2 dX3_findBigModule_34 ?_
      refine br_aload_n S 0 dX3_findBigModule_35 rfl rfl ?_
      refine br_get (f := 0) (N := 7) (C := RX3) (T := TX3) S inT_X3 wd_1_186 (by decide) rfl rfl (by decide) rfl dX3_findBigModule_36 ?_
      refine br_get (f := 8) (N := 9) (C := RX6) (T := TX6) S inT_X6 wd_1_64 (by decide) rfl rfl (by decide) rfl dX3_findBigModule_39 ?_
      refine br_iconst S dX3_findBigModule_42 ?_
      refine br_iald (n := 5) S ⟨by decide, by decide, fun _ => rfl⟩ (by decide) (by decide) dX3_findBigModule_43 ?_
      refine br_ic_le S 55 (hσ 28 x1) (hσ 19 1) dX3_findBigModule_44 (by decide) (fun c4 => ?_) (fun c4 => ?_)
      · replace h := h.1 c4
        exact wX3_findBigModule_55 S hr hlk hP2 hx1 hσ h
      · replace h := h.2 c4
        refine br_aload_n S 0 dX3_findBigModule_47 rfl rfl ?_
        refine br_iconst S dX3_findBigModule_48 ?_
        refine br_iload_n S 1 dX3_findBigModule_49 rfl rfl ?_
        refine br_iconst S dX3_findBigModule_50 ?_
        refine br_callV (As := [.int (bI 3), .int (bI x1), .int (bI (-1))]) (rest := []) S (cwV_X3_blame S.2.2.2.2 wd_2_145 ⟨by decide, by decide⟩) (mX3_blame l G σ 3 (by decide) x1 hx1 (-1) (by decide) h) (by decide) rfl rfl rfl hσ rfl rfl (Nat.le_of_ble_eq_true rfl) ⟨by decide, by decide⟩ dX3_findBigModule_51 (fun z5 σ6 hz5 hσ6 h => ?_)
        obtain ⟨g7, h⟩ := h
        exact br_zret S hr hlk g7 hσ6 dX3_findBigModule_54 h
def eX3_findBigModule (Q : Int → bS → Prop) (P2 : Int → bS → Prop) (σ : bS) : Prop := (P2 0 σ)
theorem mono_eX3_findBigModule {Q Q9 : Int → bS → Prop} {P2 P29 : Int → bS → Prop} {σ : bS} (hQ : ∀ r σ, Q r σ → Q9 r σ) (hP2 : ∀ x1 σ, P2 x1 σ → P29 x1 σ) : eX3_findBigModule Q P2 σ → eX3_findBigModule Q9 P29 σ := (hP2 _ _)
theorem wX3_findBigModule_e {p : Program} {l : Launch} {e : Env} {s : State} {m : MethodId} {args : Array Value} {below : List Frame} {meth : Method} {c : Code} {G : bG} {σ0 : bS} {Q : Int → bS → Prop} {P2 : Int → bS → Prop} {σ : bS} (S : CallFix p m c cX3_findBigModule 2 s args bT "BankLinker$Linker") (hr : meth.sig.returnType = some .boolean) (hlk : meth.locks = false) (hP2 : ∀ (x1 : Int) (σ : bS), bR x1 → bRG σ → P2 x1 σ → bA p l e { frames := 1, cells := 0, slots := 0, locals := 23 } s m args below meth c 0 0 (bQi below args s G σ0 Q) G (va_A (bk_w G σ0) s.heap.size) 2 2 [(0, .ref (G.2.2 5)), (1, .int (bI x1))] [] σ) (hσ : bRG σ) (h : eX3_findBigModule Q P2 σ) : bA p l e { frames := 1, cells := 0, slots := 0, locals := 23 } s m args below meth c 0 0 (bQi below args s G σ0 Q) G (va_A (bk_w G σ0) s.heap.size) 2 0 [(0, .ref (G.2.2 5))] [] σ := by
  unfold eX3_findBigModule at h
  refine br_iconst S dX3_findBigModule_0 ?_
  refine br_istore_n S [(1, .int (bI 0)), (0, .ref (G.2.2 5))] dX3_findBigModule_1 rfl (by decide) rfl ?_
  exact bA.perm [1, 0] rfl <| hP2 0 σ (by decide) hσ h
def LX3_findBigModule_2 (Q : Int → bS → Prop) (x1 : Int) (σ : bS) : Prop := ∀ (P2 : Int → bS → Prop), (∀ x1 σ, bX3_findBigModule_2 Q P2 x1 σ → P2 x1 σ) → P2 x1 σ
theorem LX3_findBigModule_2_in {Q : Int → bS → Prop} {x1 : Int} {σ : bS} (h : bX3_findBigModule_2 Q (LX3_findBigModule_2 Q) x1 σ) : LX3_findBigModule_2 Q x1 σ := fun P2 H2 => H2 _ _ (mono_bX3_findBigModule_2 (fun _ _ h => h) (fun _ _ h => h P2 H2) h)
theorem mono_LX3_findBigModule_2 {Q Q9 : Int → bS → Prop} {x1 : Int} {σ : bS} (hQ : ∀ r σ, Q r σ → Q9 r σ) (h : LX3_findBigModule_2 Q x1 σ) : LX3_findBigModule_2 Q9 x1 σ := fun P2 H2 => h P2 (fun _ _ hb => H2 _ _ (mono_bX3_findBigModule_2 hQ (fun _ _ h => h) hb))
def vX3_findBigModule (Q : Int → bS → Prop) (σ : bS) : Prop := eX3_findBigModule Q (LX3_findBigModule_2 Q) σ
theorem mono_vX3_findBigModule {Q Q9 : Int → bS → Prop} {σ : bS} (hQ : ∀ r σ, Q r σ → Q9 r σ) : vX3_findBigModule Q σ → vX3_findBigModule Q9 σ := mono_eX3_findBigModule hQ (fun _ _ h => mono_LX3_findBigModule_2 hQ h)
theorem mono_X3_findBigModule {Q Q9 : Int → bS → Prop} {σ : bS} (hQ : ∀ r σ, Q r σ → Q9 r σ) : vX3_findBigModule Q σ → vX3_findBigModule Q9 σ := mono_vX3_findBigModule hQ
theorem mX3_findBigModule (l : Launch) (G : bG) (σ : bS) {Q : Int → bS → Prop} (h : vX3_findBigModule Q σ) : bk_Mi l yX3_findBigModule (Cond.code yX3_findBigModule cX3_findBigModule 2 (some .boolean) :: bT) { frames := 1, cells := 0, slots := 0, locals := 23 } G σ [.ref (G.2.2 5)] Q := by
  refine bk_Mi.of (cc := cX3_findBigModule) (maxL := 2) (ret := some .boolean) (by decide) rfl (Nat.le_of_ble_eq_true rfl) ?_
  intro p e s m args below meth c S hr hlk hσ
  let K2 : Int → bS → Prop := fun x1 τ => bR x1 → bRG τ → bA p l e { frames := 1, cells := 0, slots := 0, locals := 23 } s m args below meth c 0 0 (bQi below args s G σ Q) G (va_A (bk_w G σ) s.heap.size) 2 2 [(0, .ref (G.2.2 5)), (1, .int (bI x1))] [] τ
  have C2 : ∀ x1 τ, bX3_findBigModule_2 Q K2 x1 τ → K2 x1 τ := fun x1 τ hb hx1 hτ => wX3_findBigModule_2 S hr hlk (fun x1 σ hx1 hσ h => h hx1 hσ) hx1 hτ hb
  exact wX3_findBigModule_e S hr hlk (fun x1 σ hx1 hσ h => h K2 C2 hx1 hσ) hσ h
def bX3_findFewCells_2 (Q : Int → bS → Prop) (P2 : Int → bS → Prop) (x1 : Int) (σ : bS) : Prop := (((σ 1 2) ≤ x1 → (Q 0 σ)) ∧ (¬ (σ 1 2) ≤ x1 → ((0 ≤ x1 ∧ x1 < 30) ∧ (bR ((σ 26 x1) + (σ 15 x1)) ∧ ((((σ 26 x1) + (σ 15 x1)) ≤ (σ 19 4) → (bR (x1 + 1) ∧ (P2 (x1 + 1) σ))) ∧ (¬ ((σ 26 x1) + (σ 15 x1)) ≤ (σ 19 4) → (vX3_blame (fun z6 σ7 => ((z6 = 0 ∨ z6 = 1) ∧ (Q z6 σ7))) 6 x1 (-1) σ)))))))
theorem mono_bX3_findFewCells_2 {Q Q9 : Int → bS → Prop} {P2 P29 : Int → bS → Prop} {x1 : Int} {σ : bS} (hQ : ∀ r σ, Q r σ → Q9 r σ) (hP2 : ∀ x1 σ, P2 x1 σ → P29 x1 σ) : bX3_findFewCells_2 Q P2 x1 σ → bX3_findFewCells_2 Q9 P29 x1 σ := (bm_and (bm_imp (hQ _ _)) (bm_imp (bm_r (bm_r (bm_and (bm_imp (bm_r (hP2 _ _))) (bm_imp (mono_X3_blame (fun _ _ => (bm_r (hQ _ _))))))))))
theorem wX3_findFewCells_2 {p : Program} {l : Launch} {e : Env} {s : State} {m : MethodId} {args : Array Value} {below : List Frame} {meth : Method} {c : Code} {G : bG} {σ0 : bS} {Q : Int → bS → Prop} {P2 : Int → bS → Prop} {x1 : Int} {σ : bS} (S : CallFix p m c cX3_findFewCells 2 s args bT "BankLinker$Linker") (hr : meth.sig.returnType = some .boolean) (hlk : meth.locks = false) (hP2 : ∀ (x1 : Int) (σ : bS), bR x1 → bRG σ → P2 x1 σ → bA p l e { frames := 1, cells := 0, slots := 0, locals := 23 } s m args below meth c 0 0 (bQi below args s G σ0 Q) G (va_A (bk_w G σ0) s.heap.size) 2 2 [(0, .ref (G.2.2 5)), (1, .int (bI x1))] [] σ) (hx1 : bR x1) (hσ : bRG σ) (h : bX3_findFewCells_2 Q P2 x1 σ) : bA p l e { frames := 1, cells := 0, slots := 0, locals := 23 } s m args below meth c 0 0 (bQi below args s G σ0 Q) G (va_A (bk_w G σ0) s.heap.size) 2 2 [(0, .ref (G.2.2 5)), (1, .int (bI x1))] [] σ := by
  unfold bX3_findFewCells_2 at h
  refine br_iload_n S 1 dX3_findFewCells_2 rfl rfl ?_
  refine br_aload_n S 0 dX3_findFewCells_3 rfl rfl ?_
  refine br_get (f := 0) (N := 7) (C := RX3) (T := TX3) S inT_X3 wd_1_186 (by decide) rfl rfl (by decide) rfl dX3_findFewCells_4 ?_
  refine br_get (f := 2) (N := 9) (C := RX6) (T := TX6) S inT_X6 wd_1_47 (by decide) rfl rfl (by decide) rfl dX3_findFewCells_7 ?_
  refine br_ic_ge S 59 hx1 (hσ 1 2) dX3_findFewCells_10 (by decide) (fun c1 => ?_) (fun c1 => ?_)
  · replace h := h.1 c1
    refine br_iconst S dX3_findFewCells_59 ?_
    exact br_zret S hr hlk (by decide) hσ dX3_findFewCells_60 h
  · replace h := h.2 c1
    refine br_aload_n S 0 dX3_findFewCells_13 rfl rfl ?_
    refine br_get (f := 2) (N := 7) (C := RX3) (T := TX3) S inT_X3 wd_1_188 (by decide) rfl rfl (by decide) rfl dX3_findFewCells_14 ?_
    refine br_get (f := 4) (N := 14) (C := RX2) (T := TX2) S inT_X2 wd_1_117 (by decide) rfl rfl (by decide) rfl dX3_findFewCells_17 ?_
    refine br_iload_n S 1 dX3_findFewCells_20 rfl rfl ?_
    obtain ⟨g2, h⟩ := h
    refine br_iald (n := 30) S ⟨by decide, by decide, fun _ => rfl⟩ g2.1 g2.2 dX3_findFewCells_21 ?_
    refine br_aload_n S 0 dX3_findFewCells_22 rfl rfl ?_
    refine br_get (f := 0) (N := 7) (C := RX3) (T := TX3) S inT_X3 wd_1_186 (by decide) rfl rfl (by decide) rfl dX3_findFewCells_23 ?_
    refine br_get (f := 4) (N := 9) (C := RX6) (T := TX6) S inT_X6 wd_1_52 (by decide) rfl rfl (by decide) rfl dX3_findFewCells_26 ?_
    refine br_iload_n S 1 dX3_findFewCells_29 rfl rfl ?_
    refine br_iald (n := 30) S ⟨by decide, by decide, fun _ => rfl⟩ g2.1 g2.2 dX3_findFewCells_30 ?_
    refine br_iadd S dX3_findFewCells_31 ?_
    refine br_aload_n S 0 dX3_findFewCells_32 rfl rfl ?_
    refine br_get (f := 0) (N := 7) (C := RX3) (T := TX3) S inT_X3 wd_1_186 (by decide) rfl rfl (by decide) rfl dX3_findFewCells_33 ?_
    refine br_get (f := 8) (N := 9) (C := RX6) (T := TX6) S inT_X6 wd_1_64 (by decide) rfl rfl (by decide) rfl dX3_findFewCells_36 ?_
    refine br_iconst S dX3_findFewCells_39 ?_
    refine br_iald (n := 5) S ⟨by decide, by decide, fun _ => rfl⟩ (by decide) (by decide) dX3_findFewCells_40 ?_
    obtain ⟨g3, h⟩ := h
    refine br_ic_le S 53 g3 (hσ 19 4) dX3_findFewCells_41 (by decide) (fun c4 => ?_) (fun c4 => ?_)
    · replace h := h.1 c4
      refine br_iinc S 1 [(1, .int (bI (x1 + 1))), (0, .ref (G.2.2 5))] dX3_findFewCells_53 rfl (by decide) rfl ?_
      refine br_goto S 2 dX3_findFewCells_56 (by decide) ?_
      obtain ⟨g5, h⟩ := h
      exact bA.perm [1, 0] rfl <| hP2 (x1 + 1) σ g5 hσ h
    · replace h := h.2 c4
      refine br_aload_n S 0 dX3_findFewCells_44 rfl rfl ?_
      refine br_bipush S dX3_findFewCells_45 rfl ?_
      refine br_iload_n S 1 dX3_findFewCells_47 rfl rfl ?_
      refine br_iconst S dX3_findFewCells_48 ?_
      refine br_callV (As := [.int (bI 6), .int (bI x1), .int (bI (-1))]) (rest := []) S (cwV_X3_blame S.2.2.2.2 wd_2_145 ⟨by decide, by decide⟩) (mX3_blame l G σ 6 (by decide) x1 hx1 (-1) (by decide) h) (by decide) rfl rfl rfl hσ rfl rfl (Nat.le_of_ble_eq_true rfl) ⟨by decide, by decide⟩ dX3_findFewCells_49 (fun z6 σ7 hz6 hσ7 h => ?_)
      obtain ⟨g8, h⟩ := h
      exact br_zret S hr hlk g8 hσ7 dX3_findFewCells_52 h
def eX3_findFewCells (Q : Int → bS → Prop) (P2 : Int → bS → Prop) (σ : bS) : Prop := (P2 0 σ)
theorem mono_eX3_findFewCells {Q Q9 : Int → bS → Prop} {P2 P29 : Int → bS → Prop} {σ : bS} (hQ : ∀ r σ, Q r σ → Q9 r σ) (hP2 : ∀ x1 σ, P2 x1 σ → P29 x1 σ) : eX3_findFewCells Q P2 σ → eX3_findFewCells Q9 P29 σ := (hP2 _ _)
theorem wX3_findFewCells_e {p : Program} {l : Launch} {e : Env} {s : State} {m : MethodId} {args : Array Value} {below : List Frame} {meth : Method} {c : Code} {G : bG} {σ0 : bS} {Q : Int → bS → Prop} {P2 : Int → bS → Prop} {σ : bS} (S : CallFix p m c cX3_findFewCells 2 s args bT "BankLinker$Linker") (hr : meth.sig.returnType = some .boolean) (hlk : meth.locks = false) (hP2 : ∀ (x1 : Int) (σ : bS), bR x1 → bRG σ → P2 x1 σ → bA p l e { frames := 1, cells := 0, slots := 0, locals := 23 } s m args below meth c 0 0 (bQi below args s G σ0 Q) G (va_A (bk_w G σ0) s.heap.size) 2 2 [(0, .ref (G.2.2 5)), (1, .int (bI x1))] [] σ) (hσ : bRG σ) (h : eX3_findFewCells Q P2 σ) : bA p l e { frames := 1, cells := 0, slots := 0, locals := 23 } s m args below meth c 0 0 (bQi below args s G σ0 Q) G (va_A (bk_w G σ0) s.heap.size) 2 0 [(0, .ref (G.2.2 5))] [] σ := by
  unfold eX3_findFewCells at h
  refine br_iconst S dX3_findFewCells_0 ?_
  refine br_istore_n S [(1, .int (bI 0)), (0, .ref (G.2.2 5))] dX3_findFewCells_1 rfl (by decide) rfl ?_
  exact bA.perm [1, 0] rfl <| hP2 0 σ (by decide) hσ h
def LX3_findFewCells_2 (Q : Int → bS → Prop) (x1 : Int) (σ : bS) : Prop := ∀ (P2 : Int → bS → Prop), (∀ x1 σ, bX3_findFewCells_2 Q P2 x1 σ → P2 x1 σ) → P2 x1 σ
theorem LX3_findFewCells_2_in {Q : Int → bS → Prop} {x1 : Int} {σ : bS} (h : bX3_findFewCells_2 Q (LX3_findFewCells_2 Q) x1 σ) : LX3_findFewCells_2 Q x1 σ := fun P2 H2 => H2 _ _ (mono_bX3_findFewCells_2 (fun _ _ h => h) (fun _ _ h => h P2 H2) h)
theorem mono_LX3_findFewCells_2 {Q Q9 : Int → bS → Prop} {x1 : Int} {σ : bS} (hQ : ∀ r σ, Q r σ → Q9 r σ) (h : LX3_findFewCells_2 Q x1 σ) : LX3_findFewCells_2 Q9 x1 σ := fun P2 H2 => h P2 (fun _ _ hb => H2 _ _ (mono_bX3_findFewCells_2 hQ (fun _ _ h => h) hb))
def vX3_findFewCells (Q : Int → bS → Prop) (σ : bS) : Prop := eX3_findFewCells Q (LX3_findFewCells_2 Q) σ
theorem mono_vX3_findFewCells {Q Q9 : Int → bS → Prop} {σ : bS} (hQ : ∀ r σ, Q r σ → Q9 r σ) : vX3_findFewCells Q σ → vX3_findFewCells Q9 σ := mono_eX3_findFewCells hQ (fun _ _ h => mono_LX3_findFewCells_2 hQ h)
theorem mono_X3_findFewCells {Q Q9 : Int → bS → Prop} {σ : bS} (hQ : ∀ r σ, Q r σ → Q9 r σ) : vX3_findFewCells Q σ → vX3_findFewCells Q9 σ := mono_vX3_findFewCells hQ
theorem mX3_findFewCells (l : Launch) (G : bG) (σ : bS) {Q : Int → bS → Prop} (h : vX3_findFewCells Q σ) : bk_Mi l yX3_findFewCells (Cond.code yX3_findFewCells cX3_findFewCells 2 (some .boolean) :: bT) { frames := 1, cells := 0, slots := 0, locals := 23 } G σ [.ref (G.2.2 5)] Q := by
  refine bk_Mi.of (cc := cX3_findFewCells) (maxL := 2) (ret := some .boolean) (by decide) rfl (Nat.le_of_ble_eq_true rfl) ?_
  intro p e s m args below meth c S hr hlk hσ
  let K2 : Int → bS → Prop := fun x1 τ => bR x1 → bRG τ → bA p l e { frames := 1, cells := 0, slots := 0, locals := 23 } s m args below meth c 0 0 (bQi below args s G σ Q) G (va_A (bk_w G σ) s.heap.size) 2 2 [(0, .ref (G.2.2 5)), (1, .int (bI x1))] [] τ
  have C2 : ∀ x1 τ, bX3_findFewCells_2 Q K2 x1 τ → K2 x1 τ := fun x1 τ hb hx1 hτ => wX3_findFewCells_2 S hr hlk (fun x1 σ hx1 hσ h => h hx1 hσ) hx1 hτ hb
  exact wX3_findFewCells_e S hr hlk (fun x1 σ hx1 hσ h => h K2 C2 hx1 hσ) hσ h
def bX3_findLoopOfCalls_2 (Q : Int → bS → Prop) (P2 : Int → bS → Prop) (x1 : Int) (σ : bS) : Prop := (((σ 1 2) ≤ x1 → (Q 0 σ)) ∧ (¬ (σ 1 2) ≤ x1 → (vX0_leadTo (fun z2 σ3 => ((z2 = 0 → (bR (x1 + 1) ∧ (P2 (x1 + 1) σ3))) ∧ (¬ z2 = 0 → (vX3_blame (fun z6 σ7 => ((z6 = 0 ∨ z6 = 1) ∧ (Q z6 σ7))) 2 x1 (-1) σ3)))) x1 x1 σ)))
theorem mono_bX3_findLoopOfCalls_2 {Q Q9 : Int → bS → Prop} {P2 P29 : Int → bS → Prop} {x1 : Int} {σ : bS} (hQ : ∀ r σ, Q r σ → Q9 r σ) (hP2 : ∀ x1 σ, P2 x1 σ → P29 x1 σ) : bX3_findLoopOfCalls_2 Q P2 x1 σ → bX3_findLoopOfCalls_2 Q9 P29 x1 σ := (bm_and (bm_imp (hQ _ _)) (bm_imp (mono_X0_leadTo (fun _ _ => (bm_and (bm_imp (bm_r (hP2 _ _))) (bm_imp (mono_X3_blame (fun _ _ => (bm_r (hQ _ _))))))))))
theorem wX3_findLoopOfCalls_2 {p : Program} {l : Launch} {e : Env} {s : State} {m : MethodId} {args : Array Value} {below : List Frame} {meth : Method} {c : Code} {G : bG} {σ0 : bS} {Q : Int → bS → Prop} {P2 : Int → bS → Prop} {x1 : Int} {σ : bS} (S : CallFix p m c cX3_findLoopOfCalls 2 s args bT "BankLinker$Linker") (hr : meth.sig.returnType = some .boolean) (hlk : meth.locks = false) (hP2 : ∀ (x1 : Int) (σ : bS), bR x1 → bRG σ → P2 x1 σ → bA p l e { frames := 1, cells := 0, slots := 0, locals := 23 } s m args below meth c 0 0 (bQi below args s G σ0 Q) G (va_A (bk_w G σ0) s.heap.size) 2 2 [(0, .ref (G.2.2 5)), (1, .int (bI x1))] [] σ) (hx1 : bR x1) (hσ : bRG σ) (h : bX3_findLoopOfCalls_2 Q P2 x1 σ) : bA p l e { frames := 1, cells := 0, slots := 0, locals := 23 } s m args below meth c 0 0 (bQi below args s G σ0 Q) G (va_A (bk_w G σ0) s.heap.size) 2 2 [(0, .ref (G.2.2 5)), (1, .int (bI x1))] [] σ := by
  unfold bX3_findLoopOfCalls_2 at h
  refine br_iload_n S 1 dX3_findLoopOfCalls_2 rfl rfl ?_
  refine br_aload_n S 0 dX3_findLoopOfCalls_3 rfl rfl ?_
  refine br_get (f := 0) (N := 7) (C := RX3) (T := TX3) S inT_X3 wd_1_186 (by decide) rfl rfl (by decide) rfl dX3_findLoopOfCalls_4 ?_
  refine br_get (f := 2) (N := 9) (C := RX6) (T := TX6) S inT_X6 wd_1_47 (by decide) rfl rfl (by decide) rfl dX3_findLoopOfCalls_7 ?_
  refine br_ic_ge S 39 hx1 (hσ 1 2) dX3_findLoopOfCalls_10 (by decide) (fun c1 => ?_) (fun c1 => ?_)
  · replace h := h.1 c1
    refine br_iconst S dX3_findLoopOfCalls_39 ?_
    exact br_zret S hr hlk (by decide) hσ dX3_findLoopOfCalls_40 h
  · replace h := h.2 c1
    refine br_aload_n S 0 dX3_findLoopOfCalls_13 rfl rfl ?_
    refine br_get (f := 1) (N := 7) (C := RX3) (T := TX3) S inT_X3 wd_1_187 (by decide) rfl rfl (by decide) rfl dX3_findLoopOfCalls_14 ?_
    refine br_iload_n S 1 dX3_findLoopOfCalls_17 rfl rfl ?_
    refine br_iload_n S 1 dX3_findLoopOfCalls_18 rfl rfl ?_
    refine br_callV (As := [.int (bI x1), .int (bI x1)]) (rest := []) S (cwV_X0_leadTo S.2.2.2.2 wd_2_189 ⟨by decide, by decide⟩) (mX0_leadTo l G σ x1 hx1 x1 hx1 h) (by decide) rfl rfl rfl hσ rfl rfl (Nat.le_of_ble_eq_true rfl) ⟨by decide, by decide⟩ dX3_findLoopOfCalls_19 (fun z2 σ3 hz2 hσ3 h => ?_)
    refine br_if_eq S 33 hz2 dX3_findLoopOfCalls_22 (by decide) (fun c4 => ?_) (fun c4 => ?_)
    · replace h := h.1 c4
      refine br_iinc S 1 [(1, .int (bI (x1 + 1))), (0, .ref (G.2.2 5))] dX3_findLoopOfCalls_33 rfl (by decide) rfl ?_
      refine br_goto S 2 dX3_findLoopOfCalls_36 (by decide) ?_
      obtain ⟨g5, h⟩ := h
      exact bA.perm [1, 0] rfl <| hP2 (x1 + 1) σ3 g5 hσ3 h
    · replace h := h.2 c4
      refine br_aload_n S 0 dX3_findLoopOfCalls_25 rfl rfl ?_
      refine br_iconst S dX3_findLoopOfCalls_26 ?_
      refine br_iload_n S 1 dX3_findLoopOfCalls_27 rfl rfl ?_
      refine br_iconst S dX3_findLoopOfCalls_28 ?_
      refine br_callV (As := [.int (bI 2), .int (bI x1), .int (bI (-1))]) (rest := []) S (cwV_X3_blame S.2.2.2.2 wd_2_145 ⟨by decide, by decide⟩) (mX3_blame l G σ3 2 (by decide) x1 hx1 (-1) (by decide) h) (by decide) rfl rfl rfl hσ3 rfl rfl (Nat.le_of_ble_eq_true rfl) ⟨by decide, by decide⟩ dX3_findLoopOfCalls_29 (fun z6 σ7 hz6 hσ7 h => ?_)
      obtain ⟨g8, h⟩ := h
      exact br_zret S hr hlk g8 hσ7 dX3_findLoopOfCalls_32 h
def eX3_findLoopOfCalls (Q : Int → bS → Prop) (P2 : Int → bS → Prop) (σ : bS) : Prop := (P2 0 σ)
theorem mono_eX3_findLoopOfCalls {Q Q9 : Int → bS → Prop} {P2 P29 : Int → bS → Prop} {σ : bS} (hQ : ∀ r σ, Q r σ → Q9 r σ) (hP2 : ∀ x1 σ, P2 x1 σ → P29 x1 σ) : eX3_findLoopOfCalls Q P2 σ → eX3_findLoopOfCalls Q9 P29 σ := (hP2 _ _)
theorem wX3_findLoopOfCalls_e {p : Program} {l : Launch} {e : Env} {s : State} {m : MethodId} {args : Array Value} {below : List Frame} {meth : Method} {c : Code} {G : bG} {σ0 : bS} {Q : Int → bS → Prop} {P2 : Int → bS → Prop} {σ : bS} (S : CallFix p m c cX3_findLoopOfCalls 2 s args bT "BankLinker$Linker") (hr : meth.sig.returnType = some .boolean) (hlk : meth.locks = false) (hP2 : ∀ (x1 : Int) (σ : bS), bR x1 → bRG σ → P2 x1 σ → bA p l e { frames := 1, cells := 0, slots := 0, locals := 23 } s m args below meth c 0 0 (bQi below args s G σ0 Q) G (va_A (bk_w G σ0) s.heap.size) 2 2 [(0, .ref (G.2.2 5)), (1, .int (bI x1))] [] σ) (hσ : bRG σ) (h : eX3_findLoopOfCalls Q P2 σ) : bA p l e { frames := 1, cells := 0, slots := 0, locals := 23 } s m args below meth c 0 0 (bQi below args s G σ0 Q) G (va_A (bk_w G σ0) s.heap.size) 2 0 [(0, .ref (G.2.2 5))] [] σ := by
  unfold eX3_findLoopOfCalls at h
  refine br_iconst S dX3_findLoopOfCalls_0 ?_
  refine br_istore_n S [(1, .int (bI 0)), (0, .ref (G.2.2 5))] dX3_findLoopOfCalls_1 rfl (by decide) rfl ?_
  exact bA.perm [1, 0] rfl <| hP2 0 σ (by decide) hσ h
def LX3_findLoopOfCalls_2 (Q : Int → bS → Prop) (x1 : Int) (σ : bS) : Prop := ∀ (P2 : Int → bS → Prop), (∀ x1 σ, bX3_findLoopOfCalls_2 Q P2 x1 σ → P2 x1 σ) → P2 x1 σ
theorem LX3_findLoopOfCalls_2_in {Q : Int → bS → Prop} {x1 : Int} {σ : bS} (h : bX3_findLoopOfCalls_2 Q (LX3_findLoopOfCalls_2 Q) x1 σ) : LX3_findLoopOfCalls_2 Q x1 σ := fun P2 H2 => H2 _ _ (mono_bX3_findLoopOfCalls_2 (fun _ _ h => h) (fun _ _ h => h P2 H2) h)
theorem mono_LX3_findLoopOfCalls_2 {Q Q9 : Int → bS → Prop} {x1 : Int} {σ : bS} (hQ : ∀ r σ, Q r σ → Q9 r σ) (h : LX3_findLoopOfCalls_2 Q x1 σ) : LX3_findLoopOfCalls_2 Q9 x1 σ := fun P2 H2 => h P2 (fun _ _ hb => H2 _ _ (mono_bX3_findLoopOfCalls_2 hQ (fun _ _ h => h) hb))
def vX3_findLoopOfCalls (Q : Int → bS → Prop) (σ : bS) : Prop := eX3_findLoopOfCalls Q (LX3_findLoopOfCalls_2 Q) σ
theorem mono_vX3_findLoopOfCalls {Q Q9 : Int → bS → Prop} {σ : bS} (hQ : ∀ r σ, Q r σ → Q9 r σ) : vX3_findLoopOfCalls Q σ → vX3_findLoopOfCalls Q9 σ := mono_eX3_findLoopOfCalls hQ (fun _ _ h => mono_LX3_findLoopOfCalls_2 hQ h)
theorem mono_X3_findLoopOfCalls {Q Q9 : Int → bS → Prop} {σ : bS} (hQ : ∀ r σ, Q r σ → Q9 r σ) : vX3_findLoopOfCalls Q σ → vX3_findLoopOfCalls Q9 σ := mono_vX3_findLoopOfCalls hQ
theorem mX3_findLoopOfCalls (l : Launch) (G : bG) (σ : bS) {Q : Int → bS → Prop} (h : vX3_findLoopOfCalls Q σ) : bk_Mi l yX3_findLoopOfCalls (Cond.code yX3_findLoopOfCalls cX3_findLoopOfCalls 2 (some .boolean) :: bT) { frames := 1, cells := 0, slots := 0, locals := 23 } G σ [.ref (G.2.2 5)] Q := by
  refine bk_Mi.of (cc := cX3_findLoopOfCalls) (maxL := 2) (ret := some .boolean) (by decide) rfl (Nat.le_of_ble_eq_true rfl) ?_
  intro p e s m args below meth c S hr hlk hσ
  let K2 : Int → bS → Prop := fun x1 τ => bR x1 → bRG τ → bA p l e { frames := 1, cells := 0, slots := 0, locals := 23 } s m args below meth c 0 0 (bQi below args s G σ Q) G (va_A (bk_w G σ) s.heap.size) 2 2 [(0, .ref (G.2.2 5)), (1, .int (bI x1))] [] τ
  have C2 : ∀ x1 τ, bX3_findLoopOfCalls_2 Q K2 x1 τ → K2 x1 τ := fun x1 τ hb hx1 hτ => wX3_findLoopOfCalls_2 S hr hlk (fun x1 σ hx1 hσ h => h hx1 hσ) hx1 hτ hb
  exact wX3_findLoopOfCalls_e S hr hlk (fun x1 σ hx1 hσ h => h K2 C2 hx1 hσ) hσ h
def bX3_findLowStack_2 (Q : Int → bS → Prop) (P2 : Int → bS → Prop) (x1 : Int) (σ : bS) : Prop := (((σ 1 2) ≤ x1 → (Q 0 σ)) ∧ (¬ (σ 1 2) ≤ x1 → ((0 ≤ x1 ∧ x1 < 30) ∧ (((σ 27 x1) ≤ (σ 19 3) → (bR (x1 + 1) ∧ (P2 (x1 + 1) σ))) ∧ (¬ (σ 27 x1) ≤ (σ 19 3) → (vX3_blame (fun z5 σ6 => ((z5 = 0 ∨ z5 = 1) ∧ (Q z5 σ6))) 7 x1 (-1) σ))))))
theorem mono_bX3_findLowStack_2 {Q Q9 : Int → bS → Prop} {P2 P29 : Int → bS → Prop} {x1 : Int} {σ : bS} (hQ : ∀ r σ, Q r σ → Q9 r σ) (hP2 : ∀ x1 σ, P2 x1 σ → P29 x1 σ) : bX3_findLowStack_2 Q P2 x1 σ → bX3_findLowStack_2 Q9 P29 x1 σ := (bm_and (bm_imp (hQ _ _)) (bm_imp (bm_r (bm_and (bm_imp (bm_r (hP2 _ _))) (bm_imp (mono_X3_blame (fun _ _ => (bm_r (hQ _ _)))))))))
theorem wX3_findLowStack_2 {p : Program} {l : Launch} {e : Env} {s : State} {m : MethodId} {args : Array Value} {below : List Frame} {meth : Method} {c : Code} {G : bG} {σ0 : bS} {Q : Int → bS → Prop} {P2 : Int → bS → Prop} {x1 : Int} {σ : bS} (S : CallFix p m c cX3_findLowStack 2 s args bT "BankLinker$Linker") (hr : meth.sig.returnType = some .boolean) (hlk : meth.locks = false) (hP2 : ∀ (x1 : Int) (σ : bS), bR x1 → bRG σ → P2 x1 σ → bA p l e { frames := 1, cells := 0, slots := 0, locals := 23 } s m args below meth c 0 0 (bQi below args s G σ0 Q) G (va_A (bk_w G σ0) s.heap.size) 2 2 [(0, .ref (G.2.2 5)), (1, .int (bI x1))] [] σ) (hx1 : bR x1) (hσ : bRG σ) (h : bX3_findLowStack_2 Q P2 x1 σ) : bA p l e { frames := 1, cells := 0, slots := 0, locals := 23 } s m args below meth c 0 0 (bQi below args s G σ0 Q) G (va_A (bk_w G σ0) s.heap.size) 2 2 [(0, .ref (G.2.2 5)), (1, .int (bI x1))] [] σ := by
  unfold bX3_findLowStack_2 at h
  refine br_iload_n S 1 dX3_findLowStack_2 rfl rfl ?_
  refine br_aload_n S 0 dX3_findLowStack_3 rfl rfl ?_
  refine br_get (f := 0) (N := 7) (C := RX3) (T := TX3) S inT_X3 wd_1_186 (by decide) rfl rfl (by decide) rfl dX3_findLowStack_4 ?_
  refine br_get (f := 2) (N := 9) (C := RX6) (T := TX6) S inT_X6 wd_1_47 (by decide) rfl rfl (by decide) rfl dX3_findLowStack_7 ?_
  refine br_ic_ge S 49 hx1 (hσ 1 2) dX3_findLowStack_10 (by decide) (fun c1 => ?_) (fun c1 => ?_)
  · replace h := h.1 c1
    refine br_iconst S dX3_findLowStack_49 ?_
    exact br_zret S hr hlk (by decide) hσ dX3_findLowStack_50 h
  · replace h := h.2 c1
    refine br_aload_n S 0 dX3_findLowStack_13 rfl rfl ?_
    refine br_get (f := 2) (N := 7) (C := RX3) (T := TX3) S inT_X3 wd_1_188 (by decide) rfl rfl (by decide) rfl dX3_findLowStack_14 ?_
    refine br_get (f := 5) (N := 14) (C := RX2) (T := TX2) S inT_X2 wd_1_121 (by decide) rfl rfl (by decide) rfl dX3_findLowStack_17 ?_
    refine br_iload_n S 1 dX3_findLowStack_20 rfl rfl ?_
    obtain ⟨g2, h⟩ := h
    refine br_iald (n := 30) S ⟨by decide, by decide, fun _ => rfl⟩ g2.1 g2.2 dX3_findLowStack_21 ?_
    refine br_aload_n S 0 dX3_findLowStack_22 rfl rfl ?_
    refine br_get (f := 0) (N := 7) (C := RX3) (T := TX3) S inT_X3 wd_1_186 (by decide) rfl rfl (by decide) rfl dX3_findLowStack_23 ?_
    refine br_get (f := 8) (N := 9) (C := RX6) (T := TX6) S inT_X6 wd_1_64 (by decide) rfl rfl (by decide) rfl dX3_findLowStack_26 ?_
    refine br_iconst S dX3_findLowStack_29 ?_
    refine br_iald (n := 5) S ⟨by decide, by decide, fun _ => rfl⟩ (by decide) (by decide) dX3_findLowStack_30 ?_
    refine br_ic_le S 43 (hσ 27 x1) (hσ 19 3) dX3_findLowStack_31 (by decide) (fun c3 => ?_) (fun c3 => ?_)
    · replace h := h.1 c3
      refine br_iinc S 1 [(1, .int (bI (x1 + 1))), (0, .ref (G.2.2 5))] dX3_findLowStack_43 rfl (by decide) rfl ?_
      refine br_goto S 2 dX3_findLowStack_46 (by decide) ?_
      obtain ⟨g4, h⟩ := h
      exact bA.perm [1, 0] rfl <| hP2 (x1 + 1) σ g4 hσ h
    · replace h := h.2 c3
      refine br_aload_n S 0 dX3_findLowStack_34 rfl rfl ?_
      refine br_bipush S dX3_findLowStack_35 rfl ?_
      refine br_iload_n S 1 dX3_findLowStack_37 rfl rfl ?_
      refine br_iconst S dX3_findLowStack_38 ?_
      refine br_callV (As := [.int (bI 7), .int (bI x1), .int (bI (-1))]) (rest := []) S (cwV_X3_blame S.2.2.2.2 wd_2_145 ⟨by decide, by decide⟩) (mX3_blame l G σ 7 (by decide) x1 hx1 (-1) (by decide) h) (by decide) rfl rfl rfl hσ rfl rfl (Nat.le_of_ble_eq_true rfl) ⟨by decide, by decide⟩ dX3_findLowStack_39 (fun z5 σ6 hz5 hσ6 h => ?_)
      obtain ⟨g7, h⟩ := h
      exact br_zret S hr hlk g7 hσ6 dX3_findLowStack_42 h
def eX3_findLowStack (Q : Int → bS → Prop) (P2 : Int → bS → Prop) (σ : bS) : Prop := (P2 0 σ)
theorem mono_eX3_findLowStack {Q Q9 : Int → bS → Prop} {P2 P29 : Int → bS → Prop} {σ : bS} (hQ : ∀ r σ, Q r σ → Q9 r σ) (hP2 : ∀ x1 σ, P2 x1 σ → P29 x1 σ) : eX3_findLowStack Q P2 σ → eX3_findLowStack Q9 P29 σ := (hP2 _ _)
theorem wX3_findLowStack_e {p : Program} {l : Launch} {e : Env} {s : State} {m : MethodId} {args : Array Value} {below : List Frame} {meth : Method} {c : Code} {G : bG} {σ0 : bS} {Q : Int → bS → Prop} {P2 : Int → bS → Prop} {σ : bS} (S : CallFix p m c cX3_findLowStack 2 s args bT "BankLinker$Linker") (hr : meth.sig.returnType = some .boolean) (hlk : meth.locks = false) (hP2 : ∀ (x1 : Int) (σ : bS), bR x1 → bRG σ → P2 x1 σ → bA p l e { frames := 1, cells := 0, slots := 0, locals := 23 } s m args below meth c 0 0 (bQi below args s G σ0 Q) G (va_A (bk_w G σ0) s.heap.size) 2 2 [(0, .ref (G.2.2 5)), (1, .int (bI x1))] [] σ) (hσ : bRG σ) (h : eX3_findLowStack Q P2 σ) : bA p l e { frames := 1, cells := 0, slots := 0, locals := 23 } s m args below meth c 0 0 (bQi below args s G σ0 Q) G (va_A (bk_w G σ0) s.heap.size) 2 0 [(0, .ref (G.2.2 5))] [] σ := by
  unfold eX3_findLowStack at h
  refine br_iconst S dX3_findLowStack_0 ?_
  refine br_istore_n S [(1, .int (bI 0)), (0, .ref (G.2.2 5))] dX3_findLowStack_1 rfl (by decide) rfl ?_
  exact bA.perm [1, 0] rfl <| hP2 0 σ (by decide) hσ h
def LX3_findLowStack_2 (Q : Int → bS → Prop) (x1 : Int) (σ : bS) : Prop := ∀ (P2 : Int → bS → Prop), (∀ x1 σ, bX3_findLowStack_2 Q P2 x1 σ → P2 x1 σ) → P2 x1 σ
theorem LX3_findLowStack_2_in {Q : Int → bS → Prop} {x1 : Int} {σ : bS} (h : bX3_findLowStack_2 Q (LX3_findLowStack_2 Q) x1 σ) : LX3_findLowStack_2 Q x1 σ := fun P2 H2 => H2 _ _ (mono_bX3_findLowStack_2 (fun _ _ h => h) (fun _ _ h => h P2 H2) h)
theorem mono_LX3_findLowStack_2 {Q Q9 : Int → bS → Prop} {x1 : Int} {σ : bS} (hQ : ∀ r σ, Q r σ → Q9 r σ) (h : LX3_findLowStack_2 Q x1 σ) : LX3_findLowStack_2 Q9 x1 σ := fun P2 H2 => h P2 (fun _ _ hb => H2 _ _ (mono_bX3_findLowStack_2 hQ (fun _ _ h => h) hb))
def vX3_findLowStack (Q : Int → bS → Prop) (σ : bS) : Prop := eX3_findLowStack Q (LX3_findLowStack_2 Q) σ
theorem mono_vX3_findLowStack {Q Q9 : Int → bS → Prop} {σ : bS} (hQ : ∀ r σ, Q r σ → Q9 r σ) : vX3_findLowStack Q σ → vX3_findLowStack Q9 σ := mono_eX3_findLowStack hQ (fun _ _ h => mono_LX3_findLowStack_2 hQ h)
theorem mono_X3_findLowStack {Q Q9 : Int → bS → Prop} {σ : bS} (hQ : ∀ r σ, Q r σ → Q9 r σ) : vX3_findLowStack Q σ → vX3_findLowStack Q9 σ := mono_vX3_findLowStack hQ
theorem mX3_findLowStack (l : Launch) (G : bG) (σ : bS) {Q : Int → bS → Prop} (h : vX3_findLowStack Q σ) : bk_Mi l yX3_findLowStack (Cond.code yX3_findLowStack cX3_findLowStack 2 (some .boolean) :: bT) { frames := 1, cells := 0, slots := 0, locals := 23 } G σ [.ref (G.2.2 5)] Q := by
  refine bk_Mi.of (cc := cX3_findLowStack) (maxL := 2) (ret := some .boolean) (by decide) rfl (Nat.le_of_ble_eq_true rfl) ?_
  intro p e s m args below meth c S hr hlk hσ
  let K2 : Int → bS → Prop := fun x1 τ => bR x1 → bRG τ → bA p l e { frames := 1, cells := 0, slots := 0, locals := 23 } s m args below meth c 0 0 (bQi below args s G σ Q) G (va_A (bk_w G σ) s.heap.size) 2 2 [(0, .ref (G.2.2 5)), (1, .int (bI x1))] [] τ
  have C2 : ∀ x1 τ, bX3_findLowStack_2 Q K2 x1 τ → K2 x1 τ := fun x1 τ hb hx1 hτ => wX3_findLowStack_2 S hr hlk (fun x1 σ hx1 hσ h => h hx1 hσ) hx1 hτ hb
  exact wX3_findLowStack_e S hr hlk (fun x1 σ hx1 hσ h => h K2 C2 hx1 hσ) hσ h
def vX3_findNoRoom (Q : Int → bS → Prop) (σ : bS) : Prop := (vX2_placeModules (fun z1 σ2 => ((z1 = (-1) → (Q 0 σ2)) ∧ (¬ z1 = (-1) → (vX3_blame (fun z4 σ5 => ((z4 = 0 → (Q 0 σ5)) ∧ (¬ z4 = 0 → (Q 1 σ5)))) 4 z1 (-1) σ2))))  σ)
theorem mono_vX3_findNoRoom {Q Q9 : Int → bS → Prop} {σ : bS} (hQ : ∀ r σ, Q r σ → Q9 r σ) : vX3_findNoRoom Q σ → vX3_findNoRoom Q9 σ := (mono_X2_placeModules (fun _ _ => (bm_and (bm_imp (hQ _ _)) (bm_imp (mono_X3_blame (fun _ _ => (bm_and (bm_imp (hQ _ _)) (bm_imp (hQ _ _)))))))))
theorem wX3_findNoRoom_e {p : Program} {l : Launch} {e : Env} {s : State} {m : MethodId} {args : Array Value} {below : List Frame} {meth : Method} {c : Code} {G : bG} {σ0 : bS} {Q : Int → bS → Prop} {σ : bS} (S : CallFix p m c cX3_findNoRoom 2 s args bT "BankLinker$Linker") (hr : meth.sig.returnType = some .boolean) (hlk : meth.locks = false) (hσ : bRG σ) (h : vX3_findNoRoom Q σ) : bA p l e { frames := 2, cells := 0, slots := 0, locals := 46 } s m args below meth c 0 0 (bQi below args s G σ0 Q) G (va_A (bk_w G σ0) s.heap.size) 2 0 [(0, .ref (G.2.2 5))] [] σ := by
  unfold vX3_findNoRoom at h
  refine br_aload_n S 0 dX3_findNoRoom_0 rfl rfl ?_
  refine br_get (f := 2) (N := 7) (C := RX3) (T := TX3) S inT_X3 wd_1_188 (by decide) rfl rfl (by decide) rfl dX3_findNoRoom_1 ?_
  refine br_aload_n S 0 dX3_findNoRoom_4 rfl rfl ?_
  refine br_get (f := 0) (N := 7) (C := RX3) (T := TX3) S inT_X3 wd_1_186 (by decide) rfl rfl (by decide) rfl dX3_findNoRoom_5 ?_
  refine br_callV (As := [.ref (G.2.2 1)]) (rest := []) S (cwV_X2_placeModules S.2.2.2.2 wd_2_217 ⟨by decide, by decide⟩) (mX2_placeModules l G σ h) (by decide) rfl rfl rfl hσ rfl rfl (Nat.le_of_ble_eq_true rfl) ⟨by decide, by decide⟩ dX3_findNoRoom_8 (fun z1 σ2 hz1 hσ2 h => ?_)
  refine br_istore_n S [(1, .int (bI z1)), (0, .ref (G.2.2 5))] dX3_findNoRoom_11 rfl (by decide) rfl ?_
  refine br_iload_n S 0 dX3_findNoRoom_12 rfl rfl ?_
  refine br_iconst S dX3_findNoRoom_13 ?_
  refine br_ic_eq S 31 hz1 (by decide) dX3_findNoRoom_14 (by decide) (fun c3 => ?_) (fun c3 => ?_)
  · replace h := h.1 c3
    refine br_iconst S dX3_findNoRoom_31 ?_
    exact br_zret S hr hlk (by decide) hσ2 dX3_findNoRoom_32 h
  · replace h := h.2 c3
    refine br_aload_n S 1 dX3_findNoRoom_17 rfl rfl ?_
    refine br_iconst S dX3_findNoRoom_18 ?_
    refine br_iload_n S 0 dX3_findNoRoom_19 rfl rfl ?_
    refine br_iconst S dX3_findNoRoom_20 ?_
    refine br_callV (As := [.int (bI 4), .int (bI z1), .int (bI (-1))]) (rest := []) S (cwV_X3_blame S.2.2.2.2 wd_2_145 ⟨by decide, by decide⟩) (mX3_blame l G σ2 4 (by decide) z1 hz1 (-1) (by decide) h) (by decide) rfl rfl rfl hσ2 rfl rfl (Nat.le_of_ble_eq_true rfl) ⟨by decide, by decide⟩ dX3_findNoRoom_21 (fun z4 σ5 hz4 hσ5 h => ?_)
    refine br_if_eq S 31 hz4 dX3_findNoRoom_24 (by decide) (fun c6 => ?_) (fun c6 => ?_)
    · replace h := h.1 c6
      refine br_iconst S dX3_findNoRoom_31 ?_
      exact br_zret S hr hlk (by decide) hσ5 dX3_findNoRoom_32 h
    · replace h := h.2 c6
      refine br_iconst S dX3_findNoRoom_27 ?_
      refine br_goto S 32 dX3_findNoRoom_28 (by decide) ?_
      exact br_zret S hr hlk (by decide) hσ5 dX3_findNoRoom_32 h
theorem mono_X3_findNoRoom {Q Q9 : Int → bS → Prop} {σ : bS} (hQ : ∀ r σ, Q r σ → Q9 r σ) : vX3_findNoRoom Q σ → vX3_findNoRoom Q9 σ := mono_vX3_findNoRoom hQ
theorem mX3_findNoRoom (l : Launch) (G : bG) (σ : bS) {Q : Int → bS → Prop} (h : vX3_findNoRoom Q σ) : bk_Mi l yX3_findNoRoom (Cond.code yX3_findNoRoom cX3_findNoRoom 2 (some .boolean) :: bT) { frames := 2, cells := 0, slots := 0, locals := 46 } G σ [.ref (G.2.2 5)] Q := by
  refine bk_Mi.of (cc := cX3_findNoRoom) (maxL := 2) (ret := some .boolean) (by decide) rfl (Nat.le_of_ble_eq_true rfl) ?_
  intro p e s m args below meth c S hr hlk hσ
  exact wX3_findNoRoom_e S hr hlk hσ h
def vX3_findSmallCommon (Q : Int → bS → Prop) (σ : bS) : Prop := (((σ 3 10) ≤ (σ 19 2) → (Q 0 σ)) ∧ (¬ (σ 3 10) ≤ (σ 19 2) → (vX3_blame (fun z2 σ3 => ((z2 = 0 → (Q 0 σ3)) ∧ (¬ z2 = 0 → (Q 1 σ3)))) 5 (-1) (-1) σ)))
theorem mono_vX3_findSmallCommon {Q Q9 : Int → bS → Prop} {σ : bS} (hQ : ∀ r σ, Q r σ → Q9 r σ) : vX3_findSmallCommon Q σ → vX3_findSmallCommon Q9 σ := (bm_and (bm_imp (hQ _ _)) (bm_imp (mono_X3_blame (fun _ _ => (bm_and (bm_imp (hQ _ _)) (bm_imp (hQ _ _)))))))
theorem wX3_findSmallCommon_e {p : Program} {l : Launch} {e : Env} {s : State} {m : MethodId} {args : Array Value} {below : List Frame} {meth : Method} {c : Code} {G : bG} {σ0 : bS} {Q : Int → bS → Prop} {σ : bS} (S : CallFix p m c cX3_findSmallCommon 1 s args bT "BankLinker$Linker") (hr : meth.sig.returnType = some .boolean) (hlk : meth.locks = false) (hσ : bRG σ) (h : vX3_findSmallCommon Q σ) : bA p l e { frames := 1, cells := 0, slots := 0, locals := 23 } s m args below meth c 0 0 (bQi below args s G σ0 Q) G (va_A (bk_w G σ0) s.heap.size) 1 0 [(0, .ref (G.2.2 5))] [] σ := by
  unfold vX3_findSmallCommon at h
  refine br_aload_n S 0 dX3_findSmallCommon_0 rfl rfl ?_
  refine br_get (f := 2) (N := 7) (C := RX3) (T := TX3) S inT_X3 wd_1_188 (by decide) rfl rfl (by decide) rfl dX3_findSmallCommon_1 ?_
  refine br_get (f := 10) (N := 14) (C := RX2) (T := TX2) S inT_X2 wd_1_128 (by decide) rfl rfl (by decide) rfl dX3_findSmallCommon_4 ?_
  refine br_aload_n S 0 dX3_findSmallCommon_7 rfl rfl ?_
  refine br_get (f := 0) (N := 7) (C := RX3) (T := TX3) S inT_X3 wd_1_186 (by decide) rfl rfl (by decide) rfl dX3_findSmallCommon_8 ?_
  refine br_get (f := 8) (N := 9) (C := RX6) (T := TX6) S inT_X6 wd_1_64 (by decide) rfl rfl (by decide) rfl dX3_findSmallCommon_11 ?_
  refine br_iconst S dX3_findSmallCommon_14 ?_
  refine br_iald (n := 5) S ⟨by decide, by decide, fun _ => rfl⟩ (by decide) (by decide) dX3_findSmallCommon_15 ?_
  refine br_ic_le S 33 (hσ 3 10) (hσ 19 2) dX3_findSmallCommon_16 (by decide) (fun c1 => ?_) (fun c1 => ?_)
  · replace h := h.1 c1
    refine br_iconst S dX3_findSmallCommon_33 ?_
    exact br_zret S hr hlk (by decide) hσ dX3_findSmallCommon_34 h
  · replace h := h.2 c1
    refine br_aload_n S 0 dX3_findSmallCommon_19 rfl rfl ?_
    refine br_iconst S dX3_findSmallCommon_20 ?_
    refine br_iconst S dX3_findSmallCommon_21 ?_
    refine br_iconst S dX3_findSmallCommon_22 ?_
    refine br_callV (As := [.int (bI 5), .int (bI (-1)), .int (bI (-1))]) (rest := []) S (cwV_X3_blame S.2.2.2.2 wd_2_145 ⟨by decide, by decide⟩) (mX3_blame l G σ 5 (by decide) (-1) (by decide) (-1) (by decide) h) (by decide) rfl rfl rfl hσ rfl rfl (Nat.le_of_ble_eq_true rfl) ⟨by decide, by decide⟩ dX3_findSmallCommon_23 (fun z2 σ3 hz2 hσ3 h => ?_)
    refine br_if_eq S 33 hz2 dX3_findSmallCommon_26 (by decide) (fun c4 => ?_) (fun c4 => ?_)
    · replace h := h.1 c4
      refine br_iconst S dX3_findSmallCommon_33 ?_
      exact br_zret S hr hlk (by decide) hσ3 dX3_findSmallCommon_34 h
    · replace h := h.2 c4
      refine br_iconst S dX3_findSmallCommon_29 ?_
      refine br_goto S 34 dX3_findSmallCommon_30 (by decide) ?_
      exact br_zret S hr hlk (by decide) hσ3 dX3_findSmallCommon_34 h
theorem mono_X3_findSmallCommon {Q Q9 : Int → bS → Prop} {σ : bS} (hQ : ∀ r σ, Q r σ → Q9 r σ) : vX3_findSmallCommon Q σ → vX3_findSmallCommon Q9 σ := mono_vX3_findSmallCommon hQ
theorem mX3_findSmallCommon (l : Launch) (G : bG) (σ : bS) {Q : Int → bS → Prop} (h : vX3_findSmallCommon Q σ) : bk_Mi l yX3_findSmallCommon (Cond.code yX3_findSmallCommon cX3_findSmallCommon 1 (some .boolean) :: bT) { frames := 1, cells := 0, slots := 0, locals := 23 } G σ [.ref (G.2.2 5)] Q := by
  refine bk_Mi.of (cc := cX3_findSmallCommon) (maxL := 1) (ret := some .boolean) (by decide) rfl (Nat.le_of_ble_eq_true rfl) ?_
  intro p e s m args below meth c S hr hlk hσ
  exact wX3_findSmallCommon_e S hr hlk hσ h
def bX3_findStrayJump_2 (Q : Int → bS → Prop) (P2 : Int → bS → Prop) (P15 : Int → Int → bS → Prop) (x1 : Int) (σ : bS) : Prop := (((σ 1 2) ≤ x1 → (Q 0 σ)) ∧ (¬ (σ 1 2) ≤ x1 → (P15 x1 0 σ)))
theorem mono_bX3_findStrayJump_2 {Q Q9 : Int → bS → Prop} {P2 P29 : Int → bS → Prop} {P15 P159 : Int → Int → bS → Prop} {x1 : Int} {σ : bS} (hQ : ∀ r σ, Q r σ → Q9 r σ) (hP2 : ∀ x1 σ, P2 x1 σ → P29 x1 σ) (hP15 : ∀ x1 x2 σ, P15 x1 x2 σ → P159 x1 x2 σ) : bX3_findStrayJump_2 Q P2 P15 x1 σ → bX3_findStrayJump_2 Q9 P29 P159 x1 σ := (bm_and (bm_imp (hQ _ _)) (bm_imp (hP15 _ _ _)))
theorem wX3_findStrayJump_2 {p : Program} {l : Launch} {e : Env} {s : State} {m : MethodId} {args : Array Value} {below : List Frame} {meth : Method} {c : Code} {G : bG} {σ0 : bS} {Q : Int → bS → Prop} {P2 : Int → bS → Prop} {P15 : Int → Int → bS → Prop} {x1 : Int} {σ : bS} (S : CallFix p m c cX3_findStrayJump 3 s args bT "BankLinker$Linker") (hr : meth.sig.returnType = some .boolean) (hlk : meth.locks = false) (hP2 : ∀ (x1 : Int) (σ : bS), bR x1 → bRG σ → P2 x1 σ → bA p l e { frames := 2, cells := 0, slots := 0, locals := 45 } s m args below meth c 0 0 (bQi below args s G σ0 Q) G (va_A (bk_w G σ0) s.heap.size) 3 2 [(0, .ref (G.2.2 5)), (1, .int (bI x1))] [] σ) (hP15 : ∀ (x1 : Int) (x2 : Int) (σ : bS), bR x1 → bR x2 → bRG σ → P15 x1 x2 σ → bA p l e { frames := 2, cells := 0, slots := 0, locals := 45 } s m args below meth c 0 0 (bQi below args s G σ0 Q) G (va_A (bk_w G σ0) s.heap.size) 3 15 [(0, .ref (G.2.2 5)), (1, .int (bI x1)), (2, .int (bI x2))] [] σ) (hx1 : bR x1) (hσ : bRG σ) (h : bX3_findStrayJump_2 Q P2 P15 x1 σ) : bA p l e { frames := 2, cells := 0, slots := 0, locals := 45 } s m args below meth c 0 0 (bQi below args s G σ0 Q) G (va_A (bk_w G σ0) s.heap.size) 3 2 [(0, .ref (G.2.2 5)), (1, .int (bI x1))] [] σ := by
  unfold bX3_findStrayJump_2 at h
  refine br_iload_n S 1 dX3_findStrayJump_2 rfl rfl ?_
  refine br_aload_n S 0 dX3_findStrayJump_3 rfl rfl ?_
  refine br_get (f := 0) (N := 7) (C := RX3) (T := TX3) S inT_X3 wd_1_186 (by decide) rfl rfl (by decide) rfl dX3_findStrayJump_4 ?_
  refine br_get (f := 2) (N := 9) (C := RX6) (T := TX6) S inT_X6 wd_1_47 (by decide) rfl rfl (by decide) rfl dX3_findStrayJump_7 ?_
  refine br_ic_ge S 81 hx1 (hσ 1 2) dX3_findStrayJump_10 (by decide) (fun c1 => ?_) (fun c1 => ?_)
  · replace h := h.1 c1
    refine br_iconst S dX3_findStrayJump_81 ?_
    exact br_zret S hr hlk (by decide) hσ dX3_findStrayJump_82 h
  · replace h := h.2 c1
    refine br_iconst S dX3_findStrayJump_13 ?_
    refine br_istore_n S [(2, .int (bI 0)), (0, .ref (G.2.2 5)), (1, .int (bI x1))] dX3_findStrayJump_14 rfl (by decide) rfl ?_
    exact bA.perm [1, 2, 0] rfl <| hP15 x1 0 σ hx1 (by decide) hσ h
def vX3_findStrayJump_69 (Q : Int → bS → Prop) (P2 : Int → bS → Prop) (P15 : Int → Int → bS → Prop) (x1 : Int) (x2 : Int) (σ : bS) : Prop := (bR (x2 + 1) ∧ (P15 x1 (x2 + 1) σ))
theorem mono_vX3_findStrayJump_69 {Q Q9 : Int → bS → Prop} {P2 P29 : Int → bS → Prop} {P15 P159 : Int → Int → bS → Prop} {x1 : Int} {x2 : Int} {σ : bS} (hQ : ∀ r σ, Q r σ → Q9 r σ) (hP2 : ∀ x1 σ, P2 x1 σ → P29 x1 σ) (hP15 : ∀ x1 x2 σ, P15 x1 x2 σ → P159 x1 x2 σ) : vX3_findStrayJump_69 Q P2 P15 x1 x2 σ → vX3_findStrayJump_69 Q9 P29 P159 x1 x2 σ := (bm_r (hP15 _ _ _))
theorem wX3_findStrayJump_69 {p : Program} {l : Launch} {e : Env} {s : State} {m : MethodId} {args : Array Value} {below : List Frame} {meth : Method} {c : Code} {G : bG} {σ0 : bS} {Q : Int → bS → Prop} {P2 : Int → bS → Prop} {P15 : Int → Int → bS → Prop} {x1 : Int} {x2 : Int} {σ : bS} (S : CallFix p m c cX3_findStrayJump 3 s args bT "BankLinker$Linker") (hr : meth.sig.returnType = some .boolean) (hlk : meth.locks = false) (hP2 : ∀ (x1 : Int) (σ : bS), bR x1 → bRG σ → P2 x1 σ → bA p l e { frames := 2, cells := 0, slots := 0, locals := 45 } s m args below meth c 0 0 (bQi below args s G σ0 Q) G (va_A (bk_w G σ0) s.heap.size) 3 2 [(0, .ref (G.2.2 5)), (1, .int (bI x1))] [] σ) (hP15 : ∀ (x1 : Int) (x2 : Int) (σ : bS), bR x1 → bR x2 → bRG σ → P15 x1 x2 σ → bA p l e { frames := 2, cells := 0, slots := 0, locals := 45 } s m args below meth c 0 0 (bQi below args s G σ0 Q) G (va_A (bk_w G σ0) s.heap.size) 3 15 [(0, .ref (G.2.2 5)), (1, .int (bI x1)), (2, .int (bI x2))] [] σ) (hx1 : bR x1) (hx2 : bR x2) (hσ : bRG σ) (h : vX3_findStrayJump_69 Q P2 P15 x1 x2 σ) : bA p l e { frames := 2, cells := 0, slots := 0, locals := 45 } s m args below meth c 0 0 (bQi below args s G σ0 Q) G (va_A (bk_w G σ0) s.heap.size) 3 69 [(0, .ref (G.2.2 5)), (1, .int (bI x1)), (2, .int (bI x2))] [] σ := by
  unfold vX3_findStrayJump_69 at h
  refine br_iinc S 2 [(2, .int (bI (x2 + 1))), (0, .ref (G.2.2 5)), (1, .int (bI x1))] dX3_findStrayJump_69 rfl (by decide) rfl ?_
  refine br_goto S 15 dX3_findStrayJump_72 (by decide) ?_
  obtain ⟨g1, h⟩ := h
  exact bA.perm [1, 2, 0] rfl <| hP15 x1 (x2 + 1) σ hx1 g1 hσ h
def bX3_findStrayJump_15 (Q : Int → bS → Prop) (P2 : Int → bS → Prop) (P15 : Int → Int → bS → Prop) (x1 : Int) (x2 : Int) (σ : bS) : Prop := ((0 ≤ x1 ∧ x1 < 30) ∧ (((σ 16 x1) ≤ x2 → (bR (x1 + 1) ∧ (P2 (x1 + 1) σ))) ∧ (¬ (σ 16 x1) ≤ x2 → (vX6_isJump (fun z4 σ5 => ((z4 = 0 → (vX3_findStrayJump_69 Q P2 P15 x1 x2 σ5)) ∧ (¬ z4 = 0 → (vX6_valueAt (fun z7 σ8 => ((z7 ≤ (σ8 16 x1) → (vX3_findStrayJump_69 Q P2 P15 x1 x2 σ8)) ∧ (¬ z7 ≤ (σ8 16 x1) → (vX3_blame (fun z10 σ11 => ((z10 = 0 ∨ z10 = 1) ∧ (Q z10 σ11))) 1 x1 x2 σ8)))) x1 x2 σ5)))) x1 x2 σ))))
theorem mono_bX3_findStrayJump_15 {Q Q9 : Int → bS → Prop} {P2 P29 : Int → bS → Prop} {P15 P159 : Int → Int → bS → Prop} {x1 : Int} {x2 : Int} {σ : bS} (hQ : ∀ r σ, Q r σ → Q9 r σ) (hP2 : ∀ x1 σ, P2 x1 σ → P29 x1 σ) (hP15 : ∀ x1 x2 σ, P15 x1 x2 σ → P159 x1 x2 σ) : bX3_findStrayJump_15 Q P2 P15 x1 x2 σ → bX3_findStrayJump_15 Q9 P29 P159 x1 x2 σ := (bm_r (bm_and (bm_imp (bm_r (hP2 _ _))) (bm_imp (mono_X6_isJump (fun _ _ => (bm_and (bm_imp (mono_vX3_findStrayJump_69 hQ hP2 hP15)) (bm_imp (mono_X6_valueAt (fun _ _ => (bm_and (bm_imp (mono_vX3_findStrayJump_69 hQ hP2 hP15)) (bm_imp (mono_X3_blame (fun _ _ => (bm_r (hQ _ _)))))))))))))))
theorem wX3_findStrayJump_15 {p : Program} {l : Launch} {e : Env} {s : State} {m : MethodId} {args : Array Value} {below : List Frame} {meth : Method} {c : Code} {G : bG} {σ0 : bS} {Q : Int → bS → Prop} {P2 : Int → bS → Prop} {P15 : Int → Int → bS → Prop} {x1 : Int} {x2 : Int} {σ : bS} (S : CallFix p m c cX3_findStrayJump 3 s args bT "BankLinker$Linker") (hr : meth.sig.returnType = some .boolean) (hlk : meth.locks = false) (hP2 : ∀ (x1 : Int) (σ : bS), bR x1 → bRG σ → P2 x1 σ → bA p l e { frames := 2, cells := 0, slots := 0, locals := 45 } s m args below meth c 0 0 (bQi below args s G σ0 Q) G (va_A (bk_w G σ0) s.heap.size) 3 2 [(0, .ref (G.2.2 5)), (1, .int (bI x1))] [] σ) (hP15 : ∀ (x1 : Int) (x2 : Int) (σ : bS), bR x1 → bR x2 → bRG σ → P15 x1 x2 σ → bA p l e { frames := 2, cells := 0, slots := 0, locals := 45 } s m args below meth c 0 0 (bQi below args s G σ0 Q) G (va_A (bk_w G σ0) s.heap.size) 3 15 [(0, .ref (G.2.2 5)), (1, .int (bI x1)), (2, .int (bI x2))] [] σ) (hx1 : bR x1) (hx2 : bR x2) (hσ : bRG σ) (h : bX3_findStrayJump_15 Q P2 P15 x1 x2 σ) : bA p l e { frames := 2, cells := 0, slots := 0, locals := 45 } s m args below meth c 0 0 (bQi below args s G σ0 Q) G (va_A (bk_w G σ0) s.heap.size) 3 15 [(0, .ref (G.2.2 5)), (1, .int (bI x1)), (2, .int (bI x2))] [] σ := by
  unfold bX3_findStrayJump_15 at h
  refine br_iload_n S 2 dX3_findStrayJump_15 rfl rfl ?_
  refine br_aload_n S 0 dX3_findStrayJump_16 rfl rfl ?_
  refine br_get (f := 0) (N := 7) (C := RX3) (T := TX3) S inT_X3 wd_1_186 (by decide) rfl rfl (by decide) rfl dX3_findStrayJump_17 ?_
  refine br_get (f := 5) (N := 9) (C := RX6) (T := TX6) S inT_X6 wd_1_56 (by decide) rfl rfl (by decide) rfl dX3_findStrayJump_20 ?_
  refine br_iload_n S 1 dX3_findStrayJump_23 rfl rfl ?_
  obtain ⟨g1, h⟩ := h
  refine br_iald (n := 30) S ⟨by decide, by decide, fun _ => rfl⟩ g1.1 g1.2 dX3_findStrayJump_24 ?_
  refine br_ic_ge S 75 hx2 (hσ 16 x1) dX3_findStrayJump_25 (by decide) (fun c2 => ?_) (fun c2 => ?_)
  · replace h := h.1 c2
    refine br_iinc S 1 [(1, .int (bI (x1 + 1))), (0, .ref (G.2.2 5)), (2, .int (bI x2))] dX3_findStrayJump_75 rfl (by decide) rfl ?_
    refine br_goto S 2 dX3_findStrayJump_78 (by decide) ?_
    obtain ⟨g3, h⟩ := h
    exact bA.perm [1, 0] rfl <| hP2 (x1 + 1) σ g3 hσ h
  · replace h := h.2 c2
    refine br_aload_n S 0 dX3_findStrayJump_28 rfl rfl ?_
    refine br_get (f := 0) (N := 7) (C := RX3) (T := TX3) S inT_X3 wd_1_186 (by decide) rfl rfl (by decide) rfl dX3_findStrayJump_29 ?_
    refine br_iload_n S 1 dX3_findStrayJump_32 rfl rfl ?_
    refine br_iload_n S 2 dX3_findStrayJump_33 rfl rfl ?_
    refine br_callV (As := [.int (bI x1), .int (bI x2)]) (rest := []) S (cwV_X6_isJump S.2.2.2.2 wd_2_179 ⟨by decide, by decide⟩) (mX6_isJump l G σ x1 hx1 x2 hx2 h) (by decide) rfl rfl rfl hσ rfl rfl (Nat.le_of_ble_eq_true rfl) ⟨by decide, by decide⟩ dX3_findStrayJump_34 (fun z4 σ5 hz4 hσ5 h => ?_)
    refine br_if_eq S 69 hz4 dX3_findStrayJump_37 (by decide) (fun c6 => ?_) (fun c6 => ?_)
    · replace h := h.1 c6
      exact wX3_findStrayJump_69 S hr hlk hP2 hP15 hx1 hx2 hσ5 h
    · replace h := h.2 c6
      refine br_aload_n S 0 dX3_findStrayJump_40 rfl rfl ?_
      refine br_get (f := 0) (N := 7) (C := RX3) (T := TX3) S inT_X3 wd_1_186 (by decide) rfl rfl (by decide) rfl dX3_findStrayJump_41 ?_
      refine br_iload_n S 1 dX3_findStrayJump_44 rfl rfl ?_
      refine br_iload_n S 2 dX3_findStrayJump_45 rfl rfl ?_
      refine br_callV (As := [.int (bI x1), .int (bI x2)]) (rest := []) S (cwV_X6_valueAt S.2.2.2.2 wd_2_184 ⟨by decide, by decide⟩) (mX6_valueAt l G σ5 x1 hx1 x2 hx2 h) (by decide) rfl rfl rfl hσ5 rfl rfl (Nat.le_of_ble_eq_true rfl) ⟨by decide, by decide⟩ dX3_findStrayJump_46 (fun z7 σ8 hz7 hσ8 h => ?_)
      refine br_aload_n S 0 dX3_findStrayJump_49 rfl rfl ?_
      refine br_get (f := 0) (N := 7) (C := RX3) (T := TX3) S inT_X3 wd_1_186 (by decide) rfl rfl (by decide) rfl dX3_findStrayJump_50 ?_
      refine br_get (f := 5) (N := 9) (C := RX6) (T := TX6) S inT_X6 wd_1_56 (by decide) rfl rfl (by decide) rfl dX3_findStrayJump_53 ?_
      refine br_iload_n S 1 dX3_findStrayJump_56 rfl rfl ?_
      refine br_iald (n := 30) S ⟨by decide, by decide, fun _ => rfl⟩ g1.1 g1.2 dX3_findStrayJump_57 ?_
      refine br_ic_le S 69 hz7 (hσ8 16 x1) dX3_findStrayJump_58 (by decide) (fun c9 => ?_) (fun c9 => ?_)
      · replace h := h.1 c9
        exact wX3_findStrayJump_69 S hr hlk hP2 hP15 hx1 hx2 hσ8 h
      · replace h := h.2 c9
        refine br_aload_n S 0 dX3_findStrayJump_61 rfl rfl ?_
        refine br_iconst S dX3_findStrayJump_62 ?_
        refine br_iload_n S 1 dX3_findStrayJump_63 rfl rfl ?_
        refine br_iload_n S 2 dX3_findStrayJump_64 rfl rfl ?_
        refine br_callV (As := [.int (bI 1), .int (bI x1), .int (bI x2)]) (rest := []) S (cwV_X3_blame S.2.2.2.2 wd_2_145 ⟨by decide, by decide⟩) (mX3_blame l G σ8 1 (by decide) x1 hx1 x2 hx2 h) (by decide) rfl rfl rfl hσ8 rfl rfl (Nat.le_of_ble_eq_true rfl) ⟨by decide, by decide⟩ dX3_findStrayJump_65 (fun z10 σ11 hz10 hσ11 h => ?_)
        obtain ⟨g12, h⟩ := h
        exact br_zret S hr hlk g12 hσ11 dX3_findStrayJump_68 h
def eX3_findStrayJump (Q : Int → bS → Prop) (P2 : Int → bS → Prop) (P15 : Int → Int → bS → Prop) (σ : bS) : Prop := (P2 0 σ)
theorem mono_eX3_findStrayJump {Q Q9 : Int → bS → Prop} {P2 P29 : Int → bS → Prop} {P15 P159 : Int → Int → bS → Prop} {σ : bS} (hQ : ∀ r σ, Q r σ → Q9 r σ) (hP2 : ∀ x1 σ, P2 x1 σ → P29 x1 σ) (hP15 : ∀ x1 x2 σ, P15 x1 x2 σ → P159 x1 x2 σ) : eX3_findStrayJump Q P2 P15 σ → eX3_findStrayJump Q9 P29 P159 σ := (hP2 _ _)
theorem wX3_findStrayJump_e {p : Program} {l : Launch} {e : Env} {s : State} {m : MethodId} {args : Array Value} {below : List Frame} {meth : Method} {c : Code} {G : bG} {σ0 : bS} {Q : Int → bS → Prop} {P2 : Int → bS → Prop} {P15 : Int → Int → bS → Prop} {σ : bS} (S : CallFix p m c cX3_findStrayJump 3 s args bT "BankLinker$Linker") (hr : meth.sig.returnType = some .boolean) (hlk : meth.locks = false) (hP2 : ∀ (x1 : Int) (σ : bS), bR x1 → bRG σ → P2 x1 σ → bA p l e { frames := 2, cells := 0, slots := 0, locals := 45 } s m args below meth c 0 0 (bQi below args s G σ0 Q) G (va_A (bk_w G σ0) s.heap.size) 3 2 [(0, .ref (G.2.2 5)), (1, .int (bI x1))] [] σ) (hP15 : ∀ (x1 : Int) (x2 : Int) (σ : bS), bR x1 → bR x2 → bRG σ → P15 x1 x2 σ → bA p l e { frames := 2, cells := 0, slots := 0, locals := 45 } s m args below meth c 0 0 (bQi below args s G σ0 Q) G (va_A (bk_w G σ0) s.heap.size) 3 15 [(0, .ref (G.2.2 5)), (1, .int (bI x1)), (2, .int (bI x2))] [] σ) (hσ : bRG σ) (h : eX3_findStrayJump Q P2 P15 σ) : bA p l e { frames := 2, cells := 0, slots := 0, locals := 45 } s m args below meth c 0 0 (bQi below args s G σ0 Q) G (va_A (bk_w G σ0) s.heap.size) 3 0 [(0, .ref (G.2.2 5))] [] σ := by
  unfold eX3_findStrayJump at h
  refine br_iconst S dX3_findStrayJump_0 ?_
  refine br_istore_n S [(1, .int (bI 0)), (0, .ref (G.2.2 5))] dX3_findStrayJump_1 rfl (by decide) rfl ?_
  exact bA.perm [1, 0] rfl <| hP2 0 σ (by decide) hσ h
def LX3_findStrayJump_2 (Q : Int → bS → Prop) (x1 : Int) (σ : bS) : Prop := ∀ (P2 : Int → bS → Prop) (P15 : Int → Int → bS → Prop), (∀ x1 σ, bX3_findStrayJump_2 Q P2 P15 x1 σ → P2 x1 σ) → (∀ x1 x2 σ, bX3_findStrayJump_15 Q P2 P15 x1 x2 σ → P15 x1 x2 σ) → P2 x1 σ
def LX3_findStrayJump_15 (Q : Int → bS → Prop) (x1 : Int) (x2 : Int) (σ : bS) : Prop := ∀ (P2 : Int → bS → Prop) (P15 : Int → Int → bS → Prop), (∀ x1 σ, bX3_findStrayJump_2 Q P2 P15 x1 σ → P2 x1 σ) → (∀ x1 x2 σ, bX3_findStrayJump_15 Q P2 P15 x1 x2 σ → P15 x1 x2 σ) → P15 x1 x2 σ
theorem LX3_findStrayJump_2_in {Q : Int → bS → Prop} {x1 : Int} {σ : bS} (h : bX3_findStrayJump_2 Q (LX3_findStrayJump_2 Q) (LX3_findStrayJump_15 Q) x1 σ) : LX3_findStrayJump_2 Q x1 σ := fun P2 P15 H2 H15 => H2 _ _ (mono_bX3_findStrayJump_2 (fun _ _ h => h) (fun _ _ h => h P2 P15 H2 H15) (fun _ _ _ h => h P2 P15 H2 H15) h)
theorem mono_LX3_findStrayJump_2 {Q Q9 : Int → bS → Prop} {x1 : Int} {σ : bS} (hQ : ∀ r σ, Q r σ → Q9 r σ) (h : LX3_findStrayJump_2 Q x1 σ) : LX3_findStrayJump_2 Q9 x1 σ := fun P2 P15 H2 H15 => h P2 P15 (fun _ _ hb => H2 _ _ (mono_bX3_findStrayJump_2 hQ (fun _ _ h => h) (fun _ _ _ h => h) hb)) (fun _ _ _ hb => H15 _ _ _ (mono_bX3_findStrayJump_15 hQ (fun _ _ h => h) (fun _ _ _ h => h) hb))
theorem LX3_findStrayJump_15_in {Q : Int → bS → Prop} {x1 : Int} {x2 : Int} {σ : bS} (h : bX3_findStrayJump_15 Q (LX3_findStrayJump_2 Q) (LX3_findStrayJump_15 Q) x1 x2 σ) : LX3_findStrayJump_15 Q x1 x2 σ := fun P2 P15 H2 H15 => H15 _ _ _ (mono_bX3_findStrayJump_15 (fun _ _ h => h) (fun _ _ h => h P2 P15 H2 H15) (fun _ _ _ h => h P2 P15 H2 H15) h)
theorem mono_LX3_findStrayJump_15 {Q Q9 : Int → bS → Prop} {x1 : Int} {x2 : Int} {σ : bS} (hQ : ∀ r σ, Q r σ → Q9 r σ) (h : LX3_findStrayJump_15 Q x1 x2 σ) : LX3_findStrayJump_15 Q9 x1 x2 σ := fun P2 P15 H2 H15 => h P2 P15 (fun _ _ hb => H2 _ _ (mono_bX3_findStrayJump_2 hQ (fun _ _ h => h) (fun _ _ _ h => h) hb)) (fun _ _ _ hb => H15 _ _ _ (mono_bX3_findStrayJump_15 hQ (fun _ _ h => h) (fun _ _ _ h => h) hb))
def vX3_findStrayJump (Q : Int → bS → Prop) (σ : bS) : Prop := eX3_findStrayJump Q (LX3_findStrayJump_2 Q) (LX3_findStrayJump_15 Q) σ
theorem mono_vX3_findStrayJump {Q Q9 : Int → bS → Prop} {σ : bS} (hQ : ∀ r σ, Q r σ → Q9 r σ) : vX3_findStrayJump Q σ → vX3_findStrayJump Q9 σ := mono_eX3_findStrayJump hQ (fun _ _ h => mono_LX3_findStrayJump_2 hQ h) (fun _ _ _ h => mono_LX3_findStrayJump_15 hQ h)
theorem mono_X3_findStrayJump {Q Q9 : Int → bS → Prop} {σ : bS} (hQ : ∀ r σ, Q r σ → Q9 r σ) : vX3_findStrayJump Q σ → vX3_findStrayJump Q9 σ := mono_vX3_findStrayJump hQ
theorem mX3_findStrayJump (l : Launch) (G : bG) (σ : bS) {Q : Int → bS → Prop} (h : vX3_findStrayJump Q σ) : bk_Mi l yX3_findStrayJump (Cond.code yX3_findStrayJump cX3_findStrayJump 3 (some .boolean) :: bT) { frames := 2, cells := 0, slots := 0, locals := 45 } G σ [.ref (G.2.2 5)] Q := by
  refine bk_Mi.of (cc := cX3_findStrayJump) (maxL := 3) (ret := some .boolean) (by decide) rfl (Nat.le_of_ble_eq_true rfl) ?_
  intro p e s m args below meth c S hr hlk hσ
  let K2 : Int → bS → Prop := fun x1 τ => bR x1 → bRG τ → bA p l e { frames := 2, cells := 0, slots := 0, locals := 45 } s m args below meth c 0 0 (bQi below args s G σ Q) G (va_A (bk_w G σ) s.heap.size) 3 2 [(0, .ref (G.2.2 5)), (1, .int (bI x1))] [] τ
  let K15 : Int → Int → bS → Prop := fun x1 x2 τ => bR x1 → bR x2 → bRG τ → bA p l e { frames := 2, cells := 0, slots := 0, locals := 45 } s m args below meth c 0 0 (bQi below args s G σ Q) G (va_A (bk_w G σ) s.heap.size) 3 15 [(0, .ref (G.2.2 5)), (1, .int (bI x1)), (2, .int (bI x2))] [] τ
  have C2 : ∀ x1 τ, bX3_findStrayJump_2 Q K2 K15 x1 τ → K2 x1 τ := fun x1 τ hb hx1 hτ => wX3_findStrayJump_2 S hr hlk (fun x1 σ hx1 hσ h => h hx1 hσ) (fun x1 x2 σ hx1 hx2 hσ h => h hx1 hx2 hσ) hx1 hτ hb
  have C15 : ∀ x1 x2 τ, bX3_findStrayJump_15 Q K2 K15 x1 x2 τ → K15 x1 x2 τ := fun x1 x2 τ hb hx1 hx2 hτ => wX3_findStrayJump_15 S hr hlk (fun x1 σ hx1 hσ h => h hx1 hσ) (fun x1 x2 σ hx1 hx2 hσ h => h hx1 hx2 hσ) hx1 hx2 hτ hb
  exact wX3_findStrayJump_e S hr hlk (fun x1 σ hx1 hσ h => h K2 K15 C2 C15 hx1 hσ) (fun x1 x2 σ hx1 hx2 hσ h => h K2 K15 C2 C15 hx1 hx2 hσ) hσ h
def vX3_writeOp_92 (Q : bS → Prop) (x3 : Int) (x5 : Int) (σ : bS) : Prop := (vX5_append (fun σ2 => (Q σ2)) x3 x5 σ)
theorem mono_vX3_writeOp_92 {Q Q9 : bS → Prop} {x3 : Int} {x5 : Int} {σ : bS} (hQ : ∀ σ, Q σ → Q9 σ) : vX3_writeOp_92 Q x3 x5 σ → vX3_writeOp_92 Q9 x3 x5 σ := (mono_X5_append (fun _ => (hQ _)))
theorem wX3_writeOp_92 {p : Program} {l : Launch} {e : Env} {s : State} {m : MethodId} {args : Array Value} {below : List Frame} {meth : Method} {c : Code} {G : bG} {σ0 : bS} {Q : bS → Prop} {x3 : Int} {x5 : Int} {σ : bS} (S : CallFix p m c cX3_writeOp 6 s args bT "BankLinker$Linker") (hr : meth.sig.returnType = none) (hlk : meth.locks = false) (hx3 : bR x3) (hx5 : bR x5) (hσ : bRG σ) (h : vX3_writeOp_92 Q x3 x5 σ) : bA p l e { frames := 2, cells := 0, slots := 0, locals := 46 } s m args below meth c 0 0 (bQv below args s G σ0 Q) G (va_A (bk_w G σ0) s.heap.size) 6 92 [(0, .ref (G.2.2 5)), (3, .int (bI x3)), (5, .int (bI x5))] [] σ := by
  unfold vX3_writeOp_92 at h
  refine br_aload_n S 0 dX3_writeOp_92 rfl rfl ?_
  refine br_get (f := 3) (N := 7) (C := RX3) (T := TX3) S inT_X3 wd_1_189 (by decide) rfl rfl (by decide) rfl dX3_writeOp_93 ?_
  refine br_iload_n S 1 dX3_writeOp_96 rfl rfl ?_
  refine br_iload S 2 dX3_writeOp_97 rfl ?_
  refine br_callVv (As := [.int (bI x3), .int (bI x5)]) (rest := []) S (cwV_X5_append S.2.2.2.2 wd_3_42 ⟨by decide, by decide⟩) (mX5_append l G σ x3 hx3 x5 hx5 h) (by decide) rfl rfl rfl hσ rfl rfl (Nat.le_of_ble_eq_true rfl) ⟨by decide, by decide⟩ dX3_writeOp_99 (fun σ2 hσ2 h => ?_)
  refine br_goto S 208 dX3_writeOp_102 (by decide) ?_
  exact br_vret S hr hlk hσ2 dX3_writeOp_208 h
def vX3_writeOp_105 (Q : bS → Prop) (x1 : Int) (x3 : Int) (x5 : Int) (σ : bS) : Prop := ((0 ≤ x1 ∧ x1 < 30) ∧ (bR ((σ 26 x1) + x5) ∧ (vX5_append (fun σ4 => (Q σ4)) x3 ((σ 26 x1) + x5) σ)))
theorem mono_vX3_writeOp_105 {Q Q9 : bS → Prop} {x1 : Int} {x3 : Int} {x5 : Int} {σ : bS} (hQ : ∀ σ, Q σ → Q9 σ) : vX3_writeOp_105 Q x1 x3 x5 σ → vX3_writeOp_105 Q9 x1 x3 x5 σ := (bm_r (bm_r (mono_X5_append (fun _ => (hQ _)))))
theorem wX3_writeOp_105 {p : Program} {l : Launch} {e : Env} {s : State} {m : MethodId} {args : Array Value} {below : List Frame} {meth : Method} {c : Code} {G : bG} {σ0 : bS} {Q : bS → Prop} {x1 : Int} {x3 : Int} {x5 : Int} {σ : bS} (S : CallFix p m c cX3_writeOp 6 s args bT "BankLinker$Linker") (hr : meth.sig.returnType = none) (hlk : meth.locks = false) (hx1 : bR x1) (hx3 : bR x3) (hx5 : bR x5) (hσ : bRG σ) (h : vX3_writeOp_105 Q x1 x3 x5 σ) : bA p l e { frames := 2, cells := 0, slots := 0, locals := 46 } s m args below meth c 0 0 (bQv below args s G σ0 Q) G (va_A (bk_w G σ0) s.heap.size) 6 105 [(0, .ref (G.2.2 5)), (1, .int (bI x1)), (3, .int (bI x3)), (5, .int (bI x5))] [] σ := by
  unfold vX3_writeOp_105 at h
  refine br_aload_n S 0 dX3_writeOp_105 rfl rfl ?_
  refine br_get (f := 3) (N := 7) (C := RX3) (T := TX3) S inT_X3 wd_1_189 (by decide) rfl rfl (by decide) rfl dX3_writeOp_106 ?_
  refine br_iload_n S 2 dX3_writeOp_109 rfl rfl ?_
  refine br_aload_n S 0 dX3_writeOp_110 rfl rfl ?_
  refine br_get (f := 2) (N := 7) (C := RX3) (T := TX3) S inT_X3 wd_1_188 (by decide) rfl rfl (by decide) rfl dX3_writeOp_111 ?_
  refine br_get (f := 4) (N := 14) (C := RX2) (T := TX2) S inT_X2 wd_1_117 (by decide) rfl rfl (by decide) rfl dX3_writeOp_114 ?_
  refine br_iload_n S 1 dX3_writeOp_117 rfl rfl ?_
  obtain ⟨g1, h⟩ := h
  refine br_iald (n := 30) S ⟨by decide, by decide, fun _ => rfl⟩ g1.1 g1.2 dX3_writeOp_118 ?_
  refine br_iload S 3 dX3_writeOp_119 rfl ?_
  refine br_iadd S dX3_writeOp_121 ?_
  obtain ⟨g2, h⟩ := h
  refine br_callVv (As := [.int (bI x3), .int (bI ((σ 26 x1) + x5))]) (rest := []) S (cwV_X5_append S.2.2.2.2 wd_3_42 ⟨by decide, by decide⟩) (mX5_append l G σ x3 hx3 ((σ 26 x1) + x5) g2 h) (by decide) rfl rfl rfl hσ rfl rfl (Nat.le_of_ble_eq_true rfl) ⟨by decide, by decide⟩ dX3_writeOp_122 (fun σ4 hσ4 h => ?_)
  refine br_goto S 208 dX3_writeOp_125 (by decide) ?_
  exact br_vret S hr hlk hσ4 dX3_writeOp_208 h
def vX3_writeOp_169 (Q : bS → Prop) (s0 : Int) (s1 : Int) (σ : bS) : Prop := (vX5_appendAddress (fun σ2 => (Q σ2)) s1 s0 σ)
theorem mono_vX3_writeOp_169 {Q Q9 : bS → Prop} {s0 : Int} {s1 : Int} {σ : bS} (hQ : ∀ σ, Q σ → Q9 σ) : vX3_writeOp_169 Q s0 s1 σ → vX3_writeOp_169 Q9 s0 s1 σ := (mono_X5_appendAddress (fun _ => (hQ _)))
theorem wX3_writeOp_169 {p : Program} {l : Launch} {e : Env} {s : State} {m : MethodId} {args : Array Value} {below : List Frame} {meth : Method} {c : Code} {G : bG} {σ0 : bS} {Q : bS → Prop} {s0 : Int} {s1 : Int} {σ : bS} (S : CallFix p m c cX3_writeOp 6 s args bT "BankLinker$Linker") (hr : meth.sig.returnType = none) (hlk : meth.locks = false) (hs0 : bR s0) (hs1 : bR s1) (hσ : bRG σ) (h : vX3_writeOp_169 Q s0 s1 σ) : bA p l e { frames := 2, cells := 0, slots := 0, locals := 46 } s m args below meth c 0 0 (bQv below args s G σ0 Q) G (va_A (bk_w G σ0) s.heap.size) 6 169 [] [.int (bI s0), .int (bI s1), .ref (G.2.2 4)] σ := by
  unfold vX3_writeOp_169 at h
  refine br_callVv (As := [.int (bI s1), .int (bI s0)]) (rest := []) S (cwV_X5_appendAddress S.2.2.2.2 wd_3_52 ⟨by decide, by decide⟩) (mX5_appendAddress l G σ s1 hs1 s0 hs0 h) (by decide) rfl rfl rfl hσ rfl rfl (Nat.le_of_ble_eq_true rfl) ⟨by decide, by decide⟩ dX3_writeOp_169 (fun σ2 hσ2 h => ?_)
  refine br_goto S 208 dX3_writeOp_172 (by decide) ?_
  exact br_vret S hr hlk hσ2 dX3_writeOp_208 h
def vX3_writeOp_175 (Q : bS → Prop) (x1 : Int) (x2 : Int) (x3 : Int) (x5 : Int) (σ : bS) : Prop := (vX6_offsetOf (fun z1 σ2 => (bR (x2 + 1) ∧ (vX6_offsetOf (fun z4 σ5 => (bR (z1 - z4) ∧ (vX5_append (fun σ8 => (Q σ8)) x3 (z1 - z4) σ5))) x1 (x2 + 1) σ2))) x1 x5 σ)
theorem mono_vX3_writeOp_175 {Q Q9 : bS → Prop} {x1 : Int} {x2 : Int} {x3 : Int} {x5 : Int} {σ : bS} (hQ : ∀ σ, Q σ → Q9 σ) : vX3_writeOp_175 Q x1 x2 x3 x5 σ → vX3_writeOp_175 Q9 x1 x2 x3 x5 σ := (mono_X6_offsetOf (fun _ _ => (bm_r (mono_X6_offsetOf (fun _ _ => (bm_r (mono_X5_append (fun _ => (hQ _)))))))))
theorem wX3_writeOp_175 {p : Program} {l : Launch} {e : Env} {s : State} {m : MethodId} {args : Array Value} {below : List Frame} {meth : Method} {c : Code} {G : bG} {σ0 : bS} {Q : bS → Prop} {x1 : Int} {x2 : Int} {x3 : Int} {x5 : Int} {σ : bS} (S : CallFix p m c cX3_writeOp 6 s args bT "BankLinker$Linker") (hr : meth.sig.returnType = none) (hlk : meth.locks = false) (hx1 : bR x1) (hx2 : bR x2) (hx3 : bR x3) (hx5 : bR x5) (hσ : bRG σ) (h : vX3_writeOp_175 Q x1 x2 x3 x5 σ) : bA p l e { frames := 2, cells := 0, slots := 0, locals := 46 } s m args below meth c 0 0 (bQv below args s G σ0 Q) G (va_A (bk_w G σ0) s.heap.size) 6 175 [(0, .ref (G.2.2 5)), (1, .int (bI x1)), (2, .int (bI x2)), (3, .int (bI x3)), (5, .int (bI x5))] [] σ := by
  unfold vX3_writeOp_175 at h
  refine br_aload_n S 0 dX3_writeOp_175 rfl rfl ?_
  refine br_get (f := 3) (N := 7) (C := RX3) (T := TX3) S inT_X3 wd_1_189 (by decide) rfl rfl (by decide) rfl dX3_writeOp_176 ?_
  refine br_iload_n S 3 dX3_writeOp_179 rfl rfl ?_
  refine br_aload_n S 0 dX3_writeOp_180 rfl rfl ?_
  refine br_get (f := 0) (N := 7) (C := RX3) (T := TX3) S inT_X3 wd_1_186 (by decide) rfl rfl (by decide) rfl dX3_writeOp_181 ?_
  refine br_iload_n S 1 dX3_writeOp_184 rfl rfl ?_
  refine br_iload S 4 dX3_writeOp_185 rfl ?_
  refine br_callV (As := [.int (bI x1), .int (bI x5)]) (rest := [.int (bI x3), .ref (G.2.2 4)]) S (cwV_X6_offsetOf S.2.2.2.2 wd_3_57 ⟨by decide, by decide⟩) (mX6_offsetOf l G σ x1 hx1 x5 hx5 h) (by decide) rfl rfl rfl hσ rfl rfl (Nat.le_of_ble_eq_true rfl) ⟨by decide, by decide⟩ dX3_writeOp_187 (fun z1 σ2 hz1 hσ2 h => ?_)
  refine br_aload_n S 0 dX3_writeOp_190 rfl rfl ?_
  refine br_get (f := 0) (N := 7) (C := RX3) (T := TX3) S inT_X3 wd_1_186 (by decide) rfl rfl (by decide) rfl dX3_writeOp_191 ?_
  refine br_iload_n S 1 dX3_writeOp_194 rfl rfl ?_
  refine br_iload_n S 2 dX3_writeOp_195 rfl rfl ?_
  refine br_iconst S dX3_writeOp_196 ?_
  refine br_iadd S dX3_writeOp_197 ?_
  obtain ⟨g3, h⟩ := h
  refine br_callV (As := [.int (bI x1), .int (bI (x2 + 1))]) (rest := [.int (bI z1), .int (bI x3), .ref (G.2.2 4)]) S (cwV_X6_offsetOf S.2.2.2.2 wd_3_57 ⟨by decide, by decide⟩) (mX6_offsetOf l G σ2 x1 hx1 (x2 + 1) g3 h) (by decide) rfl rfl rfl hσ2 rfl rfl (Nat.le_of_ble_eq_true rfl) ⟨by decide, by decide⟩ dX3_writeOp_198 (fun z4 σ5 hz4 hσ5 h => ?_)
  refine br_isub S dX3_writeOp_201 ?_
  obtain ⟨g6, h⟩ := h
  refine br_callVv (As := [.int (bI x3), .int (bI (z1 - z4))]) (rest := []) S (cwV_X5_append S.2.2.2.2 wd_3_42 ⟨by decide, by decide⟩) (mX5_append l G σ5 x3 hx3 (z1 - z4) g6 h) (by decide) rfl rfl rfl hσ5 rfl rfl (Nat.le_of_ble_eq_true rfl) ⟨by decide, by decide⟩ dX3_writeOp_202 (fun σ8 hσ8 h => ?_)
  refine br_goto S 208 dX3_writeOp_205 (by decide) ?_
  exact br_vret S hr hlk hσ8 dX3_writeOp_208 h
def vX3_writeOp (Q : bS → Prop) (a1 : Int) (a2 : Int) (σ : bS) : Prop := ((0 ≤ a1 ∧ a1 < 30) ∧ (vX6_codeAt (fun z2 σ3 => (vX6_valueAt (fun z4 σ5 => (vX5_append (fun σ7 => (((z2 < 0 ∨ 7 < z2) → (Q σ7)) ∧ (z2 = 0 → (vX3_writeOp_92 Q (σ 23 a1) z4 σ7)) ∧ (z2 = 1 → (vX3_writeOp_92 Q (σ 23 a1) z4 σ7)) ∧ (z2 = 2 → (Q σ7)) ∧ (z2 = 3 → (vX3_writeOp_105 Q a1 (σ 23 a1) z4 σ7)) ∧ (z2 = 4 → (vX3_writeOp_105 Q a1 (σ 23 a1) z4 σ7)) ∧ (z2 = 5 → (vX2_isFar (fun z10 σ11 => ((z10 = 0 → ((0 ≤ z4 ∧ z4 < 30) ∧ (vX3_writeOp_169 Q (σ11 24 z4) (σ 23 a1) σ11))) ∧ (¬ z10 = 0 → ((0 ≤ z4 ∧ z4 < 30) ∧ (vX3_writeOp_169 Q (σ11 25 z4) (σ 23 a1) σ11))))) a1 z4 σ7)) ∧ (z2 = 6 → (vX3_writeOp_175 Q a1 a2 (σ 23 a1) z4 σ7)) ∧ (z2 = 7 → (vX3_writeOp_175 Q a1 a2 (σ 23 a1) z4 σ7)))) (σ 23 a1) z2 σ5)) a1 a2 σ3)) a1 a2 σ))
theorem mono_vX3_writeOp {Q Q9 : bS → Prop} {a1 : Int} {a2 : Int} {σ : bS} (hQ : ∀ σ, Q σ → Q9 σ) : vX3_writeOp Q a1 a2 σ → vX3_writeOp Q9 a1 a2 σ := (bm_r (mono_X6_codeAt (fun _ _ => (mono_X6_valueAt (fun _ _ => (mono_X5_append (fun _ => (bm_and (bm_imp (hQ _)) (bm_and (bm_imp (mono_vX3_writeOp_92 hQ)) (bm_and (bm_imp (mono_vX3_writeOp_92 hQ)) (bm_and (bm_imp (hQ _)) (bm_and (bm_imp (mono_vX3_writeOp_105 hQ)) (bm_and (bm_imp (mono_vX3_writeOp_105 hQ)) (bm_and (bm_imp (mono_X2_isFar (fun _ _ => (bm_and (bm_imp (bm_r (mono_vX3_writeOp_169 hQ))) (bm_imp (bm_r (mono_vX3_writeOp_169 hQ))))))) (bm_and (bm_imp (mono_vX3_writeOp_175 hQ)) (bm_imp (mono_vX3_writeOp_175 hQ)))))))))))))))))
theorem wX3_writeOp_e {p : Program} {l : Launch} {e : Env} {s : State} {m : MethodId} {args : Array Value} {below : List Frame} {meth : Method} {c : Code} {G : bG} {σ0 : bS} {Q : bS → Prop} {a1 : Int} {a2 : Int} {σ : bS} (S : CallFix p m c cX3_writeOp 6 s args bT "BankLinker$Linker") (hr : meth.sig.returnType = none) (hlk : meth.locks = false) (ha1 : bR a1) (ha2 : bR a2) (hσ : bRG σ) (h : vX3_writeOp Q a1 a2 σ) : bA p l e { frames := 2, cells := 0, slots := 0, locals := 46 } s m args below meth c 0 0 (bQv below args s G σ0 Q) G (va_A (bk_w G σ0) s.heap.size) 6 0 [(0, .ref (G.2.2 5)), (1, .int (bI a1)), (2, .int (bI a2))] [] σ := by
  unfold vX3_writeOp at h
  refine br_aload_n S 0 dX3_writeOp_0 rfl rfl ?_
  refine br_get (f := 2) (N := 7) (C := RX3) (T := TX3) S inT_X3 wd_1_188 (by decide) rfl rfl (by decide) rfl dX3_writeOp_1 ?_
  refine br_get (f := 1) (N := 14) (C := RX2) (T := TX2) S inT_X2 wd_1_109 (by decide) rfl rfl (by decide) rfl dX3_writeOp_4 ?_
  refine br_iload_n S 1 dX3_writeOp_7 rfl rfl ?_
  obtain ⟨g1, h⟩ := h
  refine br_iald (n := 30) S ⟨by decide, by decide, fun _ => rfl⟩ g1.1 g1.2 dX3_writeOp_8 ?_
  refine br_istore_n S [(3, .int (bI (σ 23 a1))), (0, .ref (G.2.2 5)), (1, .int (bI a1)), (2, .int (bI a2))] dX3_writeOp_9 rfl (by decide) rfl ?_
  refine br_aload_n S 1 dX3_writeOp_10 rfl rfl ?_
  refine br_get (f := 0) (N := 7) (C := RX3) (T := TX3) S inT_X3 wd_1_186 (by decide) rfl rfl (by decide) rfl dX3_writeOp_11 ?_
  refine br_iload_n S 2 dX3_writeOp_14 rfl rfl ?_
  refine br_iload_n S 3 dX3_writeOp_15 rfl rfl ?_
  refine br_callV (As := [.int (bI a1), .int (bI a2)]) (rest := []) S (cwV_X6_codeAt S.2.2.2.2 wd_3_50 ⟨by decide, by decide⟩) (mX6_codeAt l G σ a1 ha1 a2 ha2 h) (by decide) rfl rfl rfl hσ rfl rfl (Nat.le_of_ble_eq_true rfl) ⟨by decide, by decide⟩ dX3_writeOp_16 (fun z2 σ3 hz2 hσ3 h => ?_)
  refine br_istore S [(4, .int (bI z2)), (3, .int (bI (σ 23 a1))), (0, .ref (G.2.2 5)), (1, .int (bI a1)), (2, .int (bI a2))] dX3_writeOp_19 (by decide) rfl ?_
  refine br_aload_n S 2 dX3_writeOp_21 rfl rfl ?_
  refine br_get (f := 0) (N := 7) (C := RX3) (T := TX3) S inT_X3 wd_1_186 (by decide) rfl rfl (by decide) rfl dX3_writeOp_22 ?_
  refine br_iload_n S 3 dX3_writeOp_25 rfl rfl ?_
  refine br_iload_n S 4 dX3_writeOp_26 rfl rfl ?_
  refine br_callV (As := [.int (bI a1), .int (bI a2)]) (rest := []) S (cwV_X6_valueAt S.2.2.2.2 wd_2_184 ⟨by decide, by decide⟩) (mX6_valueAt l G σ3 a1 ha1 a2 ha2 h) (by decide) rfl rfl rfl hσ3 rfl rfl (Nat.le_of_ble_eq_true rfl) ⟨by decide, by decide⟩ dX3_writeOp_27 (fun z4 σ5 hz4 hσ5 h => ?_)
  refine br_istore S [(5, .int (bI z4)), (4, .int (bI z2)), (3, .int (bI (σ 23 a1))), (0, .ref (G.2.2 5)), (1, .int (bI a1)), (2, .int (bI a2))] dX3_writeOp_30 (by decide) rfl ?_
  refine br_aload_n S 3 dX3_writeOp_32 rfl rfl ?_
  refine br_get (f := 3) (N := 7) (C := RX3) (T := TX3) S inT_X3 wd_1_189 (by decide) rfl rfl (by decide) rfl dX3_writeOp_33 ?_
  refine br_iload_n S 2 dX3_writeOp_36 rfl rfl ?_
  refine br_iload S 1 dX3_writeOp_37 rfl ?_
  refine br_callVv (As := [.int (bI (σ 23 a1)), .int (bI z2)]) (rest := []) S (cwV_X5_append S.2.2.2.2 wd_3_42 ⟨by decide, by decide⟩) (mX5_append l G σ5 (σ 23 a1) (hσ 23 a1) z2 hz2 h) (by decide) rfl rfl rfl hσ5 rfl rfl (Nat.le_of_ble_eq_true rfl) ⟨by decide, by decide⟩ dX3_writeOp_39 (fun σ7 hσ7 h => ?_)
  refine br_iload S 1 dX3_writeOp_42 rfl ?_
  by_cases c8 : z2 < 0 ∨ 7 < z2
  · replace h := h.1 c8
    refine br_tblO S 208 hz2 c8 dX3_writeOp_44 (by decide) ?_
    exact br_vret S hr hlk hσ7 dX3_writeOp_208 h
  · rcases (show z2 = 0 ∨ z2 = 1 ∨ z2 = 2 ∨ z2 = 3 ∨ z2 = 4 ∨ z2 = 5 ∨ z2 = 6 ∨ z2 = 7 by omega) with c9 | c9 | c9 | c9 | c9 | c9 | c9 | c9
    · replace h := h.2.1 c9
      refine br_tblI S 92 0 hz2 c9 (by decide) rfl dX3_writeOp_44 (by decide) ?_
      exact bA.perm [3, 2, 0] rfl <| wX3_writeOp_92 S hr hlk (hσ 23 a1) hz4 hσ7 h
    · replace h := h.2.2.1 c9
      refine br_tblI S 92 1 hz2 c9 (by decide) rfl dX3_writeOp_44 (by decide) ?_
      exact bA.perm [3, 2, 0] rfl <| wX3_writeOp_92 S hr hlk (hσ 23 a1) hz4 hσ7 h
    · replace h := h.2.2.2.1 c9
      refine br_tblI S 208 2 hz2 c9 (by decide) rfl dX3_writeOp_44 (by decide) ?_
      exact br_vret S hr hlk hσ7 dX3_writeOp_208 h
    · replace h := h.2.2.2.2.1 c9
      refine br_tblI S 105 3 hz2 c9 (by decide) rfl dX3_writeOp_44 (by decide) ?_
      exact bA.perm [3, 4, 2, 0] rfl <| wX3_writeOp_105 S hr hlk ha1 (hσ 23 a1) hz4 hσ7 h
    · replace h := h.2.2.2.2.2.1 c9
      refine br_tblI S 105 4 hz2 c9 (by decide) rfl dX3_writeOp_44 (by decide) ?_
      exact bA.perm [3, 4, 2, 0] rfl <| wX3_writeOp_105 S hr hlk ha1 (hσ 23 a1) hz4 hσ7 h
    · replace h := h.2.2.2.2.2.2.1 c9
      refine br_tblI S 128 5 hz2 c9 (by decide) rfl dX3_writeOp_44 (by decide) ?_
      refine br_aload_n S 3 dX3_writeOp_128 rfl rfl ?_
      refine br_get (f := 3) (N := 7) (C := RX3) (T := TX3) S inT_X3 wd_1_189 (by decide) rfl rfl (by decide) rfl dX3_writeOp_129 ?_
      refine br_iload_n S 2 dX3_writeOp_132 rfl rfl ?_
      refine br_aload_n S 3 dX3_writeOp_133 rfl rfl ?_
      refine br_get (f := 2) (N := 7) (C := RX3) (T := TX3) S inT_X3 wd_1_188 (by decide) rfl rfl (by decide) rfl dX3_writeOp_134 ?_
      refine br_iload_n S 4 dX3_writeOp_137 rfl rfl ?_
      refine br_iload S 0 dX3_writeOp_138 rfl ?_
      refine br_callV (As := [.int (bI a1), .int (bI z4)]) (rest := [.int (bI (σ 23 a1)), .ref (G.2.2 4)]) S (cwV_X2_isFar S.2.2.2.2 wd_3_51 ⟨by decide, by decide⟩) (mX2_isFar l G σ7 a1 ha1 z4 hz4 h) (by decide) rfl rfl rfl hσ7 rfl rfl (Nat.le_of_ble_eq_true rfl) ⟨by decide, by decide⟩ dX3_writeOp_140 (fun z10 σ11 hz10 hσ11 h => ?_)
      refine br_if_eq S 159 hz10 dX3_writeOp_143 (by decide) (fun c12 => ?_) (fun c12 => ?_)
      · replace h := h.1 c12
        refine br_aload_n S 3 dX3_writeOp_159 rfl rfl ?_
        refine br_get (f := 2) (N := 7) (C := RX3) (T := TX3) S inT_X3 wd_1_188 (by decide) rfl rfl (by decide) rfl dX3_writeOp_160 ?_
        refine br_get (f := 2) (N := 14) (C := RX2) (T := TX2) S inT_X2 wd_1_112 (by decide) rfl rfl (by decide) rfl dX3_writeOp_163 ?_
        refine br_iload S 0 dX3_writeOp_166 rfl ?_
        obtain ⟨g13, h⟩ := h
        refine br_iald (n := 30) S ⟨by decide, by decide, fun _ => rfl⟩ g13.1 g13.2 dX3_writeOp_168 ?_
        exact bA.perm [] rfl <| wX3_writeOp_169 S hr hlk (hσ11 24 z4) (hσ 23 a1) hσ11 h
      · replace h := h.2 c12
        refine br_aload_n S 3 dX3_writeOp_146 rfl rfl ?_
        refine br_get (f := 2) (N := 7) (C := RX3) (T := TX3) S inT_X3 wd_1_188 (by decide) rfl rfl (by decide) rfl dX3_writeOp_147 ?_
        refine br_get (f := 3) (N := 14) (C := RX2) (T := TX2) S inT_X2 wd_1_115 (by decide) rfl rfl (by decide) rfl dX3_writeOp_150 ?_
        refine br_iload S 0 dX3_writeOp_153 rfl ?_
        obtain ⟨g14, h⟩ := h
        refine br_iald (n := 30) S ⟨by decide, by decide, fun _ => rfl⟩ g14.1 g14.2 dX3_writeOp_155 ?_
        refine br_goto S 169 dX3_writeOp_156 (by decide) ?_
        exact bA.perm [] rfl <| wX3_writeOp_169 S hr hlk (hσ11 25 z4) (hσ 23 a1) hσ11 h
    · replace h := h.2.2.2.2.2.2.2.1 c9
      refine br_tblI S 175 6 hz2 c9 (by decide) rfl dX3_writeOp_44 (by decide) ?_
      exact bA.perm [3, 4, 5, 2, 0] rfl <| wX3_writeOp_175 S hr hlk ha1 ha2 (hσ 23 a1) hz4 hσ7 h
    · replace h := h.2.2.2.2.2.2.2.2 c9
      refine br_tblI S 175 7 hz2 c9 (by decide) rfl dX3_writeOp_44 (by decide) ?_
      exact bA.perm [3, 4, 5, 2, 0] rfl <| wX3_writeOp_175 S hr hlk ha1 ha2 (hσ 23 a1) hz4 hσ7 h
theorem mono_X3_writeOp {Q Q9 : bS → Prop} {a1 : Int} {a2 : Int} {σ : bS} (hQ : ∀ σ, Q σ → Q9 σ) : vX3_writeOp Q a1 a2 σ → vX3_writeOp Q9 a1 a2 σ := mono_vX3_writeOp hQ
theorem mX3_writeOp (l : Launch) (G : bG) (σ : bS) (a1 : Int) (ha1 : bR a1) (a2 : Int) (ha2 : bR a2) {Q : bS → Prop} (h : vX3_writeOp Q a1 a2 σ) : bk_Mv l yX3_writeOp (Cond.code yX3_writeOp cX3_writeOp 6 (none) :: bT) { frames := 2, cells := 0, slots := 0, locals := 46 } G σ [.ref (G.2.2 5), .int (bI a1), .int (bI a2)] Q := by
  refine bk_Mv.of (cc := cX3_writeOp) (maxL := 6) (ret := none) (by decide) rfl (Nat.le_of_ble_eq_true rfl) ?_
  intro p e s m args below meth c S hr hlk hσ
  exact wX3_writeOp_e S hr hlk ha1 ha2 hσ h
def vX3_writeRoutine_66 (Q : bS → Prop) (P68 : Int → Int → Int → bS → Prop) (x1 : Int) (x2 : Int) (σ : bS) : Prop := (P68 x1 x2 0 σ)
theorem mono_vX3_writeRoutine_66 {Q Q9 : bS → Prop} {P68 P689 : Int → Int → Int → bS → Prop} {x1 : Int} {x2 : Int} {σ : bS} (hQ : ∀ σ, Q σ → Q9 σ) (hP68 : ∀ x1 x2 x3 σ, P68 x1 x2 x3 σ → P689 x1 x2 x3 σ) : vX3_writeRoutine_66 Q P68 x1 x2 σ → vX3_writeRoutine_66 Q9 P689 x1 x2 σ := (hP68 _ _ _ _)
theorem wX3_writeRoutine_66 {p : Program} {l : Launch} {e : Env} {s : State} {m : MethodId} {args : Array Value} {below : List Frame} {meth : Method} {c : Code} {G : bG} {σ0 : bS} {Q : bS → Prop} {P68 : Int → Int → Int → bS → Prop} {x1 : Int} {x2 : Int} {σ : bS} (S : CallFix p m c cX3_writeRoutine 4 s args bT "BankLinker$Linker") (hr : meth.sig.returnType = none) (hlk : meth.locks = false) (hP68 : ∀ (x1 : Int) (x2 : Int) (x3 : Int) (σ : bS), bR x1 → bR x2 → bR x3 → bRG σ → P68 x1 x2 x3 σ → bA p l e { frames := 3, cells := 0, slots := 0, locals := 71 } s m args below meth c 0 0 (bQv below args s G σ0 Q) G (va_A (bk_w G σ0) s.heap.size) 4 68 [(0, .ref (G.2.2 5)), (1, .int (bI x1)), (2, .int (bI x2)), (3, .int (bI x3))] [] σ) (hx1 : bR x1) (hx2 : bR x2) (hσ : bRG σ) (h : vX3_writeRoutine_66 Q P68 x1 x2 σ) : bA p l e { frames := 3, cells := 0, slots := 0, locals := 71 } s m args below meth c 0 0 (bQv below args s G σ0 Q) G (va_A (bk_w G σ0) s.heap.size) 4 66 [(0, .ref (G.2.2 5)), (1, .int (bI x1)), (2, .int (bI x2))] [] σ := by
  unfold vX3_writeRoutine_66 at h
  refine br_iconst S dX3_writeRoutine_66 ?_
  refine br_istore_n S [(3, .int (bI 0)), (0, .ref (G.2.2 5)), (1, .int (bI x1)), (2, .int (bI x2))] dX3_writeRoutine_67 rfl (by decide) rfl ?_
  exact bA.perm [1, 2, 3, 0] rfl <| hP68 x1 x2 0 σ hx1 hx2 (by decide) hσ h
def bX3_writeRoutine_68 (Q : bS → Prop) (P68 : Int → Int → Int → bS → Prop) (x1 : Int) (x2 : Int) (x3 : Int) (σ : bS) : Prop := ((0 ≤ x1 ∧ x1 < 30) ∧ (((σ 16 x1) ≤ x3 → (vX5_append (fun σ4 => (Q σ4)) x2 8 σ)) ∧ (¬ (σ 16 x1) ≤ x3 → (vX3_writeOp (fun σ6 => (bR (x3 + 1) ∧ (P68 x1 x2 (x3 + 1) σ6))) x1 x3 σ))))
theorem mono_bX3_writeRoutine_68 {Q Q9 : bS → Prop} {P68 P689 : Int → Int → Int → bS → Prop} {x1 : Int} {x2 : Int} {x3 : Int} {σ : bS} (hQ : ∀ σ, Q σ → Q9 σ) (hP68 : ∀ x1 x2 x3 σ, P68 x1 x2 x3 σ → P689 x1 x2 x3 σ) : bX3_writeRoutine_68 Q P68 x1 x2 x3 σ → bX3_writeRoutine_68 Q9 P689 x1 x2 x3 σ := (bm_r (bm_and (bm_imp (mono_X5_append (fun _ => (hQ _)))) (bm_imp (mono_X3_writeOp (fun _ => (bm_r (hP68 _ _ _ _)))))))
theorem wX3_writeRoutine_68 {p : Program} {l : Launch} {e : Env} {s : State} {m : MethodId} {args : Array Value} {below : List Frame} {meth : Method} {c : Code} {G : bG} {σ0 : bS} {Q : bS → Prop} {P68 : Int → Int → Int → bS → Prop} {x1 : Int} {x2 : Int} {x3 : Int} {σ : bS} (S : CallFix p m c cX3_writeRoutine 4 s args bT "BankLinker$Linker") (hr : meth.sig.returnType = none) (hlk : meth.locks = false) (hP68 : ∀ (x1 : Int) (x2 : Int) (x3 : Int) (σ : bS), bR x1 → bR x2 → bR x3 → bRG σ → P68 x1 x2 x3 σ → bA p l e { frames := 3, cells := 0, slots := 0, locals := 71 } s m args below meth c 0 0 (bQv below args s G σ0 Q) G (va_A (bk_w G σ0) s.heap.size) 4 68 [(0, .ref (G.2.2 5)), (1, .int (bI x1)), (2, .int (bI x2)), (3, .int (bI x3))] [] σ) (hx1 : bR x1) (hx2 : bR x2) (hx3 : bR x3) (hσ : bRG σ) (h : bX3_writeRoutine_68 Q P68 x1 x2 x3 σ) : bA p l e { frames := 3, cells := 0, slots := 0, locals := 71 } s m args below meth c 0 0 (bQv below args s G σ0 Q) G (va_A (bk_w G σ0) s.heap.size) 4 68 [(0, .ref (G.2.2 5)), (1, .int (bI x1)), (2, .int (bI x2)), (3, .int (bI x3))] [] σ := by
  unfold bX3_writeRoutine_68 at h
  refine br_iload_n S 3 dX3_writeRoutine_68 rfl rfl ?_
  refine br_aload_n S 0 dX3_writeRoutine_69 rfl rfl ?_
  refine br_get (f := 0) (N := 7) (C := RX3) (T := TX3) S inT_X3 wd_1_186 (by decide) rfl rfl (by decide) rfl dX3_writeRoutine_70 ?_
  refine br_get (f := 5) (N := 9) (C := RX6) (T := TX6) S inT_X6 wd_1_56 (by decide) rfl rfl (by decide) rfl dX3_writeRoutine_73 ?_
  refine br_iload_n S 1 dX3_writeRoutine_76 rfl rfl ?_
  obtain ⟨g1, h⟩ := h
  refine br_iald (n := 30) S ⟨by decide, by decide, fun _ => rfl⟩ g1.1 g1.2 dX3_writeRoutine_77 ?_
  refine br_ic_ge S 93 hx3 (hσ 16 x1) dX3_writeRoutine_78 (by decide) (fun c2 => ?_) (fun c2 => ?_)
  · replace h := h.1 c2
    refine br_aload_n S 0 dX3_writeRoutine_93 rfl rfl ?_
    refine br_get (f := 3) (N := 7) (C := RX3) (T := TX3) S inT_X3 wd_1_189 (by decide) rfl rfl (by decide) rfl dX3_writeRoutine_94 ?_
    refine br_iload_n S 2 dX3_writeRoutine_97 rfl rfl ?_
    refine br_bipush S dX3_writeRoutine_98 rfl ?_
    refine br_callVv (As := [.int (bI x2), .int (bI 8)]) (rest := []) S (cwV_X5_append S.2.2.2.2 wd_3_42 ⟨by decide, by decide⟩) (mX5_append l G σ x2 hx2 8 (by decide) h) (by decide) rfl rfl rfl hσ rfl rfl (Nat.le_of_ble_eq_true rfl) ⟨by decide, by decide⟩ dX3_writeRoutine_100 (fun σ4 hσ4 h => ?_)
    exact br_vret S hr hlk hσ4 dX3_writeRoutine_103 h
  · replace h := h.2 c2
    refine br_aload_n S 0 dX3_writeRoutine_81 rfl rfl ?_
    refine br_iload_n S 1 dX3_writeRoutine_82 rfl rfl ?_
    refine br_iload_n S 3 dX3_writeRoutine_83 rfl rfl ?_
    refine br_callVv (As := [.int (bI x1), .int (bI x3)]) (rest := []) S (cwV_X3_writeOp S.2.2.2.2 wd_3_46 ⟨by decide, by decide⟩) (mX3_writeOp l G σ x1 hx1 x3 hx3 h) (by decide) rfl rfl rfl hσ rfl rfl (Nat.le_of_ble_eq_true rfl) ⟨by decide, by decide⟩ dX3_writeRoutine_84 (fun σ6 hσ6 h => ?_)
    refine br_iinc S 3 [(3, .int (bI (x3 + 1))), (0, .ref (G.2.2 5)), (1, .int (bI x1)), (2, .int (bI x2))] dX3_writeRoutine_87 rfl (by decide) rfl ?_
    refine br_goto S 68 dX3_writeRoutine_90 (by decide) ?_
    obtain ⟨g7, h⟩ := h
    exact bA.perm [1, 2, 3, 0] rfl <| hP68 x1 x2 (x3 + 1) σ6 hx1 hx2 g7 hσ6 h
def eX3_writeRoutine (Q : bS → Prop) (P68 : Int → Int → Int → bS → Prop) (a1 : Int) (σ : bS) : Prop := ((0 ≤ a1 ∧ a1 < 30) ∧ (((σ 15 a1) ≤ 0 → (vX3_writeRoutine_66 Q P68 a1 (σ 23 a1) σ)) ∧ (¬ (σ 15 a1) ≤ 0 → (vX5_append (fun σ4 => (vX5_append (fun σ6 => (vX5_append (fun σ8 => (vX3_writeRoutine_66 Q P68 a1 (σ 23 a1) σ8)) (σ 23 a1) (σ6 15 a1) σ6)) (σ 23 a1) (σ4 26 a1) σ4)) (σ 23 a1) 12 σ))))
theorem mono_eX3_writeRoutine {Q Q9 : bS → Prop} {P68 P689 : Int → Int → Int → bS → Prop} {a1 : Int} {σ : bS} (hQ : ∀ σ, Q σ → Q9 σ) (hP68 : ∀ x1 x2 x3 σ, P68 x1 x2 x3 σ → P689 x1 x2 x3 σ) : eX3_writeRoutine Q P68 a1 σ → eX3_writeRoutine Q9 P689 a1 σ := (bm_r (bm_and (bm_imp (mono_vX3_writeRoutine_66 hQ hP68)) (bm_imp (mono_X5_append (fun _ => (mono_X5_append (fun _ => (mono_X5_append (fun _ => (mono_vX3_writeRoutine_66 hQ hP68))))))))))
theorem wX3_writeRoutine_e {p : Program} {l : Launch} {e : Env} {s : State} {m : MethodId} {args : Array Value} {below : List Frame} {meth : Method} {c : Code} {G : bG} {σ0 : bS} {Q : bS → Prop} {P68 : Int → Int → Int → bS → Prop} {a1 : Int} {σ : bS} (S : CallFix p m c cX3_writeRoutine 4 s args bT "BankLinker$Linker") (hr : meth.sig.returnType = none) (hlk : meth.locks = false) (hP68 : ∀ (x1 : Int) (x2 : Int) (x3 : Int) (σ : bS), bR x1 → bR x2 → bR x3 → bRG σ → P68 x1 x2 x3 σ → bA p l e { frames := 3, cells := 0, slots := 0, locals := 71 } s m args below meth c 0 0 (bQv below args s G σ0 Q) G (va_A (bk_w G σ0) s.heap.size) 4 68 [(0, .ref (G.2.2 5)), (1, .int (bI x1)), (2, .int (bI x2)), (3, .int (bI x3))] [] σ) (ha1 : bR a1) (hσ : bRG σ) (h : eX3_writeRoutine Q P68 a1 σ) : bA p l e { frames := 3, cells := 0, slots := 0, locals := 71 } s m args below meth c 0 0 (bQv below args s G σ0 Q) G (va_A (bk_w G σ0) s.heap.size) 4 0 [(0, .ref (G.2.2 5)), (1, .int (bI a1))] [] σ := by
  unfold eX3_writeRoutine at h
  refine br_aload_n S 0 dX3_writeRoutine_0 rfl rfl ?_
  refine br_get (f := 2) (N := 7) (C := RX3) (T := TX3) S inT_X3 wd_1_188 (by decide) rfl rfl (by decide) rfl dX3_writeRoutine_1 ?_
  refine br_get (f := 1) (N := 14) (C := RX2) (T := TX2) S inT_X2 wd_1_109 (by decide) rfl rfl (by decide) rfl dX3_writeRoutine_4 ?_
  refine br_iload_n S 1 dX3_writeRoutine_7 rfl rfl ?_
  obtain ⟨g1, h⟩ := h
  refine br_iald (n := 30) S ⟨by decide, by decide, fun _ => rfl⟩ g1.1 g1.2 dX3_writeRoutine_8 ?_
  refine br_istore_n S [(2, .int (bI (σ 23 a1))), (0, .ref (G.2.2 5)), (1, .int (bI a1))] dX3_writeRoutine_9 rfl (by decide) rfl ?_
  refine br_aload_n S 1 dX3_writeRoutine_10 rfl rfl ?_
  refine br_get (f := 0) (N := 7) (C := RX3) (T := TX3) S inT_X3 wd_1_186 (by decide) rfl rfl (by decide) rfl dX3_writeRoutine_11 ?_
  refine br_get (f := 4) (N := 9) (C := RX6) (T := TX6) S inT_X6 wd_1_52 (by decide) rfl rfl (by decide) rfl dX3_writeRoutine_14 ?_
  refine br_iload_n S 2 dX3_writeRoutine_17 rfl rfl ?_
  refine br_iald (n := 30) S ⟨by decide, by decide, fun _ => rfl⟩ g1.1 g1.2 dX3_writeRoutine_18 ?_
  refine br_if_le S 66 (hσ 15 a1) dX3_writeRoutine_19 (by decide) (fun c2 => ?_) (fun c2 => ?_)
  · replace h := h.1 c2
    exact bA.perm [1, 2, 0] rfl <| wX3_writeRoutine_66 S hr hlk hP68 ha1 (hσ 23 a1) hσ h
  · replace h := h.2 c2
    refine br_aload_n S 1 dX3_writeRoutine_22 rfl rfl ?_
    refine br_get (f := 3) (N := 7) (C := RX3) (T := TX3) S inT_X3 wd_1_189 (by decide) rfl rfl (by decide) rfl dX3_writeRoutine_23 ?_
    refine br_iload_n S 0 dX3_writeRoutine_26 rfl rfl ?_
    refine br_bipush S dX3_writeRoutine_27 rfl ?_
    refine br_callVv (As := [.int (bI (σ 23 a1)), .int (bI 12)]) (rest := []) S (cwV_X5_append S.2.2.2.2 wd_3_42 ⟨by decide, by decide⟩) (mX5_append l G σ (σ 23 a1) (hσ 23 a1) 12 (by decide) h) (by decide) rfl rfl rfl hσ rfl rfl (Nat.le_of_ble_eq_true rfl) ⟨by decide, by decide⟩ dX3_writeRoutine_29 (fun σ4 hσ4 h => ?_)
    refine br_aload_n S 1 dX3_writeRoutine_32 rfl rfl ?_
    refine br_get (f := 3) (N := 7) (C := RX3) (T := TX3) S inT_X3 wd_1_189 (by decide) rfl rfl (by decide) rfl dX3_writeRoutine_33 ?_
    refine br_iload_n S 0 dX3_writeRoutine_36 rfl rfl ?_
    refine br_aload_n S 1 dX3_writeRoutine_37 rfl rfl ?_
    refine br_get (f := 2) (N := 7) (C := RX3) (T := TX3) S inT_X3 wd_1_188 (by decide) rfl rfl (by decide) rfl dX3_writeRoutine_38 ?_
    refine br_get (f := 4) (N := 14) (C := RX2) (T := TX2) S inT_X2 wd_1_117 (by decide) rfl rfl (by decide) rfl dX3_writeRoutine_41 ?_
    refine br_iload_n S 2 dX3_writeRoutine_44 rfl rfl ?_
    refine br_iald (n := 30) S ⟨by decide, by decide, fun _ => rfl⟩ g1.1 g1.2 dX3_writeRoutine_45 ?_
    refine br_callVv (As := [.int (bI (σ 23 a1)), .int (bI (σ4 26 a1))]) (rest := []) S (cwV_X5_append S.2.2.2.2 wd_3_42 ⟨by decide, by decide⟩) (mX5_append l G σ4 (σ 23 a1) (hσ 23 a1) (σ4 26 a1) (hσ4 26 a1) h) (by decide) rfl rfl rfl hσ4 rfl rfl (Nat.le_of_ble_eq_true rfl) ⟨by decide, by decide⟩ dX3_writeRoutine_46 (fun σ6 hσ6 h => ?_)
    refine br_aload_n S 1 dX3_writeRoutine_49 rfl rfl ?_
    refine br_get (f := 3) (N := 7) (C := RX3) (T := TX3) S inT_X3 wd_1_189 (by decide) rfl rfl (by decide) rfl dX3_writeRoutine_50 ?_
    refine br_iload_n S 0 dX3_writeRoutine_53 rfl rfl ?_
    refine br_aload_n S 1 dX3_writeRoutine_54 rfl rfl ?_
    refine br_get (f := 0) (N := 7) (C := RX3) (T := TX3) S inT_X3 wd_1_186 (by decide) rfl rfl (by decide) rfl dX3_writeRoutine_55 ?_
    refine br_get (f := 4) (N := 9) (C := RX6) (T := TX6) S inT_X6 wd_1_52 (by decide) rfl rfl (by decide) rfl dX3_writeRoutine_58 ?_
    refine br_iload_n S 2 dX3_writeRoutine_61 rfl rfl ?_
    refine br_iald (n := 30) S ⟨by decide, by decide, fun _ => rfl⟩ g1.1 g1.2 dX3_writeRoutine_62 ?_
    refine br_callVv (As := [.int (bI (σ 23 a1)), .int (bI (σ6 15 a1))]) (rest := []) S (cwV_X5_append S.2.2.2.2 wd_3_42 ⟨by decide, by decide⟩) (mX5_append l G σ6 (σ 23 a1) (hσ 23 a1) (σ6 15 a1) (hσ6 15 a1) h) (by decide) rfl rfl rfl hσ6 rfl rfl (Nat.le_of_ble_eq_true rfl) ⟨by decide, by decide⟩ dX3_writeRoutine_63 (fun σ8 hσ8 h => ?_)
    exact bA.perm [1, 2, 0] rfl <| wX3_writeRoutine_66 S hr hlk hP68 ha1 (hσ 23 a1) hσ8 h
def LX3_writeRoutine_68 (Q : bS → Prop) (x1 : Int) (x2 : Int) (x3 : Int) (σ : bS) : Prop := ∀ (P68 : Int → Int → Int → bS → Prop), (∀ x1 x2 x3 σ, bX3_writeRoutine_68 Q P68 x1 x2 x3 σ → P68 x1 x2 x3 σ) → P68 x1 x2 x3 σ
theorem LX3_writeRoutine_68_in {Q : bS → Prop} {x1 : Int} {x2 : Int} {x3 : Int} {σ : bS} (h : bX3_writeRoutine_68 Q (LX3_writeRoutine_68 Q) x1 x2 x3 σ) : LX3_writeRoutine_68 Q x1 x2 x3 σ := fun P68 H68 => H68 _ _ _ _ (mono_bX3_writeRoutine_68 (fun _ h => h) (fun _ _ _ _ h => h P68 H68) h)
theorem mono_LX3_writeRoutine_68 {Q Q9 : bS → Prop} {x1 : Int} {x2 : Int} {x3 : Int} {σ : bS} (hQ : ∀ σ, Q σ → Q9 σ) (h : LX3_writeRoutine_68 Q x1 x2 x3 σ) : LX3_writeRoutine_68 Q9 x1 x2 x3 σ := fun P68 H68 => h P68 (fun _ _ _ _ hb => H68 _ _ _ _ (mono_bX3_writeRoutine_68 hQ (fun _ _ _ _ h => h) hb))
def vX3_writeRoutine (Q : bS → Prop) (a1 : Int) (σ : bS) : Prop := eX3_writeRoutine Q (LX3_writeRoutine_68 Q) a1 σ
theorem mono_vX3_writeRoutine {Q Q9 : bS → Prop} {a1 : Int} {σ : bS} (hQ : ∀ σ, Q σ → Q9 σ) : vX3_writeRoutine Q a1 σ → vX3_writeRoutine Q9 a1 σ := mono_eX3_writeRoutine hQ (fun _ _ _ _ h => mono_LX3_writeRoutine_68 hQ h)
theorem mono_X3_writeRoutine {Q Q9 : bS → Prop} {a1 : Int} {σ : bS} (hQ : ∀ σ, Q σ → Q9 σ) : vX3_writeRoutine Q a1 σ → vX3_writeRoutine Q9 a1 σ := mono_vX3_writeRoutine hQ
theorem mX3_writeRoutine (l : Launch) (G : bG) (σ : bS) (a1 : Int) (ha1 : bR a1) {Q : bS → Prop} (h : vX3_writeRoutine Q a1 σ) : bk_Mv l yX3_writeRoutine (Cond.code yX3_writeRoutine cX3_writeRoutine 4 (none) :: bT) { frames := 3, cells := 0, slots := 0, locals := 71 } G σ [.ref (G.2.2 5), .int (bI a1)] Q := by
  refine bk_Mv.of (cc := cX3_writeRoutine) (maxL := 4) (ret := none) (by decide) rfl (Nat.le_of_ble_eq_true rfl) ?_
  intro p e s m args below meth c S hr hlk hσ
  let K68 : Int → Int → Int → bS → Prop := fun x1 x2 x3 τ => bR x1 → bR x2 → bR x3 → bRG τ → bA p l e { frames := 3, cells := 0, slots := 0, locals := 71 } s m args below meth c 0 0 (bQv below args s G σ Q) G (va_A (bk_w G σ) s.heap.size) 4 68 [(0, .ref (G.2.2 5)), (1, .int (bI x1)), (2, .int (bI x2)), (3, .int (bI x3))] [] τ
  have C68 : ∀ x1 x2 x3 τ, bX3_writeRoutine_68 Q K68 x1 x2 x3 τ → K68 x1 x2 x3 τ := fun x1 x2 x3 τ hb hx1 hx2 hx3 hτ => wX3_writeRoutine_68 S hr hlk (fun x1 x2 x3 σ hx1 hx2 hx3 hσ h => h hx1 hx2 hx3 hσ) hx1 hx2 hx3 hτ hb
  exact wX3_writeRoutine_e S hr hlk (fun x1 x2 x3 σ hx1 hx2 hx3 hσ h => h K68 C68 hx1 hx2 hx3 hσ) ha1 hσ h
def bX3_writeModules_2 (Q : bS → Prop) (P2 : Int → bS → Prop) (P15 : Int → Int → bS → Prop) (x1 : Int) (σ : bS) : Prop := (((σ 1 0) ≤ x1 → (Q σ)) ∧ (¬ (σ 1 0) ≤ x1 → (P15 x1 0 σ)))
theorem mono_bX3_writeModules_2 {Q Q9 : bS → Prop} {P2 P29 : Int → bS → Prop} {P15 P159 : Int → Int → bS → Prop} {x1 : Int} {σ : bS} (hQ : ∀ σ, Q σ → Q9 σ) (hP2 : ∀ x1 σ, P2 x1 σ → P29 x1 σ) (hP15 : ∀ x1 x2 σ, P15 x1 x2 σ → P159 x1 x2 σ) : bX3_writeModules_2 Q P2 P15 x1 σ → bX3_writeModules_2 Q9 P29 P159 x1 σ := (bm_and (bm_imp (hQ _)) (bm_imp (hP15 _ _ _)))
theorem wX3_writeModules_2 {p : Program} {l : Launch} {e : Env} {s : State} {m : MethodId} {args : Array Value} {below : List Frame} {meth : Method} {c : Code} {G : bG} {σ0 : bS} {Q : bS → Prop} {P2 : Int → bS → Prop} {P15 : Int → Int → bS → Prop} {x1 : Int} {σ : bS} (S : CallFix p m c cX3_writeModules 3 s args bT "BankLinker$Linker") (hr : meth.sig.returnType = none) (hlk : meth.locks = false) (hP2 : ∀ (x1 : Int) (σ : bS), bR x1 → bRG σ → P2 x1 σ → bA p l e { frames := 4, cells := 0, slots := 0, locals := 94 } s m args below meth c 0 0 (bQv below args s G σ0 Q) G (va_A (bk_w G σ0) s.heap.size) 3 2 [(0, .ref (G.2.2 5)), (1, .int (bI x1))] [] σ) (hP15 : ∀ (x1 : Int) (x2 : Int) (σ : bS), bR x1 → bR x2 → bRG σ → P15 x1 x2 σ → bA p l e { frames := 4, cells := 0, slots := 0, locals := 94 } s m args below meth c 0 0 (bQv below args s G σ0 Q) G (va_A (bk_w G σ0) s.heap.size) 3 15 [(0, .ref (G.2.2 5)), (1, .int (bI x1)), (2, .int (bI x2))] [] σ) (hx1 : bR x1) (hσ : bRG σ) (h : bX3_writeModules_2 Q P2 P15 x1 σ) : bA p l e { frames := 4, cells := 0, slots := 0, locals := 94 } s m args below meth c 0 0 (bQv below args s G σ0 Q) G (va_A (bk_w G σ0) s.heap.size) 3 2 [(0, .ref (G.2.2 5)), (1, .int (bI x1))] [] σ := by
  unfold bX3_writeModules_2 at h
  refine br_iload_n S 1 dX3_writeModules_2 rfl rfl ?_
  refine br_aload_n S 0 dX3_writeModules_3 rfl rfl ?_
  refine br_get (f := 0) (N := 7) (C := RX3) (T := TX3) S inT_X3 wd_1_186 (by decide) rfl rfl (by decide) rfl dX3_writeModules_4 ?_
  refine br_get (f := 0) (N := 9) (C := RX6) (T := TX6) S inT_X6 wd_1_39 (by decide) rfl rfl (by decide) rfl dX3_writeModules_7 ?_
  refine br_ic_ge S 56 hx1 (hσ 1 0) dX3_writeModules_10 (by decide) (fun c1 => ?_) (fun c1 => ?_)
  · replace h := h.1 c1
    exact br_vret S hr hlk hσ dX3_writeModules_56 h
  · replace h := h.2 c1
    refine br_iconst S dX3_writeModules_13 ?_
    refine br_istore_n S [(2, .int (bI 0)), (0, .ref (G.2.2 5)), (1, .int (bI x1))] dX3_writeModules_14 rfl (by decide) rfl ?_
    exact bA.perm [1, 2, 0] rfl <| hP15 x1 0 σ hx1 (by decide) hσ h
def vX3_writeModules_44 (Q : bS → Prop) (P2 : Int → bS → Prop) (P15 : Int → Int → bS → Prop) (x1 : Int) (x2 : Int) (σ : bS) : Prop := (bR (x2 + 1) ∧ (P15 x1 (x2 + 1) σ))
theorem mono_vX3_writeModules_44 {Q Q9 : bS → Prop} {P2 P29 : Int → bS → Prop} {P15 P159 : Int → Int → bS → Prop} {x1 : Int} {x2 : Int} {σ : bS} (hQ : ∀ σ, Q σ → Q9 σ) (hP2 : ∀ x1 σ, P2 x1 σ → P29 x1 σ) (hP15 : ∀ x1 x2 σ, P15 x1 x2 σ → P159 x1 x2 σ) : vX3_writeModules_44 Q P2 P15 x1 x2 σ → vX3_writeModules_44 Q9 P29 P159 x1 x2 σ := (bm_r (hP15 _ _ _))
theorem wX3_writeModules_44 {p : Program} {l : Launch} {e : Env} {s : State} {m : MethodId} {args : Array Value} {below : List Frame} {meth : Method} {c : Code} {G : bG} {σ0 : bS} {Q : bS → Prop} {P2 : Int → bS → Prop} {P15 : Int → Int → bS → Prop} {x1 : Int} {x2 : Int} {σ : bS} (S : CallFix p m c cX3_writeModules 3 s args bT "BankLinker$Linker") (hr : meth.sig.returnType = none) (hlk : meth.locks = false) (hP2 : ∀ (x1 : Int) (σ : bS), bR x1 → bRG σ → P2 x1 σ → bA p l e { frames := 4, cells := 0, slots := 0, locals := 94 } s m args below meth c 0 0 (bQv below args s G σ0 Q) G (va_A (bk_w G σ0) s.heap.size) 3 2 [(0, .ref (G.2.2 5)), (1, .int (bI x1))] [] σ) (hP15 : ∀ (x1 : Int) (x2 : Int) (σ : bS), bR x1 → bR x2 → bRG σ → P15 x1 x2 σ → bA p l e { frames := 4, cells := 0, slots := 0, locals := 94 } s m args below meth c 0 0 (bQv below args s G σ0 Q) G (va_A (bk_w G σ0) s.heap.size) 3 15 [(0, .ref (G.2.2 5)), (1, .int (bI x1)), (2, .int (bI x2))] [] σ) (hx1 : bR x1) (hx2 : bR x2) (hσ : bRG σ) (h : vX3_writeModules_44 Q P2 P15 x1 x2 σ) : bA p l e { frames := 4, cells := 0, slots := 0, locals := 94 } s m args below meth c 0 0 (bQv below args s G σ0 Q) G (va_A (bk_w G σ0) s.heap.size) 3 44 [(0, .ref (G.2.2 5)), (1, .int (bI x1)), (2, .int (bI x2))] [] σ := by
  unfold vX3_writeModules_44 at h
  refine br_iinc S 2 [(2, .int (bI (x2 + 1))), (0, .ref (G.2.2 5)), (1, .int (bI x1))] dX3_writeModules_44 rfl (by decide) rfl ?_
  refine br_goto S 15 dX3_writeModules_47 (by decide) ?_
  obtain ⟨g1, h⟩ := h
  exact bA.perm [1, 2, 0] rfl <| hP15 x1 (x2 + 1) σ hx1 g1 hσ h
def bX3_writeModules_15 (Q : bS → Prop) (P2 : Int → bS → Prop) (P15 : Int → Int → bS → Prop) (x1 : Int) (x2 : Int) (σ : bS) : Prop := (((σ 1 2) ≤ x2 → (bR (x1 + 1) ∧ (P2 (x1 + 1) σ))) ∧ (¬ (σ 1 2) ≤ x2 → ((0 ≤ x2 ∧ x2 < 30) ∧ ((¬ (σ 14 x2) = x1 → (vX3_writeModules_44 Q P2 P15 x1 x2 σ)) ∧ ((σ 14 x2) = x1 → (vX3_writeRoutine (fun σ6 => (vX3_writeModules_44 Q P2 P15 x1 x2 σ6)) x2 σ))))))
theorem mono_bX3_writeModules_15 {Q Q9 : bS → Prop} {P2 P29 : Int → bS → Prop} {P15 P159 : Int → Int → bS → Prop} {x1 : Int} {x2 : Int} {σ : bS} (hQ : ∀ σ, Q σ → Q9 σ) (hP2 : ∀ x1 σ, P2 x1 σ → P29 x1 σ) (hP15 : ∀ x1 x2 σ, P15 x1 x2 σ → P159 x1 x2 σ) : bX3_writeModules_15 Q P2 P15 x1 x2 σ → bX3_writeModules_15 Q9 P29 P159 x1 x2 σ := (bm_and (bm_imp (bm_r (hP2 _ _))) (bm_imp (bm_r (bm_and (bm_imp (mono_vX3_writeModules_44 hQ hP2 hP15)) (bm_imp (mono_X3_writeRoutine (fun _ => (mono_vX3_writeModules_44 hQ hP2 hP15))))))))
theorem wX3_writeModules_15 {p : Program} {l : Launch} {e : Env} {s : State} {m : MethodId} {args : Array Value} {below : List Frame} {meth : Method} {c : Code} {G : bG} {σ0 : bS} {Q : bS → Prop} {P2 : Int → bS → Prop} {P15 : Int → Int → bS → Prop} {x1 : Int} {x2 : Int} {σ : bS} (S : CallFix p m c cX3_writeModules 3 s args bT "BankLinker$Linker") (hr : meth.sig.returnType = none) (hlk : meth.locks = false) (hP2 : ∀ (x1 : Int) (σ : bS), bR x1 → bRG σ → P2 x1 σ → bA p l e { frames := 4, cells := 0, slots := 0, locals := 94 } s m args below meth c 0 0 (bQv below args s G σ0 Q) G (va_A (bk_w G σ0) s.heap.size) 3 2 [(0, .ref (G.2.2 5)), (1, .int (bI x1))] [] σ) (hP15 : ∀ (x1 : Int) (x2 : Int) (σ : bS), bR x1 → bR x2 → bRG σ → P15 x1 x2 σ → bA p l e { frames := 4, cells := 0, slots := 0, locals := 94 } s m args below meth c 0 0 (bQv below args s G σ0 Q) G (va_A (bk_w G σ0) s.heap.size) 3 15 [(0, .ref (G.2.2 5)), (1, .int (bI x1)), (2, .int (bI x2))] [] σ) (hx1 : bR x1) (hx2 : bR x2) (hσ : bRG σ) (h : bX3_writeModules_15 Q P2 P15 x1 x2 σ) : bA p l e { frames := 4, cells := 0, slots := 0, locals := 94 } s m args below meth c 0 0 (bQv below args s G σ0 Q) G (va_A (bk_w G σ0) s.heap.size) 3 15 [(0, .ref (G.2.2 5)), (1, .int (bI x1)), (2, .int (bI x2))] [] σ := by
  unfold bX3_writeModules_15 at h
  refine br_iload_n S 2 dX3_writeModules_15 rfl rfl ?_
  refine br_aload_n S 0 dX3_writeModules_16 rfl rfl ?_
  refine br_get (f := 0) (N := 7) (C := RX3) (T := TX3) S inT_X3 wd_1_186 (by decide) rfl rfl (by decide) rfl dX3_writeModules_17 ?_
  refine br_get (f := 2) (N := 9) (C := RX6) (T := TX6) S inT_X6 wd_1_47 (by decide) rfl rfl (by decide) rfl dX3_writeModules_20 ?_
  refine br_ic_ge S 50 hx2 (hσ 1 2) dX3_writeModules_23 (by decide) (fun c1 => ?_) (fun c1 => ?_)
  · replace h := h.1 c1
    refine br_iinc S 1 [(1, .int (bI (x1 + 1))), (0, .ref (G.2.2 5)), (2, .int (bI x2))] dX3_writeModules_50 rfl (by decide) rfl ?_
    refine br_goto S 2 dX3_writeModules_53 (by decide) ?_
    obtain ⟨g2, h⟩ := h
    exact bA.perm [1, 0] rfl <| hP2 (x1 + 1) σ g2 hσ h
  · replace h := h.2 c1
    refine br_aload_n S 0 dX3_writeModules_26 rfl rfl ?_
    refine br_get (f := 0) (N := 7) (C := RX3) (T := TX3) S inT_X3 wd_1_186 (by decide) rfl rfl (by decide) rfl dX3_writeModules_27 ?_
    refine br_get (f := 3) (N := 9) (C := RX6) (T := TX6) S inT_X6 wd_1_50 (by decide) rfl rfl (by decide) rfl dX3_writeModules_30 ?_
    refine br_iload_n S 2 dX3_writeModules_33 rfl rfl ?_
    obtain ⟨g3, h⟩ := h
    refine br_iald (n := 30) S ⟨by decide, by decide, fun _ => rfl⟩ g3.1 g3.2 dX3_writeModules_34 ?_
    refine br_iload_n S 1 dX3_writeModules_35 rfl rfl ?_
    refine br_ic_ne S 44 (hσ 14 x2) hx1 dX3_writeModules_36 (by decide) (fun c4 => ?_) (fun c4 => ?_)
    · replace h := h.1 c4
      exact wX3_writeModules_44 S hr hlk hP2 hP15 hx1 hx2 hσ h
    · replace h := h.2 c4
      refine br_aload_n S 0 dX3_writeModules_39 rfl rfl ?_
      refine br_iload_n S 2 dX3_writeModules_40 rfl rfl ?_
      refine br_callVv (As := [.int (bI x2)]) (rest := []) S (cwV_X3_writeRoutine S.2.2.2.2 wd_3_38 ⟨by decide, by decide⟩) (mX3_writeRoutine l G σ x2 hx2 h) (by decide) rfl rfl rfl hσ rfl rfl (Nat.le_of_ble_eq_true rfl) ⟨by decide, by decide⟩ dX3_writeModules_41 (fun σ6 hσ6 h => ?_)
      exact wX3_writeModules_44 S hr hlk hP2 hP15 hx1 hx2 hσ6 h
def eX3_writeModules (Q : bS → Prop) (P2 : Int → bS → Prop) (P15 : Int → Int → bS → Prop) (σ : bS) : Prop := (P2 0 σ)
theorem mono_eX3_writeModules {Q Q9 : bS → Prop} {P2 P29 : Int → bS → Prop} {P15 P159 : Int → Int → bS → Prop} {σ : bS} (hQ : ∀ σ, Q σ → Q9 σ) (hP2 : ∀ x1 σ, P2 x1 σ → P29 x1 σ) (hP15 : ∀ x1 x2 σ, P15 x1 x2 σ → P159 x1 x2 σ) : eX3_writeModules Q P2 P15 σ → eX3_writeModules Q9 P29 P159 σ := (hP2 _ _)
theorem wX3_writeModules_e {p : Program} {l : Launch} {e : Env} {s : State} {m : MethodId} {args : Array Value} {below : List Frame} {meth : Method} {c : Code} {G : bG} {σ0 : bS} {Q : bS → Prop} {P2 : Int → bS → Prop} {P15 : Int → Int → bS → Prop} {σ : bS} (S : CallFix p m c cX3_writeModules 3 s args bT "BankLinker$Linker") (hr : meth.sig.returnType = none) (hlk : meth.locks = false) (hP2 : ∀ (x1 : Int) (σ : bS), bR x1 → bRG σ → P2 x1 σ → bA p l e { frames := 4, cells := 0, slots := 0, locals := 94 } s m args below meth c 0 0 (bQv below args s G σ0 Q) G (va_A (bk_w G σ0) s.heap.size) 3 2 [(0, .ref (G.2.2 5)), (1, .int (bI x1))] [] σ) (hP15 : ∀ (x1 : Int) (x2 : Int) (σ : bS), bR x1 → bR x2 → bRG σ → P15 x1 x2 σ → bA p l e { frames := 4, cells := 0, slots := 0, locals := 94 } s m args below meth c 0 0 (bQv below args s G σ0 Q) G (va_A (bk_w G σ0) s.heap.size) 3 15 [(0, .ref (G.2.2 5)), (1, .int (bI x1)), (2, .int (bI x2))] [] σ) (hσ : bRG σ) (h : eX3_writeModules Q P2 P15 σ) : bA p l e { frames := 4, cells := 0, slots := 0, locals := 94 } s m args below meth c 0 0 (bQv below args s G σ0 Q) G (va_A (bk_w G σ0) s.heap.size) 3 0 [(0, .ref (G.2.2 5))] [] σ := by
  unfold eX3_writeModules at h
  refine br_iconst S dX3_writeModules_0 ?_
  refine br_istore_n S [(1, .int (bI 0)), (0, .ref (G.2.2 5))] dX3_writeModules_1 rfl (by decide) rfl ?_
  exact bA.perm [1, 0] rfl <| hP2 0 σ (by decide) hσ h
def LX3_writeModules_2 (Q : bS → Prop) (x1 : Int) (σ : bS) : Prop := ∀ (P2 : Int → bS → Prop) (P15 : Int → Int → bS → Prop), (∀ x1 σ, bX3_writeModules_2 Q P2 P15 x1 σ → P2 x1 σ) → (∀ x1 x2 σ, bX3_writeModules_15 Q P2 P15 x1 x2 σ → P15 x1 x2 σ) → P2 x1 σ
def LX3_writeModules_15 (Q : bS → Prop) (x1 : Int) (x2 : Int) (σ : bS) : Prop := ∀ (P2 : Int → bS → Prop) (P15 : Int → Int → bS → Prop), (∀ x1 σ, bX3_writeModules_2 Q P2 P15 x1 σ → P2 x1 σ) → (∀ x1 x2 σ, bX3_writeModules_15 Q P2 P15 x1 x2 σ → P15 x1 x2 σ) → P15 x1 x2 σ
theorem LX3_writeModules_2_in {Q : bS → Prop} {x1 : Int} {σ : bS} (h : bX3_writeModules_2 Q (LX3_writeModules_2 Q) (LX3_writeModules_15 Q) x1 σ) : LX3_writeModules_2 Q x1 σ := fun P2 P15 H2 H15 => H2 _ _ (mono_bX3_writeModules_2 (fun _ h => h) (fun _ _ h => h P2 P15 H2 H15) (fun _ _ _ h => h P2 P15 H2 H15) h)
theorem mono_LX3_writeModules_2 {Q Q9 : bS → Prop} {x1 : Int} {σ : bS} (hQ : ∀ σ, Q σ → Q9 σ) (h : LX3_writeModules_2 Q x1 σ) : LX3_writeModules_2 Q9 x1 σ := fun P2 P15 H2 H15 => h P2 P15 (fun _ _ hb => H2 _ _ (mono_bX3_writeModules_2 hQ (fun _ _ h => h) (fun _ _ _ h => h) hb)) (fun _ _ _ hb => H15 _ _ _ (mono_bX3_writeModules_15 hQ (fun _ _ h => h) (fun _ _ _ h => h) hb))
theorem LX3_writeModules_15_in {Q : bS → Prop} {x1 : Int} {x2 : Int} {σ : bS} (h : bX3_writeModules_15 Q (LX3_writeModules_2 Q) (LX3_writeModules_15 Q) x1 x2 σ) : LX3_writeModules_15 Q x1 x2 σ := fun P2 P15 H2 H15 => H15 _ _ _ (mono_bX3_writeModules_15 (fun _ h => h) (fun _ _ h => h P2 P15 H2 H15) (fun _ _ _ h => h P2 P15 H2 H15) h)
theorem mono_LX3_writeModules_15 {Q Q9 : bS → Prop} {x1 : Int} {x2 : Int} {σ : bS} (hQ : ∀ σ, Q σ → Q9 σ) (h : LX3_writeModules_15 Q x1 x2 σ) : LX3_writeModules_15 Q9 x1 x2 σ := fun P2 P15 H2 H15 => h P2 P15 (fun _ _ hb => H2 _ _ (mono_bX3_writeModules_2 hQ (fun _ _ h => h) (fun _ _ _ h => h) hb)) (fun _ _ _ hb => H15 _ _ _ (mono_bX3_writeModules_15 hQ (fun _ _ h => h) (fun _ _ _ h => h) hb))
def vX3_writeModules (Q : bS → Prop) (σ : bS) : Prop := eX3_writeModules Q (LX3_writeModules_2 Q) (LX3_writeModules_15 Q) σ
theorem mono_vX3_writeModules {Q Q9 : bS → Prop} {σ : bS} (hQ : ∀ σ, Q σ → Q9 σ) : vX3_writeModules Q σ → vX3_writeModules Q9 σ := mono_eX3_writeModules hQ (fun _ _ h => mono_LX3_writeModules_2 hQ h) (fun _ _ _ h => mono_LX3_writeModules_15 hQ h)
theorem mono_X3_writeModules {Q Q9 : bS → Prop} {σ : bS} (hQ : ∀ σ, Q σ → Q9 σ) : vX3_writeModules Q σ → vX3_writeModules Q9 σ := mono_vX3_writeModules hQ
theorem mX3_writeModules (l : Launch) (G : bG) (σ : bS) {Q : bS → Prop} (h : vX3_writeModules Q σ) : bk_Mv l yX3_writeModules (Cond.code yX3_writeModules cX3_writeModules 3 (none) :: bT) { frames := 4, cells := 0, slots := 0, locals := 94 } G σ [.ref (G.2.2 5)] Q := by
  refine bk_Mv.of (cc := cX3_writeModules) (maxL := 3) (ret := none) (by decide) rfl (Nat.le_of_ble_eq_true rfl) ?_
  intro p e s m args below meth c S hr hlk hσ
  let K2 : Int → bS → Prop := fun x1 τ => bR x1 → bRG τ → bA p l e { frames := 4, cells := 0, slots := 0, locals := 94 } s m args below meth c 0 0 (bQv below args s G σ Q) G (va_A (bk_w G σ) s.heap.size) 3 2 [(0, .ref (G.2.2 5)), (1, .int (bI x1))] [] τ
  let K15 : Int → Int → bS → Prop := fun x1 x2 τ => bR x1 → bR x2 → bRG τ → bA p l e { frames := 4, cells := 0, slots := 0, locals := 94 } s m args below meth c 0 0 (bQv below args s G σ Q) G (va_A (bk_w G σ) s.heap.size) 3 15 [(0, .ref (G.2.2 5)), (1, .int (bI x1)), (2, .int (bI x2))] [] τ
  have C2 : ∀ x1 τ, bX3_writeModules_2 Q K2 K15 x1 τ → K2 x1 τ := fun x1 τ hb hx1 hτ => wX3_writeModules_2 S hr hlk (fun x1 σ hx1 hσ h => h hx1 hσ) (fun x1 x2 σ hx1 hx2 hσ h => h hx1 hx2 hσ) hx1 hτ hb
  have C15 : ∀ x1 x2 τ, bX3_writeModules_15 Q K2 K15 x1 x2 τ → K15 x1 x2 τ := fun x1 x2 τ hb hx1 hx2 hτ => wX3_writeModules_15 S hr hlk (fun x1 σ hx1 hσ h => h hx1 hσ) (fun x1 x2 σ hx1 hx2 hσ h => h hx1 hx2 hσ) hx1 hx2 hτ hb
  exact wX3_writeModules_e S hr hlk (fun x1 σ hx1 hσ h => h K2 K15 C2 C15 hx1 hσ) (fun x1 x2 σ hx1 hx2 hσ h => h K2 K15 C2 C15 hx1 hx2 hσ) hσ h
def vX3_writeThunk (Q : bS → Prop) (a1 : Int) (σ : bS) : Prop := (vX5_append (fun σ2 => (vX5_append (fun σ4 => ((0 ≤ a1 ∧ a1 < 30) ∧ (vX5_append (fun σ7 => (vX5_append (fun σ9 => (vX5_appendAddress (fun σ11 => (vX5_append (fun σ13 => (vX5_append (fun σ15 => (Q σ15)) (-1) 8 σ13)) (-1) 11 σ11)) (-1) (σ9 24 a1) σ9)) (-1) 5 σ7)) (-1) (σ4 23 a1) σ4))) (-1) 10 σ2)) (-1) 9 σ)
theorem mono_vX3_writeThunk {Q Q9 : bS → Prop} {a1 : Int} {σ : bS} (hQ : ∀ σ, Q σ → Q9 σ) : vX3_writeThunk Q a1 σ → vX3_writeThunk Q9 a1 σ := (mono_X5_append (fun _ => (mono_X5_append (fun _ => (bm_r (mono_X5_append (fun _ => (mono_X5_append (fun _ => (mono_X5_appendAddress (fun _ => (mono_X5_append (fun _ => (mono_X5_append (fun _ => (hQ _))))))))))))))))
theorem wX3_writeThunk_e {p : Program} {l : Launch} {e : Env} {s : State} {m : MethodId} {args : Array Value} {below : List Frame} {meth : Method} {c : Code} {G : bG} {σ0 : bS} {Q : bS → Prop} {a1 : Int} {σ : bS} (S : CallFix p m c cX3_writeThunk 2 s args bT "BankLinker$Linker") (hr : meth.sig.returnType = none) (hlk : meth.locks = false) (ha1 : bR a1) (hσ : bRG σ) (h : vX3_writeThunk Q a1 σ) : bA p l e { frames := 2, cells := 0, slots := 0, locals := 45 } s m args below meth c 0 0 (bQv below args s G σ0 Q) G (va_A (bk_w G σ0) s.heap.size) 2 0 [(0, .ref (G.2.2 5)), (1, .int (bI a1))] [] σ := by
  unfold vX3_writeThunk at h
  refine br_aload_n S 0 dX3_writeThunk_0 rfl rfl ?_
  refine br_get (f := 3) (N := 7) (C := RX3) (T := TX3) S inT_X3 wd_1_189 (by decide) rfl rfl (by decide) rfl dX3_writeThunk_1 ?_
  refine br_iconst S dX3_writeThunk_4 ?_
  refine br_bipush S dX3_writeThunk_5 rfl ?_
  refine br_callVv (As := [.int (bI (-1)), .int (bI 9)]) (rest := []) S (cwV_X5_append S.2.2.2.2 wd_3_42 ⟨by decide, by decide⟩) (mX5_append l G σ (-1) (by decide) 9 (by decide) h) (by decide) rfl rfl rfl hσ rfl rfl (Nat.le_of_ble_eq_true rfl) ⟨by decide, by decide⟩ dX3_writeThunk_7 (fun σ2 hσ2 h => ?_)
  refine br_aload_n S 0 dX3_writeThunk_10 rfl rfl ?_
  refine br_get (f := 3) (N := 7) (C := RX3) (T := TX3) S inT_X3 wd_1_189 (by decide) rfl rfl (by decide) rfl dX3_writeThunk_11 ?_
  refine br_iconst S dX3_writeThunk_14 ?_
  refine br_bipush S dX3_writeThunk_15 rfl ?_
  refine br_callVv (As := [.int (bI (-1)), .int (bI 10)]) (rest := []) S (cwV_X5_append S.2.2.2.2 wd_3_42 ⟨by decide, by decide⟩) (mX5_append l G σ2 (-1) (by decide) 10 (by decide) h) (by decide) rfl rfl rfl hσ2 rfl rfl (Nat.le_of_ble_eq_true rfl) ⟨by decide, by decide⟩ dX3_writeThunk_17 (fun σ4 hσ4 h => ?_)
  refine br_aload_n S 0 dX3_writeThunk_20 rfl rfl ?_
  refine br_get (f := 3) (N := 7) (C := RX3) (T := TX3) S inT_X3 wd_1_189 (by decide) rfl rfl (by decide) rfl dX3_writeThunk_21 ?_
  refine br_iconst S dX3_writeThunk_24 ?_
  refine br_aload_n S 0 dX3_writeThunk_25 rfl rfl ?_
  refine br_get (f := 2) (N := 7) (C := RX3) (T := TX3) S inT_X3 wd_1_188 (by decide) rfl rfl (by decide) rfl dX3_writeThunk_26 ?_
  refine br_get (f := 1) (N := 14) (C := RX2) (T := TX2) S inT_X2 wd_1_109 (by decide) rfl rfl (by decide) rfl dX3_writeThunk_29 ?_
  refine br_iload_n S 1 dX3_writeThunk_32 rfl rfl ?_
  obtain ⟨g5, h⟩ := h
  refine br_iald (n := 30) S ⟨by decide, by decide, fun _ => rfl⟩ g5.1 g5.2 dX3_writeThunk_33 ?_
  refine br_callVv (As := [.int (bI (-1)), .int (bI (σ4 23 a1))]) (rest := []) S (cwV_X5_append S.2.2.2.2 wd_3_42 ⟨by decide, by decide⟩) (mX5_append l G σ4 (-1) (by decide) (σ4 23 a1) (hσ4 23 a1) h) (by decide) rfl rfl rfl hσ4 rfl rfl (Nat.le_of_ble_eq_true rfl) ⟨by decide, by decide⟩ dX3_writeThunk_34 (fun σ7 hσ7 h => ?_)
  refine br_aload_n S 0 dX3_writeThunk_37 rfl rfl ?_
  refine br_get (f := 3) (N := 7) (C := RX3) (T := TX3) S inT_X3 wd_1_189 (by decide) rfl rfl (by decide) rfl dX3_writeThunk_38 ?_
  refine br_iconst S dX3_writeThunk_41 ?_
  refine br_iconst S dX3_writeThunk_42 ?_
  refine br_callVv (As := [.int (bI (-1)), .int (bI 5)]) (rest := []) S (cwV_X5_append S.2.2.2.2 wd_3_42 ⟨by decide, by decide⟩) (mX5_append l G σ7 (-1) (by decide) 5 (by decide) h) (by decide) rfl rfl rfl hσ7 rfl rfl (Nat.le_of_ble_eq_true rfl) ⟨by decide, by decide⟩ dX3_writeThunk_43 (fun σ9 hσ9 h => ?_)
  refine br_aload_n S 0 dX3_writeThunk_46 rfl rfl ?_
  refine br_get (f := 3) (N := 7) (C := RX3) (T := TX3) S inT_X3 wd_1_189 (by decide) rfl rfl (by decide) rfl dX3_writeThunk_47 ?_
  refine br_iconst S dX3_writeThunk_50 ?_
  refine br_aload_n S 0 dX3_writeThunk_51 rfl rfl ?_
  refine br_get (f := 2) (N := 7) (C := RX3) (T := TX3) S inT_X3 wd_1_188 (by decide) rfl rfl (by decide) rfl dX3_writeThunk_52 ?_
  refine br_get (f := 2) (N := 14) (C := RX2) (T := TX2) S inT_X2 wd_1_112 (by decide) rfl rfl (by decide) rfl dX3_writeThunk_55 ?_
  refine br_iload_n S 1 dX3_writeThunk_58 rfl rfl ?_
  refine br_iald (n := 30) S ⟨by decide, by decide, fun _ => rfl⟩ g5.1 g5.2 dX3_writeThunk_59 ?_
  refine br_callVv (As := [.int (bI (-1)), .int (bI (σ9 24 a1))]) (rest := []) S (cwV_X5_appendAddress S.2.2.2.2 wd_3_52 ⟨by decide, by decide⟩) (mX5_appendAddress l G σ9 (-1) (by decide) (σ9 24 a1) (hσ9 24 a1) h) (by decide) rfl rfl rfl hσ9 rfl rfl (Nat.le_of_ble_eq_true rfl) ⟨by decide, by decide⟩ dX3_writeThunk_60 (fun σ11 hσ11 h => ?_)
  refine br_aload_n S 0 dX3_writeThunk_63 rfl rfl ?_
  refine br_get (f := 3) (N := 7) (C := RX3) (T := TX3) S inT_X3 wd_1_189 (by decide) rfl rfl (by decide) rfl dX3_writeThunk_64 ?_
  refine br_iconst S dX3_writeThunk_67 ?_
  refine br_bipush S dX3_writeThunk_68 rfl ?_
  refine br_callVv (As := [.int (bI (-1)), .int (bI 11)]) (rest := []) S (cwV_X5_append S.2.2.2.2 wd_3_42 ⟨by decide, by decide⟩) (mX5_append l G σ11 (-1) (by decide) 11 (by decide) h) (by decide) rfl rfl rfl hσ11 rfl rfl (Nat.le_of_ble_eq_true rfl) ⟨by decide, by decide⟩ dX3_writeThunk_70 (fun σ13 hσ13 h => ?_)
  refine br_aload_n S 0 dX3_writeThunk_73 rfl rfl ?_
  refine br_get (f := 3) (N := 7) (C := RX3) (T := TX3) S inT_X3 wd_1_189 (by decide) rfl rfl (by decide) rfl dX3_writeThunk_74 ?_
  refine br_iconst S dX3_writeThunk_77 ?_
  refine br_bipush S dX3_writeThunk_78 rfl ?_
  refine br_callVv (As := [.int (bI (-1)), .int (bI 8)]) (rest := []) S (cwV_X5_append S.2.2.2.2 wd_3_42 ⟨by decide, by decide⟩) (mX5_append l G σ13 (-1) (by decide) 8 (by decide) h) (by decide) rfl rfl rfl hσ13 rfl rfl (Nat.le_of_ble_eq_true rfl) ⟨by decide, by decide⟩ dX3_writeThunk_80 (fun σ15 hσ15 h => ?_)
  exact br_vret S hr hlk hσ15 dX3_writeThunk_83 h
theorem mono_X3_writeThunk {Q Q9 : bS → Prop} {a1 : Int} {σ : bS} (hQ : ∀ σ, Q σ → Q9 σ) : vX3_writeThunk Q a1 σ → vX3_writeThunk Q9 a1 σ := mono_vX3_writeThunk hQ
theorem mX3_writeThunk (l : Launch) (G : bG) (σ : bS) (a1 : Int) (ha1 : bR a1) {Q : bS → Prop} (h : vX3_writeThunk Q a1 σ) : bk_Mv l yX3_writeThunk (Cond.code yX3_writeThunk cX3_writeThunk 2 (none) :: bT) { frames := 2, cells := 0, slots := 0, locals := 45 } G σ [.ref (G.2.2 5), .int (bI a1)] Q := by
  refine bk_Mv.of (cc := cX3_writeThunk) (maxL := 2) (ret := none) (by decide) rfl (Nat.le_of_ble_eq_true rfl) ?_
  intro p e s m args below meth c S hr hlk hσ
  exact wX3_writeThunk_e S hr hlk ha1 hσ h
def vX3_writeThunks_31 (Q : bS → Prop) (P2 : Int → bS → Prop) (x1 : Int) (σ : bS) : Prop := (bR (x1 + 1) ∧ (P2 (x1 + 1) σ))
theorem mono_vX3_writeThunks_31 {Q Q9 : bS → Prop} {P2 P29 : Int → bS → Prop} {x1 : Int} {σ : bS} (hQ : ∀ σ, Q σ → Q9 σ) (hP2 : ∀ x1 σ, P2 x1 σ → P29 x1 σ) : vX3_writeThunks_31 Q P2 x1 σ → vX3_writeThunks_31 Q9 P29 x1 σ := (bm_r (hP2 _ _))
theorem wX3_writeThunks_31 {p : Program} {l : Launch} {e : Env} {s : State} {m : MethodId} {args : Array Value} {below : List Frame} {meth : Method} {c : Code} {G : bG} {σ0 : bS} {Q : bS → Prop} {P2 : Int → bS → Prop} {x1 : Int} {σ : bS} (S : CallFix p m c cX3_writeThunks 2 s args bT "BankLinker$Linker") (hr : meth.sig.returnType = none) (hlk : meth.locks = false) (hP2 : ∀ (x1 : Int) (σ : bS), bR x1 → bRG σ → P2 x1 σ → bA p l e { frames := 3, cells := 0, slots := 0, locals := 66 } s m args below meth c 0 0 (bQv below args s G σ0 Q) G (va_A (bk_w G σ0) s.heap.size) 2 2 [(0, .ref (G.2.2 5)), (1, .int (bI x1))] [] σ) (hx1 : bR x1) (hσ : bRG σ) (h : vX3_writeThunks_31 Q P2 x1 σ) : bA p l e { frames := 3, cells := 0, slots := 0, locals := 66 } s m args below meth c 0 0 (bQv below args s G σ0 Q) G (va_A (bk_w G σ0) s.heap.size) 2 31 [(0, .ref (G.2.2 5)), (1, .int (bI x1))] [] σ := by
  unfold vX3_writeThunks_31 at h
  refine br_iinc S 1 [(1, .int (bI (x1 + 1))), (0, .ref (G.2.2 5))] dX3_writeThunks_31 rfl (by decide) rfl ?_
  refine br_goto S 2 dX3_writeThunks_34 (by decide) ?_
  obtain ⟨g1, h⟩ := h
  exact bA.perm [1, 0] rfl <| hP2 (x1 + 1) σ g1 hσ h
def bX3_writeThunks_2 (Q : bS → Prop) (P2 : Int → bS → Prop) (x1 : Int) (σ : bS) : Prop := (((σ 1 2) ≤ x1 → (Q σ)) ∧ (¬ (σ 1 2) ≤ x1 → ((0 ≤ x1 ∧ x1 < 30) ∧ (((σ 25 x1) = (-1) → (vX3_writeThunks_31 Q P2 x1 σ)) ∧ (¬ (σ 25 x1) = (-1) → (vX3_writeThunk (fun σ5 => (vX3_writeThunks_31 Q P2 x1 σ5)) x1 σ))))))
theorem mono_bX3_writeThunks_2 {Q Q9 : bS → Prop} {P2 P29 : Int → bS → Prop} {x1 : Int} {σ : bS} (hQ : ∀ σ, Q σ → Q9 σ) (hP2 : ∀ x1 σ, P2 x1 σ → P29 x1 σ) : bX3_writeThunks_2 Q P2 x1 σ → bX3_writeThunks_2 Q9 P29 x1 σ := (bm_and (bm_imp (hQ _)) (bm_imp (bm_r (bm_and (bm_imp (mono_vX3_writeThunks_31 hQ hP2)) (bm_imp (mono_X3_writeThunk (fun _ => (mono_vX3_writeThunks_31 hQ hP2))))))))
theorem wX3_writeThunks_2 {p : Program} {l : Launch} {e : Env} {s : State} {m : MethodId} {args : Array Value} {below : List Frame} {meth : Method} {c : Code} {G : bG} {σ0 : bS} {Q : bS → Prop} {P2 : Int → bS → Prop} {x1 : Int} {σ : bS} (S : CallFix p m c cX3_writeThunks 2 s args bT "BankLinker$Linker") (hr : meth.sig.returnType = none) (hlk : meth.locks = false) (hP2 : ∀ (x1 : Int) (σ : bS), bR x1 → bRG σ → P2 x1 σ → bA p l e { frames := 3, cells := 0, slots := 0, locals := 66 } s m args below meth c 0 0 (bQv below args s G σ0 Q) G (va_A (bk_w G σ0) s.heap.size) 2 2 [(0, .ref (G.2.2 5)), (1, .int (bI x1))] [] σ) (hx1 : bR x1) (hσ : bRG σ) (h : bX3_writeThunks_2 Q P2 x1 σ) : bA p l e { frames := 3, cells := 0, slots := 0, locals := 66 } s m args below meth c 0 0 (bQv below args s G σ0 Q) G (va_A (bk_w G σ0) s.heap.size) 2 2 [(0, .ref (G.2.2 5)), (1, .int (bI x1))] [] σ := by
  unfold bX3_writeThunks_2 at h
  refine br_iload_n S 1 dX3_writeThunks_2 rfl rfl ?_
  refine br_aload_n S 0 dX3_writeThunks_3 rfl rfl ?_
  refine br_get (f := 0) (N := 7) (C := RX3) (T := TX3) S inT_X3 wd_1_186 (by decide) rfl rfl (by decide) rfl dX3_writeThunks_4 ?_
  refine br_get (f := 2) (N := 9) (C := RX6) (T := TX6) S inT_X6 wd_1_47 (by decide) rfl rfl (by decide) rfl dX3_writeThunks_7 ?_
  refine br_ic_ge S 37 hx1 (hσ 1 2) dX3_writeThunks_10 (by decide) (fun c1 => ?_) (fun c1 => ?_)
  · replace h := h.1 c1
    exact br_vret S hr hlk hσ dX3_writeThunks_37 h
  · replace h := h.2 c1
    refine br_aload_n S 0 dX3_writeThunks_13 rfl rfl ?_
    refine br_get (f := 2) (N := 7) (C := RX3) (T := TX3) S inT_X3 wd_1_188 (by decide) rfl rfl (by decide) rfl dX3_writeThunks_14 ?_
    refine br_get (f := 3) (N := 14) (C := RX2) (T := TX2) S inT_X2 wd_1_115 (by decide) rfl rfl (by decide) rfl dX3_writeThunks_17 ?_
    refine br_iload_n S 1 dX3_writeThunks_20 rfl rfl ?_
    obtain ⟨g2, h⟩ := h
    refine br_iald (n := 30) S ⟨by decide, by decide, fun _ => rfl⟩ g2.1 g2.2 dX3_writeThunks_21 ?_
    refine br_iconst S dX3_writeThunks_22 ?_
    refine br_ic_eq S 31 (hσ 25 x1) (by decide) dX3_writeThunks_23 (by decide) (fun c3 => ?_) (fun c3 => ?_)
    · replace h := h.1 c3
      exact wX3_writeThunks_31 S hr hlk hP2 hx1 hσ h
    · replace h := h.2 c3
      refine br_aload_n S 0 dX3_writeThunks_26 rfl rfl ?_
      refine br_iload_n S 1 dX3_writeThunks_27 rfl rfl ?_
      refine br_callVv (As := [.int (bI x1)]) (rest := []) S (cwV_X3_writeThunk S.2.2.2.2 wd_3_62 ⟨by decide, by decide⟩) (mX3_writeThunk l G σ x1 hx1 h) (by decide) rfl rfl rfl hσ rfl rfl (Nat.le_of_ble_eq_true rfl) ⟨by decide, by decide⟩ dX3_writeThunks_28 (fun σ5 hσ5 h => ?_)
      exact wX3_writeThunks_31 S hr hlk hP2 hx1 hσ5 h
def eX3_writeThunks (Q : bS → Prop) (P2 : Int → bS → Prop) (σ : bS) : Prop := (P2 0 σ)
theorem mono_eX3_writeThunks {Q Q9 : bS → Prop} {P2 P29 : Int → bS → Prop} {σ : bS} (hQ : ∀ σ, Q σ → Q9 σ) (hP2 : ∀ x1 σ, P2 x1 σ → P29 x1 σ) : eX3_writeThunks Q P2 σ → eX3_writeThunks Q9 P29 σ := (hP2 _ _)
theorem wX3_writeThunks_e {p : Program} {l : Launch} {e : Env} {s : State} {m : MethodId} {args : Array Value} {below : List Frame} {meth : Method} {c : Code} {G : bG} {σ0 : bS} {Q : bS → Prop} {P2 : Int → bS → Prop} {σ : bS} (S : CallFix p m c cX3_writeThunks 2 s args bT "BankLinker$Linker") (hr : meth.sig.returnType = none) (hlk : meth.locks = false) (hP2 : ∀ (x1 : Int) (σ : bS), bR x1 → bRG σ → P2 x1 σ → bA p l e { frames := 3, cells := 0, slots := 0, locals := 66 } s m args below meth c 0 0 (bQv below args s G σ0 Q) G (va_A (bk_w G σ0) s.heap.size) 2 2 [(0, .ref (G.2.2 5)), (1, .int (bI x1))] [] σ) (hσ : bRG σ) (h : eX3_writeThunks Q P2 σ) : bA p l e { frames := 3, cells := 0, slots := 0, locals := 66 } s m args below meth c 0 0 (bQv below args s G σ0 Q) G (va_A (bk_w G σ0) s.heap.size) 2 0 [(0, .ref (G.2.2 5))] [] σ := by
  unfold eX3_writeThunks at h
  refine br_iconst S dX3_writeThunks_0 ?_
  refine br_istore_n S [(1, .int (bI 0)), (0, .ref (G.2.2 5))] dX3_writeThunks_1 rfl (by decide) rfl ?_
  exact bA.perm [1, 0] rfl <| hP2 0 σ (by decide) hσ h
def LX3_writeThunks_2 (Q : bS → Prop) (x1 : Int) (σ : bS) : Prop := ∀ (P2 : Int → bS → Prop), (∀ x1 σ, bX3_writeThunks_2 Q P2 x1 σ → P2 x1 σ) → P2 x1 σ
theorem LX3_writeThunks_2_in {Q : bS → Prop} {x1 : Int} {σ : bS} (h : bX3_writeThunks_2 Q (LX3_writeThunks_2 Q) x1 σ) : LX3_writeThunks_2 Q x1 σ := fun P2 H2 => H2 _ _ (mono_bX3_writeThunks_2 (fun _ h => h) (fun _ _ h => h P2 H2) h)
theorem mono_LX3_writeThunks_2 {Q Q9 : bS → Prop} {x1 : Int} {σ : bS} (hQ : ∀ σ, Q σ → Q9 σ) (h : LX3_writeThunks_2 Q x1 σ) : LX3_writeThunks_2 Q9 x1 σ := fun P2 H2 => h P2 (fun _ _ hb => H2 _ _ (mono_bX3_writeThunks_2 hQ (fun _ _ h => h) hb))
def vX3_writeThunks (Q : bS → Prop) (σ : bS) : Prop := eX3_writeThunks Q (LX3_writeThunks_2 Q) σ
theorem mono_vX3_writeThunks {Q Q9 : bS → Prop} {σ : bS} (hQ : ∀ σ, Q σ → Q9 σ) : vX3_writeThunks Q σ → vX3_writeThunks Q9 σ := mono_eX3_writeThunks hQ (fun _ _ h => mono_LX3_writeThunks_2 hQ h)
theorem mono_X3_writeThunks {Q Q9 : bS → Prop} {σ : bS} (hQ : ∀ σ, Q σ → Q9 σ) : vX3_writeThunks Q σ → vX3_writeThunks Q9 σ := mono_vX3_writeThunks hQ
theorem mX3_writeThunks (l : Launch) (G : bG) (σ : bS) {Q : bS → Prop} (h : vX3_writeThunks Q σ) : bk_Mv l yX3_writeThunks (Cond.code yX3_writeThunks cX3_writeThunks 2 (none) :: bT) { frames := 3, cells := 0, slots := 0, locals := 66 } G σ [.ref (G.2.2 5)] Q := by
  refine bk_Mv.of (cc := cX3_writeThunks) (maxL := 2) (ret := none) (by decide) rfl (Nat.le_of_ble_eq_true rfl) ?_
  intro p e s m args below meth c S hr hlk hσ
  let K2 : Int → bS → Prop := fun x1 τ => bR x1 → bRG τ → bA p l e { frames := 3, cells := 0, slots := 0, locals := 66 } s m args below meth c 0 0 (bQv below args s G σ Q) G (va_A (bk_w G σ) s.heap.size) 2 2 [(0, .ref (G.2.2 5)), (1, .int (bI x1))] [] τ
  have C2 : ∀ x1 τ, bX3_writeThunks_2 Q K2 x1 τ → K2 x1 τ := fun x1 τ hb hx1 hτ => wX3_writeThunks_2 S hr hlk (fun x1 σ hx1 hσ h => h hx1 hσ) hx1 hτ hb
  exact wX3_writeThunks_e S hr hlk (fun x1 σ hx1 hσ h => h K2 C2 hx1 hσ) hσ h
def vX3_linkAll (Q : Int → bS → Prop) (σ : bS) : Prop := (vX3_blame (fun z1 σ2 => (vX5_empty (fun σ4 => (vX0_trace (fun σ6 => (vX3_findStrayJump (fun z7 σ8 => ((¬ z7 = 0 → (Q 0 σ8)) ∧ (z7 = 0 → (vX3_findLoopOfCalls (fun z10 σ11 => ((z10 = 0 → (vX2_measure (fun σ14 => (vX3_findBigModule (fun z15 σ16 => ((¬ z15 = 0 → (Q 0 σ16)) ∧ (z15 = 0 → (vX3_findNoRoom (fun z18 σ19 => ((z18 = 0 → (vX2_placeRoutines (fun σ22 => (vX2_placeThunks (fun σ24 => (vX2_countFarCalls (fun σ26 => (vX2_settleNeeds (fun σ28 => (vX3_findSmallCommon (fun z29 σ30 => ((¬ z29 = 0 → (Q 0 σ30)) ∧ (z29 = 0 → (vX3_findFewCells (fun z32 σ33 => ((¬ z32 = 0 → (Q 0 σ33)) ∧ (z32 = 0 → (vX3_findLowStack (fun z35 σ36 => ((z35 = 0 → (vX3_writeModules (fun σ39 => (vX3_writeThunks (fun σ41 => (Q 1 σ41))  σ39))  σ36)) ∧ (¬ z35 = 0 → (Q 0 σ36))))  σ33))))  σ30))))  σ28))  σ26))  σ24))  σ22))  σ19)) ∧ (¬ z18 = 0 → (Q 0 σ19))))  σ16))))  σ14))  σ11)) ∧ (¬ z10 = 0 → (Q 0 σ11))))  σ8))))  σ6))  σ4))  σ2)) 0 (-1) (-1) σ)
theorem mono_vX3_linkAll {Q Q9 : Int → bS → Prop} {σ : bS} (hQ : ∀ r σ, Q r σ → Q9 r σ) : vX3_linkAll Q σ → vX3_linkAll Q9 σ := (mono_X3_blame (fun _ _ => (mono_X5_empty (fun _ => (mono_X0_trace (fun _ => (mono_X3_findStrayJump (fun _ _ => (bm_and (bm_imp (hQ _ _)) (bm_imp (mono_X3_findLoopOfCalls (fun _ _ => (bm_and (bm_imp (mono_X2_measure (fun _ => (mono_X3_findBigModule (fun _ _ => (bm_and (bm_imp (hQ _ _)) (bm_imp (mono_X3_findNoRoom (fun _ _ => (bm_and (bm_imp (mono_X2_placeRoutines (fun _ => (mono_X2_placeThunks (fun _ => (mono_X2_countFarCalls (fun _ => (mono_X2_settleNeeds (fun _ => (mono_X3_findSmallCommon (fun _ _ => (bm_and (bm_imp (hQ _ _)) (bm_imp (mono_X3_findFewCells (fun _ _ => (bm_and (bm_imp (hQ _ _)) (bm_imp (mono_X3_findLowStack (fun _ _ => (bm_and (bm_imp (mono_X3_writeModules (fun _ => (mono_X3_writeThunks (fun _ => (hQ _ _)))))) (bm_imp (hQ _ _)))))))))))))))))))))) (bm_imp (hQ _ _)))))))))))) (bm_imp (hQ _ _)))))))))))))))
theorem wX3_linkAll_e {p : Program} {l : Launch} {e : Env} {s : State} {m : MethodId} {args : Array Value} {below : List Frame} {meth : Method} {c : Code} {G : bG} {σ0 : bS} {Q : Int → bS → Prop} {σ : bS} (S : CallFix p m c cX3_linkAll 1 s args bT "BankLinker$Linker") (hr : meth.sig.returnType = some .boolean) (hlk : meth.locks = false) (hσ : bRG σ) (h : vX3_linkAll Q σ) : bA p l e { frames := 5, cells := 0, slots := 0, locals := 116 } s m args below meth c 0 0 (bQi below args s G σ0 Q) G (va_A (bk_w G σ0) s.heap.size) 1 0 [(0, .ref (G.2.2 5))] [] σ := by
  unfold vX3_linkAll at h
  refine br_aload_n S 0 dX3_linkAll_0 rfl rfl ?_
  refine br_iconst S dX3_linkAll_1 ?_
  refine br_iconst S dX3_linkAll_2 ?_
  refine br_iconst S dX3_linkAll_3 ?_
  refine br_callV (As := [.int (bI 0), .int (bI (-1)), .int (bI (-1))]) (rest := []) S (cwV_X3_blame S.2.2.2.2 wd_2_145 ⟨by decide, by decide⟩) (mX3_blame l G σ 0 (by decide) (-1) (by decide) (-1) (by decide) h) (by decide) rfl rfl rfl hσ rfl rfl (Nat.le_of_ble_eq_true rfl) ⟨by decide, by decide⟩ dX3_linkAll_4 (fun z1 σ2 hz1 hσ2 h => ?_)
  refine br_pop S dX3_linkAll_7 rfl ?_
  refine br_aload_n S 0 dX3_linkAll_8 rfl rfl ?_
  refine br_get (f := 3) (N := 7) (C := RX3) (T := TX3) S inT_X3 wd_1_189 (by decide) rfl rfl (by decide) rfl dX3_linkAll_9 ?_
  refine br_callVv (As := []) (rest := []) S (cwV_X5_empty S.2.2.2.2 wd_2_149 ⟨by decide, by decide⟩) (mX5_empty l G σ2 h) (by decide) rfl rfl rfl hσ2 rfl rfl (Nat.le_of_ble_eq_true rfl) ⟨by decide, by decide⟩ dX3_linkAll_12 (fun σ4 hσ4 h => ?_)
  refine br_aload_n S 0 dX3_linkAll_15 rfl rfl ?_
  refine br_get (f := 1) (N := 7) (C := RX3) (T := TX3) S inT_X3 wd_1_187 (by decide) rfl rfl (by decide) rfl dX3_linkAll_16 ?_
  refine br_aload_n S 0 dX3_linkAll_19 rfl rfl ?_
  refine br_get (f := 0) (N := 7) (C := RX3) (T := TX3) S inT_X3 wd_1_186 (by decide) rfl rfl (by decide) rfl dX3_linkAll_20 ?_
  refine br_callVv (As := [.ref (G.2.2 1)]) (rest := []) S (cwV_X0_trace S.2.2.2.2 wd_2_156 ⟨by decide, by decide⟩) (mX0_trace l G σ4 h) (by decide) rfl rfl rfl hσ4 rfl rfl (Nat.le_of_ble_eq_true rfl) ⟨by decide, by decide⟩ dX3_linkAll_23 (fun σ6 hσ6 h => ?_)
  refine br_aload_n S 0 dX3_linkAll_26 rfl rfl ?_
  refine br_callV (As := []) (rest := []) S (cwV_X3_findStrayJump S.2.2.2.2 wd_2_175 ⟨by decide, by decide⟩) (mX3_findStrayJump l G σ6 h) (by decide) rfl rfl rfl hσ6 rfl rfl (Nat.le_of_ble_eq_true rfl) ⟨by decide, by decide⟩ dX3_linkAll_27 (fun z7 σ8 hz7 hσ8 h => ?_)
  refine br_if_ne S 40 hz7 dX3_linkAll_30 (by decide) (fun c9 => ?_) (fun c9 => ?_)
  · replace h := h.1 c9
    refine br_iconst S dX3_linkAll_40 ?_
    exact br_zret S hr hlk (by decide) hσ8 dX3_linkAll_41 h
  · replace h := h.2 c9
    refine br_aload_n S 0 dX3_linkAll_33 rfl rfl ?_
    refine br_callV (As := []) (rest := []) S (cwV_X3_findLoopOfCalls S.2.2.2.2 wd_2_185 ⟨by decide, by decide⟩) (mX3_findLoopOfCalls l G σ8 h) (by decide) rfl rfl rfl hσ8 rfl rfl (Nat.le_of_ble_eq_true rfl) ⟨by decide, by decide⟩ dX3_linkAll_34 (fun z10 σ11 hz10 hσ11 h => ?_)
    refine br_if_eq S 42 hz10 dX3_linkAll_37 (by decide) (fun c12 => ?_) (fun c12 => ?_)
    · replace h := h.1 c12
      refine br_aload_n S 0 dX3_linkAll_42 rfl rfl ?_
      refine br_get (f := 2) (N := 7) (C := RX3) (T := TX3) S inT_X3 wd_1_188 (by decide) rfl rfl (by decide) rfl dX3_linkAll_43 ?_
      refine br_aload_n S 0 dX3_linkAll_46 rfl rfl ?_
      refine br_get (f := 0) (N := 7) (C := RX3) (T := TX3) S inT_X3 wd_1_186 (by decide) rfl rfl (by decide) rfl dX3_linkAll_47 ?_
      refine br_callVv (As := [.ref (G.2.2 1)]) (rest := []) S (cwV_X2_measure S.2.2.2.2 wd_2_190 ⟨by decide, by decide⟩) (mX2_measure l G σ11 h) (by decide) rfl rfl rfl hσ11 rfl rfl (Nat.le_of_ble_eq_true rfl) ⟨by decide, by decide⟩ dX3_linkAll_50 (fun σ14 hσ14 h => ?_)
      refine br_aload_n S 0 dX3_linkAll_53 rfl rfl ?_
      refine br_callV (As := []) (rest := []) S (cwV_X3_findBigModule S.2.2.2.2 wd_2_209 ⟨by decide, by decide⟩) (mX3_findBigModule l G σ14 h) (by decide) rfl rfl rfl hσ14 rfl rfl (Nat.le_of_ble_eq_true rfl) ⟨by decide, by decide⟩ dX3_linkAll_54 (fun z15 σ16 hz15 hσ16 h => ?_)
      refine br_if_ne S 67 hz15 dX3_linkAll_57 (by decide) (fun c17 => ?_) (fun c17 => ?_)
      · replace h := h.1 c17
        refine br_iconst S dX3_linkAll_67 ?_
        exact br_zret S hr hlk (by decide) hσ16 dX3_linkAll_68 h
      · replace h := h.2 c17
        refine br_aload_n S 0 dX3_linkAll_60 rfl rfl ?_
        refine br_callV (As := []) (rest := []) S (cwV_X3_findNoRoom S.2.2.2.2 wd_2_213 ⟨by decide, by decide⟩) (mX3_findNoRoom l G σ16 h) (by decide) rfl rfl rfl hσ16 rfl rfl (Nat.le_of_ble_eq_true rfl) ⟨by decide, by decide⟩ dX3_linkAll_61 (fun z18 σ19 hz18 hσ19 h => ?_)
        refine br_if_eq S 69 hz18 dX3_linkAll_64 (by decide) (fun c20 => ?_) (fun c20 => ?_)
        · replace h := h.1 c20
          refine br_aload_n S 0 dX3_linkAll_69 rfl rfl ?_
          refine br_get (f := 2) (N := 7) (C := RX3) (T := TX3) S inT_X3 wd_1_188 (by decide) rfl rfl (by decide) rfl dX3_linkAll_70 ?_
          refine br_aload_n S 0 dX3_linkAll_73 rfl rfl ?_
          refine br_get (f := 0) (N := 7) (C := RX3) (T := TX3) S inT_X3 wd_1_186 (by decide) rfl rfl (by decide) rfl dX3_linkAll_74 ?_
          refine br_callVv (As := [.ref (G.2.2 1)]) (rest := []) S (cwV_X2_placeRoutines S.2.2.2.2 wd_2_225 ⟨by decide, by decide⟩) (mX2_placeRoutines l G σ19 h) (by decide) rfl rfl rfl hσ19 rfl rfl (Nat.le_of_ble_eq_true rfl) ⟨by decide, by decide⟩ dX3_linkAll_77 (fun σ22 hσ22 h => ?_)
          refine br_aload_n S 0 dX3_linkAll_80 rfl rfl ?_
          refine br_get (f := 2) (N := 7) (C := RX3) (T := TX3) S inT_X3 wd_1_188 (by decide) rfl rfl (by decide) rfl dX3_linkAll_81 ?_
          refine br_aload_n S 0 dX3_linkAll_84 rfl rfl ?_
          refine br_get (f := 0) (N := 7) (C := RX3) (T := TX3) S inT_X3 wd_1_186 (by decide) rfl rfl (by decide) rfl dX3_linkAll_85 ?_
          refine br_aload_n S 0 dX3_linkAll_88 rfl rfl ?_
          refine br_get (f := 1) (N := 7) (C := RX3) (T := TX3) S inT_X3 wd_1_187 (by decide) rfl rfl (by decide) rfl dX3_linkAll_89 ?_
          refine br_callVv (As := [.ref (G.2.2 1), .ref (G.2.2 2)]) (rest := []) S (cwV_X2_placeThunks S.2.2.2.2 wd_2_229 ⟨by decide, by decide⟩) (mX2_placeThunks l G σ22 h) (by decide) rfl rfl rfl hσ22 rfl rfl (Nat.le_of_ble_eq_true rfl) ⟨by decide, by decide⟩ dX3_linkAll_92 (fun σ24 hσ24 h => ?_)
          refine br_aload_n S 0 dX3_linkAll_95 rfl rfl ?_
          refine br_get (f := 2) (N := 7) (C := RX3) (T := TX3) S inT_X3 wd_1_188 (by decide) rfl rfl (by decide) rfl dX3_linkAll_96 ?_
          refine br_aload_n S 0 dX3_linkAll_99 rfl rfl ?_
          refine br_get (f := 0) (N := 7) (C := RX3) (T := TX3) S inT_X3 wd_1_186 (by decide) rfl rfl (by decide) rfl dX3_linkAll_100 ?_
          refine br_callVv (As := [.ref (G.2.2 1)]) (rest := []) S (cwV_X2_countFarCalls S.2.2.2.2 wd_3_5 ⟨by decide, by decide⟩) (mX2_countFarCalls l G σ24 h) (by decide) rfl rfl rfl hσ24 rfl rfl (Nat.le_of_ble_eq_true rfl) ⟨by decide, by decide⟩ dX3_linkAll_103 (fun σ26 hσ26 h => ?_)
          refine br_aload_n S 0 dX3_linkAll_106 rfl rfl ?_
          refine br_get (f := 2) (N := 7) (C := RX3) (T := TX3) S inT_X3 wd_1_188 (by decide) rfl rfl (by decide) rfl dX3_linkAll_107 ?_
          refine br_aload_n S 0 dX3_linkAll_110 rfl rfl ?_
          refine br_get (f := 0) (N := 7) (C := RX3) (T := TX3) S inT_X3 wd_1_186 (by decide) rfl rfl (by decide) rfl dX3_linkAll_111 ?_
          refine br_aload_n S 0 dX3_linkAll_114 rfl rfl ?_
          refine br_get (f := 1) (N := 7) (C := RX3) (T := TX3) S inT_X3 wd_1_187 (by decide) rfl rfl (by decide) rfl dX3_linkAll_115 ?_
          refine br_callVv (As := [.ref (G.2.2 1), .ref (G.2.2 2)]) (rest := []) S (cwV_X2_settleNeeds S.2.2.2.2 wd_3_11 ⟨by decide, by decide⟩) (mX2_settleNeeds l G σ26 h) (by decide) rfl rfl rfl hσ26 rfl rfl (Nat.le_of_ble_eq_true rfl) ⟨by decide, by decide⟩ dX3_linkAll_118 (fun σ28 hσ28 h => ?_)
          refine br_aload_n S 0 dX3_linkAll_121 rfl rfl ?_
          refine br_callV (As := []) (rest := []) S (cwV_X3_findSmallCommon S.2.2.2.2 wd_3_22 ⟨by decide, by decide⟩) (mX3_findSmallCommon l G σ28 h) (by decide) rfl rfl rfl hσ28 rfl rfl (Nat.le_of_ble_eq_true rfl) ⟨by decide, by decide⟩ dX3_linkAll_122 (fun z29 σ30 hz29 hσ30 h => ?_)
          refine br_if_ne S 142 hz29 dX3_linkAll_125 (by decide) (fun c31 => ?_) (fun c31 => ?_)
          · replace h := h.1 c31
            refine br_iconst S dX3_linkAll_142 ?_
            exact br_zret S hr hlk (by decide) hσ30 dX3_linkAll_143 h
          · replace h := h.2 c31
            refine br_aload_n S 0 dX3_linkAll_128 rfl rfl ?_
            refine br_callV (As := []) (rest := []) S (cwV_X3_findFewCells S.2.2.2.2 wd_3_26 ⟨by decide, by decide⟩) (mX3_findFewCells l G σ30 h) (by decide) rfl rfl rfl hσ30 rfl rfl (Nat.le_of_ble_eq_true rfl) ⟨by decide, by decide⟩ dX3_linkAll_129 (fun z32 σ33 hz32 hσ33 h => ?_)
            refine br_if_ne S 142 hz32 dX3_linkAll_132 (by decide) (fun c34 => ?_) (fun c34 => ?_)
            · replace h := h.1 c34
              refine br_iconst S dX3_linkAll_142 ?_
              exact br_zret S hr hlk (by decide) hσ33 dX3_linkAll_143 h
            · replace h := h.2 c34
              refine br_aload_n S 0 dX3_linkAll_135 rfl rfl ?_
              refine br_callV (As := []) (rest := []) S (cwV_X3_findLowStack S.2.2.2.2 wd_3_30 ⟨by decide, by decide⟩) (mX3_findLowStack l G σ33 h) (by decide) rfl rfl rfl hσ33 rfl rfl (Nat.le_of_ble_eq_true rfl) ⟨by decide, by decide⟩ dX3_linkAll_136 (fun z35 σ36 hz35 hσ36 h => ?_)
              refine br_if_eq S 144 hz35 dX3_linkAll_139 (by decide) (fun c37 => ?_) (fun c37 => ?_)
              · replace h := h.1 c37
                refine br_aload_n S 0 dX3_linkAll_144 rfl rfl ?_
                refine br_callVv (As := []) (rest := []) S (cwV_X3_writeModules S.2.2.2.2 wd_3_34 ⟨by decide, by decide⟩) (mX3_writeModules l G σ36 h) (by decide) rfl rfl rfl hσ36 rfl rfl (Nat.le_of_ble_eq_true rfl) ⟨by decide, by decide⟩ dX3_linkAll_145 (fun σ39 hσ39 h => ?_)
                refine br_aload_n S 0 dX3_linkAll_148 rfl rfl ?_
                refine br_callVv (As := []) (rest := []) S (cwV_X3_writeThunks S.2.2.2.2 wd_3_58 ⟨by decide, by decide⟩) (mX3_writeThunks l G σ39 h) (by decide) rfl rfl rfl hσ39 rfl rfl (Nat.le_of_ble_eq_true rfl) ⟨by decide, by decide⟩ dX3_linkAll_149 (fun σ41 hσ41 h => ?_)
                refine br_iconst S dX3_linkAll_152 ?_
                exact br_zret S hr hlk (by decide) hσ41 dX3_linkAll_153 h
              · replace h := h.2 c37
                refine br_iconst S dX3_linkAll_142 ?_
                exact br_zret S hr hlk (by decide) hσ36 dX3_linkAll_143 h
        · replace h := h.2 c20
          refine br_iconst S dX3_linkAll_67 ?_
          exact br_zret S hr hlk (by decide) hσ19 dX3_linkAll_68 h
    · replace h := h.2 c12
      refine br_iconst S dX3_linkAll_40 ?_
      exact br_zret S hr hlk (by decide) hσ11 dX3_linkAll_41 h
theorem mono_X3_linkAll {Q Q9 : Int → bS → Prop} {σ : bS} (hQ : ∀ r σ, Q r σ → Q9 r σ) : vX3_linkAll Q σ → vX3_linkAll Q9 σ := mono_vX3_linkAll hQ
theorem mX3_linkAll (l : Launch) (G : bG) (σ : bS) {Q : Int → bS → Prop} (h : vX3_linkAll Q σ) : bk_Mi l yX3_linkAll (Cond.code yX3_linkAll cX3_linkAll 1 (some .boolean) :: bT) { frames := 5, cells := 0, slots := 0, locals := 116 } G σ [.ref (G.2.2 5)] Q := by
  refine bk_Mi.of (cc := cX3_linkAll) (maxL := 1) (ret := some .boolean) (by decide) rfl (Nat.le_of_ble_eq_true rfl) ?_
  intro p e s m args below meth c S hr hlk hσ
  exact wX3_linkAll_e S hr hlk hσ h

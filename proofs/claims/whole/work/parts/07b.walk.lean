def vX0_calledBy_35 (Q : Int → bS → Prop) (P4 : Int → Int → Int → bS → Prop) (x1 : Int) (x2 : Int) (x3 : Int) (σ : bS) : Prop := (bR (x3 + 1) ∧ (P4 x1 x2 (x3 + 1) σ))
theorem mono_vX0_calledBy_35 {Q Q9 : Int → bS → Prop} {P4 P49 : Int → Int → Int → bS → Prop} {x1 : Int} {x2 : Int} {x3 : Int} {σ : bS} (hQ : ∀ r σ, Q r σ → Q9 r σ) (hP4 : ∀ x1 x2 x3 σ, P4 x1 x2 x3 σ → P49 x1 x2 x3 σ) : vX0_calledBy_35 Q P4 x1 x2 x3 σ → vX0_calledBy_35 Q9 P49 x1 x2 x3 σ := (bm_r (hP4 _ _ _ _))
theorem wX0_calledBy_35 {p : Program} {l : Launch} {e : Env} {s : State} {m : MethodId} {args : Array Value} {below : List Frame} {meth : Method} {c : Code} {G : bG} {σ0 : bS} {Q : Int → bS → Prop} {P4 : Int → Int → Int → bS → Prop} {x1 : Int} {x2 : Int} {x3 : Int} {σ : bS} (S : CallFix p m c cX0_calledBy 4 s args bT "BankLinker$Calls") (hr : meth.sig.returnType = some .int) (hlk : meth.locks = false) (hP4 : ∀ (x1 : Int) (x2 : Int) (x3 : Int) (σ : bS), bR x1 → bR x2 → bR x3 → bRG σ → P4 x1 x2 x3 σ → bA p l e { frames := 1, cells := 0, slots := 0, locals := 22 } s m args below meth c 0 0 (bQi below args s G σ0 Q) G (va_A (bk_w G σ0) s.heap.size) 4 4 [(0, .ref (G.2.2 1)), (1, .int (bI x1)), (2, .int (bI x2)), (3, .int (bI x3))] [] σ) (hx1 : bR x1) (hx2 : bR x2) (hx3 : bR x3) (hσ : bRG σ) (h : vX0_calledBy_35 Q P4 x1 x2 x3 σ) : bA p l e { frames := 1, cells := 0, slots := 0, locals := 22 } s m args below meth c 0 0 (bQi below args s G σ0 Q) G (va_A (bk_w G σ0) s.heap.size) 4 35 [(0, .ref (G.2.2 1)), (1, .int (bI x1)), (2, .int (bI x2)), (3, .int (bI x3))] [] σ := by
  unfold vX0_calledBy_35 at h
  refine br_iinc S 3 [(3, .int (bI (x3 + 1))), (0, .ref (G.2.2 1)), (1, .int (bI x1)), (2, .int (bI x2))] dX0_calledBy_35 rfl (by decide) rfl ?_
  refine br_goto S 4 dX0_calledBy_38 (by decide) ?_
  obtain ⟨g1, h⟩ := h
  exact bA.perm [1, 2, 3, 0] rfl <| hP4 x1 x2 (x3 + 1) σ hx1 hx2 g1 hσ h
def bX0_calledBy_4 (Q : Int → bS → Prop) (P4 : Int → Int → Int → bS → Prop) (x1 : Int) (x2 : Int) (x3 : Int) (σ : bS) : Prop := ((0 ≤ x1 ∧ x1 < 30) ∧ (((σ 16 x1) ≤ x3 → (Q x2 σ)) ∧ (¬ (σ 16 x1) ≤ x3 → (vX6_codeAt (fun z3 σ4 => ((¬ z3 = 5 → (vX0_calledBy_35 Q P4 x1 x2 x3 σ4)) ∧ (z3 = 5 → (vX6_valueAt (fun z6 σ7 => (vX0_calledBy_35 Q P4 x1 (bor x2 (bshl 1 z6)) x3 σ7)) x1 x3 σ4)))) x1 x3 σ))))
theorem mono_bX0_calledBy_4 {Q Q9 : Int → bS → Prop} {P4 P49 : Int → Int → Int → bS → Prop} {x1 : Int} {x2 : Int} {x3 : Int} {σ : bS} (hQ : ∀ r σ, Q r σ → Q9 r σ) (hP4 : ∀ x1 x2 x3 σ, P4 x1 x2 x3 σ → P49 x1 x2 x3 σ) : bX0_calledBy_4 Q P4 x1 x2 x3 σ → bX0_calledBy_4 Q9 P49 x1 x2 x3 σ := (bm_r (bm_and (bm_imp (hQ _ _)) (bm_imp (mono_X6_codeAt (fun _ _ => (bm_and (bm_imp (mono_vX0_calledBy_35 hQ hP4)) (bm_imp (mono_X6_valueAt (fun _ _ => (mono_vX0_calledBy_35 hQ hP4))))))))))
theorem wX0_calledBy_4 {p : Program} {l : Launch} {e : Env} {s : State} {m : MethodId} {args : Array Value} {below : List Frame} {meth : Method} {c : Code} {G : bG} {σ0 : bS} {Q : Int → bS → Prop} {P4 : Int → Int → Int → bS → Prop} {x1 : Int} {x2 : Int} {x3 : Int} {σ : bS} (S : CallFix p m c cX0_calledBy 4 s args bT "BankLinker$Calls") (hr : meth.sig.returnType = some .int) (hlk : meth.locks = false) (hP4 : ∀ (x1 : Int) (x2 : Int) (x3 : Int) (σ : bS), bR x1 → bR x2 → bR x3 → bRG σ → P4 x1 x2 x3 σ → bA p l e { frames := 1, cells := 0, slots := 0, locals := 22 } s m args below meth c 0 0 (bQi below args s G σ0 Q) G (va_A (bk_w G σ0) s.heap.size) 4 4 [(0, .ref (G.2.2 1)), (1, .int (bI x1)), (2, .int (bI x2)), (3, .int (bI x3))] [] σ) (hx1 : bR x1) (hx2 : bR x2) (hx3 : bR x3) (hσ : bRG σ) (h : bX0_calledBy_4 Q P4 x1 x2 x3 σ) : bA p l e { frames := 1, cells := 0, slots := 0, locals := 22 } s m args below meth c 0 0 (bQi below args s G σ0 Q) G (va_A (bk_w G σ0) s.heap.size) 4 4 [(0, .ref (G.2.2 1)), (1, .int (bI x1)), (2, .int (bI x2)), (3, .int (bI x3))] [] σ := by
  unfold bX0_calledBy_4 at h
  refine br_iload_n S 3 dX0_calledBy_4 rfl rfl ?_
  refine br_aload_n S 0 dX0_calledBy_5 rfl rfl ?_
  refine br_get (f := 5) (N := 9) (C := RX6) (T := TX6) S inT_X6 wd_1_55 (by decide) rfl rfl (by decide) rfl dX0_calledBy_6 ?_
  refine br_iload_n S 1 dX0_calledBy_9 rfl rfl ?_
  obtain ⟨g1, h⟩ := h
  refine br_iald (n := 30) S ⟨by decide, by decide, fun _ => rfl⟩ g1.1 g1.2 dX0_calledBy_10 ?_
  refine br_ic_ge S 41 hx3 (hσ 16 x1) dX0_calledBy_11 (by decide) (fun c2 => ?_) (fun c2 => ?_)
  · replace h := h.1 c2
    refine br_iload_n S 2 dX0_calledBy_41 rfl rfl ?_
    exact br_iret S hr hlk hx2 hσ dX0_calledBy_42 h
  · replace h := h.2 c2
    refine br_aload_n S 0 dX0_calledBy_14 rfl rfl ?_
    refine br_iload_n S 1 dX0_calledBy_15 rfl rfl ?_
    refine br_iload_n S 3 dX0_calledBy_16 rfl rfl ?_
    refine br_callV (As := [.int (bI x1), .int (bI x3)]) (rest := []) S (cwV_X6_codeAt S.2.2.2.2 wd_2_163 ⟨by decide, by decide⟩) (mX6_codeAt l G σ x1 hx1 x3 hx3 h) (by decide) rfl rfl rfl hσ rfl rfl (Nat.le_of_ble_eq_true rfl) ⟨by decide, by decide⟩ dX0_calledBy_17 (fun z3 σ4 hz3 hσ4 h => ?_)
    refine br_iconst S dX0_calledBy_20 ?_
    refine br_ic_ne S 35 hz3 (by decide) dX0_calledBy_21 (by decide) (fun c5 => ?_) (fun c5 => ?_)
    · replace h := h.1 c5
      exact wX0_calledBy_35 S hr hlk hP4 hx1 hx2 hx3 hσ4 h
    · replace h := h.2 c5
      refine br_iload_n S 2 dX0_calledBy_24 rfl rfl ?_
      refine br_iconst S dX0_calledBy_25 ?_
      refine br_aload_n S 0 dX0_calledBy_26 rfl rfl ?_
      refine br_iload_n S 1 dX0_calledBy_27 rfl rfl ?_
      refine br_iload_n S 3 dX0_calledBy_28 rfl rfl ?_
      refine br_callV (As := [.int (bI x1), .int (bI x3)]) (rest := [.int (bI 1), .int (bI x2)]) S (cwV_X6_valueAt S.2.2.2.2 wd_2_167 ⟨by decide, by decide⟩) (mX6_valueAt l G σ4 x1 hx1 x3 hx3 h) (by decide) rfl rfl rfl hσ4 rfl rfl (Nat.le_of_ble_eq_true rfl) ⟨by decide, by decide⟩ dX0_calledBy_29 (fun z6 σ7 hz6 hσ7 h => ?_)
      refine br_ishl S dX0_calledBy_32 ?_
      refine br_ior S dX0_calledBy_33 ?_
      refine br_istore_n S [(2, .int (bI (bor x2 (bshl 1 z6)))), (0, .ref (G.2.2 1)), (1, .int (bI x1)), (3, .int (bI x3))] dX0_calledBy_34 rfl (by decide) rfl ?_
      exact bA.perm [1, 2, 0, 3] rfl <| wX0_calledBy_35 S hr hlk hP4 hx1 (bor_rg _ _) hx3 hσ7 h
def eX0_calledBy (Q : Int → bS → Prop) (P4 : Int → Int → Int → bS → Prop) (a1 : Int) (σ : bS) : Prop := (P4 a1 0 0 σ)
theorem mono_eX0_calledBy {Q Q9 : Int → bS → Prop} {P4 P49 : Int → Int → Int → bS → Prop} {a1 : Int} {σ : bS} (hQ : ∀ r σ, Q r σ → Q9 r σ) (hP4 : ∀ x1 x2 x3 σ, P4 x1 x2 x3 σ → P49 x1 x2 x3 σ) : eX0_calledBy Q P4 a1 σ → eX0_calledBy Q9 P49 a1 σ := (hP4 _ _ _ _)
theorem wX0_calledBy_e {p : Program} {l : Launch} {e : Env} {s : State} {m : MethodId} {args : Array Value} {below : List Frame} {meth : Method} {c : Code} {G : bG} {σ0 : bS} {Q : Int → bS → Prop} {P4 : Int → Int → Int → bS → Prop} {a1 : Int} {σ : bS} (S : CallFix p m c cX0_calledBy 4 s args bT "BankLinker$Calls") (hr : meth.sig.returnType = some .int) (hlk : meth.locks = false) (hP4 : ∀ (x1 : Int) (x2 : Int) (x3 : Int) (σ : bS), bR x1 → bR x2 → bR x3 → bRG σ → P4 x1 x2 x3 σ → bA p l e { frames := 1, cells := 0, slots := 0, locals := 22 } s m args below meth c 0 0 (bQi below args s G σ0 Q) G (va_A (bk_w G σ0) s.heap.size) 4 4 [(0, .ref (G.2.2 1)), (1, .int (bI x1)), (2, .int (bI x2)), (3, .int (bI x3))] [] σ) (ha1 : bR a1) (hσ : bRG σ) (h : eX0_calledBy Q P4 a1 σ) : bA p l e { frames := 1, cells := 0, slots := 0, locals := 22 } s m args below meth c 0 0 (bQi below args s G σ0 Q) G (va_A (bk_w G σ0) s.heap.size) 4 0 [(0, .ref (G.2.2 1)), (1, .int (bI a1))] [] σ := by
  unfold eX0_calledBy at h
  refine br_iconst S dX0_calledBy_0 ?_
  refine br_istore_n S [(2, .int (bI 0)), (0, .ref (G.2.2 1)), (1, .int (bI a1))] dX0_calledBy_1 rfl (by decide) rfl ?_
  refine br_iconst S dX0_calledBy_2 ?_
  refine br_istore_n S [(3, .int (bI 0)), (2, .int (bI 0)), (0, .ref (G.2.2 1)), (1, .int (bI a1))] dX0_calledBy_3 rfl (by decide) rfl ?_
  exact bA.perm [2, 3, 1, 0] rfl <| hP4 a1 0 0 σ ha1 (by decide) (by decide) hσ h
def LX0_calledBy_4 (Q : Int → bS → Prop) (x1 : Int) (x2 : Int) (x3 : Int) (σ : bS) : Prop := ∀ (P4 : Int → Int → Int → bS → Prop), (∀ x1 x2 x3 σ, bX0_calledBy_4 Q P4 x1 x2 x3 σ → P4 x1 x2 x3 σ) → P4 x1 x2 x3 σ
theorem LX0_calledBy_4_in {Q : Int → bS → Prop} {x1 : Int} {x2 : Int} {x3 : Int} {σ : bS} (h : bX0_calledBy_4 Q (LX0_calledBy_4 Q) x1 x2 x3 σ) : LX0_calledBy_4 Q x1 x2 x3 σ := fun P4 H4 => H4 _ _ _ _ (mono_bX0_calledBy_4 (fun _ _ h => h) (fun _ _ _ _ h => h P4 H4) h)
theorem mono_LX0_calledBy_4 {Q Q9 : Int → bS → Prop} {x1 : Int} {x2 : Int} {x3 : Int} {σ : bS} (hQ : ∀ r σ, Q r σ → Q9 r σ) (h : LX0_calledBy_4 Q x1 x2 x3 σ) : LX0_calledBy_4 Q9 x1 x2 x3 σ := fun P4 H4 => h P4 (fun _ _ _ _ hb => H4 _ _ _ _ (mono_bX0_calledBy_4 hQ (fun _ _ _ _ h => h) hb))
def vX0_calledBy (Q : Int → bS → Prop) (a1 : Int) (σ : bS) : Prop := eX0_calledBy Q (LX0_calledBy_4 Q) a1 σ
theorem mono_vX0_calledBy {Q Q9 : Int → bS → Prop} {a1 : Int} {σ : bS} (hQ : ∀ r σ, Q r σ → Q9 r σ) : vX0_calledBy Q a1 σ → vX0_calledBy Q9 a1 σ := mono_eX0_calledBy hQ (fun _ _ _ _ h => mono_LX0_calledBy_4 hQ h)
theorem mono_X0_calledBy {Q Q9 : Int → bS → Prop} {a1 : Int} {σ : bS} (hQ : ∀ r σ, Q r σ → Q9 r σ) : vX0_calledBy Q a1 σ → vX0_calledBy Q9 a1 σ := mono_vX0_calledBy hQ
theorem mX0_calledBy (l : Launch) (G : bG) (σ : bS) (a1 : Int) (ha1 : bR a1) {Q : Int → bS → Prop} (h : vX0_calledBy Q a1 σ) : bk_Mi l yX0_calledBy (Cond.code yX0_calledBy cX0_calledBy 4 (some .int) :: bT) { frames := 1, cells := 0, slots := 0, locals := 22 } G σ [.ref (G.2.2 1), .int (bI a1)] Q := by
  refine bk_Mi.of (cc := cX0_calledBy) (maxL := 4) (ret := some .int) (by decide) rfl (Nat.le_of_ble_eq_true rfl) ?_
  intro p e s m args below meth c S hr hlk hσ
  let K4 : Int → Int → Int → bS → Prop := fun x1 x2 x3 τ => bR x1 → bR x2 → bR x3 → bRG τ → bA p l e { frames := 1, cells := 0, slots := 0, locals := 22 } s m args below meth c 0 0 (bQi below args s G σ Q) G (va_A (bk_w G σ) s.heap.size) 4 4 [(0, .ref (G.2.2 1)), (1, .int (bI x1)), (2, .int (bI x2)), (3, .int (bI x3))] [] τ
  have C4 : ∀ x1 x2 x3 τ, bX0_calledBy_4 Q K4 x1 x2 x3 τ → K4 x1 x2 x3 τ := fun x1 x2 x3 τ hb hx1 hx2 hx3 hτ => wX0_calledBy_4 S hr hlk (fun x1 x2 x3 σ hx1 hx2 hx3 hσ h => h hx1 hx2 hx3 hσ) hx1 hx2 hx3 hτ hb
  exact wX0_calledBy_e S hr hlk (fun x1 x2 x3 σ hx1 hx2 hx3 hσ h => h K4 C4 hx1 hx2 hx3 hσ) ha1 hσ h
def vX0_leadTo (Q : Int → bS → Prop) (a1 : Int) (a2 : Int) (σ : bS) : Prop := ((0 ≤ a1 ∧ a1 < 30) ∧ ((¬ ((bushr (σ 21 a1) a2) % 2) = 1 → (Q 0 σ)) ∧ (((bushr (σ 21 a1) a2) % 2) = 1 → (Q 1 σ))))
theorem mono_vX0_leadTo {Q Q9 : Int → bS → Prop} {a1 : Int} {a2 : Int} {σ : bS} (hQ : ∀ r σ, Q r σ → Q9 r σ) : vX0_leadTo Q a1 a2 σ → vX0_leadTo Q9 a1 a2 σ := (bm_r (bm_and (bm_imp (hQ _ _)) (bm_imp (hQ _ _))))
theorem wX0_leadTo_e {p : Program} {l : Launch} {e : Env} {s : State} {m : MethodId} {args : Array Value} {below : List Frame} {meth : Method} {c : Code} {G : bG} {σ0 : bS} {Q : Int → bS → Prop} {a1 : Int} {a2 : Int} {σ : bS} (S : CallFix p m c cX0_leadTo 3 s args bT "BankLinker$Calls") (hr : meth.sig.returnType = some .boolean) (hlk : meth.locks = false) (ha1 : bR a1) (ha2 : bR a2) (hσ : bRG σ) (h : vX0_leadTo Q a1 a2 σ) : bA p l e { frames := 0, cells := 0, slots := 0, locals := 0 } s m args below meth c 0 0 (bQi below args s G σ0 Q) G (va_A (bk_w G σ0) s.heap.size) 3 0 [(0, .ref (G.2.2 2)), (1, .int (bI a1)), (2, .int (bI a2))] [] σ := by
  unfold vX0_leadTo at h
  refine br_aload_n S 0 dX0_leadTo_0 rfl rfl ?_
  refine br_get (f := 1) (N := 2) (C := RX0) (T := TX0) S inT_X0 wd_1_93 (by decide) rfl rfl (by decide) rfl dX0_leadTo_1 ?_
  refine br_iload_n S 1 dX0_leadTo_4 rfl rfl ?_
  obtain ⟨g1, h⟩ := h
  refine br_iald (n := 30) S ⟨by decide, by decide, fun _ => rfl⟩ g1.1 g1.2 dX0_leadTo_5 ?_
  refine br_iload_n S 2 dX0_leadTo_6 rfl rfl ?_
  refine br_iushr S dX0_leadTo_7 ?_
  refine br_iconst S dX0_leadTo_8 ?_
  refine br_and1 S dX0_leadTo_9 ?_
  refine br_iconst S dX0_leadTo_10 ?_
  refine br_ic_ne S 18 (bR_mod2 _) (by decide) dX0_leadTo_11 (by decide) (fun c2 => ?_) (fun c2 => ?_)
  · replace h := h.1 c2
    refine br_iconst S dX0_leadTo_18 ?_
    exact br_zret S hr hlk (by decide) hσ dX0_leadTo_19 h
  · replace h := h.2 c2
    refine br_iconst S dX0_leadTo_14 ?_
    refine br_goto S 19 dX0_leadTo_15 (by decide) ?_
    exact br_zret S hr hlk (by decide) hσ dX0_leadTo_19 h
theorem mono_X0_leadTo {Q Q9 : Int → bS → Prop} {a1 : Int} {a2 : Int} {σ : bS} (hQ : ∀ r σ, Q r σ → Q9 r σ) : vX0_leadTo Q a1 a2 σ → vX0_leadTo Q9 a1 a2 σ := mono_vX0_leadTo hQ
theorem mX0_leadTo (l : Launch) (G : bG) (σ : bS) (a1 : Int) (ha1 : bR a1) (a2 : Int) (ha2 : bR a2) {Q : Int → bS → Prop} (h : vX0_leadTo Q a1 a2 σ) : bk_Mi l yX0_leadTo (Cond.code yX0_leadTo cX0_leadTo 3 (some .boolean) :: bT) { frames := 0, cells := 0, slots := 0, locals := 0 } G σ [.ref (G.2.2 2), .int (bI a1), .int (bI a2)] Q := by
  refine bk_Mi.of (cc := cX0_leadTo) (maxL := 3) (ret := some .boolean) (by decide) rfl (Nat.le_of_ble_eq_true rfl) ?_
  intro p e s m args below meth c S hr hlk hσ
  exact wX0_leadTo_e S hr hlk ha1 ha2 hσ h
def bX0_trace_2 (Q : bS → Prop) (P2 : Int → bS → Prop) (P41 : Int → bS → Prop) (P51 : Int → Int → bS → Prop) (x2 : Int) (σ : bS) : Prop := (((σ 1 2) ≤ x2 → (P41 0 σ)) ∧ (¬ (σ 1 2) ≤ x2 → (vX0_calledBy (fun z2 σ3 => ((0 ≤ x2 ∧ x2 < 30) ∧ (∀ σ5 : bS, σ5 = bup σ3 20 x2 z2 → (∀ σ7 : bS, σ7 = bup σ5 21 x2 (σ5 20 x2) → (bR (x2 + 1) ∧ (P2 (x2 + 1) σ7)))))) x2 σ)))
theorem mono_bX0_trace_2 {Q Q9 : bS → Prop} {P2 P29 : Int → bS → Prop} {P41 P419 : Int → bS → Prop} {P51 P519 : Int → Int → bS → Prop} {x2 : Int} {σ : bS} (hQ : ∀ σ, Q σ → Q9 σ) (hP2 : ∀ x2 σ, P2 x2 σ → P29 x2 σ) (hP41 : ∀ x2 σ, P41 x2 σ → P419 x2 σ) (hP51 : ∀ x2 x3 σ, P51 x2 x3 σ → P519 x2 x3 σ) : bX0_trace_2 Q P2 P41 P51 x2 σ → bX0_trace_2 Q9 P29 P419 P519 x2 σ := (bm_and (bm_imp (hP41 _ _)) (bm_imp (mono_X0_calledBy (fun _ _ => (bm_r (bm_all fun _ => bm_imp (bm_all fun _ => bm_imp (bm_r (hP2 _ _)))))))))
theorem wX0_trace_2 {p : Program} {l : Launch} {e : Env} {s : State} {m : MethodId} {args : Array Value} {below : List Frame} {meth : Method} {c : Code} {G : bG} {σ0 : bS} {Q : bS → Prop} {P2 : Int → bS → Prop} {P41 : Int → bS → Prop} {P51 : Int → Int → bS → Prop} {x2 : Int} {σ : bS} (S : CallFix p m c cX0_trace 4 s args bT "BankLinker$Calls") (hr : meth.sig.returnType = none) (hlk : meth.locks = false) (hP2 : ∀ (x2 : Int) (σ : bS), bR x2 → bRG σ → P2 x2 σ → bA p l e { frames := 2, cells := 0, slots := 0, locals := 45 } s m args below meth c 0 0 (bQv below args s G σ0 Q) G (va_A (bk_w G σ0) s.heap.size) 4 2 [(0, .ref (G.2.2 2)), (1, .ref (G.2.2 1)), (2, .int (bI x2))] [] σ) (hP41 : ∀ (x2 : Int) (σ : bS), bR x2 → bRG σ → P41 x2 σ → bA p l e { frames := 2, cells := 0, slots := 0, locals := 45 } s m args below meth c 0 0 (bQv below args s G σ0 Q) G (va_A (bk_w G σ0) s.heap.size) 4 41 [(0, .ref (G.2.2 2)), (1, .ref (G.2.2 1)), (2, .int (bI x2))] [] σ) (hP51 : ∀ (x2 : Int) (x3 : Int) (σ : bS), bR x2 → bR x3 → bRG σ → P51 x2 x3 σ → bA p l e { frames := 2, cells := 0, slots := 0, locals := 45 } s m args below meth c 0 0 (bQv below args s G σ0 Q) G (va_A (bk_w G σ0) s.heap.size) 4 51 [(0, .ref (G.2.2 2)), (1, .ref (G.2.2 1)), (2, .int (bI x2)), (3, .int (bI x3))] [] σ) (hx2 : bR x2) (hσ : bRG σ) (h : bX0_trace_2 Q P2 P41 P51 x2 σ) : bA p l e { frames := 2, cells := 0, slots := 0, locals := 45 } s m args below meth c 0 0 (bQv below args s G σ0 Q) G (va_A (bk_w G σ0) s.heap.size) 4 2 [(0, .ref (G.2.2 2)), (1, .ref (G.2.2 1)), (2, .int (bI x2))] [] σ := by
  unfold bX0_trace_2 at h
  refine br_iload_n S 2 dX0_trace_2 rfl rfl ?_
  refine br_aload_n S 1 dX0_trace_3 rfl rfl ?_
  refine br_get (f := 2) (N := 9) (C := RX6) (T := TX6) S inT_X6 wd_1_44 (by decide) rfl rfl (by decide) rfl dX0_trace_4 ?_
  refine br_ic_ge S 39 hx2 (hσ 1 2) dX0_trace_7 (by decide) (fun c1 => ?_) (fun c1 => ?_)
  · replace h := h.1 c1
    refine br_iconst S dX0_trace_39 ?_
    refine br_istore_n S [(2, .int (bI 0)), (0, .ref (G.2.2 2)), (1, .ref (G.2.2 1))] dX0_trace_40 rfl (by decide) rfl ?_
    exact bA.perm [1, 2, 0] rfl <| hP41 0 σ (by decide) hσ h
  · replace h := h.2 c1
    refine br_aload_n S 0 dX0_trace_10 rfl rfl ?_
    refine br_get (f := 0) (N := 2) (C := RX0) (T := TX0) S inT_X0 wd_1_92 (by decide) rfl rfl (by decide) rfl dX0_trace_11 ?_
    refine br_iload_n S 2 dX0_trace_14 rfl rfl ?_
    refine br_aload_n S 1 dX0_trace_15 rfl rfl ?_
    refine br_iload_n S 2 dX0_trace_16 rfl rfl ?_
    refine br_callS (As := [.ref (G.2.2 1), .int (bI x2)]) (rest := [.int (bI x2), .ref (G.2.2 20)]) S (cwS_X0_calledBy S.2.2.2.2 wd_2_160 ⟨by decide, by decide⟩) (mX0_calledBy l G σ x2 hx2 h) hσ rfl rfl (Nat.le_of_ble_eq_true rfl) ⟨by decide, by decide⟩ dX0_trace_17 (fun z2 σ3 hz2 hσ3 h => ?_)
    obtain ⟨g4, h⟩ := h
    obtain ⟨σ5, e6⟩ : ∃ τ, τ = bup σ3 20 x2 z2 := ⟨_, rfl⟩
    replace h := h σ5 e6
    have hσ5 : bRG σ5 := by rw [e6]; exact bup_rg hσ3 hz2
    refine br_iast (n := 30) S ⟨by decide, by decide, fun _ => rfl⟩ g4.1 g4.2 dX0_trace_20 ?_
    refine bA.to rfl rfl e6.symm ?_
    refine br_aload_n S 0 dX0_trace_21 rfl rfl ?_
    refine br_get (f := 1) (N := 2) (C := RX0) (T := TX0) S inT_X0 wd_1_93 (by decide) rfl rfl (by decide) rfl dX0_trace_22 ?_
    refine br_iload_n S 2 dX0_trace_25 rfl rfl ?_
    refine br_aload_n S 0 dX0_trace_26 rfl rfl ?_
    refine br_get (f := 0) (N := 2) (C := RX0) (T := TX0) S inT_X0 wd_1_92 (by decide) rfl rfl (by decide) rfl dX0_trace_27 ?_
    refine br_iload_n S 2 dX0_trace_30 rfl rfl ?_
    refine br_iald (n := 30) S ⟨by decide, by decide, fun _ => rfl⟩ g4.1 g4.2 dX0_trace_31 ?_
    obtain ⟨σ7, e8⟩ : ∃ τ, τ = bup σ5 21 x2 (σ5 20 x2) := ⟨_, rfl⟩
    replace h := h σ7 e8
    have hσ7 : bRG σ7 := by rw [e8]; exact bup_rg hσ5 (hσ5 20 x2)
    refine br_iast (n := 30) S ⟨by decide, by decide, fun _ => rfl⟩ g4.1 g4.2 dX0_trace_32 ?_
    refine bA.to rfl rfl e8.symm ?_
    refine br_iinc S 2 [(2, .int (bI (x2 + 1))), (0, .ref (G.2.2 2)), (1, .ref (G.2.2 1))] dX0_trace_33 rfl (by decide) rfl ?_
    refine br_goto S 2 dX0_trace_36 (by decide) ?_
    obtain ⟨g9, h⟩ := h
    exact bA.perm [1, 2, 0] rfl <| hP2 (x2 + 1) σ7 g9 hσ7 h
def bX0_trace_41 (Q : bS → Prop) (P2 : Int → bS → Prop) (P41 : Int → bS → Prop) (P51 : Int → Int → bS → Prop) (x2 : Int) (σ : bS) : Prop := (((σ 1 2) ≤ x2 → (Q σ)) ∧ (¬ (σ 1 2) ≤ x2 → (P51 x2 0 σ)))
theorem mono_bX0_trace_41 {Q Q9 : bS → Prop} {P2 P29 : Int → bS → Prop} {P41 P419 : Int → bS → Prop} {P51 P519 : Int → Int → bS → Prop} {x2 : Int} {σ : bS} (hQ : ∀ σ, Q σ → Q9 σ) (hP2 : ∀ x2 σ, P2 x2 σ → P29 x2 σ) (hP41 : ∀ x2 σ, P41 x2 σ → P419 x2 σ) (hP51 : ∀ x2 x3 σ, P51 x2 x3 σ → P519 x2 x3 σ) : bX0_trace_41 Q P2 P41 P51 x2 σ → bX0_trace_41 Q9 P29 P419 P519 x2 σ := (bm_and (bm_imp (hQ _)) (bm_imp (hP51 _ _ _)))
theorem wX0_trace_41 {p : Program} {l : Launch} {e : Env} {s : State} {m : MethodId} {args : Array Value} {below : List Frame} {meth : Method} {c : Code} {G : bG} {σ0 : bS} {Q : bS → Prop} {P2 : Int → bS → Prop} {P41 : Int → bS → Prop} {P51 : Int → Int → bS → Prop} {x2 : Int} {σ : bS} (S : CallFix p m c cX0_trace 4 s args bT "BankLinker$Calls") (hr : meth.sig.returnType = none) (hlk : meth.locks = false) (hP2 : ∀ (x2 : Int) (σ : bS), bR x2 → bRG σ → P2 x2 σ → bA p l e { frames := 2, cells := 0, slots := 0, locals := 45 } s m args below meth c 0 0 (bQv below args s G σ0 Q) G (va_A (bk_w G σ0) s.heap.size) 4 2 [(0, .ref (G.2.2 2)), (1, .ref (G.2.2 1)), (2, .int (bI x2))] [] σ) (hP41 : ∀ (x2 : Int) (σ : bS), bR x2 → bRG σ → P41 x2 σ → bA p l e { frames := 2, cells := 0, slots := 0, locals := 45 } s m args below meth c 0 0 (bQv below args s G σ0 Q) G (va_A (bk_w G σ0) s.heap.size) 4 41 [(0, .ref (G.2.2 2)), (1, .ref (G.2.2 1)), (2, .int (bI x2))] [] σ) (hP51 : ∀ (x2 : Int) (x3 : Int) (σ : bS), bR x2 → bR x3 → bRG σ → P51 x2 x3 σ → bA p l e { frames := 2, cells := 0, slots := 0, locals := 45 } s m args below meth c 0 0 (bQv below args s G σ0 Q) G (va_A (bk_w G σ0) s.heap.size) 4 51 [(0, .ref (G.2.2 2)), (1, .ref (G.2.2 1)), (2, .int (bI x2)), (3, .int (bI x3))] [] σ) (hx2 : bR x2) (hσ : bRG σ) (h : bX0_trace_41 Q P2 P41 P51 x2 σ) : bA p l e { frames := 2, cells := 0, slots := 0, locals := 45 } s m args below meth c 0 0 (bQv below args s G σ0 Q) G (va_A (bk_w G σ0) s.heap.size) 4 41 [(0, .ref (G.2.2 2)), (1, .ref (G.2.2 1)), (2, .int (bI x2))] [] σ := by
  unfold bX0_trace_41 at h
  refine br_iload_n S 2 dX0_trace_41 rfl rfl ?_
  refine br_aload_n S 1 dX0_trace_42 rfl rfl ?_
  refine br_get (f := 2) (N := 9) (C := RX6) (T := TX6) S inT_X6 wd_1_44 (by decide) rfl rfl (by decide) rfl dX0_trace_43 ?_
  refine br_ic_ge S 95 hx2 (hσ 1 2) dX0_trace_46 (by decide) (fun c1 => ?_) (fun c1 => ?_)
  · replace h := h.1 c1
    exact br_vret S hr hlk hσ dX0_trace_95 h
  · replace h := h.2 c1
    refine br_iconst S dX0_trace_49 ?_
    refine br_istore_n S [(3, .int (bI 0)), (0, .ref (G.2.2 2)), (1, .ref (G.2.2 1)), (2, .int (bI x2))] dX0_trace_50 rfl (by decide) rfl ?_
    exact bA.perm [1, 2, 3, 0] rfl <| hP51 x2 0 σ hx2 (by decide) hσ h
def vX0_trace_83 (Q : bS → Prop) (P2 : Int → bS → Prop) (P41 : Int → bS → Prop) (P51 : Int → Int → bS → Prop) (x2 : Int) (x3 : Int) (σ : bS) : Prop := (bR (x3 + 1) ∧ (P51 x2 (x3 + 1) σ))
theorem mono_vX0_trace_83 {Q Q9 : bS → Prop} {P2 P29 : Int → bS → Prop} {P41 P419 : Int → bS → Prop} {P51 P519 : Int → Int → bS → Prop} {x2 : Int} {x3 : Int} {σ : bS} (hQ : ∀ σ, Q σ → Q9 σ) (hP2 : ∀ x2 σ, P2 x2 σ → P29 x2 σ) (hP41 : ∀ x2 σ, P41 x2 σ → P419 x2 σ) (hP51 : ∀ x2 x3 σ, P51 x2 x3 σ → P519 x2 x3 σ) : vX0_trace_83 Q P2 P41 P51 x2 x3 σ → vX0_trace_83 Q9 P29 P419 P519 x2 x3 σ := (bm_r (hP51 _ _ _))
theorem wX0_trace_83 {p : Program} {l : Launch} {e : Env} {s : State} {m : MethodId} {args : Array Value} {below : List Frame} {meth : Method} {c : Code} {G : bG} {σ0 : bS} {Q : bS → Prop} {P2 : Int → bS → Prop} {P41 : Int → bS → Prop} {P51 : Int → Int → bS → Prop} {x2 : Int} {x3 : Int} {σ : bS} (S : CallFix p m c cX0_trace 4 s args bT "BankLinker$Calls") (hr : meth.sig.returnType = none) (hlk : meth.locks = false) (hP2 : ∀ (x2 : Int) (σ : bS), bR x2 → bRG σ → P2 x2 σ → bA p l e { frames := 2, cells := 0, slots := 0, locals := 45 } s m args below meth c 0 0 (bQv below args s G σ0 Q) G (va_A (bk_w G σ0) s.heap.size) 4 2 [(0, .ref (G.2.2 2)), (1, .ref (G.2.2 1)), (2, .int (bI x2))] [] σ) (hP41 : ∀ (x2 : Int) (σ : bS), bR x2 → bRG σ → P41 x2 σ → bA p l e { frames := 2, cells := 0, slots := 0, locals := 45 } s m args below meth c 0 0 (bQv below args s G σ0 Q) G (va_A (bk_w G σ0) s.heap.size) 4 41 [(0, .ref (G.2.2 2)), (1, .ref (G.2.2 1)), (2, .int (bI x2))] [] σ) (hP51 : ∀ (x2 : Int) (x3 : Int) (σ : bS), bR x2 → bR x3 → bRG σ → P51 x2 x3 σ → bA p l e { frames := 2, cells := 0, slots := 0, locals := 45 } s m args below meth c 0 0 (bQv below args s G σ0 Q) G (va_A (bk_w G σ0) s.heap.size) 4 51 [(0, .ref (G.2.2 2)), (1, .ref (G.2.2 1)), (2, .int (bI x2)), (3, .int (bI x3))] [] σ) (hx2 : bR x2) (hx3 : bR x3) (hσ : bRG σ) (h : vX0_trace_83 Q P2 P41 P51 x2 x3 σ) : bA p l e { frames := 2, cells := 0, slots := 0, locals := 45 } s m args below meth c 0 0 (bQv below args s G σ0 Q) G (va_A (bk_w G σ0) s.heap.size) 4 83 [(0, .ref (G.2.2 2)), (1, .ref (G.2.2 1)), (2, .int (bI x2)), (3, .int (bI x3))] [] σ := by
  unfold vX0_trace_83 at h
  refine br_iinc S 3 [(3, .int (bI (x3 + 1))), (0, .ref (G.2.2 2)), (1, .ref (G.2.2 1)), (2, .int (bI x2))] dX0_trace_83 rfl (by decide) rfl ?_
  refine br_goto S 51 dX0_trace_86 (by decide) ?_
  obtain ⟨g1, h⟩ := h
  exact bA.perm [1, 2, 3, 0] rfl <| hP51 x2 (x3 + 1) σ hx2 g1 hσ h
def bX0_trace_51 (Q : bS → Prop) (P2 : Int → bS → Prop) (P41 : Int → bS → Prop) (P51 : Int → Int → bS → Prop) (x2 : Int) (x3 : Int) (σ : bS) : Prop := (((σ 1 2) ≤ x3 → (bR (x2 + 1) ∧ (P41 (x2 + 1) σ))) ∧ (¬ (σ 1 2) ≤ x3 → (vX0_leadTo (fun z3 σ4 => ((z3 = 0 → (vX0_trace_83 Q P2 P41 P51 x2 x3 σ4)) ∧ (¬ z3 = 0 → ((0 ≤ x3 ∧ x3 < 30) ∧ ((0 ≤ x2 ∧ x2 < 30) ∧ (∀ σ8 : bS, σ8 = bup σ4 21 x3 (bor (σ4 21 x3) (σ4 21 x2)) → (vX0_trace_83 Q P2 P41 P51 x2 x3 σ8))))))) x3 x2 σ)))
theorem mono_bX0_trace_51 {Q Q9 : bS → Prop} {P2 P29 : Int → bS → Prop} {P41 P419 : Int → bS → Prop} {P51 P519 : Int → Int → bS → Prop} {x2 : Int} {x3 : Int} {σ : bS} (hQ : ∀ σ, Q σ → Q9 σ) (hP2 : ∀ x2 σ, P2 x2 σ → P29 x2 σ) (hP41 : ∀ x2 σ, P41 x2 σ → P419 x2 σ) (hP51 : ∀ x2 x3 σ, P51 x2 x3 σ → P519 x2 x3 σ) : bX0_trace_51 Q P2 P41 P51 x2 x3 σ → bX0_trace_51 Q9 P29 P419 P519 x2 x3 σ := (bm_and (bm_imp (bm_r (hP41 _ _))) (bm_imp (mono_X0_leadTo (fun _ _ => (bm_and (bm_imp (mono_vX0_trace_83 hQ hP2 hP41 hP51)) (bm_imp (bm_r (bm_r (bm_all fun _ => bm_imp (mono_vX0_trace_83 hQ hP2 hP41 hP51))))))))))
theorem wX0_trace_51 {p : Program} {l : Launch} {e : Env} {s : State} {m : MethodId} {args : Array Value} {below : List Frame} {meth : Method} {c : Code} {G : bG} {σ0 : bS} {Q : bS → Prop} {P2 : Int → bS → Prop} {P41 : Int → bS → Prop} {P51 : Int → Int → bS → Prop} {x2 : Int} {x3 : Int} {σ : bS} (S : CallFix p m c cX0_trace 4 s args bT "BankLinker$Calls") (hr : meth.sig.returnType = none) (hlk : meth.locks = false) (hP2 : ∀ (x2 : Int) (σ : bS), bR x2 → bRG σ → P2 x2 σ → bA p l e { frames := 2, cells := 0, slots := 0, locals := 45 } s m args below meth c 0 0 (bQv below args s G σ0 Q) G (va_A (bk_w G σ0) s.heap.size) 4 2 [(0, .ref (G.2.2 2)), (1, .ref (G.2.2 1)), (2, .int (bI x2))] [] σ) (hP41 : ∀ (x2 : Int) (σ : bS), bR x2 → bRG σ → P41 x2 σ → bA p l e { frames := 2, cells := 0, slots := 0, locals := 45 } s m args below meth c 0 0 (bQv below args s G σ0 Q) G (va_A (bk_w G σ0) s.heap.size) 4 41 [(0, .ref (G.2.2 2)), (1, .ref (G.2.2 1)), (2, .int (bI x2))] [] σ) (hP51 : ∀ (x2 : Int) (x3 : Int) (σ : bS), bR x2 → bR x3 → bRG σ → P51 x2 x3 σ → bA p l e { frames := 2, cells := 0, slots := 0, locals := 45 } s m args below meth c 0 0 (bQv below args s G σ0 Q) G (va_A (bk_w G σ0) s.heap.size) 4 51 [(0, .ref (G.2.2 2)), (1, .ref (G.2.2 1)), (2, .int (bI x2)), (3, .int (bI x3))] [] σ) (hx2 : bR x2) (hx3 : bR x3) (hσ : bRG σ) (h : bX0_trace_51 Q P2 P41 P51 x2 x3 σ) : bA p l e { frames := 2, cells := 0, slots := 0, locals := 45 } s m args below meth c 0 0 (bQv below args s G σ0 Q) G (va_A (bk_w G σ0) s.heap.size) 4 51 [(0, .ref (G.2.2 2)), (1, .ref (G.2.2 1)), (2, .int (bI x2)), (3, .int (bI x3))] [] σ := by
  unfold bX0_trace_51 at h
  refine br_iload_n S 3 dX0_trace_51 rfl rfl ?_
  refine br_aload_n S 1 dX0_trace_52 rfl rfl ?_
  refine br_get (f := 2) (N := 9) (C := RX6) (T := TX6) S inT_X6 wd_1_44 (by decide) rfl rfl (by decide) rfl dX0_trace_53 ?_
  refine br_ic_ge S 89 hx3 (hσ 1 2) dX0_trace_56 (by decide) (fun c1 => ?_) (fun c1 => ?_)
  · replace h := h.1 c1
    refine br_iinc S 2 [(2, .int (bI (x2 + 1))), (0, .ref (G.2.2 2)), (1, .ref (G.2.2 1)), (3, .int (bI x3))] dX0_trace_89 rfl (by decide) rfl ?_
    refine br_goto S 41 dX0_trace_92 (by decide) ?_
    obtain ⟨g2, h⟩ := h
    exact bA.perm [1, 2, 0] rfl <| hP41 (x2 + 1) σ g2 hσ h
  · replace h := h.2 c1
    refine br_aload_n S 0 dX0_trace_59 rfl rfl ?_
    refine br_iload_n S 3 dX0_trace_60 rfl rfl ?_
    refine br_iload_n S 2 dX0_trace_61 rfl rfl ?_
    refine br_callV (As := [.int (bI x3), .int (bI x2)]) (rest := []) S (cwV_X0_leadTo S.2.2.2.2 wd_2_171 ⟨by decide, by decide⟩) (mX0_leadTo l G σ x3 hx3 x2 hx2 h) (by decide) rfl rfl rfl hσ rfl rfl (Nat.le_of_ble_eq_true rfl) ⟨by decide, by decide⟩ dX0_trace_62 (fun z3 σ4 hz3 hσ4 h => ?_)
    refine br_if_eq S 83 hz3 dX0_trace_65 (by decide) (fun c5 => ?_) (fun c5 => ?_)
    · replace h := h.1 c5
      exact wX0_trace_83 S hr hlk hP2 hP41 hP51 hx2 hx3 hσ4 h
    · replace h := h.2 c5
      refine br_aload_n S 0 dX0_trace_68 rfl rfl ?_
      refine br_get (f := 1) (N := 2) (C := RX0) (T := TX0) S inT_X0 wd_1_93 (by decide) rfl rfl (by decide) rfl dX0_trace_69 ?_
      refine br_iload_n S 3 dX0_trace_72 rfl rfl ?_
      refine br_dup2 S dX0_trace_73 rfl rfl ?_
      obtain ⟨g6, h⟩ := h
      refine br_iald (n := 30) S ⟨by decide, by decide, fun _ => rfl⟩ g6.1 g6.2 dX0_trace_74 ?_
      refine br_aload_n S 0 dX0_trace_75 rfl rfl ?_
      refine br_get (f := 1) (N := 2) (C := RX0) (T := TX0) S inT_X0 wd_1_93 (by decide) rfl rfl (by decide) rfl dX0_trace_76 ?_
      refine br_iload_n S 2 dX0_trace_79 rfl rfl ?_
      obtain ⟨g7, h⟩ := h
      refine br_iald (n := 30) S ⟨by decide, by decide, fun _ => rfl⟩ g7.1 g7.2 dX0_trace_80 ?_
      refine br_ior S dX0_trace_81 ?_
      obtain ⟨σ8, e9⟩ : ∃ τ, τ = bup σ4 21 x3 (bor (σ4 21 x3) (σ4 21 x2)) := ⟨_, rfl⟩
      replace h := h σ8 e9
      have hσ8 : bRG σ8 := by rw [e9]; exact bup_rg hσ4 (bor_rg _ _)
      refine br_iast (n := 30) S ⟨by decide, by decide, fun _ => rfl⟩ g6.1 g6.2 dX0_trace_82 ?_
      refine bA.to rfl rfl e9.symm ?_
      exact wX0_trace_83 S hr hlk hP2 hP41 hP51 hx2 hx3 hσ8 h
def eX0_trace (Q : bS → Prop) (P2 : Int → bS → Prop) (P41 : Int → bS → Prop) (P51 : Int → Int → bS → Prop) (σ : bS) : Prop := (P2 0 σ)
theorem mono_eX0_trace {Q Q9 : bS → Prop} {P2 P29 : Int → bS → Prop} {P41 P419 : Int → bS → Prop} {P51 P519 : Int → Int → bS → Prop} {σ : bS} (hQ : ∀ σ, Q σ → Q9 σ) (hP2 : ∀ x2 σ, P2 x2 σ → P29 x2 σ) (hP41 : ∀ x2 σ, P41 x2 σ → P419 x2 σ) (hP51 : ∀ x2 x3 σ, P51 x2 x3 σ → P519 x2 x3 σ) : eX0_trace Q P2 P41 P51 σ → eX0_trace Q9 P29 P419 P519 σ := (hP2 _ _)
theorem wX0_trace_e {p : Program} {l : Launch} {e : Env} {s : State} {m : MethodId} {args : Array Value} {below : List Frame} {meth : Method} {c : Code} {G : bG} {σ0 : bS} {Q : bS → Prop} {P2 : Int → bS → Prop} {P41 : Int → bS → Prop} {P51 : Int → Int → bS → Prop} {σ : bS} (S : CallFix p m c cX0_trace 4 s args bT "BankLinker$Calls") (hr : meth.sig.returnType = none) (hlk : meth.locks = false) (hP2 : ∀ (x2 : Int) (σ : bS), bR x2 → bRG σ → P2 x2 σ → bA p l e { frames := 2, cells := 0, slots := 0, locals := 45 } s m args below meth c 0 0 (bQv below args s G σ0 Q) G (va_A (bk_w G σ0) s.heap.size) 4 2 [(0, .ref (G.2.2 2)), (1, .ref (G.2.2 1)), (2, .int (bI x2))] [] σ) (hP41 : ∀ (x2 : Int) (σ : bS), bR x2 → bRG σ → P41 x2 σ → bA p l e { frames := 2, cells := 0, slots := 0, locals := 45 } s m args below meth c 0 0 (bQv below args s G σ0 Q) G (va_A (bk_w G σ0) s.heap.size) 4 41 [(0, .ref (G.2.2 2)), (1, .ref (G.2.2 1)), (2, .int (bI x2))] [] σ) (hP51 : ∀ (x2 : Int) (x3 : Int) (σ : bS), bR x2 → bR x3 → bRG σ → P51 x2 x3 σ → bA p l e { frames := 2, cells := 0, slots := 0, locals := 45 } s m args below meth c 0 0 (bQv below args s G σ0 Q) G (va_A (bk_w G σ0) s.heap.size) 4 51 [(0, .ref (G.2.2 2)), (1, .ref (G.2.2 1)), (2, .int (bI x2)), (3, .int (bI x3))] [] σ) (hσ : bRG σ) (h : eX0_trace Q P2 P41 P51 σ) : bA p l e { frames := 2, cells := 0, slots := 0, locals := 45 } s m args below meth c 0 0 (bQv below args s G σ0 Q) G (va_A (bk_w G σ0) s.heap.size) 4 0 [(0, .ref (G.2.2 2)), (1, .ref (G.2.2 1))] [] σ := by
  unfold eX0_trace at h
  refine br_iconst S dX0_trace_0 ?_
  refine br_istore_n S [(2, .int (bI 0)), (0, .ref (G.2.2 2)), (1, .ref (G.2.2 1))] dX0_trace_1 rfl (by decide) rfl ?_
  exact bA.perm [1, 2, 0] rfl <| hP2 0 σ (by decide) hσ h
def LX0_trace_2 (Q : bS → Prop) (x2 : Int) (σ : bS) : Prop := ∀ (P2 : Int → bS → Prop) (P41 : Int → bS → Prop) (P51 : Int → Int → bS → Prop), (∀ x2 σ, bX0_trace_2 Q P2 P41 P51 x2 σ → P2 x2 σ) → (∀ x2 σ, bX0_trace_41 Q P2 P41 P51 x2 σ → P41 x2 σ) → (∀ x2 x3 σ, bX0_trace_51 Q P2 P41 P51 x2 x3 σ → P51 x2 x3 σ) → P2 x2 σ
def LX0_trace_41 (Q : bS → Prop) (x2 : Int) (σ : bS) : Prop := ∀ (P2 : Int → bS → Prop) (P41 : Int → bS → Prop) (P51 : Int → Int → bS → Prop), (∀ x2 σ, bX0_trace_2 Q P2 P41 P51 x2 σ → P2 x2 σ) → (∀ x2 σ, bX0_trace_41 Q P2 P41 P51 x2 σ → P41 x2 σ) → (∀ x2 x3 σ, bX0_trace_51 Q P2 P41 P51 x2 x3 σ → P51 x2 x3 σ) → P41 x2 σ
def LX0_trace_51 (Q : bS → Prop) (x2 : Int) (x3 : Int) (σ : bS) : Prop := ∀ (P2 : Int → bS → Prop) (P41 : Int → bS → Prop) (P51 : Int → Int → bS → Prop), (∀ x2 σ, bX0_trace_2 Q P2 P41 P51 x2 σ → P2 x2 σ) → (∀ x2 σ, bX0_trace_41 Q P2 P41 P51 x2 σ → P41 x2 σ) → (∀ x2 x3 σ, bX0_trace_51 Q P2 P41 P51 x2 x3 σ → P51 x2 x3 σ) → P51 x2 x3 σ
theorem LX0_trace_2_in {Q : bS → Prop} {x2 : Int} {σ : bS} (h : bX0_trace_2 Q (LX0_trace_2 Q) (LX0_trace_41 Q) (LX0_trace_51 Q) x2 σ) : LX0_trace_2 Q x2 σ := fun P2 P41 P51 H2 H41 H51 => H2 _ _ (mono_bX0_trace_2 (fun _ h => h) (fun _ _ h => h P2 P41 P51 H2 H41 H51) (fun _ _ h => h P2 P41 P51 H2 H41 H51) (fun _ _ _ h => h P2 P41 P51 H2 H41 H51) h)
theorem mono_LX0_trace_2 {Q Q9 : bS → Prop} {x2 : Int} {σ : bS} (hQ : ∀ σ, Q σ → Q9 σ) (h : LX0_trace_2 Q x2 σ) : LX0_trace_2 Q9 x2 σ := fun P2 P41 P51 H2 H41 H51 => h P2 P41 P51 (fun _ _ hb => H2 _ _ (mono_bX0_trace_2 hQ (fun _ _ h => h) (fun _ _ h => h) (fun _ _ _ h => h) hb)) (fun _ _ hb => H41 _ _ (mono_bX0_trace_41 hQ (fun _ _ h => h) (fun _ _ h => h) (fun _ _ _ h => h) hb)) (fun _ _ _ hb => H51 _ _ _ (mono_bX0_trace_51 hQ (fun _ _ h => h) (fun _ _ h => h) (fun _ _ _ h => h) hb))
theorem LX0_trace_41_in {Q : bS → Prop} {x2 : Int} {σ : bS} (h : bX0_trace_41 Q (LX0_trace_2 Q) (LX0_trace_41 Q) (LX0_trace_51 Q) x2 σ) : LX0_trace_41 Q x2 σ := fun P2 P41 P51 H2 H41 H51 => H41 _ _ (mono_bX0_trace_41 (fun _ h => h) (fun _ _ h => h P2 P41 P51 H2 H41 H51) (fun _ _ h => h P2 P41 P51 H2 H41 H51) (fun _ _ _ h => h P2 P41 P51 H2 H41 H51) h)
theorem mono_LX0_trace_41 {Q Q9 : bS → Prop} {x2 : Int} {σ : bS} (hQ : ∀ σ, Q σ → Q9 σ) (h : LX0_trace_41 Q x2 σ) : LX0_trace_41 Q9 x2 σ := fun P2 P41 P51 H2 H41 H51 => h P2 P41 P51 (fun _ _ hb => H2 _ _ (mono_bX0_trace_2 hQ (fun _ _ h => h) (fun _ _ h => h) (fun _ _ _ h => h) hb)) (fun _ _ hb => H41 _ _ (mono_bX0_trace_41 hQ (fun _ _ h => h) (fun _ _ h => h) (fun _ _ _ h => h) hb)) (fun _ _ _ hb => H51 _ _ _ (mono_bX0_trace_51 hQ (fun _ _ h => h) (fun _ _ h => h) (fun _ _ _ h => h) hb))
theorem LX0_trace_51_in {Q : bS → Prop} {x2 : Int} {x3 : Int} {σ : bS} (h : bX0_trace_51 Q (LX0_trace_2 Q) (LX0_trace_41 Q) (LX0_trace_51 Q) x2 x3 σ) : LX0_trace_51 Q x2 x3 σ := fun P2 P41 P51 H2 H41 H51 => H51 _ _ _ (mono_bX0_trace_51 (fun _ h => h) (fun _ _ h => h P2 P41 P51 H2 H41 H51) (fun _ _ h => h P2 P41 P51 H2 H41 H51) (fun _ _ _ h => h P2 P41 P51 H2 H41 H51) h)
theorem mono_LX0_trace_51 {Q Q9 : bS → Prop} {x2 : Int} {x3 : Int} {σ : bS} (hQ : ∀ σ, Q σ → Q9 σ) (h : LX0_trace_51 Q x2 x3 σ) : LX0_trace_51 Q9 x2 x3 σ := fun P2 P41 P51 H2 H41 H51 => h P2 P41 P51 (fun _ _ hb => H2 _ _ (mono_bX0_trace_2 hQ (fun _ _ h => h) (fun _ _ h => h) (fun _ _ _ h => h) hb)) (fun _ _ hb => H41 _ _ (mono_bX0_trace_41 hQ (fun _ _ h => h) (fun _ _ h => h) (fun _ _ _ h => h) hb)) (fun _ _ _ hb => H51 _ _ _ (mono_bX0_trace_51 hQ (fun _ _ h => h) (fun _ _ h => h) (fun _ _ _ h => h) hb))
def vX0_trace (Q : bS → Prop) (σ : bS) : Prop := eX0_trace Q (LX0_trace_2 Q) (LX0_trace_41 Q) (LX0_trace_51 Q) σ
theorem mono_vX0_trace {Q Q9 : bS → Prop} {σ : bS} (hQ : ∀ σ, Q σ → Q9 σ) : vX0_trace Q σ → vX0_trace Q9 σ := mono_eX0_trace hQ (fun _ _ h => mono_LX0_trace_2 hQ h) (fun _ _ h => mono_LX0_trace_41 hQ h) (fun _ _ _ h => mono_LX0_trace_51 hQ h)
theorem mono_X0_trace {Q Q9 : bS → Prop} {σ : bS} (hQ : ∀ σ, Q σ → Q9 σ) : vX0_trace Q σ → vX0_trace Q9 σ := mono_vX0_trace hQ
theorem mX0_trace (l : Launch) (G : bG) (σ : bS) {Q : bS → Prop} (h : vX0_trace Q σ) : bk_Mv l yX0_trace (Cond.code yX0_trace cX0_trace 4 (none) :: bT) { frames := 2, cells := 0, slots := 0, locals := 45 } G σ [.ref (G.2.2 2), .ref (G.2.2 1)] Q := by
  refine bk_Mv.of (cc := cX0_trace) (maxL := 4) (ret := none) (by decide) rfl (Nat.le_of_ble_eq_true rfl) ?_
  intro p e s m args below meth c S hr hlk hσ
  let K2 : Int → bS → Prop := fun x2 τ => bR x2 → bRG τ → bA p l e { frames := 2, cells := 0, slots := 0, locals := 45 } s m args below meth c 0 0 (bQv below args s G σ Q) G (va_A (bk_w G σ) s.heap.size) 4 2 [(0, .ref (G.2.2 2)), (1, .ref (G.2.2 1)), (2, .int (bI x2))] [] τ
  let K41 : Int → bS → Prop := fun x2 τ => bR x2 → bRG τ → bA p l e { frames := 2, cells := 0, slots := 0, locals := 45 } s m args below meth c 0 0 (bQv below args s G σ Q) G (va_A (bk_w G σ) s.heap.size) 4 41 [(0, .ref (G.2.2 2)), (1, .ref (G.2.2 1)), (2, .int (bI x2))] [] τ
  let K51 : Int → Int → bS → Prop := fun x2 x3 τ => bR x2 → bR x3 → bRG τ → bA p l e { frames := 2, cells := 0, slots := 0, locals := 45 } s m args below meth c 0 0 (bQv below args s G σ Q) G (va_A (bk_w G σ) s.heap.size) 4 51 [(0, .ref (G.2.2 2)), (1, .ref (G.2.2 1)), (2, .int (bI x2)), (3, .int (bI x3))] [] τ
  have C2 : ∀ x2 τ, bX0_trace_2 Q K2 K41 K51 x2 τ → K2 x2 τ := fun x2 τ hb hx2 hτ => wX0_trace_2 S hr hlk (fun x2 σ hx2 hσ h => h hx2 hσ) (fun x2 σ hx2 hσ h => h hx2 hσ) (fun x2 x3 σ hx2 hx3 hσ h => h hx2 hx3 hσ) hx2 hτ hb
  have C41 : ∀ x2 τ, bX0_trace_41 Q K2 K41 K51 x2 τ → K41 x2 τ := fun x2 τ hb hx2 hτ => wX0_trace_41 S hr hlk (fun x2 σ hx2 hσ h => h hx2 hσ) (fun x2 σ hx2 hσ h => h hx2 hσ) (fun x2 x3 σ hx2 hx3 hσ h => h hx2 hx3 hσ) hx2 hτ hb
  have C51 : ∀ x2 x3 τ, bX0_trace_51 Q K2 K41 K51 x2 x3 τ → K51 x2 x3 τ := fun x2 x3 τ hb hx2 hx3 hτ => wX0_trace_51 S hr hlk (fun x2 σ hx2 hσ h => h hx2 hσ) (fun x2 σ hx2 hσ h => h hx2 hσ) (fun x2 x3 σ hx2 hx3 hσ h => h hx2 hx3 hσ) hx2 hx3 hτ hb
  exact wX0_trace_e S hr hlk (fun x2 σ hx2 hσ h => h K2 K41 K51 C2 C41 C51 hx2 hσ) (fun x2 σ hx2 hσ h => h K2 K41 K51 C2 C41 C51 hx2 hσ) (fun x2 x3 σ hx2 hx3 hσ h => h K2 K41 K51 C2 C41 C51 hx2 hx3 hσ) hσ h
def vX0_hasCall (Q : Int → bS → Prop) (a1 : Int) (a2 : Int) (σ : bS) : Prop := ((0 ≤ a1 ∧ a1 < 30) ∧ ((¬ ((bushr (σ 20 a1) a2) % 2) = 1 → (Q 0 σ)) ∧ (((bushr (σ 20 a1) a2) % 2) = 1 → (Q 1 σ))))
theorem mono_vX0_hasCall {Q Q9 : Int → bS → Prop} {a1 : Int} {a2 : Int} {σ : bS} (hQ : ∀ r σ, Q r σ → Q9 r σ) : vX0_hasCall Q a1 a2 σ → vX0_hasCall Q9 a1 a2 σ := (bm_r (bm_and (bm_imp (hQ _ _)) (bm_imp (hQ _ _))))
theorem wX0_hasCall_e {p : Program} {l : Launch} {e : Env} {s : State} {m : MethodId} {args : Array Value} {below : List Frame} {meth : Method} {c : Code} {G : bG} {σ0 : bS} {Q : Int → bS → Prop} {a1 : Int} {a2 : Int} {σ : bS} (S : CallFix p m c cX0_hasCall 3 s args bT "BankLinker$Calls") (hr : meth.sig.returnType = some .boolean) (hlk : meth.locks = false) (ha1 : bR a1) (ha2 : bR a2) (hσ : bRG σ) (h : vX0_hasCall Q a1 a2 σ) : bA p l e { frames := 0, cells := 0, slots := 0, locals := 0 } s m args below meth c 0 0 (bQi below args s G σ0 Q) G (va_A (bk_w G σ0) s.heap.size) 3 0 [(0, .ref (G.2.2 2)), (1, .int (bI a1)), (2, .int (bI a2))] [] σ := by
  unfold vX0_hasCall at h
  refine br_aload_n S 0 dX0_hasCall_0 rfl rfl ?_
  refine br_get (f := 0) (N := 2) (C := RX0) (T := TX0) S inT_X0 wd_1_92 (by decide) rfl rfl (by decide) rfl dX0_hasCall_1 ?_
  refine br_iload_n S 1 dX0_hasCall_4 rfl rfl ?_
  obtain ⟨g1, h⟩ := h
  refine br_iald (n := 30) S ⟨by decide, by decide, fun _ => rfl⟩ g1.1 g1.2 dX0_hasCall_5 ?_
  refine br_iload_n S 2 dX0_hasCall_6 rfl rfl ?_
  refine br_iushr S dX0_hasCall_7 ?_
  refine br_iconst S dX0_hasCall_8 ?_
  refine br_and1 S dX0_hasCall_9 ?_
  refine br_iconst S dX0_hasCall_10 ?_
  refine br_ic_ne S 18 (bR_mod2 _) (by decide) dX0_hasCall_11 (by decide) (fun c2 => ?_) (fun c2 => ?_)
  · replace h := h.1 c2
    refine br_iconst S dX0_hasCall_18 ?_
    exact br_zret S hr hlk (by decide) hσ dX0_hasCall_19 h
  · replace h := h.2 c2
    refine br_iconst S dX0_hasCall_14 ?_
    refine br_goto S 19 dX0_hasCall_15 (by decide) ?_
    exact br_zret S hr hlk (by decide) hσ dX0_hasCall_19 h
theorem mono_X0_hasCall {Q Q9 : Int → bS → Prop} {a1 : Int} {a2 : Int} {σ : bS} (hQ : ∀ r σ, Q r σ → Q9 r σ) : vX0_hasCall Q a1 a2 σ → vX0_hasCall Q9 a1 a2 σ := mono_vX0_hasCall hQ
theorem mX0_hasCall (l : Launch) (G : bG) (σ : bS) (a1 : Int) (ha1 : bR a1) (a2 : Int) (ha2 : bR a2) {Q : Int → bS → Prop} (h : vX0_hasCall Q a1 a2 σ) : bk_Mi l yX0_hasCall (Cond.code yX0_hasCall cX0_hasCall 3 (some .boolean) :: bT) { frames := 0, cells := 0, slots := 0, locals := 0 } G σ [.ref (G.2.2 2), .int (bI a1), .int (bI a2)] Q := by
  refine bk_Mi.of (cc := cX0_hasCall) (maxL := 3) (ret := some .boolean) (by decide) rfl (Nat.le_of_ble_eq_true rfl) ?_
  intro p e s m args below meth c S hr hlk hσ
  exact wX0_hasCall_e S hr hlk ha1 ha2 hσ h
def bX2_measure_10 (Q : bS → Prop) (P10 : Int → bS → Prop) (x2 : Int) (σ : bS) : Prop := (((σ 1 2) ≤ x2 → (Q σ)) ∧ (¬ (σ 1 2) ≤ x2 → (vX6_bytesOf (fun z2 σ3 => ((0 ≤ x2 ∧ x2 < 30) ∧ (∀ σ5 : bS, σ5 = bup σ3 22 x2 z2 → ((0 ≤ (σ5 14 x2) ∧ (σ5 14 x2) < 12) ∧ (bR ((σ5 28 (σ5 14 x2)) + (σ5 22 x2)) ∧ (∀ σ9 : bS, σ9 = bup σ5 28 (σ5 14 x2) ((σ5 28 (σ5 14 x2)) + (σ5 22 x2)) → (bR (x2 + 1) ∧ (P10 (x2 + 1) σ9)))))))) x2 σ)))
theorem mono_bX2_measure_10 {Q Q9 : bS → Prop} {P10 P109 : Int → bS → Prop} {x2 : Int} {σ : bS} (hQ : ∀ σ, Q σ → Q9 σ) (hP10 : ∀ x2 σ, P10 x2 σ → P109 x2 σ) : bX2_measure_10 Q P10 x2 σ → bX2_measure_10 Q9 P109 x2 σ := (bm_and (bm_imp (hQ _)) (bm_imp (mono_X6_bytesOf (fun _ _ => (bm_r (bm_all fun _ => bm_imp (bm_r (bm_r (bm_all fun _ => bm_imp (bm_r (hP10 _ _)))))))))))
theorem wX2_measure_10 {p : Program} {l : Launch} {e : Env} {s : State} {m : MethodId} {args : Array Value} {below : List Frame} {meth : Method} {c : Code} {G : bG} {σ0 : bS} {Q : bS → Prop} {P10 : Int → bS → Prop} {x2 : Int} {σ : bS} (S : CallFix p m c cX2_measure 3 s args bT "BankLinker$Layout") (hr : meth.sig.returnType = none) (hlk : meth.locks = false) (hP10 : ∀ (x2 : Int) (σ : bS), bR x2 → bRG σ → P10 x2 σ → bA p l e { frames := 3, cells := 0, slots := 0, locals := 67 } s m args below meth c 0 0 (bQv below args s G σ0 Q) G (va_A (bk_w G σ0) s.heap.size) 3 10 [(0, .ref (G.2.2 3)), (1, .ref (G.2.2 1)), (2, .int (bI x2))] [] σ) (hx2 : bR x2) (hσ : bRG σ) (h : bX2_measure_10 Q P10 x2 σ) : bA p l e { frames := 3, cells := 0, slots := 0, locals := 67 } s m args below meth c 0 0 (bQv below args s G σ0 Q) G (va_A (bk_w G σ0) s.heap.size) 3 10 [(0, .ref (G.2.2 3)), (1, .ref (G.2.2 1)), (2, .int (bI x2))] [] σ := by
  unfold bX2_measure_10 at h
  refine br_iload_n S 2 dX2_measure_10 rfl rfl ?_
  refine br_aload_n S 1 dX2_measure_11 rfl rfl ?_
  refine br_get (f := 2) (N := 9) (C := RX6) (T := TX6) S inT_X6 wd_1_45 (by decide) rfl rfl (by decide) rfl dX2_measure_12 ?_
  refine br_ic_ge S 55 hx2 (hσ 1 2) dX2_measure_15 (by decide) (fun c1 => ?_) (fun c1 => ?_)
  · replace h := h.1 c1
    exact br_vret S hr hlk hσ dX2_measure_55 h
  · replace h := h.2 c1
    refine br_aload_n S 0 dX2_measure_18 rfl rfl ?_
    refine br_get (f := 0) (N := 14) (C := RX2) (T := TX2) S inT_X2 wd_1_105 (by decide) rfl rfl (by decide) rfl dX2_measure_19 ?_
    refine br_iload_n S 2 dX2_measure_22 rfl rfl ?_
    refine br_aload_n S 1 dX2_measure_23 rfl rfl ?_
    refine br_iload_n S 2 dX2_measure_24 rfl rfl ?_
    refine br_callV (As := [.int (bI x2)]) (rest := [.int (bI x2), .ref (G.2.2 22)]) S (cwV_X6_bytesOf S.2.2.2.2 wd_2_195 ⟨by decide, by decide⟩) (mX6_bytesOf l G σ x2 hx2 h) (by decide) rfl rfl rfl hσ rfl rfl (Nat.le_of_ble_eq_true rfl) ⟨by decide, by decide⟩ dX2_measure_25 (fun z2 σ3 hz2 hσ3 h => ?_)
    obtain ⟨g4, h⟩ := h
    obtain ⟨σ5, e6⟩ : ∃ τ, τ = bup σ3 22 x2 z2 := ⟨_, rfl⟩
    replace h := h σ5 e6
    have hσ5 : bRG σ5 := by rw [e6]; exact bup_rg hσ3 hz2
    refine br_iast (n := 30) S ⟨by decide, by decide, fun _ => rfl⟩ g4.1 g4.2 dX2_measure_28 ?_
    refine bA.to rfl rfl e6.symm ?_
    refine br_aload_n S 0 dX2_measure_29 rfl rfl ?_
    refine br_get (f := 6) (N := 14) (C := RX2) (T := TX2) S inT_X2 wd_1_122 (by decide) rfl rfl (by decide) rfl dX2_measure_30 ?_
    refine br_aload_n S 1 dX2_measure_33 rfl rfl ?_
    refine br_get (f := 3) (N := 9) (C := RX6) (T := TX6) S inT_X6 wd_1_49 (by decide) rfl rfl (by decide) rfl dX2_measure_34 ?_
    refine br_iload_n S 2 dX2_measure_37 rfl rfl ?_
    refine br_iald (n := 30) S ⟨by decide, by decide, fun _ => rfl⟩ g4.1 g4.2 dX2_measure_38 ?_
    refine br_dup2 S dX2_measure_39 rfl rfl ?_
    obtain ⟨g7, h⟩ := h
    refine br_iald (n := 12) S ⟨by decide, by decide, fun _ => rfl⟩ g7.1 g7.2 dX2_measure_40 ?_
    refine br_aload_n S 0 dX2_measure_41 rfl rfl ?_
    refine br_get (f := 0) (N := 14) (C := RX2) (T := TX2) S inT_X2 wd_1_105 (by decide) rfl rfl (by decide) rfl dX2_measure_42 ?_
    refine br_iload_n S 2 dX2_measure_45 rfl rfl ?_
    refine br_iald (n := 30) S ⟨by decide, by decide, fun _ => rfl⟩ g4.1 g4.2 dX2_measure_46 ?_
    refine br_iadd S dX2_measure_47 ?_
    obtain ⟨g8, h⟩ := h
    obtain ⟨σ9, e10⟩ : ∃ τ, τ = bup σ5 28 (σ5 14 x2) ((σ5 28 (σ5 14 x2)) + (σ5 22 x2)) := ⟨_, rfl⟩
    replace h := h σ9 e10
    have hσ9 : bRG σ9 := by rw [e10]; exact bup_rg hσ5 g8
    refine br_iast (n := 12) S ⟨by decide, by decide, fun _ => rfl⟩ g7.1 g7.2 dX2_measure_48 ?_
    refine bA.to rfl rfl e10.symm ?_
    refine br_iinc S 2 [(2, .int (bI (x2 + 1))), (0, .ref (G.2.2 3)), (1, .ref (G.2.2 1))] dX2_measure_49 rfl (by decide) rfl ?_
    refine br_goto S 10 dX2_measure_52 (by decide) ?_
    obtain ⟨g11, h⟩ := h
    exact bA.perm [1, 2, 0] rfl <| hP10 (x2 + 1) σ9 g11 hσ9 h
def eX2_measure (Q : bS → Prop) (P10 : Int → bS → Prop) (σ : bS) : Prop := (vJ7_fill_53178_28 (fun σ2 => (P10 0 σ2)) 0 σ)
theorem mono_eX2_measure {Q Q9 : bS → Prop} {P10 P109 : Int → bS → Prop} {σ : bS} (hQ : ∀ σ, Q σ → Q9 σ) (hP10 : ∀ x2 σ, P10 x2 σ → P109 x2 σ) : eX2_measure Q P10 σ → eX2_measure Q9 P109 σ := (mono_J7_fill_53178_28 (fun _ => (hP10 _ _)))
theorem wX2_measure_e {p : Program} {l : Launch} {e : Env} {s : State} {m : MethodId} {args : Array Value} {below : List Frame} {meth : Method} {c : Code} {G : bG} {σ0 : bS} {Q : bS → Prop} {P10 : Int → bS → Prop} {σ : bS} (S : CallFix p m c cX2_measure 3 s args bT "BankLinker$Layout") (hr : meth.sig.returnType = none) (hlk : meth.locks = false) (hP10 : ∀ (x2 : Int) (σ : bS), bR x2 → bRG σ → P10 x2 σ → bA p l e { frames := 3, cells := 0, slots := 0, locals := 67 } s m args below meth c 0 0 (bQv below args s G σ0 Q) G (va_A (bk_w G σ0) s.heap.size) 3 10 [(0, .ref (G.2.2 3)), (1, .ref (G.2.2 1)), (2, .int (bI x2))] [] σ) (hσ : bRG σ) (h : eX2_measure Q P10 σ) : bA p l e { frames := 3, cells := 0, slots := 0, locals := 67 } s m args below meth c 0 0 (bQv below args s G σ0 Q) G (va_A (bk_w G σ0) s.heap.size) 3 0 [(0, .ref (G.2.2 3)), (1, .ref (G.2.2 1))] [] σ := by
  unfold eX2_measure at h
  refine br_aload_n S 0 dX2_measure_0 rfl rfl ?_
  refine br_get (f := 6) (N := 14) (C := RX2) (T := TX2) S inT_X2 wd_1_122 (by decide) rfl rfl (by decide) rfl dX2_measure_1 ?_
  refine br_iconst S dX2_measure_4 ?_
  refine br_callSv (As := [.ref (G.2.2 28), .int (bI 0)]) (rest := []) S (cwS_J7_fill_53178 S.2.2.2.2 wd_2_194 ⟨by decide, by decide⟩) (mJ7_fill_53178_28 l G σ 0 (by decide) h) hσ rfl rfl (Nat.le_of_ble_eq_true rfl) ⟨by decide, by decide⟩ dX2_measure_5 (fun σ2 hσ2 h => ?_)
  refine br_iconst S dX2_measure_8 ?_
  refine br_istore_n S [(2, .int (bI 0)), (0, .ref (G.2.2 3)), (1, .ref (G.2.2 1))] dX2_measure_9 rfl (by decide) rfl ?_
  exact bA.perm [1, 2, 0] rfl <| hP10 0 σ2 (by decide) hσ2 h
def LX2_measure_10 (Q : bS → Prop) (x2 : Int) (σ : bS) : Prop := ∀ (P10 : Int → bS → Prop), (∀ x2 σ, bX2_measure_10 Q P10 x2 σ → P10 x2 σ) → P10 x2 σ
theorem LX2_measure_10_in {Q : bS → Prop} {x2 : Int} {σ : bS} (h : bX2_measure_10 Q (LX2_measure_10 Q) x2 σ) : LX2_measure_10 Q x2 σ := fun P10 H10 => H10 _ _ (mono_bX2_measure_10 (fun _ h => h) (fun _ _ h => h P10 H10) h)
theorem mono_LX2_measure_10 {Q Q9 : bS → Prop} {x2 : Int} {σ : bS} (hQ : ∀ σ, Q σ → Q9 σ) (h : LX2_measure_10 Q x2 σ) : LX2_measure_10 Q9 x2 σ := fun P10 H10 => h P10 (fun _ _ hb => H10 _ _ (mono_bX2_measure_10 hQ (fun _ _ h => h) hb))
def vX2_measure (Q : bS → Prop) (σ : bS) : Prop := eX2_measure Q (LX2_measure_10 Q) σ
theorem mono_vX2_measure {Q Q9 : bS → Prop} {σ : bS} (hQ : ∀ σ, Q σ → Q9 σ) : vX2_measure Q σ → vX2_measure Q9 σ := mono_eX2_measure hQ (fun _ _ h => mono_LX2_measure_10 hQ h)
theorem mono_X2_measure {Q Q9 : bS → Prop} {σ : bS} (hQ : ∀ σ, Q σ → Q9 σ) : vX2_measure Q σ → vX2_measure Q9 σ := mono_vX2_measure hQ
theorem mX2_measure (l : Launch) (G : bG) (σ : bS) {Q : bS → Prop} (h : vX2_measure Q σ) : bk_Mv l yX2_measure (Cond.code yX2_measure cX2_measure 3 (none) :: bT) { frames := 3, cells := 0, slots := 0, locals := 67 } G σ [.ref (G.2.2 3), .ref (G.2.2 1)] Q := by
  refine bk_Mv.of (cc := cX2_measure) (maxL := 3) (ret := none) (by decide) rfl (Nat.le_of_ble_eq_true rfl) ?_
  intro p e s m args below meth c S hr hlk hσ
  let K10 : Int → bS → Prop := fun x2 τ => bR x2 → bRG τ → bA p l e { frames := 3, cells := 0, slots := 0, locals := 67 } s m args below meth c 0 0 (bQv below args s G σ Q) G (va_A (bk_w G σ) s.heap.size) 3 10 [(0, .ref (G.2.2 3)), (1, .ref (G.2.2 1)), (2, .int (bI x2))] [] τ
  have C10 : ∀ x2 τ, bX2_measure_10 Q K10 x2 τ → K10 x2 τ := fun x2 τ hb hx2 hτ => wX2_measure_10 S hr hlk (fun x2 σ hx2 hσ h => h hx2 hσ) hx2 hτ hb
  exact wX2_measure_e S hr hlk (fun x2 σ hx2 hσ h => h K10 C10 hx2 hσ) hσ h
def bX2_bankWithRoom_2 (Q : Int → bS → Prop) (P2 : Int → Int → bS → Prop) (x2 : Int) (x3 : Int) (σ : bS) : Prop := (((σ 19 0) ≤ x3 → (Q (-1) σ)) ∧ (¬ (σ 19 0) ≤ x3 → ((0 ≤ x3 ∧ x3 < 8) ∧ (bR ((σ 31 x3) + x2) ∧ (((σ 19 1) < ((σ 31 x3) + x2) → (bR (x3 + 1) ∧ (P2 x2 (x3 + 1) σ))) ∧ (¬ (σ 19 1) < ((σ 31 x3) + x2) → (Q x3 σ)))))))
theorem mono_bX2_bankWithRoom_2 {Q Q9 : Int → bS → Prop} {P2 P29 : Int → Int → bS → Prop} {x2 : Int} {x3 : Int} {σ : bS} (hQ : ∀ r σ, Q r σ → Q9 r σ) (hP2 : ∀ x2 x3 σ, P2 x2 x3 σ → P29 x2 x3 σ) : bX2_bankWithRoom_2 Q P2 x2 x3 σ → bX2_bankWithRoom_2 Q9 P29 x2 x3 σ := (bm_and (bm_imp (hQ _ _)) (bm_imp (bm_r (bm_r (bm_and (bm_imp (bm_r (hP2 _ _ _))) (bm_imp (hQ _ _)))))))
theorem wX2_bankWithRoom_2 {p : Program} {l : Launch} {e : Env} {s : State} {m : MethodId} {args : Array Value} {below : List Frame} {meth : Method} {c : Code} {G : bG} {σ0 : bS} {Q : Int → bS → Prop} {P2 : Int → Int → bS → Prop} {x2 : Int} {x3 : Int} {σ : bS} (S : CallFix p m c cX2_bankWithRoom 4 s args bT "BankLinker$Layout") (hr : meth.sig.returnType = some .int) (hlk : meth.locks = false) (hP2 : ∀ (x2 : Int) (x3 : Int) (σ : bS), bR x2 → bR x3 → bRG σ → P2 x2 x3 σ → bA p l e { frames := 0, cells := 0, slots := 0, locals := 0 } s m args below meth c 0 0 (bQi below args s G σ0 Q) G (va_A (bk_w G σ0) s.heap.size) 4 2 [(0, .ref (G.2.2 3)), (1, .ref (G.2.2 1)), (2, .int (bI x2)), (3, .int (bI x3))] [] σ) (hx2 : bR x2) (hx3 : bR x3) (hσ : bRG σ) (h : bX2_bankWithRoom_2 Q P2 x2 x3 σ) : bA p l e { frames := 0, cells := 0, slots := 0, locals := 0 } s m args below meth c 0 0 (bQi below args s G σ0 Q) G (va_A (bk_w G σ0) s.heap.size) 4 2 [(0, .ref (G.2.2 3)), (1, .ref (G.2.2 1)), (2, .int (bI x2)), (3, .int (bI x3))] [] σ := by
  unfold bX2_bankWithRoom_2 at h
  refine br_iload_n S 3 dX2_bankWithRoom_2 rfl rfl ?_
  refine br_aload_n S 1 dX2_bankWithRoom_3 rfl rfl ?_
  refine br_get (f := 8) (N := 9) (C := RX6) (T := TX6) S inT_X6 wd_1_63 (by decide) rfl rfl (by decide) rfl dX2_bankWithRoom_4 ?_
  refine br_iconst S dX2_bankWithRoom_7 ?_
  refine br_iald (n := 5) S ⟨by decide, by decide, fun _ => rfl⟩ (by decide) (by decide) dX2_bankWithRoom_8 ?_
  refine br_ic_ge S 37 hx3 (hσ 19 0) dX2_bankWithRoom_9 (by decide) (fun c1 => ?_) (fun c1 => ?_)
  · replace h := h.1 c1
    refine br_iconst S dX2_bankWithRoom_37 ?_
    exact br_iret S hr hlk (by decide) hσ dX2_bankWithRoom_38 h
  · replace h := h.2 c1
    refine br_aload_n S 0 dX2_bankWithRoom_12 rfl rfl ?_
    refine br_get (f := 9) (N := 14) (C := RX2) (T := TX2) S inT_X2 wd_1_126 (by decide) rfl rfl (by decide) rfl dX2_bankWithRoom_13 ?_
    refine br_iload_n S 3 dX2_bankWithRoom_16 rfl rfl ?_
    obtain ⟨g2, h⟩ := h
    refine br_iald (n := 8) S ⟨by decide, by decide, fun _ => rfl⟩ g2.1 g2.2 dX2_bankWithRoom_17 ?_
    refine br_iload_n S 2 dX2_bankWithRoom_18 rfl rfl ?_
    refine br_iadd S dX2_bankWithRoom_19 ?_
    refine br_aload_n S 1 dX2_bankWithRoom_20 rfl rfl ?_
    refine br_get (f := 8) (N := 9) (C := RX6) (T := TX6) S inT_X6 wd_1_63 (by decide) rfl rfl (by decide) rfl dX2_bankWithRoom_21 ?_
    refine br_iconst S dX2_bankWithRoom_24 ?_
    refine br_iald (n := 5) S ⟨by decide, by decide, fun _ => rfl⟩ (by decide) (by decide) dX2_bankWithRoom_25 ?_
    obtain ⟨g3, h⟩ := h
    refine br_ic_gt S 31 g3 (hσ 19 1) dX2_bankWithRoom_26 (by decide) (fun c4 => ?_) (fun c4 => ?_)
    · replace h := h.1 c4
      refine br_iinc S 3 [(3, .int (bI (x3 + 1))), (0, .ref (G.2.2 3)), (1, .ref (G.2.2 1)), (2, .int (bI x2))] dX2_bankWithRoom_31 rfl (by decide) rfl ?_
      refine br_goto S 2 dX2_bankWithRoom_34 (by decide) ?_
      obtain ⟨g5, h⟩ := h
      exact bA.perm [1, 2, 3, 0] rfl <| hP2 x2 (x3 + 1) σ hx2 g5 hσ h
    · replace h := h.2 c4
      refine br_iload_n S 3 dX2_bankWithRoom_29 rfl rfl ?_
      exact br_iret S hr hlk hx3 hσ dX2_bankWithRoom_30 h
def eX2_bankWithRoom (Q : Int → bS → Prop) (P2 : Int → Int → bS → Prop) (a2 : Int) (σ : bS) : Prop := (P2 a2 0 σ)
theorem mono_eX2_bankWithRoom {Q Q9 : Int → bS → Prop} {P2 P29 : Int → Int → bS → Prop} {a2 : Int} {σ : bS} (hQ : ∀ r σ, Q r σ → Q9 r σ) (hP2 : ∀ x2 x3 σ, P2 x2 x3 σ → P29 x2 x3 σ) : eX2_bankWithRoom Q P2 a2 σ → eX2_bankWithRoom Q9 P29 a2 σ := (hP2 _ _ _)
theorem wX2_bankWithRoom_e {p : Program} {l : Launch} {e : Env} {s : State} {m : MethodId} {args : Array Value} {below : List Frame} {meth : Method} {c : Code} {G : bG} {σ0 : bS} {Q : Int → bS → Prop} {P2 : Int → Int → bS → Prop} {a2 : Int} {σ : bS} (S : CallFix p m c cX2_bankWithRoom 4 s args bT "BankLinker$Layout") (hr : meth.sig.returnType = some .int) (hlk : meth.locks = false) (hP2 : ∀ (x2 : Int) (x3 : Int) (σ : bS), bR x2 → bR x3 → bRG σ → P2 x2 x3 σ → bA p l e { frames := 0, cells := 0, slots := 0, locals := 0 } s m args below meth c 0 0 (bQi below args s G σ0 Q) G (va_A (bk_w G σ0) s.heap.size) 4 2 [(0, .ref (G.2.2 3)), (1, .ref (G.2.2 1)), (2, .int (bI x2)), (3, .int (bI x3))] [] σ) (ha2 : bR a2) (hσ : bRG σ) (h : eX2_bankWithRoom Q P2 a2 σ) : bA p l e { frames := 0, cells := 0, slots := 0, locals := 0 } s m args below meth c 0 0 (bQi below args s G σ0 Q) G (va_A (bk_w G σ0) s.heap.size) 4 0 [(0, .ref (G.2.2 3)), (1, .ref (G.2.2 1)), (2, .int (bI a2))] [] σ := by
  unfold eX2_bankWithRoom at h
  refine br_iconst S dX2_bankWithRoom_0 ?_
  refine br_istore_n S [(3, .int (bI 0)), (0, .ref (G.2.2 3)), (1, .ref (G.2.2 1)), (2, .int (bI a2))] dX2_bankWithRoom_1 rfl (by decide) rfl ?_
  exact bA.perm [1, 2, 3, 0] rfl <| hP2 a2 0 σ ha2 (by decide) hσ h
def LX2_bankWithRoom_2 (Q : Int → bS → Prop) (x2 : Int) (x3 : Int) (σ : bS) : Prop := ∀ (P2 : Int → Int → bS → Prop), (∀ x2 x3 σ, bX2_bankWithRoom_2 Q P2 x2 x3 σ → P2 x2 x3 σ) → P2 x2 x3 σ
theorem LX2_bankWithRoom_2_in {Q : Int → bS → Prop} {x2 : Int} {x3 : Int} {σ : bS} (h : bX2_bankWithRoom_2 Q (LX2_bankWithRoom_2 Q) x2 x3 σ) : LX2_bankWithRoom_2 Q x2 x3 σ := fun P2 H2 => H2 _ _ _ (mono_bX2_bankWithRoom_2 (fun _ _ h => h) (fun _ _ _ h => h P2 H2) h)
theorem mono_LX2_bankWithRoom_2 {Q Q9 : Int → bS → Prop} {x2 : Int} {x3 : Int} {σ : bS} (hQ : ∀ r σ, Q r σ → Q9 r σ) (h : LX2_bankWithRoom_2 Q x2 x3 σ) : LX2_bankWithRoom_2 Q9 x2 x3 σ := fun P2 H2 => h P2 (fun _ _ _ hb => H2 _ _ _ (mono_bX2_bankWithRoom_2 hQ (fun _ _ _ h => h) hb))
def vX2_bankWithRoom (Q : Int → bS → Prop) (a2 : Int) (σ : bS) : Prop := eX2_bankWithRoom Q (LX2_bankWithRoom_2 Q) a2 σ
theorem mono_vX2_bankWithRoom {Q Q9 : Int → bS → Prop} {a2 : Int} {σ : bS} (hQ : ∀ r σ, Q r σ → Q9 r σ) : vX2_bankWithRoom Q a2 σ → vX2_bankWithRoom Q9 a2 σ := mono_eX2_bankWithRoom hQ (fun _ _ _ h => mono_LX2_bankWithRoom_2 hQ h)
theorem mono_X2_bankWithRoom {Q Q9 : Int → bS → Prop} {a2 : Int} {σ : bS} (hQ : ∀ r σ, Q r σ → Q9 r σ) : vX2_bankWithRoom Q a2 σ → vX2_bankWithRoom Q9 a2 σ := mono_vX2_bankWithRoom hQ
theorem mX2_bankWithRoom (l : Launch) (G : bG) (σ : bS) (a2 : Int) (ha2 : bR a2) {Q : Int → bS → Prop} (h : vX2_bankWithRoom Q a2 σ) : bk_Mi l yX2_bankWithRoom (Cond.code yX2_bankWithRoom cX2_bankWithRoom 4 (some .int) :: bT) { frames := 0, cells := 0, slots := 0, locals := 0 } G σ [.ref (G.2.2 3), .ref (G.2.2 1), .int (bI a2)] Q := by
  refine bk_Mi.of (cc := cX2_bankWithRoom) (maxL := 4) (ret := some .int) (by decide) rfl (Nat.le_of_ble_eq_true rfl) ?_
  intro p e s m args below meth c S hr hlk hσ
  let K2 : Int → Int → bS → Prop := fun x2 x3 τ => bR x2 → bR x3 → bRG τ → bA p l e { frames := 0, cells := 0, slots := 0, locals := 0 } s m args below meth c 0 0 (bQi below args s G σ Q) G (va_A (bk_w G σ) s.heap.size) 4 2 [(0, .ref (G.2.2 3)), (1, .ref (G.2.2 1)), (2, .int (bI x2)), (3, .int (bI x3))] [] τ
  have C2 : ∀ x2 x3 τ, bX2_bankWithRoom_2 Q K2 x2 x3 τ → K2 x2 x3 τ := fun x2 x3 τ hb hx2 hx3 hτ => wX2_bankWithRoom_2 S hr hlk (fun x2 x3 σ hx2 hx3 hσ h => h hx2 hx3 hσ) hx2 hx3 hτ hb
  exact wX2_bankWithRoom_e S hr hlk (fun x2 x3 σ hx2 hx3 hσ h => h K2 C2 hx2 hx3 hσ) ha2 hσ h
def vX2_placeModules_124 (Q : Int → bS → Prop) (P15 : Int → bS → Prop) (x2 : Int) (σ : bS) : Prop := (bR (x2 + 1) ∧ (P15 (x2 + 1) σ))
theorem mono_vX2_placeModules_124 {Q Q9 : Int → bS → Prop} {P15 P159 : Int → bS → Prop} {x2 : Int} {σ : bS} (hQ : ∀ r σ, Q r σ → Q9 r σ) (hP15 : ∀ x2 σ, P15 x2 σ → P159 x2 σ) : vX2_placeModules_124 Q P15 x2 σ → vX2_placeModules_124 Q9 P159 x2 σ := (bm_r (hP15 _ _))
theorem wX2_placeModules_124 {p : Program} {l : Launch} {e : Env} {s : State} {m : MethodId} {args : Array Value} {below : List Frame} {meth : Method} {c : Code} {G : bG} {σ0 : bS} {Q : Int → bS → Prop} {P15 : Int → bS → Prop} {x2 : Int} {σ : bS} (S : CallFix p m c cX2_placeModules 4 s args bT "BankLinker$Layout") (hr : meth.sig.returnType = some .int) (hlk : meth.locks = false) (hP15 : ∀ (x2 : Int) (σ : bS), bR x2 → bRG σ → P15 x2 σ → bA p l e { frames := 1, cells := 0, slots := 0, locals := 23 } s m args below meth c 0 0 (bQi below args s G σ0 Q) G (va_A (bk_w G σ0) s.heap.size) 4 15 [(0, .ref (G.2.2 3)), (1, .ref (G.2.2 1)), (2, .int (bI x2))] [] σ) (hx2 : bR x2) (hσ : bRG σ) (h : vX2_placeModules_124 Q P15 x2 σ) : bA p l e { frames := 1, cells := 0, slots := 0, locals := 23 } s m args below meth c 0 0 (bQi below args s G σ0 Q) G (va_A (bk_w G σ0) s.heap.size) 4 124 [(0, .ref (G.2.2 3)), (1, .ref (G.2.2 1)), (2, .int (bI x2))] [] σ := by
  unfold vX2_placeModules_124 at h
  refine br_iinc S 2 [(2, .int (bI (x2 + 1))), (0, .ref (G.2.2 3)), (1, .ref (G.2.2 1))] dX2_placeModules_124 rfl (by decide) rfl ?_
  refine br_goto S 15 dX2_placeModules_127 (by decide) ?_
  obtain ⟨g1, h⟩ := h
  exact bA.perm [1, 2, 0] rfl <| hP15 (x2 + 1) σ g1 hσ h
def bX2_placeModules_15 (Q : Int → bS → Prop) (P15 : Int → bS → Prop) (x2 : Int) (σ : bS) : Prop := (((σ 1 0) ≤ x2 → (Q (-1) σ)) ∧ (¬ (σ 1 0) ≤ x2 → ((0 ≤ x2 ∧ x2 < 12) ∧ ((¬ (σ 13 x2) = 0 → (vX2_bankWithRoom (fun z4 σ5 => ((¬ z4 = (-1) → (∀ σ7 : bS, σ7 = bup σ5 29 x2 z4 → ((0 ≤ z4 ∧ z4 < 8) ∧ (bR (256 + (σ7 31 z4)) ∧ (∀ σ11 : bS, σ11 = bup σ7 30 x2 (256 + (σ7 31 z4)) → (bR ((σ11 31 z4) + (σ11 28 x2)) ∧ (∀ σ14 : bS, σ14 = bup σ11 31 z4 ((σ11 31 z4) + (σ11 28 x2)) → (vX2_placeModules_124 Q P15 x2 σ14)))))))) ∧ (z4 = (-1) → (Q x2 σ5)))) (σ 28 x2) σ)) ∧ ((σ 13 x2) = 0 → (∀ σ16 : bS, σ16 = bup σ 29 x2 (-1) → (∀ σ18 : bS, σ18 = bup σ16 30 x2 (σ16 3 10) → (bR ((σ18 3 10) + (σ18 28 x2)) ∧ (∀ σ21 : bS, σ21 = bup σ18 3 10 ((σ18 3 10) + (σ18 28 x2)) → (vX2_placeModules_124 Q P15 x2 σ21))))))))))
theorem mono_bX2_placeModules_15 {Q Q9 : Int → bS → Prop} {P15 P159 : Int → bS → Prop} {x2 : Int} {σ : bS} (hQ : ∀ r σ, Q r σ → Q9 r σ) (hP15 : ∀ x2 σ, P15 x2 σ → P159 x2 σ) : bX2_placeModules_15 Q P15 x2 σ → bX2_placeModules_15 Q9 P159 x2 σ := (bm_and (bm_imp (hQ _ _)) (bm_imp (bm_r (bm_and (bm_imp (mono_X2_bankWithRoom (fun _ _ => (bm_and (bm_imp (bm_all fun _ => bm_imp (bm_r (bm_r (bm_all fun _ => bm_imp (bm_r (bm_all fun _ => bm_imp (mono_vX2_placeModules_124 hQ hP15)))))))) (bm_imp (hQ _ _)))))) (bm_imp (bm_all fun _ => bm_imp (bm_all fun _ => bm_imp (bm_r (bm_all fun _ => bm_imp (mono_vX2_placeModules_124 hQ hP15))))))))))
theorem wX2_placeModules_15 {p : Program} {l : Launch} {e : Env} {s : State} {m : MethodId} {args : Array Value} {below : List Frame} {meth : Method} {c : Code} {G : bG} {σ0 : bS} {Q : Int → bS → Prop} {P15 : Int → bS → Prop} {x2 : Int} {σ : bS} (S : CallFix p m c cX2_placeModules 4 s args bT "BankLinker$Layout") (hr : meth.sig.returnType = some .int) (hlk : meth.locks = false) (hP15 : ∀ (x2 : Int) (σ : bS), bR x2 → bRG σ → P15 x2 σ → bA p l e { frames := 1, cells := 0, slots := 0, locals := 23 } s m args below meth c 0 0 (bQi below args s G σ0 Q) G (va_A (bk_w G σ0) s.heap.size) 4 15 [(0, .ref (G.2.2 3)), (1, .ref (G.2.2 1)), (2, .int (bI x2))] [] σ) (hx2 : bR x2) (hσ : bRG σ) (h : bX2_placeModules_15 Q P15 x2 σ) : bA p l e { frames := 1, cells := 0, slots := 0, locals := 23 } s m args below meth c 0 0 (bQi below args s G σ0 Q) G (va_A (bk_w G σ0) s.heap.size) 4 15 [(0, .ref (G.2.2 3)), (1, .ref (G.2.2 1)), (2, .int (bI x2))] [] σ := by
  unfold bX2_placeModules_15 at h
  refine br_iload_n S 2 dX2_placeModules_15 rfl rfl ?_
  refine br_aload_n S 1 dX2_placeModules_16 rfl rfl ?_
  refine br_get (f := 0) (N := 9) (C := RX6) (T := TX6) S inT_X6 wd_1_38 (by decide) rfl rfl (by decide) rfl dX2_placeModules_17 ?_
  refine br_ic_ge S 130 hx2 (hσ 1 0) dX2_placeModules_20 (by decide) (fun c1 => ?_) (fun c1 => ?_)
  · replace h := h.1 c1
    refine br_iconst S dX2_placeModules_130 ?_
    exact br_iret S hr hlk (by decide) hσ dX2_placeModules_131 h
  · replace h := h.2 c1
    refine br_aload_n S 1 dX2_placeModules_23 rfl rfl ?_
    refine br_get (f := 1) (N := 9) (C := RX6) (T := TX6) S inT_X6 wd_1_41 (by decide) rfl rfl (by decide) rfl dX2_placeModules_24 ?_
    refine br_iload_n S 2 dX2_placeModules_27 rfl rfl ?_
    obtain ⟨g2, h⟩ := h
    refine br_iald (n := 12) S ⟨by decide, by decide, fun _ => rfl⟩ g2.1 g2.2 dX2_placeModules_28 ?_
    refine br_if_ne S 67 (hσ 13 x2) dX2_placeModules_29 (by decide) (fun c3 => ?_) (fun c3 => ?_)
    · replace h := h.1 c3
      refine br_aload_n S 0 dX2_placeModules_67 rfl rfl ?_
      refine br_aload_n S 1 dX2_placeModules_68 rfl rfl ?_
      refine br_aload_n S 0 dX2_placeModules_69 rfl rfl ?_
      refine br_get (f := 6) (N := 14) (C := RX2) (T := TX2) S inT_X2 wd_1_122 (by decide) rfl rfl (by decide) rfl dX2_placeModules_70 ?_
      refine br_iload_n S 2 dX2_placeModules_73 rfl rfl ?_
      refine br_iald (n := 12) S ⟨by decide, by decide, fun _ => rfl⟩ g2.1 g2.2 dX2_placeModules_74 ?_
      refine br_callV (As := [.ref (G.2.2 1), .int (bI (σ 28 x2))]) (rest := []) S (cwV_X2_bankWithRoom S.2.2.2.2 wd_2_221 ⟨by decide, by decide⟩) (mX2_bankWithRoom l G σ (σ 28 x2) (hσ 28 x2) h) (by decide) rfl rfl rfl hσ rfl rfl (Nat.le_of_ble_eq_true rfl) ⟨by decide, by decide⟩ dX2_placeModules_75 (fun z4 σ5 hz4 hσ5 h => ?_)
      refine br_istore_n S [(3, .int (bI z4)), (0, .ref (G.2.2 3)), (1, .ref (G.2.2 1)), (2, .int (bI x2))] dX2_placeModules_78 rfl (by decide) rfl ?_
      refine br_iload_n S 0 dX2_placeModules_79 rfl rfl ?_
      refine br_iconst S dX2_placeModules_80 ?_
      refine br_ic_ne S 86 hz4 (by decide) dX2_placeModules_81 (by decide) (fun c6 => ?_) (fun c6 => ?_)
      · replace h := h.1 c6
        refine br_aload_n S 1 dX2_placeModules_86 rfl rfl ?_
        refine br_get (f := 7) (N := 14) (C := RX2) (T := TX2) S inT_X2 wd_1_124 (by decide) rfl rfl (by decide) rfl dX2_placeModules_87 ?_
        refine br_iload_n S 3 dX2_placeModules_90 rfl rfl ?_
        refine br_iload_n S 0 dX2_placeModules_91 rfl rfl ?_
        obtain ⟨σ7, e8⟩ : ∃ τ, τ = bup σ5 29 x2 z4 := ⟨_, rfl⟩
        replace h := h σ7 e8
        have hσ7 : bRG σ7 := by rw [e8]; exact bup_rg hσ5 hz4
        refine br_iast (n := 12) S ⟨by decide, by decide, fun _ => rfl⟩ g2.1 g2.2 dX2_placeModules_92 ?_
        refine bA.to rfl rfl e8.symm ?_
        refine br_aload_n S 1 dX2_placeModules_93 rfl rfl ?_
        refine br_get (f := 8) (N := 14) (C := RX2) (T := TX2) S inT_X2 wd_1_125 (by decide) rfl rfl (by decide) rfl dX2_placeModules_94 ?_
        refine br_iload_n S 3 dX2_placeModules_97 rfl rfl ?_
        refine br_sipush S dX2_placeModules_98 rfl ?_
        refine br_aload_n S 1 dX2_placeModules_101 rfl rfl ?_
        refine br_get (f := 9) (N := 14) (C := RX2) (T := TX2) S inT_X2 wd_1_126 (by decide) rfl rfl (by decide) rfl dX2_placeModules_102 ?_
        refine br_iload_n S 0 dX2_placeModules_105 rfl rfl ?_
        obtain ⟨g9, h⟩ := h
        refine br_iald (n := 8) S ⟨by decide, by decide, fun _ => rfl⟩ g9.1 g9.2 dX2_placeModules_106 ?_
        refine br_iadd S dX2_placeModules_107 ?_
        obtain ⟨g10, h⟩ := h
        obtain ⟨σ11, e12⟩ : ∃ τ, τ = bup σ7 30 x2 (256 + (σ7 31 z4)) := ⟨_, rfl⟩
        replace h := h σ11 e12
        have hσ11 : bRG σ11 := by rw [e12]; exact bup_rg hσ7 g10
        refine br_iast (n := 12) S ⟨by decide, by decide, fun _ => rfl⟩ g2.1 g2.2 dX2_placeModules_108 ?_
        refine bA.to rfl rfl e12.symm ?_
        refine br_aload_n S 1 dX2_placeModules_109 rfl rfl ?_
        refine br_get (f := 9) (N := 14) (C := RX2) (T := TX2) S inT_X2 wd_1_126 (by decide) rfl rfl (by decide) rfl dX2_placeModules_110 ?_
        refine br_iload_n S 0 dX2_placeModules_113 rfl rfl ?_
        refine br_dup2 S dX2_placeModules_114 rfl rfl ?_
        refine br_iald (n := 8) S ⟨by decide, by decide, fun _ => rfl⟩ g9.1 g9.2 dX2_placeModules_115 ?_
        refine br_aload_n S 1 dX2_placeModules_116 rfl rfl ?_
        refine br_get (f := 6) (N := 14) (C := RX2) (T := TX2) S inT_X2 wd_1_122 (by decide) rfl rfl (by decide) rfl dX2_placeModules_117 ?_
        refine br_iload_n S 3 dX2_placeModules_120 rfl rfl ?_
        refine br_iald (n := 12) S ⟨by decide, by decide, fun _ => rfl⟩ g2.1 g2.2 dX2_placeModules_121 ?_
        refine br_iadd S dX2_placeModules_122 ?_
        obtain ⟨g13, h⟩ := h
        obtain ⟨σ14, e15⟩ : ∃ τ, τ = bup σ11 31 z4 ((σ11 31 z4) + (σ11 28 x2)) := ⟨_, rfl⟩
        replace h := h σ14 e15
        have hσ14 : bRG σ14 := by rw [e15]; exact bup_rg hσ11 g13
        refine br_iast (n := 8) S ⟨by decide, by decide, fun _ => rfl⟩ g9.1 g9.2 dX2_placeModules_123 ?_
        refine bA.to rfl rfl e15.symm ?_
        exact bA.perm [1, 2, 3] rfl <| wX2_placeModules_124 S hr hlk hP15 hx2 hσ14 h
      · replace h := h.2 c6
        refine br_iload_n S 3 dX2_placeModules_84 rfl rfl ?_
        exact br_iret S hr hlk hx2 hσ5 dX2_placeModules_85 h
    · replace h := h.2 c3
      refine br_aload_n S 0 dX2_placeModules_32 rfl rfl ?_
      refine br_get (f := 7) (N := 14) (C := RX2) (T := TX2) S inT_X2 wd_1_124 (by decide) rfl rfl (by decide) rfl dX2_placeModules_33 ?_
      refine br_iload_n S 2 dX2_placeModules_36 rfl rfl ?_
      refine br_iconst S dX2_placeModules_37 ?_
      obtain ⟨σ16, e17⟩ : ∃ τ, τ = bup σ 29 x2 (-1) := ⟨_, rfl⟩
      replace h := h σ16 e17
      have hσ16 : bRG σ16 := by rw [e17]; exact bup_rg hσ (by decide)
      refine br_iast (n := 12) S ⟨by decide, by decide, fun _ => rfl⟩ g2.1 g2.2 dX2_placeModules_38 ?_
      refine bA.to rfl rfl e17.symm ?_
      refine br_aload_n S 0 dX2_placeModules_39 rfl rfl ?_
      refine br_get (f := 8) (N := 14) (C := RX2) (T := TX2) S inT_X2 wd_1_125 (by decide) rfl rfl (by decide) rfl dX2_placeModules_40 ?_
      refine br_iload_n S 2 dX2_placeModules_43 rfl rfl ?_
      refine br_aload_n S 0 dX2_placeModules_44 rfl rfl ?_
      refine br_get (f := 10) (N := 14) (C := RX2) (T := TX2) S inT_X2 wd_1_127 (by decide) rfl rfl (by decide) rfl dX2_placeModules_45 ?_
      obtain ⟨σ18, e19⟩ : ∃ τ, τ = bup σ16 30 x2 (σ16 3 10) := ⟨_, rfl⟩
      replace h := h σ18 e19
      have hσ18 : bRG σ18 := by rw [e19]; exact bup_rg hσ16 (hσ16 3 10)
      refine br_iast (n := 12) S ⟨by decide, by decide, fun _ => rfl⟩ g2.1 g2.2 dX2_placeModules_48 ?_
      refine bA.to rfl rfl e19.symm ?_
      refine br_aload_n S 0 dX2_placeModules_49 rfl rfl ?_
      refine br_dup S dX2_placeModules_50 rfl ?_
      refine br_get (f := 10) (N := 14) (C := RX2) (T := TX2) S inT_X2 wd_1_127 (by decide) rfl rfl (by decide) rfl dX2_placeModules_51 ?_
      refine br_aload_n S 0 dX2_placeModules_54 rfl rfl ?_
      refine br_get (f := 6) (N := 14) (C := RX2) (T := TX2) S inT_X2 wd_1_122 (by decide) rfl rfl (by decide) rfl dX2_placeModules_55 ?_
      refine br_iload_n S 2 dX2_placeModules_58 rfl rfl ?_
      refine br_iald (n := 12) S ⟨by decide, by decide, fun _ => rfl⟩ g2.1 g2.2 dX2_placeModules_59 ?_
      refine br_iadd S dX2_placeModules_60 ?_
      obtain ⟨g20, h⟩ := h
      obtain ⟨σ21, e22⟩ : ∃ τ, τ = bup σ18 3 10 ((σ18 3 10) + (σ18 28 x2)) := ⟨_, rfl⟩
      replace h := h σ21 e22
      have hσ21 : bRG σ21 := by rw [e22]; exact bup_rg hσ18 g20
      refine br_put (f := 10) (N := 14) (C := RX2) (T := TX2) S tyX2 tyX2_ok nmX2 inT_X2 wd_1_127 (by decide) rfl (pf_3_10 _ _ _) rfl (by decide) (Nat.le_of_ble_eq_true rfl) rfl rfl rfl rfl dX2_placeModules_61 ?_
      refine bA.to rfl rfl e22.symm ?_
      refine br_goto S 124 dX2_placeModules_64 (by decide) ?_
      exact wX2_placeModules_124 S hr hlk hP15 hx2 hσ21 h
def eX2_placeModules (Q : Int → bS → Prop) (P15 : Int → bS → Prop) (σ : bS) : Prop := (vJ7_fill_53178_31 (fun σ2 => (∀ σ3 : bS, σ3 = bup σ2 3 10 0 → (P15 0 σ3))) 0 σ)
theorem mono_eX2_placeModules {Q Q9 : Int → bS → Prop} {P15 P159 : Int → bS → Prop} {σ : bS} (hQ : ∀ r σ, Q r σ → Q9 r σ) (hP15 : ∀ x2 σ, P15 x2 σ → P159 x2 σ) : eX2_placeModules Q P15 σ → eX2_placeModules Q9 P159 σ := (mono_J7_fill_53178_31 (fun _ => (bm_all fun _ => bm_imp (hP15 _ _))))
theorem wX2_placeModules_e {p : Program} {l : Launch} {e : Env} {s : State} {m : MethodId} {args : Array Value} {below : List Frame} {meth : Method} {c : Code} {G : bG} {σ0 : bS} {Q : Int → bS → Prop} {P15 : Int → bS → Prop} {σ : bS} (S : CallFix p m c cX2_placeModules 4 s args bT "BankLinker$Layout") (hr : meth.sig.returnType = some .int) (hlk : meth.locks = false) (hP15 : ∀ (x2 : Int) (σ : bS), bR x2 → bRG σ → P15 x2 σ → bA p l e { frames := 1, cells := 0, slots := 0, locals := 23 } s m args below meth c 0 0 (bQi below args s G σ0 Q) G (va_A (bk_w G σ0) s.heap.size) 4 15 [(0, .ref (G.2.2 3)), (1, .ref (G.2.2 1)), (2, .int (bI x2))] [] σ) (hσ : bRG σ) (h : eX2_placeModules Q P15 σ) : bA p l e { frames := 1, cells := 0, slots := 0, locals := 23 } s m args below meth c 0 0 (bQi below args s G σ0 Q) G (va_A (bk_w G σ0) s.heap.size) 4 0 [(0, .ref (G.2.2 3)), (1, .ref (G.2.2 1))] [] σ := by
  unfold eX2_placeModules at h
  refine br_aload_n S 0 dX2_placeModules_0 rfl rfl ?_
  refine br_get (f := 9) (N := 14) (C := RX2) (T := TX2) S inT_X2 wd_1_126 (by decide) rfl rfl (by decide) rfl dX2_placeModules_1 ?_
  refine br_iconst S dX2_placeModules_4 ?_
  refine br_callSv (As := [.ref (G.2.2 31), .int (bI 0)]) (rest := []) S (cwS_J7_fill_53178 S.2.2.2.2 wd_2_194 ⟨by decide, by decide⟩) (mJ7_fill_53178_31 l G σ 0 (by decide) h) hσ rfl rfl (Nat.le_of_ble_eq_true rfl) ⟨by decide, by decide⟩ dX2_placeModules_5 (fun σ2 hσ2 h => ?_)
  refine br_aload_n S 0 dX2_placeModules_8 rfl rfl ?_
  refine br_iconst S dX2_placeModules_9 ?_
  obtain ⟨σ3, e4⟩ : ∃ τ, τ = bup σ2 3 10 0 := ⟨_, rfl⟩
  replace h := h σ3 e4
  have hσ3 : bRG σ3 := by rw [e4]; exact bup_rg hσ2 (by decide)
  refine br_put (f := 10) (N := 14) (C := RX2) (T := TX2) S tyX2 tyX2_ok nmX2 inT_X2 wd_1_127 (by decide) rfl (pf_3_10 _ _ _) rfl (by decide) (Nat.le_of_ble_eq_true rfl) rfl rfl rfl rfl dX2_placeModules_10 ?_
  refine bA.to rfl rfl e4.symm ?_
  refine br_iconst S dX2_placeModules_13 ?_
  refine br_istore_n S [(2, .int (bI 0)), (0, .ref (G.2.2 3)), (1, .ref (G.2.2 1))] dX2_placeModules_14 rfl (by decide) rfl ?_
  exact bA.perm [1, 2, 0] rfl <| hP15 0 σ3 (by decide) hσ3 h
def LX2_placeModules_15 (Q : Int → bS → Prop) (x2 : Int) (σ : bS) : Prop := ∀ (P15 : Int → bS → Prop), (∀ x2 σ, bX2_placeModules_15 Q P15 x2 σ → P15 x2 σ) → P15 x2 σ
theorem LX2_placeModules_15_in {Q : Int → bS → Prop} {x2 : Int} {σ : bS} (h : bX2_placeModules_15 Q (LX2_placeModules_15 Q) x2 σ) : LX2_placeModules_15 Q x2 σ := fun P15 H15 => H15 _ _ (mono_bX2_placeModules_15 (fun _ _ h => h) (fun _ _ h => h P15 H15) h)
theorem mono_LX2_placeModules_15 {Q Q9 : Int → bS → Prop} {x2 : Int} {σ : bS} (hQ : ∀ r σ, Q r σ → Q9 r σ) (h : LX2_placeModules_15 Q x2 σ) : LX2_placeModules_15 Q9 x2 σ := fun P15 H15 => h P15 (fun _ _ hb => H15 _ _ (mono_bX2_placeModules_15 hQ (fun _ _ h => h) hb))
def vX2_placeModules (Q : Int → bS → Prop) (σ : bS) : Prop := eX2_placeModules Q (LX2_placeModules_15 Q) σ
theorem mono_vX2_placeModules {Q Q9 : Int → bS → Prop} {σ : bS} (hQ : ∀ r σ, Q r σ → Q9 r σ) : vX2_placeModules Q σ → vX2_placeModules Q9 σ := mono_eX2_placeModules hQ (fun _ _ h => mono_LX2_placeModules_15 hQ h)
theorem mono_X2_placeModules {Q Q9 : Int → bS → Prop} {σ : bS} (hQ : ∀ r σ, Q r σ → Q9 r σ) : vX2_placeModules Q σ → vX2_placeModules Q9 σ := mono_vX2_placeModules hQ
theorem mX2_placeModules (l : Launch) (G : bG) (σ : bS) {Q : Int → bS → Prop} (h : vX2_placeModules Q σ) : bk_Mi l yX2_placeModules (Cond.code yX2_placeModules cX2_placeModules 4 (some .int) :: bT) { frames := 1, cells := 0, slots := 0, locals := 23 } G σ [.ref (G.2.2 3), .ref (G.2.2 1)] Q := by
  refine bk_Mi.of (cc := cX2_placeModules) (maxL := 4) (ret := some .int) (by decide) rfl (Nat.le_of_ble_eq_true rfl) ?_
  intro p e s m args below meth c S hr hlk hσ
  let K15 : Int → bS → Prop := fun x2 τ => bR x2 → bRG τ → bA p l e { frames := 1, cells := 0, slots := 0, locals := 23 } s m args below meth c 0 0 (bQi below args s G σ Q) G (va_A (bk_w G σ) s.heap.size) 4 15 [(0, .ref (G.2.2 3)), (1, .ref (G.2.2 1)), (2, .int (bI x2))] [] τ
  have C15 : ∀ x2 τ, bX2_placeModules_15 Q K15 x2 τ → K15 x2 τ := fun x2 τ hb hx2 hτ => wX2_placeModules_15 S hr hlk (fun x2 σ hx2 hσ h => h hx2 hσ) hx2 hτ hb
  exact wX2_placeModules_e S hr hlk (fun x2 σ hx2 hσ h => h K15 C15 hx2 hσ) hσ h
def bX2_placeRoutines_2 (Q : bS → Prop) (P2 : Int → bS → Prop) (x2 : Int) (σ : bS) : Prop := (((σ 1 2) ≤ x2 → (Q σ)) ∧ (¬ (σ 1 2) ≤ x2 → ((0 ≤ x2 ∧ x2 < 30) ∧ ((0 ≤ (σ 14 x2) ∧ (σ 14 x2) < 12) ∧ (∀ σ4 : bS, σ4 = bup σ 23 x2 (σ 29 (σ 14 x2)) → (∀ σ6 : bS, σ6 = bup σ4 24 x2 (σ4 30 (σ 14 x2)) → (bR ((σ6 30 (σ 14 x2)) + (σ6 22 x2)) ∧ (∀ σ9 : bS, σ9 = bup σ6 30 (σ 14 x2) ((σ6 30 (σ 14 x2)) + (σ6 22 x2)) → (bR (x2 + 1) ∧ (P2 (x2 + 1) σ9))))))))))
theorem mono_bX2_placeRoutines_2 {Q Q9 : bS → Prop} {P2 P29 : Int → bS → Prop} {x2 : Int} {σ : bS} (hQ : ∀ σ, Q σ → Q9 σ) (hP2 : ∀ x2 σ, P2 x2 σ → P29 x2 σ) : bX2_placeRoutines_2 Q P2 x2 σ → bX2_placeRoutines_2 Q9 P29 x2 σ := (bm_and (bm_imp (hQ _)) (bm_imp (bm_r (bm_r (bm_all fun _ => bm_imp (bm_all fun _ => bm_imp (bm_r (bm_all fun _ => bm_imp (bm_r (hP2 _ _))))))))))
theorem wX2_placeRoutines_2 {p : Program} {l : Launch} {e : Env} {s : State} {m : MethodId} {args : Array Value} {below : List Frame} {meth : Method} {c : Code} {G : bG} {σ0 : bS} {Q : bS → Prop} {P2 : Int → bS → Prop} {x2 : Int} {σ : bS} (S : CallFix p m c cX2_placeRoutines 4 s args bT "BankLinker$Layout") (hr : meth.sig.returnType = none) (hlk : meth.locks = false) (hP2 : ∀ (x2 : Int) (σ : bS), bR x2 → bRG σ → P2 x2 σ → bA p l e { frames := 0, cells := 0, slots := 0, locals := 0 } s m args below meth c 0 0 (bQv below args s G σ0 Q) G (va_A (bk_w G σ0) s.heap.size) 4 2 [(0, .ref (G.2.2 3)), (1, .ref (G.2.2 1)), (2, .int (bI x2))] [] σ) (hx2 : bR x2) (hσ : bRG σ) (h : bX2_placeRoutines_2 Q P2 x2 σ) : bA p l e { frames := 0, cells := 0, slots := 0, locals := 0 } s m args below meth c 0 0 (bQv below args s G σ0 Q) G (va_A (bk_w G σ0) s.heap.size) 4 2 [(0, .ref (G.2.2 3)), (1, .ref (G.2.2 1)), (2, .int (bI x2))] [] σ := by
  unfold bX2_placeRoutines_2 at h
  refine br_iload_n S 2 dX2_placeRoutines_2 rfl rfl ?_
  refine br_aload_n S 1 dX2_placeRoutines_3 rfl rfl ?_
  refine br_get (f := 2) (N := 9) (C := RX6) (T := TX6) S inT_X6 wd_1_45 (by decide) rfl rfl (by decide) rfl dX2_placeRoutines_4 ?_
  refine br_ic_ge S 62 hx2 (hσ 1 2) dX2_placeRoutines_7 (by decide) (fun c1 => ?_) (fun c1 => ?_)
  · replace h := h.1 c1
    exact br_vret S hr hlk hσ dX2_placeRoutines_62 h
  · replace h := h.2 c1
    refine br_aload_n S 1 dX2_placeRoutines_10 rfl rfl ?_
    refine br_get (f := 3) (N := 9) (C := RX6) (T := TX6) S inT_X6 wd_1_49 (by decide) rfl rfl (by decide) rfl dX2_placeRoutines_11 ?_
    refine br_iload_n S 2 dX2_placeRoutines_14 rfl rfl ?_
    obtain ⟨g2, h⟩ := h
    refine br_iald (n := 30) S ⟨by decide, by decide, fun _ => rfl⟩ g2.1 g2.2 dX2_placeRoutines_15 ?_
    refine br_istore_n S [(3, .int (bI (σ 14 x2))), (0, .ref (G.2.2 3)), (1, .ref (G.2.2 1)), (2, .int (bI x2))] dX2_placeRoutines_16 rfl (by decide) rfl ?_
    refine br_aload_n S 1 dX2_placeRoutines_17 rfl rfl ?_
    refine br_get (f := 1) (N := 14) (C := RX2) (T := TX2) S inT_X2 wd_1_107 (by decide) rfl rfl (by decide) rfl dX2_placeRoutines_18 ?_
    refine br_iload_n S 3 dX2_placeRoutines_21 rfl rfl ?_
    refine br_aload_n S 1 dX2_placeRoutines_22 rfl rfl ?_
    refine br_get (f := 7) (N := 14) (C := RX2) (T := TX2) S inT_X2 wd_1_124 (by decide) rfl rfl (by decide) rfl dX2_placeRoutines_23 ?_
    refine br_iload_n S 0 dX2_placeRoutines_26 rfl rfl ?_
    obtain ⟨g3, h⟩ := h
    refine br_iald (n := 12) S ⟨by decide, by decide, fun _ => rfl⟩ g3.1 g3.2 dX2_placeRoutines_27 ?_
    obtain ⟨σ4, e5⟩ : ∃ τ, τ = bup σ 23 x2 (σ 29 (σ 14 x2)) := ⟨_, rfl⟩
    replace h := h σ4 e5
    have hσ4 : bRG σ4 := by rw [e5]; exact bup_rg hσ (hσ 29 (σ 14 x2))
    refine br_iast (n := 30) S ⟨by decide, by decide, fun _ => rfl⟩ g2.1 g2.2 dX2_placeRoutines_28 ?_
    refine bA.to rfl rfl e5.symm ?_
    refine br_aload_n S 1 dX2_placeRoutines_29 rfl rfl ?_
    refine br_get (f := 2) (N := 14) (C := RX2) (T := TX2) S inT_X2 wd_1_110 (by decide) rfl rfl (by decide) rfl dX2_placeRoutines_30 ?_
    refine br_iload_n S 3 dX2_placeRoutines_33 rfl rfl ?_
    refine br_aload_n S 1 dX2_placeRoutines_34 rfl rfl ?_
    refine br_get (f := 8) (N := 14) (C := RX2) (T := TX2) S inT_X2 wd_1_125 (by decide) rfl rfl (by decide) rfl dX2_placeRoutines_35 ?_
    refine br_iload_n S 0 dX2_placeRoutines_38 rfl rfl ?_
    refine br_iald (n := 12) S ⟨by decide, by decide, fun _ => rfl⟩ g3.1 g3.2 dX2_placeRoutines_39 ?_
    obtain ⟨σ6, e7⟩ : ∃ τ, τ = bup σ4 24 x2 (σ4 30 (σ 14 x2)) := ⟨_, rfl⟩
    replace h := h σ6 e7
    have hσ6 : bRG σ6 := by rw [e7]; exact bup_rg hσ4 (hσ4 30 (σ 14 x2))
    refine br_iast (n := 30) S ⟨by decide, by decide, fun _ => rfl⟩ g2.1 g2.2 dX2_placeRoutines_40 ?_
    refine bA.to rfl rfl e7.symm ?_
    refine br_aload_n S 1 dX2_placeRoutines_41 rfl rfl ?_
    refine br_get (f := 8) (N := 14) (C := RX2) (T := TX2) S inT_X2 wd_1_125 (by decide) rfl rfl (by decide) rfl dX2_placeRoutines_42 ?_
    refine br_iload_n S 0 dX2_placeRoutines_45 rfl rfl ?_
    refine br_dup2 S dX2_placeRoutines_46 rfl rfl ?_
    refine br_iald (n := 12) S ⟨by decide, by decide, fun _ => rfl⟩ g3.1 g3.2 dX2_placeRoutines_47 ?_
    refine br_aload_n S 1 dX2_placeRoutines_48 rfl rfl ?_
    refine br_get (f := 0) (N := 14) (C := RX2) (T := TX2) S inT_X2 wd_1_105 (by decide) rfl rfl (by decide) rfl dX2_placeRoutines_49 ?_
    refine br_iload_n S 3 dX2_placeRoutines_52 rfl rfl ?_
    refine br_iald (n := 30) S ⟨by decide, by decide, fun _ => rfl⟩ g2.1 g2.2 dX2_placeRoutines_53 ?_
    refine br_iadd S dX2_placeRoutines_54 ?_
    obtain ⟨g8, h⟩ := h
    obtain ⟨σ9, e10⟩ : ∃ τ, τ = bup σ6 30 (σ 14 x2) ((σ6 30 (σ 14 x2)) + (σ6 22 x2)) := ⟨_, rfl⟩
    replace h := h σ9 e10
    have hσ9 : bRG σ9 := by rw [e10]; exact bup_rg hσ6 g8
    refine br_iast (n := 12) S ⟨by decide, by decide, fun _ => rfl⟩ g3.1 g3.2 dX2_placeRoutines_55 ?_
    refine bA.to rfl rfl e10.symm ?_
    refine br_iinc S 3 [(2, .int (bI (x2 + 1))), (3, .int (bI (σ 14 x2))), (0, .ref (G.2.2 3)), (1, .ref (G.2.2 1))] dX2_placeRoutines_56 rfl (by decide) rfl ?_
    refine br_goto S 2 dX2_placeRoutines_59 (by decide) ?_
    obtain ⟨g11, h⟩ := h
    exact bA.perm [2, 3, 0] rfl <| hP2 (x2 + 1) σ9 g11 hσ9 h
def eX2_placeRoutines (Q : bS → Prop) (P2 : Int → bS → Prop) (σ : bS) : Prop := (P2 0 σ)
theorem mono_eX2_placeRoutines {Q Q9 : bS → Prop} {P2 P29 : Int → bS → Prop} {σ : bS} (hQ : ∀ σ, Q σ → Q9 σ) (hP2 : ∀ x2 σ, P2 x2 σ → P29 x2 σ) : eX2_placeRoutines Q P2 σ → eX2_placeRoutines Q9 P29 σ := (hP2 _ _)
theorem wX2_placeRoutines_e {p : Program} {l : Launch} {e : Env} {s : State} {m : MethodId} {args : Array Value} {below : List Frame} {meth : Method} {c : Code} {G : bG} {σ0 : bS} {Q : bS → Prop} {P2 : Int → bS → Prop} {σ : bS} (S : CallFix p m c cX2_placeRoutines 4 s args bT "BankLinker$Layout") (hr : meth.sig.returnType = none) (hlk : meth.locks = false) (hP2 : ∀ (x2 : Int) (σ : bS), bR x2 → bRG σ → P2 x2 σ → bA p l e { frames := 0, cells := 0, slots := 0, locals := 0 } s m args below meth c 0 0 (bQv below args s G σ0 Q) G (va_A (bk_w G σ0) s.heap.size) 4 2 [(0, .ref (G.2.2 3)), (1, .ref (G.2.2 1)), (2, .int (bI x2))] [] σ) (hσ : bRG σ) (h : eX2_placeRoutines Q P2 σ) : bA p l e { frames := 0, cells := 0, slots := 0, locals := 0 } s m args below meth c 0 0 (bQv below args s G σ0 Q) G (va_A (bk_w G σ0) s.heap.size) 4 0 [(0, .ref (G.2.2 3)), (1, .ref (G.2.2 1))] [] σ := by
  unfold eX2_placeRoutines at h
  refine br_iconst S dX2_placeRoutines_0 ?_
  refine br_istore_n S [(2, .int (bI 0)), (0, .ref (G.2.2 3)), (1, .ref (G.2.2 1))] dX2_placeRoutines_1 rfl (by decide) rfl ?_
  exact bA.perm [1, 2, 0] rfl <| hP2 0 σ (by decide) hσ h
def LX2_placeRoutines_2 (Q : bS → Prop) (x2 : Int) (σ : bS) : Prop := ∀ (P2 : Int → bS → Prop), (∀ x2 σ, bX2_placeRoutines_2 Q P2 x2 σ → P2 x2 σ) → P2 x2 σ
theorem LX2_placeRoutines_2_in {Q : bS → Prop} {x2 : Int} {σ : bS} (h : bX2_placeRoutines_2 Q (LX2_placeRoutines_2 Q) x2 σ) : LX2_placeRoutines_2 Q x2 σ := fun P2 H2 => H2 _ _ (mono_bX2_placeRoutines_2 (fun _ h => h) (fun _ _ h => h P2 H2) h)
theorem mono_LX2_placeRoutines_2 {Q Q9 : bS → Prop} {x2 : Int} {σ : bS} (hQ : ∀ σ, Q σ → Q9 σ) (h : LX2_placeRoutines_2 Q x2 σ) : LX2_placeRoutines_2 Q9 x2 σ := fun P2 H2 => h P2 (fun _ _ hb => H2 _ _ (mono_bX2_placeRoutines_2 hQ (fun _ _ h => h) hb))
def vX2_placeRoutines (Q : bS → Prop) (σ : bS) : Prop := eX2_placeRoutines Q (LX2_placeRoutines_2 Q) σ
theorem mono_vX2_placeRoutines {Q Q9 : bS → Prop} {σ : bS} (hQ : ∀ σ, Q σ → Q9 σ) : vX2_placeRoutines Q σ → vX2_placeRoutines Q9 σ := mono_eX2_placeRoutines hQ (fun _ _ h => mono_LX2_placeRoutines_2 hQ h)
theorem mono_X2_placeRoutines {Q Q9 : bS → Prop} {σ : bS} (hQ : ∀ σ, Q σ → Q9 σ) : vX2_placeRoutines Q σ → vX2_placeRoutines Q9 σ := mono_vX2_placeRoutines hQ
theorem mX2_placeRoutines (l : Launch) (G : bG) (σ : bS) {Q : bS → Prop} (h : vX2_placeRoutines Q σ) : bk_Mv l yX2_placeRoutines (Cond.code yX2_placeRoutines cX2_placeRoutines 4 (none) :: bT) { frames := 0, cells := 0, slots := 0, locals := 0 } G σ [.ref (G.2.2 3), .ref (G.2.2 1)] Q := by
  refine bk_Mv.of (cc := cX2_placeRoutines) (maxL := 4) (ret := none) (by decide) rfl (Nat.le_of_ble_eq_true rfl) ?_
  intro p e s m args below meth c S hr hlk hσ
  let K2 : Int → bS → Prop := fun x2 τ => bR x2 → bRG τ → bA p l e { frames := 0, cells := 0, slots := 0, locals := 0 } s m args below meth c 0 0 (bQv below args s G σ Q) G (va_A (bk_w G σ) s.heap.size) 4 2 [(0, .ref (G.2.2 3)), (1, .ref (G.2.2 1)), (2, .int (bI x2))] [] τ
  have C2 : ∀ x2 τ, bX2_placeRoutines_2 Q K2 x2 τ → K2 x2 τ := fun x2 τ hb hx2 hτ => wX2_placeRoutines_2 S hr hlk (fun x2 σ hx2 hσ h => h hx2 hσ) hx2 hτ hb
  exact wX2_placeRoutines_e S hr hlk (fun x2 σ hx2 hσ h => h K2 C2 hx2 hσ) hσ h
def vX2_isFar (Q : Int → bS → Prop) (a1 : Int) (a2 : Int) (σ : bS) : Prop := ((0 ≤ a2 ∧ a2 < 30) ∧ (((σ 23 a2) = (-1) → (Q 0 σ)) ∧ (¬ (σ 23 a2) = (-1) → ((0 ≤ a1 ∧ a1 < 30) ∧ (((σ 23 a1) = (σ 23 a2) → (Q 0 σ)) ∧ (¬ (σ 23 a1) = (σ 23 a2) → (Q 1 σ)))))))
theorem mono_vX2_isFar {Q Q9 : Int → bS → Prop} {a1 : Int} {a2 : Int} {σ : bS} (hQ : ∀ r σ, Q r σ → Q9 r σ) : vX2_isFar Q a1 a2 σ → vX2_isFar Q9 a1 a2 σ := (bm_r (bm_and (bm_imp (hQ _ _)) (bm_imp (bm_r (bm_and (bm_imp (hQ _ _)) (bm_imp (hQ _ _)))))))
theorem wX2_isFar_e {p : Program} {l : Launch} {e : Env} {s : State} {m : MethodId} {args : Array Value} {below : List Frame} {meth : Method} {c : Code} {G : bG} {σ0 : bS} {Q : Int → bS → Prop} {a1 : Int} {a2 : Int} {σ : bS} (S : CallFix p m c cX2_isFar 3 s args bT "BankLinker$Layout") (hr : meth.sig.returnType = some .boolean) (hlk : meth.locks = false) (ha1 : bR a1) (ha2 : bR a2) (hσ : bRG σ) (h : vX2_isFar Q a1 a2 σ) : bA p l e { frames := 0, cells := 0, slots := 0, locals := 0 } s m args below meth c 0 0 (bQi below args s G σ0 Q) G (va_A (bk_w G σ0) s.heap.size) 3 0 [(0, .ref (G.2.2 3)), (1, .int (bI a1)), (2, .int (bI a2))] [] σ := by
  unfold vX2_isFar at h
  refine br_aload_n S 0 dX2_isFar_0 rfl rfl ?_
  refine br_get (f := 1) (N := 14) (C := RX2) (T := TX2) S inT_X2 wd_1_107 (by decide) rfl rfl (by decide) rfl dX2_isFar_1 ?_
  refine br_iload_n S 2 dX2_isFar_4 rfl rfl ?_
  obtain ⟨g1, h⟩ := h
  refine br_iald (n := 30) S ⟨by decide, by decide, fun _ => rfl⟩ g1.1 g1.2 dX2_isFar_5 ?_
  refine br_iconst S dX2_isFar_6 ?_
  refine br_ic_eq S 29 (hσ 23 a2) (by decide) dX2_isFar_7 (by decide) (fun c2 => ?_) (fun c2 => ?_)
  · replace h := h.1 c2
    refine br_iconst S dX2_isFar_29 ?_
    exact br_zret S hr hlk (by decide) hσ dX2_isFar_30 h
  · replace h := h.2 c2
    refine br_aload_n S 0 dX2_isFar_10 rfl rfl ?_
    refine br_get (f := 1) (N := 14) (C := RX2) (T := TX2) S inT_X2 wd_1_107 (by decide) rfl rfl (by decide) rfl dX2_isFar_11 ?_
    refine br_iload_n S 1 dX2_isFar_14 rfl rfl ?_
    obtain ⟨g3, h⟩ := h
    refine br_iald (n := 30) S ⟨by decide, by decide, fun _ => rfl⟩ g3.1 g3.2 dX2_isFar_15 ?_
    refine br_aload_n S 0 dX2_isFar_16 rfl rfl ?_
    refine br_get (f := 1) (N := 14) (C := RX2) (T := TX2) S inT_X2 wd_1_107 (by decide) rfl rfl (by decide) rfl dX2_isFar_17 ?_
    refine br_iload_n S 2 dX2_isFar_20 rfl rfl ?_
    refine br_iald (n := 30) S ⟨by decide, by decide, fun _ => rfl⟩ g1.1 g1.2 dX2_isFar_21 ?_
    refine br_ic_eq S 29 (hσ 23 a1) (hσ 23 a2) dX2_isFar_22 (by decide) (fun c4 => ?_) (fun c4 => ?_)
    · replace h := h.1 c4
      refine br_iconst S dX2_isFar_29 ?_
      exact br_zret S hr hlk (by decide) hσ dX2_isFar_30 h
    · replace h := h.2 c4
      refine br_iconst S dX2_isFar_25 ?_
      refine br_goto S 30 dX2_isFar_26 (by decide) ?_
      exact br_zret S hr hlk (by decide) hσ dX2_isFar_30 h
theorem mono_X2_isFar {Q Q9 : Int → bS → Prop} {a1 : Int} {a2 : Int} {σ : bS} (hQ : ∀ r σ, Q r σ → Q9 r σ) : vX2_isFar Q a1 a2 σ → vX2_isFar Q9 a1 a2 σ := mono_vX2_isFar hQ
theorem mX2_isFar (l : Launch) (G : bG) (σ : bS) (a1 : Int) (ha1 : bR a1) (a2 : Int) (ha2 : bR a2) {Q : Int → bS → Prop} (h : vX2_isFar Q a1 a2 σ) : bk_Mi l yX2_isFar (Cond.code yX2_isFar cX2_isFar 3 (some .boolean) :: bT) { frames := 0, cells := 0, slots := 0, locals := 0 } G σ [.ref (G.2.2 3), .int (bI a1), .int (bI a2)] Q := by
  refine bk_Mi.of (cc := cX2_isFar) (maxL := 3) (ret := some .boolean) (by decide) rfl (Nat.le_of_ble_eq_true rfl) ?_
  intro p e s m args below meth c S hr hlk hσ
  exact wX2_isFar_e S hr hlk ha1 ha2 hσ h
def vX2_hasFarCaller_34 (Q : Int → bS → Prop) (P3 : Int → Int → bS → Prop) (x3 : Int) (x4 : Int) (σ : bS) : Prop := (bR (x4 + 1) ∧ (P3 x3 (x4 + 1) σ))
theorem mono_vX2_hasFarCaller_34 {Q Q9 : Int → bS → Prop} {P3 P39 : Int → Int → bS → Prop} {x3 : Int} {x4 : Int} {σ : bS} (hQ : ∀ r σ, Q r σ → Q9 r σ) (hP3 : ∀ x3 x4 σ, P3 x3 x4 σ → P39 x3 x4 σ) : vX2_hasFarCaller_34 Q P3 x3 x4 σ → vX2_hasFarCaller_34 Q9 P39 x3 x4 σ := (bm_r (hP3 _ _ _))
theorem wX2_hasFarCaller_34 {p : Program} {l : Launch} {e : Env} {s : State} {m : MethodId} {args : Array Value} {below : List Frame} {meth : Method} {c : Code} {G : bG} {σ0 : bS} {Q : Int → bS → Prop} {P3 : Int → Int → bS → Prop} {x3 : Int} {x4 : Int} {σ : bS} (S : CallFix p m c cX2_hasFarCaller 5 s args bT "BankLinker$Layout") (hr : meth.sig.returnType = some .boolean) (hlk : meth.locks = false) (hP3 : ∀ (x3 : Int) (x4 : Int) (σ : bS), bR x3 → bR x4 → bRG σ → P3 x3 x4 σ → bA p l e { frames := 1, cells := 0, slots := 0, locals := 22 } s m args below meth c 0 0 (bQi below args s G σ0 Q) G (va_A (bk_w G σ0) s.heap.size) 5 3 [(0, .ref (G.2.2 3)), (1, .ref (G.2.2 1)), (2, .ref (G.2.2 2)), (3, .int (bI x3)), (4, .int (bI x4))] [] σ) (hx3 : bR x3) (hx4 : bR x4) (hσ : bRG σ) (h : vX2_hasFarCaller_34 Q P3 x3 x4 σ) : bA p l e { frames := 1, cells := 0, slots := 0, locals := 22 } s m args below meth c 0 0 (bQi below args s G σ0 Q) G (va_A (bk_w G σ0) s.heap.size) 5 34 [(0, .ref (G.2.2 3)), (1, .ref (G.2.2 1)), (2, .ref (G.2.2 2)), (3, .int (bI x3)), (4, .int (bI x4))] [] σ := by
  unfold vX2_hasFarCaller_34 at h
  refine br_iinc S 4 [(4, .int (bI (x4 + 1))), (0, .ref (G.2.2 3)), (1, .ref (G.2.2 1)), (2, .ref (G.2.2 2)), (3, .int (bI x3))] dX2_hasFarCaller_34 rfl (by decide) rfl ?_
  refine br_goto S 3 dX2_hasFarCaller_37 (by decide) ?_
  obtain ⟨g1, h⟩ := h
  exact bA.perm [1, 2, 3, 4, 0] rfl <| hP3 x3 (x4 + 1) σ hx3 g1 hσ h
def bX2_hasFarCaller_3 (Q : Int → bS → Prop) (P3 : Int → Int → bS → Prop) (x3 : Int) (x4 : Int) (σ : bS) : Prop := (((σ 1 2) ≤ x4 → (Q 0 σ)) ∧ (¬ (σ 1 2) ≤ x4 → (vX0_hasCall (fun z2 σ3 => ((z2 = 0 → (vX2_hasFarCaller_34 Q P3 x3 x4 σ3)) ∧ (¬ z2 = 0 → (vX2_isFar (fun z5 σ6 => ((z5 = 0 → (vX2_hasFarCaller_34 Q P3 x3 x4 σ6)) ∧ (¬ z5 = 0 → (Q 1 σ6)))) x4 x3 σ3)))) x4 x3 σ)))
theorem mono_bX2_hasFarCaller_3 {Q Q9 : Int → bS → Prop} {P3 P39 : Int → Int → bS → Prop} {x3 : Int} {x4 : Int} {σ : bS} (hQ : ∀ r σ, Q r σ → Q9 r σ) (hP3 : ∀ x3 x4 σ, P3 x3 x4 σ → P39 x3 x4 σ) : bX2_hasFarCaller_3 Q P3 x3 x4 σ → bX2_hasFarCaller_3 Q9 P39 x3 x4 σ := (bm_and (bm_imp (hQ _ _)) (bm_imp (mono_X0_hasCall (fun _ _ => (bm_and (bm_imp (mono_vX2_hasFarCaller_34 hQ hP3)) (bm_imp (mono_X2_isFar (fun _ _ => (bm_and (bm_imp (mono_vX2_hasFarCaller_34 hQ hP3)) (bm_imp (hQ _ _)))))))))))
theorem wX2_hasFarCaller_3 {p : Program} {l : Launch} {e : Env} {s : State} {m : MethodId} {args : Array Value} {below : List Frame} {meth : Method} {c : Code} {G : bG} {σ0 : bS} {Q : Int → bS → Prop} {P3 : Int → Int → bS → Prop} {x3 : Int} {x4 : Int} {σ : bS} (S : CallFix p m c cX2_hasFarCaller 5 s args bT "BankLinker$Layout") (hr : meth.sig.returnType = some .boolean) (hlk : meth.locks = false) (hP3 : ∀ (x3 : Int) (x4 : Int) (σ : bS), bR x3 → bR x4 → bRG σ → P3 x3 x4 σ → bA p l e { frames := 1, cells := 0, slots := 0, locals := 22 } s m args below meth c 0 0 (bQi below args s G σ0 Q) G (va_A (bk_w G σ0) s.heap.size) 5 3 [(0, .ref (G.2.2 3)), (1, .ref (G.2.2 1)), (2, .ref (G.2.2 2)), (3, .int (bI x3)), (4, .int (bI x4))] [] σ) (hx3 : bR x3) (hx4 : bR x4) (hσ : bRG σ) (h : bX2_hasFarCaller_3 Q P3 x3 x4 σ) : bA p l e { frames := 1, cells := 0, slots := 0, locals := 22 } s m args below meth c 0 0 (bQi below args s G σ0 Q) G (va_A (bk_w G σ0) s.heap.size) 5 3 [(0, .ref (G.2.2 3)), (1, .ref (G.2.2 1)), (2, .ref (G.2.2 2)), (3, .int (bI x3)), (4, .int (bI x4))] [] σ := by
  unfold bX2_hasFarCaller_3 at h
  refine br_iload S 4 dX2_hasFarCaller_3 rfl ?_
  refine br_aload_n S 1 dX2_hasFarCaller_5 rfl rfl ?_
  refine br_get (f := 2) (N := 9) (C := RX6) (T := TX6) S inT_X6 wd_1_45 (by decide) rfl rfl (by decide) rfl dX2_hasFarCaller_6 ?_
  refine br_ic_ge S 40 hx4 (hσ 1 2) dX2_hasFarCaller_9 (by decide) (fun c1 => ?_) (fun c1 => ?_)
  · replace h := h.1 c1
    refine br_iconst S dX2_hasFarCaller_40 ?_
    exact br_zret S hr hlk (by decide) hσ dX2_hasFarCaller_41 h
  · replace h := h.2 c1
    refine br_aload_n S 2 dX2_hasFarCaller_12 rfl rfl ?_
    refine br_iload S 4 dX2_hasFarCaller_13 rfl ?_
    refine br_iload_n S 3 dX2_hasFarCaller_15 rfl rfl ?_
    refine br_callV (As := [.int (bI x4), .int (bI x3)]) (rest := []) S (cwV_X0_hasCall S.2.2.2.2 wd_2_237 ⟨by decide, by decide⟩) (mX0_hasCall l G σ x4 hx4 x3 hx3 h) (by decide) rfl rfl rfl hσ rfl rfl (Nat.le_of_ble_eq_true rfl) ⟨by decide, by decide⟩ dX2_hasFarCaller_16 (fun z2 σ3 hz2 hσ3 h => ?_)
    refine br_if_eq S 34 hz2 dX2_hasFarCaller_19 (by decide) (fun c4 => ?_) (fun c4 => ?_)
    · replace h := h.1 c4
      exact wX2_hasFarCaller_34 S hr hlk hP3 hx3 hx4 hσ3 h
    · replace h := h.2 c4
      refine br_aload_n S 0 dX2_hasFarCaller_22 rfl rfl ?_
      refine br_iload S 4 dX2_hasFarCaller_23 rfl ?_
      refine br_iload_n S 3 dX2_hasFarCaller_25 rfl rfl ?_
      refine br_callV (As := [.int (bI x4), .int (bI x3)]) (rest := []) S (cwV_X2_isFar S.2.2.2.2 wd_3_1 ⟨by decide, by decide⟩) (mX2_isFar l G σ3 x4 hx4 x3 hx3 h) (by decide) rfl rfl rfl hσ3 rfl rfl (Nat.le_of_ble_eq_true rfl) ⟨by decide, by decide⟩ dX2_hasFarCaller_26 (fun z5 σ6 hz5 hσ6 h => ?_)
      refine br_if_eq S 34 hz5 dX2_hasFarCaller_29 (by decide) (fun c7 => ?_) (fun c7 => ?_)
      · replace h := h.1 c7
        exact wX2_hasFarCaller_34 S hr hlk hP3 hx3 hx4 hσ6 h
      · replace h := h.2 c7
        refine br_iconst S dX2_hasFarCaller_32 ?_
        exact br_zret S hr hlk (by decide) hσ6 dX2_hasFarCaller_33 h
def eX2_hasFarCaller (Q : Int → bS → Prop) (P3 : Int → Int → bS → Prop) (a3 : Int) (σ : bS) : Prop := (P3 a3 0 σ)
theorem mono_eX2_hasFarCaller {Q Q9 : Int → bS → Prop} {P3 P39 : Int → Int → bS → Prop} {a3 : Int} {σ : bS} (hQ : ∀ r σ, Q r σ → Q9 r σ) (hP3 : ∀ x3 x4 σ, P3 x3 x4 σ → P39 x3 x4 σ) : eX2_hasFarCaller Q P3 a3 σ → eX2_hasFarCaller Q9 P39 a3 σ := (hP3 _ _ _)
theorem wX2_hasFarCaller_e {p : Program} {l : Launch} {e : Env} {s : State} {m : MethodId} {args : Array Value} {below : List Frame} {meth : Method} {c : Code} {G : bG} {σ0 : bS} {Q : Int → bS → Prop} {P3 : Int → Int → bS → Prop} {a3 : Int} {σ : bS} (S : CallFix p m c cX2_hasFarCaller 5 s args bT "BankLinker$Layout") (hr : meth.sig.returnType = some .boolean) (hlk : meth.locks = false) (hP3 : ∀ (x3 : Int) (x4 : Int) (σ : bS), bR x3 → bR x4 → bRG σ → P3 x3 x4 σ → bA p l e { frames := 1, cells := 0, slots := 0, locals := 22 } s m args below meth c 0 0 (bQi below args s G σ0 Q) G (va_A (bk_w G σ0) s.heap.size) 5 3 [(0, .ref (G.2.2 3)), (1, .ref (G.2.2 1)), (2, .ref (G.2.2 2)), (3, .int (bI x3)), (4, .int (bI x4))] [] σ) (ha3 : bR a3) (hσ : bRG σ) (h : eX2_hasFarCaller Q P3 a3 σ) : bA p l e { frames := 1, cells := 0, slots := 0, locals := 22 } s m args below meth c 0 0 (bQi below args s G σ0 Q) G (va_A (bk_w G σ0) s.heap.size) 5 0 [(0, .ref (G.2.2 3)), (1, .ref (G.2.2 1)), (2, .ref (G.2.2 2)), (3, .int (bI a3))] [] σ := by
  unfold eX2_hasFarCaller at h
  refine br_iconst S dX2_hasFarCaller_0 ?_
  refine br_istore S [(4, .int (bI 0)), (0, .ref (G.2.2 3)), (1, .ref (G.2.2 1)), (2, .ref (G.2.2 2)), (3, .int (bI a3))] dX2_hasFarCaller_1 (by decide) rfl ?_
  exact bA.perm [1, 2, 3, 4, 0] rfl <| hP3 a3 0 σ ha3 (by decide) hσ h
def LX2_hasFarCaller_3 (Q : Int → bS → Prop) (x3 : Int) (x4 : Int) (σ : bS) : Prop := ∀ (P3 : Int → Int → bS → Prop), (∀ x3 x4 σ, bX2_hasFarCaller_3 Q P3 x3 x4 σ → P3 x3 x4 σ) → P3 x3 x4 σ
theorem LX2_hasFarCaller_3_in {Q : Int → bS → Prop} {x3 : Int} {x4 : Int} {σ : bS} (h : bX2_hasFarCaller_3 Q (LX2_hasFarCaller_3 Q) x3 x4 σ) : LX2_hasFarCaller_3 Q x3 x4 σ := fun P3 H3 => H3 _ _ _ (mono_bX2_hasFarCaller_3 (fun _ _ h => h) (fun _ _ _ h => h P3 H3) h)
theorem mono_LX2_hasFarCaller_3 {Q Q9 : Int → bS → Prop} {x3 : Int} {x4 : Int} {σ : bS} (hQ : ∀ r σ, Q r σ → Q9 r σ) (h : LX2_hasFarCaller_3 Q x3 x4 σ) : LX2_hasFarCaller_3 Q9 x3 x4 σ := fun P3 H3 => h P3 (fun _ _ _ hb => H3 _ _ _ (mono_bX2_hasFarCaller_3 hQ (fun _ _ _ h => h) hb))
def vX2_hasFarCaller (Q : Int → bS → Prop) (a3 : Int) (σ : bS) : Prop := eX2_hasFarCaller Q (LX2_hasFarCaller_3 Q) a3 σ
theorem mono_vX2_hasFarCaller {Q Q9 : Int → bS → Prop} {a3 : Int} {σ : bS} (hQ : ∀ r σ, Q r σ → Q9 r σ) : vX2_hasFarCaller Q a3 σ → vX2_hasFarCaller Q9 a3 σ := mono_eX2_hasFarCaller hQ (fun _ _ _ h => mono_LX2_hasFarCaller_3 hQ h)
theorem mono_X2_hasFarCaller {Q Q9 : Int → bS → Prop} {a3 : Int} {σ : bS} (hQ : ∀ r σ, Q r σ → Q9 r σ) : vX2_hasFarCaller Q a3 σ → vX2_hasFarCaller Q9 a3 σ := mono_vX2_hasFarCaller hQ
theorem mX2_hasFarCaller (l : Launch) (G : bG) (σ : bS) (a3 : Int) (ha3 : bR a3) {Q : Int → bS → Prop} (h : vX2_hasFarCaller Q a3 σ) : bk_Mi l yX2_hasFarCaller (Cond.code yX2_hasFarCaller cX2_hasFarCaller 5 (some .boolean) :: bT) { frames := 1, cells := 0, slots := 0, locals := 22 } G σ [.ref (G.2.2 3), .ref (G.2.2 1), .ref (G.2.2 2), .int (bI a3)] Q := by
  refine bk_Mi.of (cc := cX2_hasFarCaller) (maxL := 5) (ret := some .boolean) (by decide) rfl (Nat.le_of_ble_eq_true rfl) ?_
  intro p e s m args below meth c S hr hlk hσ
  let K3 : Int → Int → bS → Prop := fun x3 x4 τ => bR x3 → bR x4 → bRG τ → bA p l e { frames := 1, cells := 0, slots := 0, locals := 22 } s m args below meth c 0 0 (bQi below args s G σ Q) G (va_A (bk_w G σ) s.heap.size) 5 3 [(0, .ref (G.2.2 3)), (1, .ref (G.2.2 1)), (2, .ref (G.2.2 2)), (3, .int (bI x3)), (4, .int (bI x4))] [] τ
  have C3 : ∀ x3 x4 τ, bX2_hasFarCaller_3 Q K3 x3 x4 τ → K3 x3 x4 τ := fun x3 x4 τ hb hx3 hx4 hτ => wX2_hasFarCaller_3 S hr hlk (fun x3 x4 σ hx3 hx4 hσ h => h hx3 hx4 hσ) hx3 hx4 hτ hb
  exact wX2_hasFarCaller_e S hr hlk (fun x3 x4 σ hx3 hx4 hσ h => h K3 C3 hx3 hx4 hσ) ha3 hσ h
def vX2_placeThunks_63 (Q : bS → Prop) (P7 : Int → bS → Prop) (x3 : Int) (σ : bS) : Prop := (bR (x3 + 1) ∧ (P7 (x3 + 1) σ))
theorem mono_vX2_placeThunks_63 {Q Q9 : bS → Prop} {P7 P79 : Int → bS → Prop} {x3 : Int} {σ : bS} (hQ : ∀ σ, Q σ → Q9 σ) (hP7 : ∀ x3 σ, P7 x3 σ → P79 x3 σ) : vX2_placeThunks_63 Q P7 x3 σ → vX2_placeThunks_63 Q9 P79 x3 σ := (bm_r (hP7 _ _))
theorem wX2_placeThunks_63 {p : Program} {l : Launch} {e : Env} {s : State} {m : MethodId} {args : Array Value} {below : List Frame} {meth : Method} {c : Code} {G : bG} {σ0 : bS} {Q : bS → Prop} {P7 : Int → bS → Prop} {x3 : Int} {σ : bS} (S : CallFix p m c cX2_placeThunks 4 s args bT "BankLinker$Layout") (hr : meth.sig.returnType = none) (hlk : meth.locks = false) (hP7 : ∀ (x3 : Int) (σ : bS), bR x3 → bRG σ → P7 x3 σ → bA p l e { frames := 2, cells := 0, slots := 0, locals := 46 } s m args below meth c 0 0 (bQv below args s G σ0 Q) G (va_A (bk_w G σ0) s.heap.size) 4 7 [(0, .ref (G.2.2 3)), (1, .ref (G.2.2 1)), (2, .ref (G.2.2 2)), (3, .int (bI x3))] [] σ) (hx3 : bR x3) (hσ : bRG σ) (h : vX2_placeThunks_63 Q P7 x3 σ) : bA p l e { frames := 2, cells := 0, slots := 0, locals := 46 } s m args below meth c 0 0 (bQv below args s G σ0 Q) G (va_A (bk_w G σ0) s.heap.size) 4 63 [(0, .ref (G.2.2 3)), (1, .ref (G.2.2 1)), (2, .ref (G.2.2 2)), (3, .int (bI x3))] [] σ := by
  unfold vX2_placeThunks_63 at h
  refine br_iinc S 3 [(3, .int (bI (x3 + 1))), (0, .ref (G.2.2 3)), (1, .ref (G.2.2 1)), (2, .ref (G.2.2 2))] dX2_placeThunks_63 rfl (by decide) rfl ?_
  refine br_goto S 7 dX2_placeThunks_66 (by decide) ?_
  obtain ⟨g1, h⟩ := h
  exact bA.perm [1, 2, 3, 0] rfl <| hP7 (x3 + 1) σ g1 hσ h
def bX2_placeThunks_7 (Q : bS → Prop) (P7 : Int → bS → Prop) (x3 : Int) (σ : bS) : Prop := (((σ 1 2) ≤ x3 → (Q σ)) ∧ (¬ (σ 1 2) ≤ x3 → ((0 ≤ x3 ∧ x3 < 30) ∧ (∀ σ3 : bS, σ3 = bup σ 25 x3 (-1) → (vX2_hasFarCaller (fun z5 σ6 => ((z5 = 0 → (vX2_placeThunks_63 Q P7 x3 σ6)) ∧ (¬ z5 = 0 → (∀ σ8 : bS, σ8 = bup σ6 25 x3 (σ6 3 10) → (bR ((σ8 3 10) + 8) ∧ (∀ σ11 : bS, σ11 = bup σ8 3 10 ((σ8 3 10) + 8) → (bR ((σ11 3 11) + 1) ∧ (∀ σ14 : bS, σ14 = bup σ11 3 11 ((σ11 3 11) + 1) → (vX2_placeThunks_63 Q P7 x3 σ14))))))))) x3 σ3)))))
theorem mono_bX2_placeThunks_7 {Q Q9 : bS → Prop} {P7 P79 : Int → bS → Prop} {x3 : Int} {σ : bS} (hQ : ∀ σ, Q σ → Q9 σ) (hP7 : ∀ x3 σ, P7 x3 σ → P79 x3 σ) : bX2_placeThunks_7 Q P7 x3 σ → bX2_placeThunks_7 Q9 P79 x3 σ := (bm_and (bm_imp (hQ _)) (bm_imp (bm_r (bm_all fun _ => bm_imp (mono_X2_hasFarCaller (fun _ _ => (bm_and (bm_imp (mono_vX2_placeThunks_63 hQ hP7)) (bm_imp (bm_all fun _ => bm_imp (bm_r (bm_all fun _ => bm_imp (bm_r (bm_all fun _ => bm_imp (mono_vX2_placeThunks_63 hQ hP7))))))))))))))
theorem wX2_placeThunks_7 {p : Program} {l : Launch} {e : Env} {s : State} {m : MethodId} {args : Array Value} {below : List Frame} {meth : Method} {c : Code} {G : bG} {σ0 : bS} {Q : bS → Prop} {P7 : Int → bS → Prop} {x3 : Int} {σ : bS} (S : CallFix p m c cX2_placeThunks 4 s args bT "BankLinker$Layout") (hr : meth.sig.returnType = none) (hlk : meth.locks = false) (hP7 : ∀ (x3 : Int) (σ : bS), bR x3 → bRG σ → P7 x3 σ → bA p l e { frames := 2, cells := 0, slots := 0, locals := 46 } s m args below meth c 0 0 (bQv below args s G σ0 Q) G (va_A (bk_w G σ0) s.heap.size) 4 7 [(0, .ref (G.2.2 3)), (1, .ref (G.2.2 1)), (2, .ref (G.2.2 2)), (3, .int (bI x3))] [] σ) (hx3 : bR x3) (hσ : bRG σ) (h : bX2_placeThunks_7 Q P7 x3 σ) : bA p l e { frames := 2, cells := 0, slots := 0, locals := 46 } s m args below meth c 0 0 (bQv below args s G σ0 Q) G (va_A (bk_w G σ0) s.heap.size) 4 7 [(0, .ref (G.2.2 3)), (1, .ref (G.2.2 1)), (2, .ref (G.2.2 2)), (3, .int (bI x3))] [] σ := by
  unfold bX2_placeThunks_7 at h
  refine br_iload_n S 3 dX2_placeThunks_7 rfl rfl ?_
  refine br_aload_n S 1 dX2_placeThunks_8 rfl rfl ?_
  refine br_get (f := 2) (N := 9) (C := RX6) (T := TX6) S inT_X6 wd_1_45 (by decide) rfl rfl (by decide) rfl dX2_placeThunks_9 ?_
  refine br_ic_ge S 69 hx3 (hσ 1 2) dX2_placeThunks_12 (by decide) (fun c1 => ?_) (fun c1 => ?_)
  · replace h := h.1 c1
    exact br_vret S hr hlk hσ dX2_placeThunks_69 h
  · replace h := h.2 c1
    refine br_aload_n S 0 dX2_placeThunks_15 rfl rfl ?_
    refine br_get (f := 3) (N := 14) (C := RX2) (T := TX2) S inT_X2 wd_1_113 (by decide) rfl rfl (by decide) rfl dX2_placeThunks_16 ?_
    refine br_iload_n S 3 dX2_placeThunks_19 rfl rfl ?_
    refine br_iconst S dX2_placeThunks_20 ?_
    obtain ⟨g2, h⟩ := h
    obtain ⟨σ3, e4⟩ : ∃ τ, τ = bup σ 25 x3 (-1) := ⟨_, rfl⟩
    replace h := h σ3 e4
    have hσ3 : bRG σ3 := by rw [e4]; exact bup_rg hσ (by decide)
    refine br_iast (n := 30) S ⟨by decide, by decide, fun _ => rfl⟩ g2.1 g2.2 dX2_placeThunks_21 ?_
    refine bA.to rfl rfl e4.symm ?_
    refine br_aload_n S 0 dX2_placeThunks_22 rfl rfl ?_
    refine br_aload_n S 1 dX2_placeThunks_23 rfl rfl ?_
    refine br_aload_n S 2 dX2_placeThunks_24 rfl rfl ?_
    refine br_iload_n S 3 dX2_placeThunks_25 rfl rfl ?_
    refine br_callV (As := [.ref (G.2.2 1), .ref (G.2.2 2), .int (bI x3)]) (rest := []) S (cwV_X2_hasFarCaller S.2.2.2.2 wd_2_233 ⟨by decide, by decide⟩) (mX2_hasFarCaller l G σ3 x3 hx3 h) (by decide) rfl rfl rfl hσ3 rfl rfl (Nat.le_of_ble_eq_true rfl) ⟨by decide, by decide⟩ dX2_placeThunks_26 (fun z5 σ6 hz5 hσ6 h => ?_)
    refine br_if_eq S 63 hz5 dX2_placeThunks_29 (by decide) (fun c7 => ?_) (fun c7 => ?_)
    · replace h := h.1 c7
      exact wX2_placeThunks_63 S hr hlk hP7 hx3 hσ6 h
    · replace h := h.2 c7
      refine br_aload_n S 0 dX2_placeThunks_32 rfl rfl ?_
      refine br_get (f := 3) (N := 14) (C := RX2) (T := TX2) S inT_X2 wd_1_113 (by decide) rfl rfl (by decide) rfl dX2_placeThunks_33 ?_
      refine br_iload_n S 3 dX2_placeThunks_36 rfl rfl ?_
      refine br_aload_n S 0 dX2_placeThunks_37 rfl rfl ?_
      refine br_get (f := 10) (N := 14) (C := RX2) (T := TX2) S inT_X2 wd_1_127 (by decide) rfl rfl (by decide) rfl dX2_placeThunks_38 ?_
      obtain ⟨σ8, e9⟩ : ∃ τ, τ = bup σ6 25 x3 (σ6 3 10) := ⟨_, rfl⟩
      replace h := h σ8 e9
      have hσ8 : bRG σ8 := by rw [e9]; exact bup_rg hσ6 (hσ6 3 10)
      refine br_iast (n := 30) S ⟨by decide, by decide, fun _ => rfl⟩ g2.1 g2.2 dX2_placeThunks_41 ?_
      refine bA.to rfl rfl e9.symm ?_
      refine br_aload_n S 0 dX2_placeThunks_42 rfl rfl ?_
      refine br_dup S dX2_placeThunks_43 rfl ?_
      refine br_get (f := 10) (N := 14) (C := RX2) (T := TX2) S inT_X2 wd_1_127 (by decide) rfl rfl (by decide) rfl dX2_placeThunks_44 ?_
      refine br_bipush S dX2_placeThunks_47 rfl ?_
      refine br_iadd S dX2_placeThunks_49 ?_
      obtain ⟨g10, h⟩ := h
      obtain ⟨σ11, e12⟩ : ∃ τ, τ = bup σ8 3 10 ((σ8 3 10) + 8) := ⟨_, rfl⟩
      replace h := h σ11 e12
      have hσ11 : bRG σ11 := by rw [e12]; exact bup_rg hσ8 g10
      refine br_put (f := 10) (N := 14) (C := RX2) (T := TX2) S tyX2 tyX2_ok nmX2 inT_X2 wd_1_127 (by decide) rfl (pf_3_10 _ _ _) rfl (by decide) (Nat.le_of_ble_eq_true rfl) rfl rfl rfl rfl dX2_placeThunks_50 ?_
      refine bA.to rfl rfl e12.symm ?_
      refine br_aload_n S 0 dX2_placeThunks_53 rfl rfl ?_
      refine br_dup S dX2_placeThunks_54 rfl ?_
      refine br_get (f := 11) (N := 14) (C := RX2) (T := TX2) S inT_X2 wd_1_130 (by decide) rfl rfl (by decide) rfl dX2_placeThunks_55 ?_
      refine br_iconst S dX2_placeThunks_58 ?_
      refine br_iadd S dX2_placeThunks_59 ?_
      obtain ⟨g13, h⟩ := h
      obtain ⟨σ14, e15⟩ : ∃ τ, τ = bup σ11 3 11 ((σ11 3 11) + 1) := ⟨_, rfl⟩
      replace h := h σ14 e15
      have hσ14 : bRG σ14 := by rw [e15]; exact bup_rg hσ11 g13
      refine br_put (f := 11) (N := 14) (C := RX2) (T := TX2) S tyX2 tyX2_ok nmX2 inT_X2 wd_1_130 (by decide) rfl (pf_3_11 _ _ _) rfl (by decide) (Nat.le_of_ble_eq_true rfl) rfl rfl rfl rfl dX2_placeThunks_60 ?_
      refine bA.to rfl rfl e15.symm ?_
      exact wX2_placeThunks_63 S hr hlk hP7 hx3 hσ14 h
def eX2_placeThunks (Q : bS → Prop) (P7 : Int → bS → Prop) (σ : bS) : Prop := (∀ σ1 : bS, σ1 = bup σ 3 11 0 → (P7 0 σ1))
theorem mono_eX2_placeThunks {Q Q9 : bS → Prop} {P7 P79 : Int → bS → Prop} {σ : bS} (hQ : ∀ σ, Q σ → Q9 σ) (hP7 : ∀ x3 σ, P7 x3 σ → P79 x3 σ) : eX2_placeThunks Q P7 σ → eX2_placeThunks Q9 P79 σ := (bm_all fun _ => bm_imp (hP7 _ _))
theorem wX2_placeThunks_e {p : Program} {l : Launch} {e : Env} {s : State} {m : MethodId} {args : Array Value} {below : List Frame} {meth : Method} {c : Code} {G : bG} {σ0 : bS} {Q : bS → Prop} {P7 : Int → bS → Prop} {σ : bS} (S : CallFix p m c cX2_placeThunks 4 s args bT "BankLinker$Layout") (hr : meth.sig.returnType = none) (hlk : meth.locks = false) (hP7 : ∀ (x3 : Int) (σ : bS), bR x3 → bRG σ → P7 x3 σ → bA p l e { frames := 2, cells := 0, slots := 0, locals := 46 } s m args below meth c 0 0 (bQv below args s G σ0 Q) G (va_A (bk_w G σ0) s.heap.size) 4 7 [(0, .ref (G.2.2 3)), (1, .ref (G.2.2 1)), (2, .ref (G.2.2 2)), (3, .int (bI x3))] [] σ) (hσ : bRG σ) (h : eX2_placeThunks Q P7 σ) : bA p l e { frames := 2, cells := 0, slots := 0, locals := 46 } s m args below meth c 0 0 (bQv below args s G σ0 Q) G (va_A (bk_w G σ0) s.heap.size) 4 0 [(0, .ref (G.2.2 3)), (1, .ref (G.2.2 1)), (2, .ref (G.2.2 2))] [] σ := by
  unfold eX2_placeThunks at h
  refine br_aload_n S 0 dX2_placeThunks_0 rfl rfl ?_
  refine br_iconst S dX2_placeThunks_1 ?_
  obtain ⟨σ1, e2⟩ : ∃ τ, τ = bup σ 3 11 0 := ⟨_, rfl⟩
  replace h := h σ1 e2
  have hσ1 : bRG σ1 := by rw [e2]; exact bup_rg hσ (by decide)
  refine br_put (f := 11) (N := 14) (C := RX2) (T := TX2) S tyX2 tyX2_ok nmX2 inT_X2 wd_1_130 (by decide) rfl (pf_3_11 _ _ _) rfl (by decide) (Nat.le_of_ble_eq_true rfl) rfl rfl rfl rfl dX2_placeThunks_2 ?_
  refine bA.to rfl rfl e2.symm ?_
  refine br_iconst S dX2_placeThunks_5 ?_
  refine br_istore_n S [(3, .int (bI 0)), (0, .ref (G.2.2 3)), (1, .ref (G.2.2 1)), (2, .ref (G.2.2 2))] dX2_placeThunks_6 rfl (by decide) rfl ?_
  exact bA.perm [1, 2, 3, 0] rfl <| hP7 0 σ1 (by decide) hσ1 h
def LX2_placeThunks_7 (Q : bS → Prop) (x3 : Int) (σ : bS) : Prop := ∀ (P7 : Int → bS → Prop), (∀ x3 σ, bX2_placeThunks_7 Q P7 x3 σ → P7 x3 σ) → P7 x3 σ
theorem LX2_placeThunks_7_in {Q : bS → Prop} {x3 : Int} {σ : bS} (h : bX2_placeThunks_7 Q (LX2_placeThunks_7 Q) x3 σ) : LX2_placeThunks_7 Q x3 σ := fun P7 H7 => H7 _ _ (mono_bX2_placeThunks_7 (fun _ h => h) (fun _ _ h => h P7 H7) h)
theorem mono_LX2_placeThunks_7 {Q Q9 : bS → Prop} {x3 : Int} {σ : bS} (hQ : ∀ σ, Q σ → Q9 σ) (h : LX2_placeThunks_7 Q x3 σ) : LX2_placeThunks_7 Q9 x3 σ := fun P7 H7 => h P7 (fun _ _ hb => H7 _ _ (mono_bX2_placeThunks_7 hQ (fun _ _ h => h) hb))
def vX2_placeThunks (Q : bS → Prop) (σ : bS) : Prop := eX2_placeThunks Q (LX2_placeThunks_7 Q) σ
theorem mono_vX2_placeThunks {Q Q9 : bS → Prop} {σ : bS} (hQ : ∀ σ, Q σ → Q9 σ) : vX2_placeThunks Q σ → vX2_placeThunks Q9 σ := mono_eX2_placeThunks hQ (fun _ _ h => mono_LX2_placeThunks_7 hQ h)
theorem mono_X2_placeThunks {Q Q9 : bS → Prop} {σ : bS} (hQ : ∀ σ, Q σ → Q9 σ) : vX2_placeThunks Q σ → vX2_placeThunks Q9 σ := mono_vX2_placeThunks hQ
theorem mX2_placeThunks (l : Launch) (G : bG) (σ : bS) {Q : bS → Prop} (h : vX2_placeThunks Q σ) : bk_Mv l yX2_placeThunks (Cond.code yX2_placeThunks cX2_placeThunks 4 (none) :: bT) { frames := 2, cells := 0, slots := 0, locals := 46 } G σ [.ref (G.2.2 3), .ref (G.2.2 1), .ref (G.2.2 2)] Q := by
  refine bk_Mv.of (cc := cX2_placeThunks) (maxL := 4) (ret := none) (by decide) rfl (Nat.le_of_ble_eq_true rfl) ?_
  intro p e s m args below meth c S hr hlk hσ
  let K7 : Int → bS → Prop := fun x3 τ => bR x3 → bRG τ → bA p l e { frames := 2, cells := 0, slots := 0, locals := 46 } s m args below meth c 0 0 (bQv below args s G σ Q) G (va_A (bk_w G σ) s.heap.size) 4 7 [(0, .ref (G.2.2 3)), (1, .ref (G.2.2 1)), (2, .ref (G.2.2 2)), (3, .int (bI x3))] [] τ
  have C7 : ∀ x3 τ, bX2_placeThunks_7 Q K7 x3 τ → K7 x3 τ := fun x3 τ hb hx3 hτ => wX2_placeThunks_7 S hr hlk (fun x3 σ hx3 hσ h => h hx3 hσ) hx3 hτ hb
  exact wX2_placeThunks_e S hr hlk (fun x3 σ hx3 hσ h => h K7 C7 hx3 hσ) hσ h
def bX2_countFarCalls_7 (Q : bS → Prop) (P7 : Int → bS → Prop) (P17 : Int → Int → bS → Prop) (x2 : Int) (σ : bS) : Prop := (((σ 1 2) ≤ x2 → (Q σ)) ∧ (¬ (σ 1 2) ≤ x2 → (P17 x2 0 σ)))
theorem mono_bX2_countFarCalls_7 {Q Q9 : bS → Prop} {P7 P79 : Int → bS → Prop} {P17 P179 : Int → Int → bS → Prop} {x2 : Int} {σ : bS} (hQ : ∀ σ, Q σ → Q9 σ) (hP7 : ∀ x2 σ, P7 x2 σ → P79 x2 σ) (hP17 : ∀ x2 x3 σ, P17 x2 x3 σ → P179 x2 x3 σ) : bX2_countFarCalls_7 Q P7 P17 x2 σ → bX2_countFarCalls_7 Q9 P79 P179 x2 σ := (bm_and (bm_imp (hQ _)) (bm_imp (hP17 _ _ _)))
theorem wX2_countFarCalls_7 {p : Program} {l : Launch} {e : Env} {s : State} {m : MethodId} {args : Array Value} {below : List Frame} {meth : Method} {c : Code} {G : bG} {σ0 : bS} {Q : bS → Prop} {P7 : Int → bS → Prop} {P17 : Int → Int → bS → Prop} {x2 : Int} {σ : bS} (S : CallFix p m c cX2_countFarCalls 4 s args bT "BankLinker$Layout") (hr : meth.sig.returnType = none) (hlk : meth.locks = false) (hP7 : ∀ (x2 : Int) (σ : bS), bR x2 → bRG σ → P7 x2 σ → bA p l e { frames := 1, cells := 0, slots := 0, locals := 22 } s m args below meth c 0 0 (bQv below args s G σ0 Q) G (va_A (bk_w G σ0) s.heap.size) 4 7 [(0, .ref (G.2.2 3)), (1, .ref (G.2.2 1)), (2, .int (bI x2))] [] σ) (hP17 : ∀ (x2 : Int) (x3 : Int) (σ : bS), bR x2 → bR x3 → bRG σ → P17 x2 x3 σ → bA p l e { frames := 1, cells := 0, slots := 0, locals := 22 } s m args below meth c 0 0 (bQv below args s G σ0 Q) G (va_A (bk_w G σ0) s.heap.size) 4 17 [(0, .ref (G.2.2 3)), (1, .ref (G.2.2 1)), (2, .int (bI x2)), (3, .int (bI x3))] [] σ) (hx2 : bR x2) (hσ : bRG σ) (h : bX2_countFarCalls_7 Q P7 P17 x2 σ) : bA p l e { frames := 1, cells := 0, slots := 0, locals := 22 } s m args below meth c 0 0 (bQv below args s G σ0 Q) G (va_A (bk_w G σ0) s.heap.size) 4 7 [(0, .ref (G.2.2 3)), (1, .ref (G.2.2 1)), (2, .int (bI x2))] [] σ := by
  unfold bX2_countFarCalls_7 at h
  refine br_iload_n S 2 dX2_countFarCalls_7 rfl rfl ?_
  refine br_aload_n S 1 dX2_countFarCalls_8 rfl rfl ?_
  refine br_get (f := 2) (N := 9) (C := RX6) (T := TX6) S inT_X6 wd_1_45 (by decide) rfl rfl (by decide) rfl dX2_countFarCalls_9 ?_
  refine br_ic_ge S 73 hx2 (hσ 1 2) dX2_countFarCalls_12 (by decide) (fun c1 => ?_) (fun c1 => ?_)
  · replace h := h.1 c1
    exact br_vret S hr hlk hσ dX2_countFarCalls_73 h
  · replace h := h.2 c1
    refine br_iconst S dX2_countFarCalls_15 ?_
    refine br_istore_n S [(3, .int (bI 0)), (0, .ref (G.2.2 3)), (1, .ref (G.2.2 1)), (2, .int (bI x2))] dX2_countFarCalls_16 rfl (by decide) rfl ?_
    exact bA.perm [1, 2, 3, 0] rfl <| hP17 x2 0 σ hx2 (by decide) hσ h
def vX2_countFarCalls_61 (Q : bS → Prop) (P7 : Int → bS → Prop) (P17 : Int → Int → bS → Prop) (x2 : Int) (x3 : Int) (σ : bS) : Prop := (bR (x3 + 1) ∧ (P17 x2 (x3 + 1) σ))
theorem mono_vX2_countFarCalls_61 {Q Q9 : bS → Prop} {P7 P79 : Int → bS → Prop} {P17 P179 : Int → Int → bS → Prop} {x2 : Int} {x3 : Int} {σ : bS} (hQ : ∀ σ, Q σ → Q9 σ) (hP7 : ∀ x2 σ, P7 x2 σ → P79 x2 σ) (hP17 : ∀ x2 x3 σ, P17 x2 x3 σ → P179 x2 x3 σ) : vX2_countFarCalls_61 Q P7 P17 x2 x3 σ → vX2_countFarCalls_61 Q9 P79 P179 x2 x3 σ := (bm_r (hP17 _ _ _))
theorem wX2_countFarCalls_61 {p : Program} {l : Launch} {e : Env} {s : State} {m : MethodId} {args : Array Value} {below : List Frame} {meth : Method} {c : Code} {G : bG} {σ0 : bS} {Q : bS → Prop} {P7 : Int → bS → Prop} {P17 : Int → Int → bS → Prop} {x2 : Int} {x3 : Int} {σ : bS} (S : CallFix p m c cX2_countFarCalls 4 s args bT "BankLinker$Layout") (hr : meth.sig.returnType = none) (hlk : meth.locks = false) (hP7 : ∀ (x2 : Int) (σ : bS), bR x2 → bRG σ → P7 x2 σ → bA p l e { frames := 1, cells := 0, slots := 0, locals := 22 } s m args below meth c 0 0 (bQv below args s G σ0 Q) G (va_A (bk_w G σ0) s.heap.size) 4 7 [(0, .ref (G.2.2 3)), (1, .ref (G.2.2 1)), (2, .int (bI x2))] [] σ) (hP17 : ∀ (x2 : Int) (x3 : Int) (σ : bS), bR x2 → bR x3 → bRG σ → P17 x2 x3 σ → bA p l e { frames := 1, cells := 0, slots := 0, locals := 22 } s m args below meth c 0 0 (bQv below args s G σ0 Q) G (va_A (bk_w G σ0) s.heap.size) 4 17 [(0, .ref (G.2.2 3)), (1, .ref (G.2.2 1)), (2, .int (bI x2)), (3, .int (bI x3))] [] σ) (hx2 : bR x2) (hx3 : bR x3) (hσ : bRG σ) (h : vX2_countFarCalls_61 Q P7 P17 x2 x3 σ) : bA p l e { frames := 1, cells := 0, slots := 0, locals := 22 } s m args below meth c 0 0 (bQv below args s G σ0 Q) G (va_A (bk_w G σ0) s.heap.size) 4 61 [(0, .ref (G.2.2 3)), (1, .ref (G.2.2 1)), (2, .int (bI x2)), (3, .int (bI x3))] [] σ := by
  unfold vX2_countFarCalls_61 at h
  refine br_iinc S 3 [(3, .int (bI (x3 + 1))), (0, .ref (G.2.2 3)), (1, .ref (G.2.2 1)), (2, .int (bI x2))] dX2_countFarCalls_61 rfl (by decide) rfl ?_
  refine br_goto S 17 dX2_countFarCalls_64 (by decide) ?_
  obtain ⟨g1, h⟩ := h
  exact bA.perm [1, 2, 3, 0] rfl <| hP17 x2 (x3 + 1) σ hx2 g1 hσ h
def bX2_countFarCalls_17 (Q : bS → Prop) (P7 : Int → bS → Prop) (P17 : Int → Int → bS → Prop) (x2 : Int) (x3 : Int) (σ : bS) : Prop := ((0 ≤ x2 ∧ x2 < 30) ∧ (((σ 16 x2) ≤ x3 → (bR (x2 + 1) ∧ (P7 (x2 + 1) σ))) ∧ (¬ (σ 16 x2) ≤ x3 → (vX6_codeAt (fun z4 σ5 => ((¬ z4 = 5 → (vX2_countFarCalls_61 Q P7 P17 x2 x3 σ5)) ∧ (z4 = 5 → (vX6_valueAt (fun z7 σ8 => (vX2_isFar (fun z9 σ10 => ((z9 = 0 → (vX2_countFarCalls_61 Q P7 P17 x2 x3 σ10)) ∧ (¬ z9 = 0 → (bR ((σ10 3 12) + 1) ∧ (∀ σ13 : bS, σ13 = bup σ10 3 12 ((σ10 3 12) + 1) → (vX2_countFarCalls_61 Q P7 P17 x2 x3 σ13)))))) x2 z7 σ8)) x2 x3 σ5)))) x2 x3 σ))))
theorem mono_bX2_countFarCalls_17 {Q Q9 : bS → Prop} {P7 P79 : Int → bS → Prop} {P17 P179 : Int → Int → bS → Prop} {x2 : Int} {x3 : Int} {σ : bS} (hQ : ∀ σ, Q σ → Q9 σ) (hP7 : ∀ x2 σ, P7 x2 σ → P79 x2 σ) (hP17 : ∀ x2 x3 σ, P17 x2 x3 σ → P179 x2 x3 σ) : bX2_countFarCalls_17 Q P7 P17 x2 x3 σ → bX2_countFarCalls_17 Q9 P79 P179 x2 x3 σ := (bm_r (bm_and (bm_imp (bm_r (hP7 _ _))) (bm_imp (mono_X6_codeAt (fun _ _ => (bm_and (bm_imp (mono_vX2_countFarCalls_61 hQ hP7 hP17)) (bm_imp (mono_X6_valueAt (fun _ _ => (mono_X2_isFar (fun _ _ => (bm_and (bm_imp (mono_vX2_countFarCalls_61 hQ hP7 hP17)) (bm_imp (bm_r (bm_all fun _ => bm_imp (mono_vX2_countFarCalls_61 hQ hP7 hP17))))))))))))))))
theorem wX2_countFarCalls_17 {p : Program} {l : Launch} {e : Env} {s : State} {m : MethodId} {args : Array Value} {below : List Frame} {meth : Method} {c : Code} {G : bG} {σ0 : bS} {Q : bS → Prop} {P7 : Int → bS → Prop} {P17 : Int → Int → bS → Prop} {x2 : Int} {x3 : Int} {σ : bS} (S : CallFix p m c cX2_countFarCalls 4 s args bT "BankLinker$Layout") (hr : meth.sig.returnType = none) (hlk : meth.locks = false) (hP7 : ∀ (x2 : Int) (σ : bS), bR x2 → bRG σ → P7 x2 σ → bA p l e { frames := 1, cells := 0, slots := 0, locals := 22 } s m args below meth c 0 0 (bQv below args s G σ0 Q) G (va_A (bk_w G σ0) s.heap.size) 4 7 [(0, .ref (G.2.2 3)), (1, .ref (G.2.2 1)), (2, .int (bI x2))] [] σ) (hP17 : ∀ (x2 : Int) (x3 : Int) (σ : bS), bR x2 → bR x3 → bRG σ → P17 x2 x3 σ → bA p l e { frames := 1, cells := 0, slots := 0, locals := 22 } s m args below meth c 0 0 (bQv below args s G σ0 Q) G (va_A (bk_w G σ0) s.heap.size) 4 17 [(0, .ref (G.2.2 3)), (1, .ref (G.2.2 1)), (2, .int (bI x2)), (3, .int (bI x3))] [] σ) (hx2 : bR x2) (hx3 : bR x3) (hσ : bRG σ) (h : bX2_countFarCalls_17 Q P7 P17 x2 x3 σ) : bA p l e { frames := 1, cells := 0, slots := 0, locals := 22 } s m args below meth c 0 0 (bQv below args s G σ0 Q) G (va_A (bk_w G σ0) s.heap.size) 4 17 [(0, .ref (G.2.2 3)), (1, .ref (G.2.2 1)), (2, .int (bI x2)), (3, .int (bI x3))] [] σ := by
  unfold bX2_countFarCalls_17 at h
  refine br_iload_n S 3 dX2_countFarCalls_17 rfl rfl ?_
  refine br_aload_n S 1 dX2_countFarCalls_18 rfl rfl ?_
  refine br_get (f := 5) (N := 9) (C := RX6) (T := TX6) S inT_X6 wd_1_59 (by decide) rfl rfl (by decide) rfl dX2_countFarCalls_19 ?_
  refine br_iload_n S 2 dX2_countFarCalls_22 rfl rfl ?_
  obtain ⟨g1, h⟩ := h
  refine br_iald (n := 30) S ⟨by decide, by decide, fun _ => rfl⟩ g1.1 g1.2 dX2_countFarCalls_23 ?_
  refine br_ic_ge S 67 hx3 (hσ 16 x2) dX2_countFarCalls_24 (by decide) (fun c2 => ?_) (fun c2 => ?_)
  · replace h := h.1 c2
    refine br_iinc S 2 [(2, .int (bI (x2 + 1))), (0, .ref (G.2.2 3)), (1, .ref (G.2.2 1)), (3, .int (bI x3))] dX2_countFarCalls_67 rfl (by decide) rfl ?_
    refine br_goto S 7 dX2_countFarCalls_70 (by decide) ?_
    obtain ⟨g3, h⟩ := h
    exact bA.perm [1, 2, 0] rfl <| hP7 (x2 + 1) σ g3 hσ h
  · replace h := h.2 c2
    refine br_aload_n S 1 dX2_countFarCalls_27 rfl rfl ?_
    refine br_iload_n S 2 dX2_countFarCalls_28 rfl rfl ?_
    refine br_iload_n S 3 dX2_countFarCalls_29 rfl rfl ?_
    refine br_callV (As := [.int (bI x2), .int (bI x3)]) (rest := []) S (cwV_X6_codeAt S.2.2.2.2 wd_3_9 ⟨by decide, by decide⟩) (mX6_codeAt l G σ x2 hx2 x3 hx3 h) (by decide) rfl rfl rfl hσ rfl rfl (Nat.le_of_ble_eq_true rfl) ⟨by decide, by decide⟩ dX2_countFarCalls_30 (fun z4 σ5 hz4 hσ5 h => ?_)
    refine br_iconst S dX2_countFarCalls_33 ?_
    refine br_ic_ne S 61 hz4 (by decide) dX2_countFarCalls_34 (by decide) (fun c6 => ?_) (fun c6 => ?_)
    · replace h := h.1 c6
      exact wX2_countFarCalls_61 S hr hlk hP7 hP17 hx2 hx3 hσ5 h
    · replace h := h.2 c6
      refine br_aload_n S 0 dX2_countFarCalls_37 rfl rfl ?_
      refine br_iload_n S 2 dX2_countFarCalls_38 rfl rfl ?_
      refine br_aload_n S 1 dX2_countFarCalls_39 rfl rfl ?_
      refine br_iload_n S 2 dX2_countFarCalls_40 rfl rfl ?_
      refine br_iload_n S 3 dX2_countFarCalls_41 rfl rfl ?_
      refine br_callV (As := [.int (bI x2), .int (bI x3)]) (rest := [.int (bI x2), .ref (G.2.2 3)]) S (cwV_X6_valueAt S.2.2.2.2 wd_3_10 ⟨by decide, by decide⟩) (mX6_valueAt l G σ5 x2 hx2 x3 hx3 h) (by decide) rfl rfl rfl hσ5 rfl rfl (Nat.le_of_ble_eq_true rfl) ⟨by decide, by decide⟩ dX2_countFarCalls_42 (fun z7 σ8 hz7 hσ8 h => ?_)
      refine br_callV (As := [.int (bI x2), .int (bI z7)]) (rest := []) S (cwV_X2_isFar S.2.2.2.2 wd_3_1 ⟨by decide, by decide⟩) (mX2_isFar l G σ8 x2 hx2 z7 hz7 h) (by decide) rfl rfl rfl hσ8 rfl rfl (Nat.le_of_ble_eq_true rfl) ⟨by decide, by decide⟩ dX2_countFarCalls_45 (fun z9 σ10 hz9 hσ10 h => ?_)
      refine br_if_eq S 61 hz9 dX2_countFarCalls_48 (by decide) (fun c11 => ?_) (fun c11 => ?_)
      · replace h := h.1 c11
        exact wX2_countFarCalls_61 S hr hlk hP7 hP17 hx2 hx3 hσ10 h
      · replace h := h.2 c11
        refine br_aload_n S 0 dX2_countFarCalls_51 rfl rfl ?_
        refine br_dup S dX2_countFarCalls_52 rfl ?_
        refine br_get (f := 12) (N := 14) (C := RX2) (T := TX2) S inT_X2 wd_1_132 (by decide) rfl rfl (by decide) rfl dX2_countFarCalls_53 ?_
        refine br_iconst S dX2_countFarCalls_56 ?_
        refine br_iadd S dX2_countFarCalls_57 ?_
        obtain ⟨g12, h⟩ := h
        obtain ⟨σ13, e14⟩ : ∃ τ, τ = bup σ10 3 12 ((σ10 3 12) + 1) := ⟨_, rfl⟩
        replace h := h σ13 e14
        have hσ13 : bRG σ13 := by rw [e14]; exact bup_rg hσ10 g12
        refine br_put (f := 12) (N := 14) (C := RX2) (T := TX2) S tyX2 tyX2_ok nmX2 inT_X2 wd_1_132 (by decide) rfl (pf_3_12 _ _ _) rfl (by decide) (Nat.le_of_ble_eq_true rfl) rfl rfl rfl rfl dX2_countFarCalls_58 ?_
        refine bA.to rfl rfl e14.symm ?_
        exact wX2_countFarCalls_61 S hr hlk hP7 hP17 hx2 hx3 hσ13 h
def eX2_countFarCalls (Q : bS → Prop) (P7 : Int → bS → Prop) (P17 : Int → Int → bS → Prop) (σ : bS) : Prop := (∀ σ1 : bS, σ1 = bup σ 3 12 0 → (P7 0 σ1))
theorem mono_eX2_countFarCalls {Q Q9 : bS → Prop} {P7 P79 : Int → bS → Prop} {P17 P179 : Int → Int → bS → Prop} {σ : bS} (hQ : ∀ σ, Q σ → Q9 σ) (hP7 : ∀ x2 σ, P7 x2 σ → P79 x2 σ) (hP17 : ∀ x2 x3 σ, P17 x2 x3 σ → P179 x2 x3 σ) : eX2_countFarCalls Q P7 P17 σ → eX2_countFarCalls Q9 P79 P179 σ := (bm_all fun _ => bm_imp (hP7 _ _))
theorem wX2_countFarCalls_e {p : Program} {l : Launch} {e : Env} {s : State} {m : MethodId} {args : Array Value} {below : List Frame} {meth : Method} {c : Code} {G : bG} {σ0 : bS} {Q : bS → Prop} {P7 : Int → bS → Prop} {P17 : Int → Int → bS → Prop} {σ : bS} (S : CallFix p m c cX2_countFarCalls 4 s args bT "BankLinker$Layout") (hr : meth.sig.returnType = none) (hlk : meth.locks = false) (hP7 : ∀ (x2 : Int) (σ : bS), bR x2 → bRG σ → P7 x2 σ → bA p l e { frames := 1, cells := 0, slots := 0, locals := 22 } s m args below meth c 0 0 (bQv below args s G σ0 Q) G (va_A (bk_w G σ0) s.heap.size) 4 7 [(0, .ref (G.2.2 3)), (1, .ref (G.2.2 1)), (2, .int (bI x2))] [] σ) (hP17 : ∀ (x2 : Int) (x3 : Int) (σ : bS), bR x2 → bR x3 → bRG σ → P17 x2 x3 σ → bA p l e { frames := 1, cells := 0, slots := 0, locals := 22 } s m args below meth c 0 0 (bQv below args s G σ0 Q) G (va_A (bk_w G σ0) s.heap.size) 4 17 [(0, .ref (G.2.2 3)), (1, .ref (G.2.2 1)), (2, .int (bI x2)), (3, .int (bI x3))] [] σ) (hσ : bRG σ) (h : eX2_countFarCalls Q P7 P17 σ) : bA p l e { frames := 1, cells := 0, slots := 0, locals := 22 } s m args below meth c 0 0 (bQv below args s G σ0 Q) G (va_A (bk_w G σ0) s.heap.size) 4 0 [(0, .ref (G.2.2 3)), (1, .ref (G.2.2 1))] [] σ := by
  unfold eX2_countFarCalls at h
  refine br_aload_n S 0 dX2_countFarCalls_0 rfl rfl ?_
  refine br_iconst S dX2_countFarCalls_1 ?_
  obtain ⟨σ1, e2⟩ : ∃ τ, τ = bup σ 3 12 0 := ⟨_, rfl⟩
  replace h := h σ1 e2
  have hσ1 : bRG σ1 := by rw [e2]; exact bup_rg hσ (by decide)
  refine br_put (f := 12) (N := 14) (C := RX2) (T := TX2) S tyX2 tyX2_ok nmX2 inT_X2 wd_1_132 (by decide) rfl (pf_3_12 _ _ _) rfl (by decide) (Nat.le_of_ble_eq_true rfl) rfl rfl rfl rfl dX2_countFarCalls_2 ?_
  refine bA.to rfl rfl e2.symm ?_
  refine br_iconst S dX2_countFarCalls_5 ?_
  refine br_istore_n S [(2, .int (bI 0)), (0, .ref (G.2.2 3)), (1, .ref (G.2.2 1))] dX2_countFarCalls_6 rfl (by decide) rfl ?_
  exact bA.perm [1, 2, 0] rfl <| hP7 0 σ1 (by decide) hσ1 h
def LX2_countFarCalls_7 (Q : bS → Prop) (x2 : Int) (σ : bS) : Prop := ∀ (P7 : Int → bS → Prop) (P17 : Int → Int → bS → Prop), (∀ x2 σ, bX2_countFarCalls_7 Q P7 P17 x2 σ → P7 x2 σ) → (∀ x2 x3 σ, bX2_countFarCalls_17 Q P7 P17 x2 x3 σ → P17 x2 x3 σ) → P7 x2 σ
def LX2_countFarCalls_17 (Q : bS → Prop) (x2 : Int) (x3 : Int) (σ : bS) : Prop := ∀ (P7 : Int → bS → Prop) (P17 : Int → Int → bS → Prop), (∀ x2 σ, bX2_countFarCalls_7 Q P7 P17 x2 σ → P7 x2 σ) → (∀ x2 x3 σ, bX2_countFarCalls_17 Q P7 P17 x2 x3 σ → P17 x2 x3 σ) → P17 x2 x3 σ
theorem LX2_countFarCalls_7_in {Q : bS → Prop} {x2 : Int} {σ : bS} (h : bX2_countFarCalls_7 Q (LX2_countFarCalls_7 Q) (LX2_countFarCalls_17 Q) x2 σ) : LX2_countFarCalls_7 Q x2 σ := fun P7 P17 H7 H17 => H7 _ _ (mono_bX2_countFarCalls_7 (fun _ h => h) (fun _ _ h => h P7 P17 H7 H17) (fun _ _ _ h => h P7 P17 H7 H17) h)
theorem mono_LX2_countFarCalls_7 {Q Q9 : bS → Prop} {x2 : Int} {σ : bS} (hQ : ∀ σ, Q σ → Q9 σ) (h : LX2_countFarCalls_7 Q x2 σ) : LX2_countFarCalls_7 Q9 x2 σ := fun P7 P17 H7 H17 => h P7 P17 (fun _ _ hb => H7 _ _ (mono_bX2_countFarCalls_7 hQ (fun _ _ h => h) (fun _ _ _ h => h) hb)) (fun _ _ _ hb => H17 _ _ _ (mono_bX2_countFarCalls_17 hQ (fun _ _ h => h) (fun _ _ _ h => h) hb))
theorem LX2_countFarCalls_17_in {Q : bS → Prop} {x2 : Int} {x3 : Int} {σ : bS} (h : bX2_countFarCalls_17 Q (LX2_countFarCalls_7 Q) (LX2_countFarCalls_17 Q) x2 x3 σ) : LX2_countFarCalls_17 Q x2 x3 σ := fun P7 P17 H7 H17 => H17 _ _ _ (mono_bX2_countFarCalls_17 (fun _ h => h) (fun _ _ h => h P7 P17 H7 H17) (fun _ _ _ h => h P7 P17 H7 H17) h)
theorem mono_LX2_countFarCalls_17 {Q Q9 : bS → Prop} {x2 : Int} {x3 : Int} {σ : bS} (hQ : ∀ σ, Q σ → Q9 σ) (h : LX2_countFarCalls_17 Q x2 x3 σ) : LX2_countFarCalls_17 Q9 x2 x3 σ := fun P7 P17 H7 H17 => h P7 P17 (fun _ _ hb => H7 _ _ (mono_bX2_countFarCalls_7 hQ (fun _ _ h => h) (fun _ _ _ h => h) hb)) (fun _ _ _ hb => H17 _ _ _ (mono_bX2_countFarCalls_17 hQ (fun _ _ h => h) (fun _ _ _ h => h) hb))
def vX2_countFarCalls (Q : bS → Prop) (σ : bS) : Prop := eX2_countFarCalls Q (LX2_countFarCalls_7 Q) (LX2_countFarCalls_17 Q) σ
theorem mono_vX2_countFarCalls {Q Q9 : bS → Prop} {σ : bS} (hQ : ∀ σ, Q σ → Q9 σ) : vX2_countFarCalls Q σ → vX2_countFarCalls Q9 σ := mono_eX2_countFarCalls hQ (fun _ _ h => mono_LX2_countFarCalls_7 hQ h) (fun _ _ _ h => mono_LX2_countFarCalls_17 hQ h)
theorem mono_X2_countFarCalls {Q Q9 : bS → Prop} {σ : bS} (hQ : ∀ σ, Q σ → Q9 σ) : vX2_countFarCalls Q σ → vX2_countFarCalls Q9 σ := mono_vX2_countFarCalls hQ
theorem mX2_countFarCalls (l : Launch) (G : bG) (σ : bS) {Q : bS → Prop} (h : vX2_countFarCalls Q σ) : bk_Mv l yX2_countFarCalls (Cond.code yX2_countFarCalls cX2_countFarCalls 4 (none) :: bT) { frames := 1, cells := 0, slots := 0, locals := 22 } G σ [.ref (G.2.2 3), .ref (G.2.2 1)] Q := by
  refine bk_Mv.of (cc := cX2_countFarCalls) (maxL := 4) (ret := none) (by decide) rfl (Nat.le_of_ble_eq_true rfl) ?_
  intro p e s m args below meth c S hr hlk hσ
  let K7 : Int → bS → Prop := fun x2 τ => bR x2 → bRG τ → bA p l e { frames := 1, cells := 0, slots := 0, locals := 22 } s m args below meth c 0 0 (bQv below args s G σ Q) G (va_A (bk_w G σ) s.heap.size) 4 7 [(0, .ref (G.2.2 3)), (1, .ref (G.2.2 1)), (2, .int (bI x2))] [] τ
  let K17 : Int → Int → bS → Prop := fun x2 x3 τ => bR x2 → bR x3 → bRG τ → bA p l e { frames := 1, cells := 0, slots := 0, locals := 22 } s m args below meth c 0 0 (bQv below args s G σ Q) G (va_A (bk_w G σ) s.heap.size) 4 17 [(0, .ref (G.2.2 3)), (1, .ref (G.2.2 1)), (2, .int (bI x2)), (3, .int (bI x3))] [] τ
  have C7 : ∀ x2 τ, bX2_countFarCalls_7 Q K7 K17 x2 τ → K7 x2 τ := fun x2 τ hb hx2 hτ => wX2_countFarCalls_7 S hr hlk (fun x2 σ hx2 hσ h => h hx2 hσ) (fun x2 x3 σ hx2 hx3 hσ h => h hx2 hx3 hσ) hx2 hτ hb
  have C17 : ∀ x2 x3 τ, bX2_countFarCalls_17 Q K7 K17 x2 x3 τ → K17 x2 x3 τ := fun x2 x3 τ hb hx2 hx3 hτ => wX2_countFarCalls_17 S hr hlk (fun x2 σ hx2 hσ h => h hx2 hσ) (fun x2 x3 σ hx2 hx3 hσ h => h hx2 hx3 hσ) hx2 hx3 hτ hb
  exact wX2_countFarCalls_e S hr hlk (fun x2 σ hx2 hσ h => h K7 K17 C7 C17 hx2 hσ) (fun x2 x3 σ hx2 hx3 hσ h => h K7 K17 C7 C17 hx2 hx3 hσ) hσ h
def bX2_raiseNeeds_5 (Q : Int → bS → Prop) (P5 : Int → Int → bS → Prop) (P17 : Int → Int → Int → bS → Prop) (x3 : Int) (x4 : Int) (σ : bS) : Prop := (((σ 1 2) ≤ x4 → ((x3 = 0 ∨ x3 = 1) ∧ (Q x3 σ))) ∧ (¬ (σ 1 2) ≤ x4 → (P17 x3 x4 0 σ)))
theorem mono_bX2_raiseNeeds_5 {Q Q9 : Int → bS → Prop} {P5 P59 : Int → Int → bS → Prop} {P17 P179 : Int → Int → Int → bS → Prop} {x3 : Int} {x4 : Int} {σ : bS} (hQ : ∀ r σ, Q r σ → Q9 r σ) (hP5 : ∀ x3 x4 σ, P5 x3 x4 σ → P59 x3 x4 σ) (hP17 : ∀ x3 x4 x5 σ, P17 x3 x4 x5 σ → P179 x3 x4 x5 σ) : bX2_raiseNeeds_5 Q P5 P17 x3 x4 σ → bX2_raiseNeeds_5 Q9 P59 P179 x3 x4 σ := (bm_and (bm_imp (bm_r (hQ _ _))) (bm_imp (hP17 _ _ _ _)))
theorem wX2_raiseNeeds_5 {p : Program} {l : Launch} {e : Env} {s : State} {m : MethodId} {args : Array Value} {below : List Frame} {meth : Method} {c : Code} {G : bG} {σ0 : bS} {Q : Int → bS → Prop} {P5 : Int → Int → bS → Prop} {P17 : Int → Int → Int → bS → Prop} {x3 : Int} {x4 : Int} {σ : bS} (S : CallFix p m c cX2_raiseNeeds 8 s args bT "BankLinker$Layout") (hr : meth.sig.returnType = some .boolean) (hlk : meth.locks = false) (hP5 : ∀ (x3 : Int) (x4 : Int) (σ : bS), bR x3 → bR x4 → bRG σ → P5 x3 x4 σ → bA p l e { frames := 1, cells := 0, slots := 0, locals := 22 } s m args below meth c 0 0 (bQi below args s G σ0 Q) G (va_A (bk_w G σ0) s.heap.size) 8 5 [(0, .ref (G.2.2 3)), (1, .ref (G.2.2 1)), (2, .ref (G.2.2 2)), (3, .int (bI x3)), (4, .int (bI x4))] [] σ) (hP17 : ∀ (x3 : Int) (x4 : Int) (x5 : Int) (σ : bS), bR x3 → bR x4 → bR x5 → bRG σ → P17 x3 x4 x5 σ → bA p l e { frames := 1, cells := 0, slots := 0, locals := 22 } s m args below meth c 0 0 (bQi below args s G σ0 Q) G (va_A (bk_w G σ0) s.heap.size) 8 17 [(0, .ref (G.2.2 3)), (1, .ref (G.2.2 1)), (2, .ref (G.2.2 2)), (3, .int (bI x3)), (4, .int (bI x4)), (5, .int (bI x5))] [] σ) (hx3 : bR x3) (hx4 : bR x4) (hσ : bRG σ) (h : bX2_raiseNeeds_5 Q P5 P17 x3 x4 σ) : bA p l e { frames := 1, cells := 0, slots := 0, locals := 22 } s m args below meth c 0 0 (bQi below args s G σ0 Q) G (va_A (bk_w G σ0) s.heap.size) 8 5 [(0, .ref (G.2.2 3)), (1, .ref (G.2.2 1)), (2, .ref (G.2.2 2)), (3, .int (bI x3)), (4, .int (bI x4))] [] σ := by
  unfold bX2_raiseNeeds_5 at h
  refine br_iload S 4 dX2_raiseNeeds_5 rfl ?_
  refine br_aload_n S 1 dX2_raiseNeeds_7 rfl rfl ?_
  refine br_get (f := 2) (N := 9) (C := RX6) (T := TX6) S inT_X6 wd_1_45 (by decide) rfl rfl (by decide) rfl dX2_raiseNeeds_8 ?_
  refine br_ic_ge S 159 hx4 (hσ 1 2) dX2_raiseNeeds_11 (by decide) (fun c1 => ?_) (fun c1 => ?_)
  · replace h := h.1 c1
    refine br_iload_n S 3 dX2_raiseNeeds_159 rfl rfl ?_
    obtain ⟨g2, h⟩ := h
    exact br_zret S hr hlk g2 hσ dX2_raiseNeeds_160 h
  · replace h := h.2 c1
    refine br_iconst S dX2_raiseNeeds_14 ?_
    refine br_istore S [(5, .int (bI 0)), (0, .ref (G.2.2 3)), (1, .ref (G.2.2 1)), (2, .ref (G.2.2 2)), (3, .int (bI x3)), (4, .int (bI x4))] dX2_raiseNeeds_15 (by decide) rfl ?_
    exact bA.perm [1, 2, 3, 4, 5, 0] rfl <| hP17 x3 x4 0 σ hx3 hx4 (by decide) hσ h
def vX2_raiseNeeds_147 (Q : Int → bS → Prop) (P5 : Int → Int → bS → Prop) (P17 : Int → Int → Int → bS → Prop) (x3 : Int) (x4 : Int) (x5 : Int) (σ : bS) : Prop := (bR (x5 + 1) ∧ (P17 x3 x4 (x5 + 1) σ))
theorem mono_vX2_raiseNeeds_147 {Q Q9 : Int → bS → Prop} {P5 P59 : Int → Int → bS → Prop} {P17 P179 : Int → Int → Int → bS → Prop} {x3 : Int} {x4 : Int} {x5 : Int} {σ : bS} (hQ : ∀ r σ, Q r σ → Q9 r σ) (hP5 : ∀ x3 x4 σ, P5 x3 x4 σ → P59 x3 x4 σ) (hP17 : ∀ x3 x4 x5 σ, P17 x3 x4 x5 σ → P179 x3 x4 x5 σ) : vX2_raiseNeeds_147 Q P5 P17 x3 x4 x5 σ → vX2_raiseNeeds_147 Q9 P59 P179 x3 x4 x5 σ := (bm_r (hP17 _ _ _ _))
theorem wX2_raiseNeeds_147 {p : Program} {l : Launch} {e : Env} {s : State} {m : MethodId} {args : Array Value} {below : List Frame} {meth : Method} {c : Code} {G : bG} {σ0 : bS} {Q : Int → bS → Prop} {P5 : Int → Int → bS → Prop} {P17 : Int → Int → Int → bS → Prop} {x3 : Int} {x4 : Int} {x5 : Int} {σ : bS} (S : CallFix p m c cX2_raiseNeeds 8 s args bT "BankLinker$Layout") (hr : meth.sig.returnType = some .boolean) (hlk : meth.locks = false) (hP5 : ∀ (x3 : Int) (x4 : Int) (σ : bS), bR x3 → bR x4 → bRG σ → P5 x3 x4 σ → bA p l e { frames := 1, cells := 0, slots := 0, locals := 22 } s m args below meth c 0 0 (bQi below args s G σ0 Q) G (va_A (bk_w G σ0) s.heap.size) 8 5 [(0, .ref (G.2.2 3)), (1, .ref (G.2.2 1)), (2, .ref (G.2.2 2)), (3, .int (bI x3)), (4, .int (bI x4))] [] σ) (hP17 : ∀ (x3 : Int) (x4 : Int) (x5 : Int) (σ : bS), bR x3 → bR x4 → bR x5 → bRG σ → P17 x3 x4 x5 σ → bA p l e { frames := 1, cells := 0, slots := 0, locals := 22 } s m args below meth c 0 0 (bQi below args s G σ0 Q) G (va_A (bk_w G σ0) s.heap.size) 8 17 [(0, .ref (G.2.2 3)), (1, .ref (G.2.2 1)), (2, .ref (G.2.2 2)), (3, .int (bI x3)), (4, .int (bI x4)), (5, .int (bI x5))] [] σ) (hx3 : bR x3) (hx4 : bR x4) (hx5 : bR x5) (hσ : bRG σ) (h : vX2_raiseNeeds_147 Q P5 P17 x3 x4 x5 σ) : bA p l e { frames := 1, cells := 0, slots := 0, locals := 22 } s m args below meth c 0 0 (bQi below args s G σ0 Q) G (va_A (bk_w G σ0) s.heap.size) 8 147 [(0, .ref (G.2.2 3)), (1, .ref (G.2.2 1)), (2, .ref (G.2.2 2)), (3, .int (bI x3)), (4, .int (bI x4)), (5, .int (bI x5))] [] σ := by
  unfold vX2_raiseNeeds_147 at h
  refine br_iinc S 5 [(5, .int (bI (x5 + 1))), (0, .ref (G.2.2 3)), (1, .ref (G.2.2 1)), (2, .ref (G.2.2 2)), (3, .int (bI x3)), (4, .int (bI x4))] dX2_raiseNeeds_147 rfl (by decide) rfl ?_
  refine br_goto S 17 dX2_raiseNeeds_150 (by decide) ?_
  obtain ⟨g1, h⟩ := h
  exact bA.perm [1, 2, 3, 4, 5, 0] rfl <| hP17 x3 x4 (x5 + 1) σ hx3 hx4 g1 hσ h
def vX2_raiseNeeds_109 (Q : Int → bS → Prop) (P5 : Int → Int → bS → Prop) (P17 : Int → Int → Int → bS → Prop) (x3 : Int) (x4 : Int) (x5 : Int) (x6 : Int) (x7 : Int) (σ : bS) : Prop := ((0 ≤ x5 ∧ x5 < 30) ∧ (∀ σ2 : bS, σ2 = bup σ 26 x5 (max (σ 26 x5) x6) → ((0 ≤ x4 ∧ x4 < 30) ∧ (∀ σ5 : bS, σ5 = bup σ2 27 x4 (max (σ2 27 x4) x7) → (vX2_raiseNeeds_147 Q P5 P17 x3 x4 x5 σ5)))))
theorem mono_vX2_raiseNeeds_109 {Q Q9 : Int → bS → Prop} {P5 P59 : Int → Int → bS → Prop} {P17 P179 : Int → Int → Int → bS → Prop} {x3 : Int} {x4 : Int} {x5 : Int} {x6 : Int} {x7 : Int} {σ : bS} (hQ : ∀ r σ, Q r σ → Q9 r σ) (hP5 : ∀ x3 x4 σ, P5 x3 x4 σ → P59 x3 x4 σ) (hP17 : ∀ x3 x4 x5 σ, P17 x3 x4 x5 σ → P179 x3 x4 x5 σ) : vX2_raiseNeeds_109 Q P5 P17 x3 x4 x5 x6 x7 σ → vX2_raiseNeeds_109 Q9 P59 P179 x3 x4 x5 x6 x7 σ := (bm_r (bm_all fun _ => bm_imp (bm_r (bm_all fun _ => bm_imp (mono_vX2_raiseNeeds_147 hQ hP5 hP17)))))
theorem wX2_raiseNeeds_109 {p : Program} {l : Launch} {e : Env} {s : State} {m : MethodId} {args : Array Value} {below : List Frame} {meth : Method} {c : Code} {G : bG} {σ0 : bS} {Q : Int → bS → Prop} {P5 : Int → Int → bS → Prop} {P17 : Int → Int → Int → bS → Prop} {x3 : Int} {x4 : Int} {x5 : Int} {x6 : Int} {x7 : Int} {σ : bS} (S : CallFix p m c cX2_raiseNeeds 8 s args bT "BankLinker$Layout") (hr : meth.sig.returnType = some .boolean) (hlk : meth.locks = false) (hP5 : ∀ (x3 : Int) (x4 : Int) (σ : bS), bR x3 → bR x4 → bRG σ → P5 x3 x4 σ → bA p l e { frames := 1, cells := 0, slots := 0, locals := 22 } s m args below meth c 0 0 (bQi below args s G σ0 Q) G (va_A (bk_w G σ0) s.heap.size) 8 5 [(0, .ref (G.2.2 3)), (1, .ref (G.2.2 1)), (2, .ref (G.2.2 2)), (3, .int (bI x3)), (4, .int (bI x4))] [] σ) (hP17 : ∀ (x3 : Int) (x4 : Int) (x5 : Int) (σ : bS), bR x3 → bR x4 → bR x5 → bRG σ → P17 x3 x4 x5 σ → bA p l e { frames := 1, cells := 0, slots := 0, locals := 22 } s m args below meth c 0 0 (bQi below args s G σ0 Q) G (va_A (bk_w G σ0) s.heap.size) 8 17 [(0, .ref (G.2.2 3)), (1, .ref (G.2.2 1)), (2, .ref (G.2.2 2)), (3, .int (bI x3)), (4, .int (bI x4)), (5, .int (bI x5))] [] σ) (hx3 : bR x3) (hx4 : bR x4) (hx5 : bR x5) (hx6 : bR x6) (hx7 : bR x7) (hσ : bRG σ) (h : vX2_raiseNeeds_109 Q P5 P17 x3 x4 x5 x6 x7 σ) : bA p l e { frames := 1, cells := 0, slots := 0, locals := 22 } s m args below meth c 0 0 (bQi below args s G σ0 Q) G (va_A (bk_w G σ0) s.heap.size) 8 109 [(0, .ref (G.2.2 3)), (1, .ref (G.2.2 1)), (2, .ref (G.2.2 2)), (3, .int (bI x3)), (4, .int (bI x4)), (5, .int (bI x5)), (6, .int (bI x6)), (7, .int (bI x7))] [] σ := by
  unfold vX2_raiseNeeds_109 at h
  refine br_aload_n S 0 dX2_raiseNeeds_109 rfl rfl ?_
  refine br_get (f := 4) (N := 14) (C := RX2) (T := TX2) S inT_X2 wd_1_116 (by decide) rfl rfl (by decide) rfl dX2_raiseNeeds_110 ?_
  refine br_iload S 5 dX2_raiseNeeds_113 rfl ?_
  refine br_aload_n S 0 dX2_raiseNeeds_115 rfl rfl ?_
  refine br_get (f := 4) (N := 14) (C := RX2) (T := TX2) S inT_X2 wd_1_116 (by decide) rfl rfl (by decide) rfl dX2_raiseNeeds_116 ?_
  refine br_iload S 5 dX2_raiseNeeds_119 rfl ?_
  obtain ⟨g1, h⟩ := h
  refine br_iald (n := 30) S ⟨by decide, by decide, fun _ => rfl⟩ g1.1 g1.2 dX2_raiseNeeds_121 ?_
  refine br_iload S 6 dX2_raiseNeeds_122 rfl ?_
  refine br_max S wd_3_19 wd_max1 wd_max2 wd_max3 (hσ 26 x5) hx6 (by decide) (Nat.le_of_ble_eq_true rfl) ⟨by decide, by decide⟩ dX2_raiseNeeds_124 ?_
  obtain ⟨σ2, e3⟩ : ∃ τ, τ = bup σ 26 x5 (max (σ 26 x5) x6) := ⟨_, rfl⟩
  replace h := h σ2 e3
  have hσ2 : bRG σ2 := by rw [e3]; exact bup_rg hσ (bR_max (hσ 26 x5) hx6)
  refine br_iast (n := 30) S ⟨by decide, by decide, fun _ => rfl⟩ g1.1 g1.2 dX2_raiseNeeds_127 ?_
  refine bA.to rfl rfl e3.symm ?_
  refine br_aload_n S 0 dX2_raiseNeeds_128 rfl rfl ?_
  refine br_get (f := 5) (N := 14) (C := RX2) (T := TX2) S inT_X2 wd_1_119 (by decide) rfl rfl (by decide) rfl dX2_raiseNeeds_129 ?_
  refine br_iload S 4 dX2_raiseNeeds_132 rfl ?_
  refine br_aload_n S 0 dX2_raiseNeeds_134 rfl rfl ?_
  refine br_get (f := 5) (N := 14) (C := RX2) (T := TX2) S inT_X2 wd_1_119 (by decide) rfl rfl (by decide) rfl dX2_raiseNeeds_135 ?_
  refine br_iload S 4 dX2_raiseNeeds_138 rfl ?_
  obtain ⟨g4, h⟩ := h
  refine br_iald (n := 30) S ⟨by decide, by decide, fun _ => rfl⟩ g4.1 g4.2 dX2_raiseNeeds_140 ?_
  refine br_iload S 7 dX2_raiseNeeds_141 rfl ?_
  refine br_max S wd_3_19 wd_max1 wd_max2 wd_max3 (hσ2 27 x4) hx7 (by decide) (Nat.le_of_ble_eq_true rfl) ⟨by decide, by decide⟩ dX2_raiseNeeds_143 ?_
  obtain ⟨σ5, e6⟩ : ∃ τ, τ = bup σ2 27 x4 (max (σ2 27 x4) x7) := ⟨_, rfl⟩
  replace h := h σ5 e6
  have hσ5 : bRG σ5 := by rw [e6]; exact bup_rg hσ2 (bR_max (hσ2 27 x4) hx7)
  refine br_iast (n := 30) S ⟨by decide, by decide, fun _ => rfl⟩ g4.1 g4.2 dX2_raiseNeeds_146 ?_
  refine bA.to rfl rfl e6.symm ?_
  exact bA.perm [0, 1, 2, 3, 4, 5] rfl <| wX2_raiseNeeds_147 S hr hlk hP5 hP17 hx3 hx4 hx5 hσ5 h
def vX2_raiseNeeds_107 (Q : Int → bS → Prop) (P5 : Int → Int → bS → Prop) (P17 : Int → Int → Int → bS → Prop) (x4 : Int) (x5 : Int) (x6 : Int) (x7 : Int) (σ : bS) : Prop := (vX2_raiseNeeds_109 Q P5 P17 1 x4 x5 x6 x7 σ)
theorem mono_vX2_raiseNeeds_107 {Q Q9 : Int → bS → Prop} {P5 P59 : Int → Int → bS → Prop} {P17 P179 : Int → Int → Int → bS → Prop} {x4 : Int} {x5 : Int} {x6 : Int} {x7 : Int} {σ : bS} (hQ : ∀ r σ, Q r σ → Q9 r σ) (hP5 : ∀ x3 x4 σ, P5 x3 x4 σ → P59 x3 x4 σ) (hP17 : ∀ x3 x4 x5 σ, P17 x3 x4 x5 σ → P179 x3 x4 x5 σ) : vX2_raiseNeeds_107 Q P5 P17 x4 x5 x6 x7 σ → vX2_raiseNeeds_107 Q9 P59 P179 x4 x5 x6 x7 σ := (mono_vX2_raiseNeeds_109 hQ hP5 hP17)
theorem wX2_raiseNeeds_107 {p : Program} {l : Launch} {e : Env} {s : State} {m : MethodId} {args : Array Value} {below : List Frame} {meth : Method} {c : Code} {G : bG} {σ0 : bS} {Q : Int → bS → Prop} {P5 : Int → Int → bS → Prop} {P17 : Int → Int → Int → bS → Prop} {x4 : Int} {x5 : Int} {x6 : Int} {x7 : Int} {σ : bS} (S : CallFix p m c cX2_raiseNeeds 8 s args bT "BankLinker$Layout") (hr : meth.sig.returnType = some .boolean) (hlk : meth.locks = false) (hP5 : ∀ (x3 : Int) (x4 : Int) (σ : bS), bR x3 → bR x4 → bRG σ → P5 x3 x4 σ → bA p l e { frames := 1, cells := 0, slots := 0, locals := 22 } s m args below meth c 0 0 (bQi below args s G σ0 Q) G (va_A (bk_w G σ0) s.heap.size) 8 5 [(0, .ref (G.2.2 3)), (1, .ref (G.2.2 1)), (2, .ref (G.2.2 2)), (3, .int (bI x3)), (4, .int (bI x4))] [] σ) (hP17 : ∀ (x3 : Int) (x4 : Int) (x5 : Int) (σ : bS), bR x3 → bR x4 → bR x5 → bRG σ → P17 x3 x4 x5 σ → bA p l e { frames := 1, cells := 0, slots := 0, locals := 22 } s m args below meth c 0 0 (bQi below args s G σ0 Q) G (va_A (bk_w G σ0) s.heap.size) 8 17 [(0, .ref (G.2.2 3)), (1, .ref (G.2.2 1)), (2, .ref (G.2.2 2)), (3, .int (bI x3)), (4, .int (bI x4)), (5, .int (bI x5))] [] σ) (hx4 : bR x4) (hx5 : bR x5) (hx6 : bR x6) (hx7 : bR x7) (hσ : bRG σ) (h : vX2_raiseNeeds_107 Q P5 P17 x4 x5 x6 x7 σ) : bA p l e { frames := 1, cells := 0, slots := 0, locals := 22 } s m args below meth c 0 0 (bQi below args s G σ0 Q) G (va_A (bk_w G σ0) s.heap.size) 8 107 [(0, .ref (G.2.2 3)), (1, .ref (G.2.2 1)), (2, .ref (G.2.2 2)), (4, .int (bI x4)), (5, .int (bI x5)), (6, .int (bI x6)), (7, .int (bI x7))] [] σ := by
  unfold vX2_raiseNeeds_107 at h
  refine br_iconst S dX2_raiseNeeds_107 ?_
  refine br_istore_n S [(3, .int (bI 1)), (0, .ref (G.2.2 3)), (1, .ref (G.2.2 1)), (2, .ref (G.2.2 2)), (4, .int (bI x4)), (5, .int (bI x5)), (6, .int (bI x6)), (7, .int (bI x7))] dX2_raiseNeeds_108 rfl (by decide) rfl ?_
  exact bA.perm [1, 2, 3, 0, 4, 5, 6, 7] rfl <| wX2_raiseNeeds_109 S hr hlk hP5 hP17 (by decide) hx4 hx5 hx6 hx7 hσ h
def vX2_raiseNeeds_80 (Q : Int → bS → Prop) (P5 : Int → Int → bS → Prop) (P17 : Int → Int → Int → bS → Prop) (x3 : Int) (x4 : Int) (x5 : Int) (x6 : Int) (s0 : Int) (s1 : Int) (σ : bS) : Prop := ((0 ≤ x5 ∧ x5 < 30) ∧ (((σ 26 x5) < x6 → (bR (s1 + s0) ∧ (vX2_raiseNeeds_107 Q P5 P17 x4 x5 x6 (s1 + s0) σ))) ∧ (¬ (σ 26 x5) < x6 → ((0 ≤ x4 ∧ x4 < 30) ∧ (bR (s1 + s0) ∧ (((s1 + s0) ≤ (σ 27 x4) → (vX2_raiseNeeds_109 Q P5 P17 x3 x4 x5 x6 (s1 + s0) σ)) ∧ (¬ (s1 + s0) ≤ (σ 27 x4) → (vX2_raiseNeeds_107 Q P5 P17 x4 x5 x6 (s1 + s0) σ))))))))
theorem mono_vX2_raiseNeeds_80 {Q Q9 : Int → bS → Prop} {P5 P59 : Int → Int → bS → Prop} {P17 P179 : Int → Int → Int → bS → Prop} {x3 : Int} {x4 : Int} {x5 : Int} {x6 : Int} {s0 : Int} {s1 : Int} {σ : bS} (hQ : ∀ r σ, Q r σ → Q9 r σ) (hP5 : ∀ x3 x4 σ, P5 x3 x4 σ → P59 x3 x4 σ) (hP17 : ∀ x3 x4 x5 σ, P17 x3 x4 x5 σ → P179 x3 x4 x5 σ) : vX2_raiseNeeds_80 Q P5 P17 x3 x4 x5 x6 s0 s1 σ → vX2_raiseNeeds_80 Q9 P59 P179 x3 x4 x5 x6 s0 s1 σ := (bm_r (bm_and (bm_imp (bm_r (mono_vX2_raiseNeeds_107 hQ hP5 hP17))) (bm_imp (bm_r (bm_r (bm_and (bm_imp (mono_vX2_raiseNeeds_109 hQ hP5 hP17)) (bm_imp (mono_vX2_raiseNeeds_107 hQ hP5 hP17))))))))
theorem wX2_raiseNeeds_80 {p : Program} {l : Launch} {e : Env} {s : State} {m : MethodId} {args : Array Value} {below : List Frame} {meth : Method} {c : Code} {G : bG} {σ0 : bS} {Q : Int → bS → Prop} {P5 : Int → Int → bS → Prop} {P17 : Int → Int → Int → bS → Prop} {x3 : Int} {x4 : Int} {x5 : Int} {x6 : Int} {s0 : Int} {s1 : Int} {σ : bS} (S : CallFix p m c cX2_raiseNeeds 8 s args bT "BankLinker$Layout") (hr : meth.sig.returnType = some .boolean) (hlk : meth.locks = false) (hP5 : ∀ (x3 : Int) (x4 : Int) (σ : bS), bR x3 → bR x4 → bRG σ → P5 x3 x4 σ → bA p l e { frames := 1, cells := 0, slots := 0, locals := 22 } s m args below meth c 0 0 (bQi below args s G σ0 Q) G (va_A (bk_w G σ0) s.heap.size) 8 5 [(0, .ref (G.2.2 3)), (1, .ref (G.2.2 1)), (2, .ref (G.2.2 2)), (3, .int (bI x3)), (4, .int (bI x4))] [] σ) (hP17 : ∀ (x3 : Int) (x4 : Int) (x5 : Int) (σ : bS), bR x3 → bR x4 → bR x5 → bRG σ → P17 x3 x4 x5 σ → bA p l e { frames := 1, cells := 0, slots := 0, locals := 22 } s m args below meth c 0 0 (bQi below args s G σ0 Q) G (va_A (bk_w G σ0) s.heap.size) 8 17 [(0, .ref (G.2.2 3)), (1, .ref (G.2.2 1)), (2, .ref (G.2.2 2)), (3, .int (bI x3)), (4, .int (bI x4)), (5, .int (bI x5))] [] σ) (hx3 : bR x3) (hx4 : bR x4) (hx5 : bR x5) (hx6 : bR x6) (hs0 : bR s0) (hs1 : bR s1) (hσ : bRG σ) (h : vX2_raiseNeeds_80 Q P5 P17 x3 x4 x5 x6 s0 s1 σ) : bA p l e { frames := 1, cells := 0, slots := 0, locals := 22 } s m args below meth c 0 0 (bQi below args s G σ0 Q) G (va_A (bk_w G σ0) s.heap.size) 8 80 [(0, .ref (G.2.2 3)), (1, .ref (G.2.2 1)), (2, .ref (G.2.2 2)), (3, .int (bI x3)), (4, .int (bI x4)), (5, .int (bI x5)), (6, .int (bI x6))] [.int (bI s0), .int (bI s1)] σ := by
  unfold vX2_raiseNeeds_80 at h
  refine br_iadd S dX2_raiseNeeds_80 ?_
  refine br_istore S [(7, .int (bI (s1 + s0))), (0, .ref (G.2.2 3)), (1, .ref (G.2.2 1)), (2, .ref (G.2.2 2)), (3, .int (bI x3)), (4, .int (bI x4)), (5, .int (bI x5)), (6, .int (bI x6))] dX2_raiseNeeds_81 (by decide) rfl ?_
  refine br_aload_n S 1 dX2_raiseNeeds_83 rfl rfl ?_
  refine br_get (f := 4) (N := 14) (C := RX2) (T := TX2) S inT_X2 wd_1_116 (by decide) rfl rfl (by decide) rfl dX2_raiseNeeds_84 ?_
  refine br_iload S 6 dX2_raiseNeeds_87 rfl ?_
  obtain ⟨g1, h⟩ := h
  refine br_iald (n := 30) S ⟨by decide, by decide, fun _ => rfl⟩ g1.1 g1.2 dX2_raiseNeeds_89 ?_
  refine br_iload S 7 dX2_raiseNeeds_90 rfl ?_
  refine br_ic_lt S 107 (hσ 26 x5) hx6 dX2_raiseNeeds_92 (by decide) (fun c2 => ?_) (fun c2 => ?_)
  · replace h := h.1 c2
    obtain ⟨g3, h⟩ := h
    exact bA.perm [1, 2, 3, 5, 6, 7, 0] rfl <| wX2_raiseNeeds_107 S hr hlk hP5 hP17 hx4 hx5 hx6 g3 hσ h
  · replace h := h.2 c2
    refine br_aload_n S 1 dX2_raiseNeeds_95 rfl rfl ?_
    refine br_get (f := 5) (N := 14) (C := RX2) (T := TX2) S inT_X2 wd_1_119 (by decide) rfl rfl (by decide) rfl dX2_raiseNeeds_96 ?_
    refine br_iload S 5 dX2_raiseNeeds_99 rfl ?_
    obtain ⟨g4, h⟩ := h
    refine br_iald (n := 30) S ⟨by decide, by decide, fun _ => rfl⟩ g4.1 g4.2 dX2_raiseNeeds_101 ?_
    refine br_iload S 0 dX2_raiseNeeds_102 rfl ?_
    obtain ⟨g5, h⟩ := h
    refine br_ic_ge S 109 (hσ 27 x4) g5 dX2_raiseNeeds_104 (by decide) (fun c6 => ?_) (fun c6 => ?_)
    · replace h := h.1 c6
      exact bA.perm [1, 2, 3, 4, 5, 6, 7, 0] rfl <| wX2_raiseNeeds_109 S hr hlk hP5 hP17 hx3 hx4 hx5 hx6 g5 hσ h
    · replace h := h.2 c6
      exact bA.perm [1, 2, 3, 5, 6, 7, 0] rfl <| wX2_raiseNeeds_107 S hr hlk hP5 hP17 hx4 hx5 hx6 g5 hσ h
def bX2_raiseNeeds_17 (Q : Int → bS → Prop) (P5 : Int → Int → bS → Prop) (P17 : Int → Int → Int → bS → Prop) (x3 : Int) (x4 : Int) (x5 : Int) (σ : bS) : Prop := (((σ 1 2) ≤ x5 → (bR (x4 + 1) ∧ (P5 x3 (x4 + 1) σ))) ∧ (¬ (σ 1 2) ≤ x5 → (vX0_hasCall (fun z3 σ4 => ((¬ z3 = 0 → ((0 ≤ x4 ∧ x4 < 30) ∧ ((0 ≤ x5 ∧ x5 < 30) ∧ (vX2_isFar (fun z8 σ9 => ((z8 = 0 → (bR ((σ4 26 x4) + (σ4 15 x4)) ∧ (vX2_raiseNeeds_80 Q P5 P17 x3 x4 x5 ((σ4 26 x4) + (σ4 15 x4)) 1 (σ4 27 x5) σ9))) ∧ (¬ z8 = 0 → (bR ((σ4 26 x4) + (σ4 15 x4)) ∧ (vX2_raiseNeeds_80 Q P5 P17 x3 x4 x5 ((σ4 26 x4) + (σ4 15 x4)) 3 (σ4 27 x5) σ9))))) x4 x5 σ4)))) ∧ (z3 = 0 → (vX2_raiseNeeds_147 Q P5 P17 x3 x4 x5 σ4)))) x4 x5 σ)))
theorem mono_bX2_raiseNeeds_17 {Q Q9 : Int → bS → Prop} {P5 P59 : Int → Int → bS → Prop} {P17 P179 : Int → Int → Int → bS → Prop} {x3 : Int} {x4 : Int} {x5 : Int} {σ : bS} (hQ : ∀ r σ, Q r σ → Q9 r σ) (hP5 : ∀ x3 x4 σ, P5 x3 x4 σ → P59 x3 x4 σ) (hP17 : ∀ x3 x4 x5 σ, P17 x3 x4 x5 σ → P179 x3 x4 x5 σ) : bX2_raiseNeeds_17 Q P5 P17 x3 x4 x5 σ → bX2_raiseNeeds_17 Q9 P59 P179 x3 x4 x5 σ := (bm_and (bm_imp (bm_r (hP5 _ _ _))) (bm_imp (mono_X0_hasCall (fun _ _ => (bm_and (bm_imp (bm_r (bm_r (mono_X2_isFar (fun _ _ => (bm_and (bm_imp (bm_r (mono_vX2_raiseNeeds_80 hQ hP5 hP17))) (bm_imp (bm_r (mono_vX2_raiseNeeds_80 hQ hP5 hP17))))))))) (bm_imp (mono_vX2_raiseNeeds_147 hQ hP5 hP17)))))))
theorem wX2_raiseNeeds_17 {p : Program} {l : Launch} {e : Env} {s : State} {m : MethodId} {args : Array Value} {below : List Frame} {meth : Method} {c : Code} {G : bG} {σ0 : bS} {Q : Int → bS → Prop} {P5 : Int → Int → bS → Prop} {P17 : Int → Int → Int → bS → Prop} {x3 : Int} {x4 : Int} {x5 : Int} {σ : bS} (S : CallFix p m c cX2_raiseNeeds 8 s args bT "BankLinker$Layout") (hr : meth.sig.returnType = some .boolean) (hlk : meth.locks = false) (hP5 : ∀ (x3 : Int) (x4 : Int) (σ : bS), bR x3 → bR x4 → bRG σ → P5 x3 x4 σ → bA p l e { frames := 1, cells := 0, slots := 0, locals := 22 } s m args below meth c 0 0 (bQi below args s G σ0 Q) G (va_A (bk_w G σ0) s.heap.size) 8 5 [(0, .ref (G.2.2 3)), (1, .ref (G.2.2 1)), (2, .ref (G.2.2 2)), (3, .int (bI x3)), (4, .int (bI x4))] [] σ) (hP17 : ∀ (x3 : Int) (x4 : Int) (x5 : Int) (σ : bS), bR x3 → bR x4 → bR x5 → bRG σ → P17 x3 x4 x5 σ → bA p l e { frames := 1, cells := 0, slots := 0, locals := 22 } s m args below meth c 0 0 (bQi below args s G σ0 Q) G (va_A (bk_w G σ0) s.heap.size) 8 17 [(0, .ref (G.2.2 3)), (1, .ref (G.2.2 1)), (2, .ref (G.2.2 2)), (3, .int (bI x3)), (4, .int (bI x4)), (5, .int (bI x5))] [] σ) (hx3 : bR x3) (hx4 : bR x4) (hx5 : bR x5) (hσ : bRG σ) (h : bX2_raiseNeeds_17 Q P5 P17 x3 x4 x5 σ) : bA p l e { frames := 1, cells := 0, slots := 0, locals := 22 } s m args below meth c 0 0 (bQi below args s G σ0 Q) G (va_A (bk_w G σ0) s.heap.size) 8 17 [(0, .ref (G.2.2 3)), (1, .ref (G.2.2 1)), (2, .ref (G.2.2 2)), (3, .int (bI x3)), (4, .int (bI x4)), (5, .int (bI x5))] [] σ := by
  unfold bX2_raiseNeeds_17 at h
  refine br_iload S 5 dX2_raiseNeeds_17 rfl ?_
  refine br_aload_n S 1 dX2_raiseNeeds_19 rfl rfl ?_
  refine br_get (f := 2) (N := 9) (C := RX6) (T := TX6) S inT_X6 wd_1_45 (by decide) rfl rfl (by decide) rfl dX2_raiseNeeds_20 ?_
  refine br_ic_ge S 153 hx5 (hσ 1 2) dX2_raiseNeeds_23 (by decide) (fun c1 => ?_) (fun c1 => ?_)
  · replace h := h.1 c1
    refine br_iinc S 4 [(4, .int (bI (x4 + 1))), (0, .ref (G.2.2 3)), (1, .ref (G.2.2 1)), (2, .ref (G.2.2 2)), (3, .int (bI x3)), (5, .int (bI x5))] dX2_raiseNeeds_153 rfl (by decide) rfl ?_
    refine br_goto S 5 dX2_raiseNeeds_156 (by decide) ?_
    obtain ⟨g2, h⟩ := h
    exact bA.perm [1, 2, 3, 4, 0] rfl <| hP5 x3 (x4 + 1) σ hx3 g2 hσ h
  · replace h := h.2 c1
    refine br_aload_n S 2 dX2_raiseNeeds_26 rfl rfl ?_
    refine br_iload S 4 dX2_raiseNeeds_27 rfl ?_
    refine br_iload S 5 dX2_raiseNeeds_29 rfl ?_
    refine br_callV (As := [.int (bI x4), .int (bI x5)]) (rest := []) S (cwV_X0_hasCall S.2.2.2.2 wd_2_237 ⟨by decide, by decide⟩) (mX0_hasCall l G σ x4 hx4 x5 hx5 h) (by decide) rfl rfl rfl hσ rfl rfl (Nat.le_of_ble_eq_true rfl) ⟨by decide, by decide⟩ dX2_raiseNeeds_31 (fun z3 σ4 hz3 hσ4 h => ?_)
    refine br_if_ne S 40 hz3 dX2_raiseNeeds_34 (by decide) (fun c5 => ?_) (fun c5 => ?_)
    · replace h := h.1 c5
      refine br_aload_n S 0 dX2_raiseNeeds_40 rfl rfl ?_
      refine br_get (f := 4) (N := 14) (C := RX2) (T := TX2) S inT_X2 wd_1_116 (by decide) rfl rfl (by decide) rfl dX2_raiseNeeds_41 ?_
      refine br_iload S 4 dX2_raiseNeeds_44 rfl ?_
      obtain ⟨g6, h⟩ := h
      refine br_iald (n := 30) S ⟨by decide, by decide, fun _ => rfl⟩ g6.1 g6.2 dX2_raiseNeeds_46 ?_
      refine br_aload_n S 1 dX2_raiseNeeds_47 rfl rfl ?_
      refine br_get (f := 4) (N := 9) (C := RX6) (T := TX6) S inT_X6 wd_1_53 (by decide) rfl rfl (by decide) rfl dX2_raiseNeeds_48 ?_
      refine br_iload S 4 dX2_raiseNeeds_51 rfl ?_
      refine br_iald (n := 30) S ⟨by decide, by decide, fun _ => rfl⟩ g6.1 g6.2 dX2_raiseNeeds_53 ?_
      refine br_iadd S dX2_raiseNeeds_54 ?_
      refine br_istore S [(6, .int (bI ((σ4 26 x4) + (σ4 15 x4)))), (0, .ref (G.2.2 3)), (1, .ref (G.2.2 1)), (2, .ref (G.2.2 2)), (3, .int (bI x3)), (4, .int (bI x4)), (5, .int (bI x5))] dX2_raiseNeeds_55 (by decide) rfl ?_
      refine br_aload_n S 1 dX2_raiseNeeds_57 rfl rfl ?_
      refine br_get (f := 5) (N := 14) (C := RX2) (T := TX2) S inT_X2 wd_1_119 (by decide) rfl rfl (by decide) rfl dX2_raiseNeeds_58 ?_
      refine br_iload S 6 dX2_raiseNeeds_61 rfl ?_
      obtain ⟨g7, h⟩ := h
      refine br_iald (n := 30) S ⟨by decide, by decide, fun _ => rfl⟩ g7.1 g7.2 dX2_raiseNeeds_63 ?_
      refine br_aload_n S 1 dX2_raiseNeeds_64 rfl rfl ?_
      refine br_iload S 5 dX2_raiseNeeds_65 rfl ?_
      refine br_iload S 6 dX2_raiseNeeds_67 rfl ?_
      refine br_callV (As := [.int (bI x4), .int (bI x5)]) (rest := [.int (bI (σ4 27 x5))]) S (cwV_X2_isFar S.2.2.2.2 wd_3_1 ⟨by decide, by decide⟩) (mX2_isFar l G σ4 x4 hx4 x5 hx5 h) (by decide) rfl rfl rfl hσ4 rfl rfl (Nat.le_of_ble_eq_true rfl) ⟨by decide, by decide⟩ dX2_raiseNeeds_69 (fun z8 σ9 hz8 hσ9 h => ?_)
      refine br_if_eq S 79 hz8 dX2_raiseNeeds_72 (by decide) (fun c10 => ?_) (fun c10 => ?_)
      · replace h := h.1 c10
        refine br_iconst S dX2_raiseNeeds_79 ?_
        obtain ⟨g11, h⟩ := h
        exact bA.perm [1, 2, 3, 4, 5, 6, 0] rfl <| wX2_raiseNeeds_80 S hr hlk hP5 hP17 hx3 hx4 hx5 g11 (by decide) (hσ4 27 x5) hσ9 h
      · replace h := h.2 c10
        refine br_iconst S dX2_raiseNeeds_75 ?_
        refine br_goto S 80 dX2_raiseNeeds_76 (by decide) ?_
        obtain ⟨g12, h⟩ := h
        exact bA.perm [1, 2, 3, 4, 5, 6, 0] rfl <| wX2_raiseNeeds_80 S hr hlk hP5 hP17 hx3 hx4 hx5 g12 (by decide) (hσ4 27 x5) hσ9 h
    · replace h := h.2 c5
      refine br_goto S 147 dX2_raiseNeeds_37 (by decide) ?_
      exact wX2_raiseNeeds_147 S hr hlk hP5 hP17 hx3 hx4 hx5 hσ4 h
def eX2_raiseNeeds (Q : Int → bS → Prop) (P5 : Int → Int → bS → Prop) (P17 : Int → Int → Int → bS → Prop) (σ : bS) : Prop := (P5 0 0 σ)
theorem mono_eX2_raiseNeeds {Q Q9 : Int → bS → Prop} {P5 P59 : Int → Int → bS → Prop} {P17 P179 : Int → Int → Int → bS → Prop} {σ : bS} (hQ : ∀ r σ, Q r σ → Q9 r σ) (hP5 : ∀ x3 x4 σ, P5 x3 x4 σ → P59 x3 x4 σ) (hP17 : ∀ x3 x4 x5 σ, P17 x3 x4 x5 σ → P179 x3 x4 x5 σ) : eX2_raiseNeeds Q P5 P17 σ → eX2_raiseNeeds Q9 P59 P179 σ := (hP5 _ _ _)
theorem wX2_raiseNeeds_e {p : Program} {l : Launch} {e : Env} {s : State} {m : MethodId} {args : Array Value} {below : List Frame} {meth : Method} {c : Code} {G : bG} {σ0 : bS} {Q : Int → bS → Prop} {P5 : Int → Int → bS → Prop} {P17 : Int → Int → Int → bS → Prop} {σ : bS} (S : CallFix p m c cX2_raiseNeeds 8 s args bT "BankLinker$Layout") (hr : meth.sig.returnType = some .boolean) (hlk : meth.locks = false) (hP5 : ∀ (x3 : Int) (x4 : Int) (σ : bS), bR x3 → bR x4 → bRG σ → P5 x3 x4 σ → bA p l e { frames := 1, cells := 0, slots := 0, locals := 22 } s m args below meth c 0 0 (bQi below args s G σ0 Q) G (va_A (bk_w G σ0) s.heap.size) 8 5 [(0, .ref (G.2.2 3)), (1, .ref (G.2.2 1)), (2, .ref (G.2.2 2)), (3, .int (bI x3)), (4, .int (bI x4))] [] σ) (hP17 : ∀ (x3 : Int) (x4 : Int) (x5 : Int) (σ : bS), bR x3 → bR x4 → bR x5 → bRG σ → P17 x3 x4 x5 σ → bA p l e { frames := 1, cells := 0, slots := 0, locals := 22 } s m args below meth c 0 0 (bQi below args s G σ0 Q) G (va_A (bk_w G σ0) s.heap.size) 8 17 [(0, .ref (G.2.2 3)), (1, .ref (G.2.2 1)), (2, .ref (G.2.2 2)), (3, .int (bI x3)), (4, .int (bI x4)), (5, .int (bI x5))] [] σ) (hσ : bRG σ) (h : eX2_raiseNeeds Q P5 P17 σ) : bA p l e { frames := 1, cells := 0, slots := 0, locals := 22 } s m args below meth c 0 0 (bQi below args s G σ0 Q) G (va_A (bk_w G σ0) s.heap.size) 8 0 [(0, .ref (G.2.2 3)), (1, .ref (G.2.2 1)), (2, .ref (G.2.2 2))] [] σ := by
  unfold eX2_raiseNeeds at h
  refine br_iconst S dX2_raiseNeeds_0 ?_
  refine br_istore_n S [(3, .int (bI 0)), (0, .ref (G.2.2 3)), (1, .ref (G.2.2 1)), (2, .ref (G.2.2 2))] dX2_raiseNeeds_1 rfl (by decide) rfl ?_
  refine br_iconst S dX2_raiseNeeds_2 ?_
  refine br_istore S [(4, .int (bI 0)), (3, .int (bI 0)), (0, .ref (G.2.2 3)), (1, .ref (G.2.2 1)), (2, .ref (G.2.2 2))] dX2_raiseNeeds_3 (by decide) rfl ?_
  exact bA.perm [2, 3, 4, 1, 0] rfl <| hP5 0 0 σ (by decide) (by decide) hσ h
def LX2_raiseNeeds_5 (Q : Int → bS → Prop) (x3 : Int) (x4 : Int) (σ : bS) : Prop := ∀ (P5 : Int → Int → bS → Prop) (P17 : Int → Int → Int → bS → Prop), (∀ x3 x4 σ, bX2_raiseNeeds_5 Q P5 P17 x3 x4 σ → P5 x3 x4 σ) → (∀ x3 x4 x5 σ, bX2_raiseNeeds_17 Q P5 P17 x3 x4 x5 σ → P17 x3 x4 x5 σ) → P5 x3 x4 σ
def LX2_raiseNeeds_17 (Q : Int → bS → Prop) (x3 : Int) (x4 : Int) (x5 : Int) (σ : bS) : Prop := ∀ (P5 : Int → Int → bS → Prop) (P17 : Int → Int → Int → bS → Prop), (∀ x3 x4 σ, bX2_raiseNeeds_5 Q P5 P17 x3 x4 σ → P5 x3 x4 σ) → (∀ x3 x4 x5 σ, bX2_raiseNeeds_17 Q P5 P17 x3 x4 x5 σ → P17 x3 x4 x5 σ) → P17 x3 x4 x5 σ
theorem LX2_raiseNeeds_5_in {Q : Int → bS → Prop} {x3 : Int} {x4 : Int} {σ : bS} (h : bX2_raiseNeeds_5 Q (LX2_raiseNeeds_5 Q) (LX2_raiseNeeds_17 Q) x3 x4 σ) : LX2_raiseNeeds_5 Q x3 x4 σ := fun P5 P17 H5 H17 => H5 _ _ _ (mono_bX2_raiseNeeds_5 (fun _ _ h => h) (fun _ _ _ h => h P5 P17 H5 H17) (fun _ _ _ _ h => h P5 P17 H5 H17) h)
theorem mono_LX2_raiseNeeds_5 {Q Q9 : Int → bS → Prop} {x3 : Int} {x4 : Int} {σ : bS} (hQ : ∀ r σ, Q r σ → Q9 r σ) (h : LX2_raiseNeeds_5 Q x3 x4 σ) : LX2_raiseNeeds_5 Q9 x3 x4 σ := fun P5 P17 H5 H17 => h P5 P17 (fun _ _ _ hb => H5 _ _ _ (mono_bX2_raiseNeeds_5 hQ (fun _ _ _ h => h) (fun _ _ _ _ h => h) hb)) (fun _ _ _ _ hb => H17 _ _ _ _ (mono_bX2_raiseNeeds_17 hQ (fun _ _ _ h => h) (fun _ _ _ _ h => h) hb))
theorem LX2_raiseNeeds_17_in {Q : Int → bS → Prop} {x3 : Int} {x4 : Int} {x5 : Int} {σ : bS} (h : bX2_raiseNeeds_17 Q (LX2_raiseNeeds_5 Q) (LX2_raiseNeeds_17 Q) x3 x4 x5 σ) : LX2_raiseNeeds_17 Q x3 x4 x5 σ := fun P5 P17 H5 H17 => H17 _ _ _ _ (mono_bX2_raiseNeeds_17 (fun _ _ h => h) (fun _ _ _ h => h P5 P17 H5 H17) (fun _ _ _ _ h => h P5 P17 H5 H17) h)
theorem mono_LX2_raiseNeeds_17 {Q Q9 : Int → bS → Prop} {x3 : Int} {x4 : Int} {x5 : Int} {σ : bS} (hQ : ∀ r σ, Q r σ → Q9 r σ) (h : LX2_raiseNeeds_17 Q x3 x4 x5 σ) : LX2_raiseNeeds_17 Q9 x3 x4 x5 σ := fun P5 P17 H5 H17 => h P5 P17 (fun _ _ _ hb => H5 _ _ _ (mono_bX2_raiseNeeds_5 hQ (fun _ _ _ h => h) (fun _ _ _ _ h => h) hb)) (fun _ _ _ _ hb => H17 _ _ _ _ (mono_bX2_raiseNeeds_17 hQ (fun _ _ _ h => h) (fun _ _ _ _ h => h) hb))
def vX2_raiseNeeds (Q : Int → bS → Prop) (σ : bS) : Prop := eX2_raiseNeeds Q (LX2_raiseNeeds_5 Q) (LX2_raiseNeeds_17 Q) σ
theorem mono_vX2_raiseNeeds {Q Q9 : Int → bS → Prop} {σ : bS} (hQ : ∀ r σ, Q r σ → Q9 r σ) : vX2_raiseNeeds Q σ → vX2_raiseNeeds Q9 σ := mono_eX2_raiseNeeds hQ (fun _ _ _ h => mono_LX2_raiseNeeds_5 hQ h) (fun _ _ _ _ h => mono_LX2_raiseNeeds_17 hQ h)
theorem mono_X2_raiseNeeds {Q Q9 : Int → bS → Prop} {σ : bS} (hQ : ∀ r σ, Q r σ → Q9 r σ) : vX2_raiseNeeds Q σ → vX2_raiseNeeds Q9 σ := mono_vX2_raiseNeeds hQ
theorem mX2_raiseNeeds (l : Launch) (G : bG) (σ : bS) {Q : Int → bS → Prop} (h : vX2_raiseNeeds Q σ) : bk_Mi l yX2_raiseNeeds (Cond.code yX2_raiseNeeds cX2_raiseNeeds 8 (some .boolean) :: bT) { frames := 1, cells := 0, slots := 0, locals := 22 } G σ [.ref (G.2.2 3), .ref (G.2.2 1), .ref (G.2.2 2)] Q := by
  refine bk_Mi.of (cc := cX2_raiseNeeds) (maxL := 8) (ret := some .boolean) (by decide) rfl (Nat.le_of_ble_eq_true rfl) ?_
  intro p e s m args below meth c S hr hlk hσ
  let K5 : Int → Int → bS → Prop := fun x3 x4 τ => bR x3 → bR x4 → bRG τ → bA p l e { frames := 1, cells := 0, slots := 0, locals := 22 } s m args below meth c 0 0 (bQi below args s G σ Q) G (va_A (bk_w G σ) s.heap.size) 8 5 [(0, .ref (G.2.2 3)), (1, .ref (G.2.2 1)), (2, .ref (G.2.2 2)), (3, .int (bI x3)), (4, .int (bI x4))] [] τ
  let K17 : Int → Int → Int → bS → Prop := fun x3 x4 x5 τ => bR x3 → bR x4 → bR x5 → bRG τ → bA p l e { frames := 1, cells := 0, slots := 0, locals := 22 } s m args below meth c 0 0 (bQi below args s G σ Q) G (va_A (bk_w G σ) s.heap.size) 8 17 [(0, .ref (G.2.2 3)), (1, .ref (G.2.2 1)), (2, .ref (G.2.2 2)), (3, .int (bI x3)), (4, .int (bI x4)), (5, .int (bI x5))] [] τ
  have C5 : ∀ x3 x4 τ, bX2_raiseNeeds_5 Q K5 K17 x3 x4 τ → K5 x3 x4 τ := fun x3 x4 τ hb hx3 hx4 hτ => wX2_raiseNeeds_5 S hr hlk (fun x3 x4 σ hx3 hx4 hσ h => h hx3 hx4 hσ) (fun x3 x4 x5 σ hx3 hx4 hx5 hσ h => h hx3 hx4 hx5 hσ) hx3 hx4 hτ hb
  have C17 : ∀ x3 x4 x5 τ, bX2_raiseNeeds_17 Q K5 K17 x3 x4 x5 τ → K17 x3 x4 x5 τ := fun x3 x4 x5 τ hb hx3 hx4 hx5 hτ => wX2_raiseNeeds_17 S hr hlk (fun x3 x4 σ hx3 hx4 hσ h => h hx3 hx4 hσ) (fun x3 x4 x5 σ hx3 hx4 hx5 hσ h => h hx3 hx4 hx5 hσ) hx3 hx4 hx5 hτ hb
  exact wX2_raiseNeeds_e S hr hlk (fun x3 x4 σ hx3 hx4 hσ h => h K5 K17 C5 C17 hx3 hx4 hσ) (fun x3 x4 x5 σ hx3 hx4 hx5 hσ h => h K5 K17 C5 C17 hx3 hx4 hx5 hσ) hσ h
def vX2_settleNeeds_47 (Q : bS → Prop) (P21 : Int → Int → bS → Prop) (P55 : Int → bS → Prop) (σ : bS) : Prop := (∀ σ1 : bS, σ1 = bup σ 3 13 0 → (P55 0 σ1))
theorem mono_vX2_settleNeeds_47 {Q Q9 : bS → Prop} {P21 P219 : Int → Int → bS → Prop} {P55 P559 : Int → bS → Prop} {σ : bS} (hQ : ∀ σ, Q σ → Q9 σ) (hP21 : ∀ x3 x4 σ, P21 x3 x4 σ → P219 x3 x4 σ) (hP55 : ∀ x4 σ, P55 x4 σ → P559 x4 σ) : vX2_settleNeeds_47 Q P21 P55 σ → vX2_settleNeeds_47 Q9 P219 P559 σ := (bm_all fun _ => bm_imp (hP55 _ _))
theorem wX2_settleNeeds_47 {p : Program} {l : Launch} {e : Env} {s : State} {m : MethodId} {args : Array Value} {below : List Frame} {meth : Method} {c : Code} {G : bG} {σ0 : bS} {Q : bS → Prop} {P21 : Int → Int → bS → Prop} {P55 : Int → bS → Prop} {σ : bS} (S : CallFix p m c cX2_settleNeeds 5 s args bT "BankLinker$Layout") (hr : meth.sig.returnType = none) (hlk : meth.locks = false) (hP21 : ∀ (x3 : Int) (x4 : Int) (σ : bS), bR x3 → bR x4 → bRG σ → P21 x3 x4 σ → bA p l e { frames := 2, cells := 0, slots := 0, locals := 49 } s m args below meth c 0 0 (bQv below args s G σ0 Q) G (va_A (bk_w G σ0) s.heap.size) 5 21 [(0, .ref (G.2.2 3)), (1, .ref (G.2.2 1)), (2, .ref (G.2.2 2)), (3, .int (bI x3)), (4, .int (bI x4))] [] σ) (hP55 : ∀ (x4 : Int) (σ : bS), bR x4 → bRG σ → P55 x4 σ → bA p l e { frames := 2, cells := 0, slots := 0, locals := 49 } s m args below meth c 0 0 (bQv below args s G σ0 Q) G (va_A (bk_w G σ0) s.heap.size) 5 55 [(0, .ref (G.2.2 3)), (1, .ref (G.2.2 1)), (4, .int (bI x4))] [] σ) (hσ : bRG σ) (h : vX2_settleNeeds_47 Q P21 P55 σ) : bA p l e { frames := 2, cells := 0, slots := 0, locals := 49 } s m args below meth c 0 0 (bQv below args s G σ0 Q) G (va_A (bk_w G σ0) s.heap.size) 5 47 [(0, .ref (G.2.2 3)), (1, .ref (G.2.2 1))] [] σ := by
  unfold vX2_settleNeeds_47 at h
  refine br_aload_n S 0 dX2_settleNeeds_47 rfl rfl ?_
  refine br_iconst S dX2_settleNeeds_48 ?_
  obtain ⟨σ1, e2⟩ : ∃ τ, τ = bup σ 3 13 0 := ⟨_, rfl⟩
  replace h := h σ1 e2
  have hσ1 : bRG σ1 := by rw [e2]; exact bup_rg hσ (by decide)
  refine br_put (f := 13) (N := 14) (C := RX2) (T := TX2) S tyX2 tyX2_ok nmX2 inT_X2 wd_1_134 (by decide) rfl (pf_3_13 _ _ _) rfl (by decide) (Nat.le_of_ble_eq_true rfl) rfl rfl rfl rfl dX2_settleNeeds_49 ?_
  refine bA.to rfl rfl e2.symm ?_
  refine br_iconst S dX2_settleNeeds_52 ?_
  refine br_istore S [(4, .int (bI 0)), (0, .ref (G.2.2 3)), (1, .ref (G.2.2 1))] dX2_settleNeeds_53 (by decide) rfl ?_
  exact bA.perm [1, 2, 0] rfl <| hP55 0 σ1 (by decide) hσ1 h
def bX2_settleNeeds_21 (Q : bS → Prop) (P21 : Int → Int → bS → Prop) (P55 : Int → bS → Prop) (x3 : Int) (x4 : Int) (σ : bS) : Prop := (((σ 1 2) ≤ x4 → (vX2_settleNeeds_47 Q P21 P55 σ)) ∧ (¬ (σ 1 2) ≤ x4 → ((x3 = 0 → (vX2_settleNeeds_47 Q P21 P55 σ)) ∧ (¬ x3 = 0 → (vX2_raiseNeeds (fun z3 σ4 => (bR (x4 + 1) ∧ (P21 z3 (x4 + 1) σ4)))  σ)))))
theorem mono_bX2_settleNeeds_21 {Q Q9 : bS → Prop} {P21 P219 : Int → Int → bS → Prop} {P55 P559 : Int → bS → Prop} {x3 : Int} {x4 : Int} {σ : bS} (hQ : ∀ σ, Q σ → Q9 σ) (hP21 : ∀ x3 x4 σ, P21 x3 x4 σ → P219 x3 x4 σ) (hP55 : ∀ x4 σ, P55 x4 σ → P559 x4 σ) : bX2_settleNeeds_21 Q P21 P55 x3 x4 σ → bX2_settleNeeds_21 Q9 P219 P559 x3 x4 σ := (bm_and (bm_imp (mono_vX2_settleNeeds_47 hQ hP21 hP55)) (bm_imp (bm_and (bm_imp (mono_vX2_settleNeeds_47 hQ hP21 hP55)) (bm_imp (mono_X2_raiseNeeds (fun _ _ => (bm_r (hP21 _ _ _))))))))
theorem wX2_settleNeeds_21 {p : Program} {l : Launch} {e : Env} {s : State} {m : MethodId} {args : Array Value} {below : List Frame} {meth : Method} {c : Code} {G : bG} {σ0 : bS} {Q : bS → Prop} {P21 : Int → Int → bS → Prop} {P55 : Int → bS → Prop} {x3 : Int} {x4 : Int} {σ : bS} (S : CallFix p m c cX2_settleNeeds 5 s args bT "BankLinker$Layout") (hr : meth.sig.returnType = none) (hlk : meth.locks = false) (hP21 : ∀ (x3 : Int) (x4 : Int) (σ : bS), bR x3 → bR x4 → bRG σ → P21 x3 x4 σ → bA p l e { frames := 2, cells := 0, slots := 0, locals := 49 } s m args below meth c 0 0 (bQv below args s G σ0 Q) G (va_A (bk_w G σ0) s.heap.size) 5 21 [(0, .ref (G.2.2 3)), (1, .ref (G.2.2 1)), (2, .ref (G.2.2 2)), (3, .int (bI x3)), (4, .int (bI x4))] [] σ) (hP55 : ∀ (x4 : Int) (σ : bS), bR x4 → bRG σ → P55 x4 σ → bA p l e { frames := 2, cells := 0, slots := 0, locals := 49 } s m args below meth c 0 0 (bQv below args s G σ0 Q) G (va_A (bk_w G σ0) s.heap.size) 5 55 [(0, .ref (G.2.2 3)), (1, .ref (G.2.2 1)), (4, .int (bI x4))] [] σ) (hx3 : bR x3) (hx4 : bR x4) (hσ : bRG σ) (h : bX2_settleNeeds_21 Q P21 P55 x3 x4 σ) : bA p l e { frames := 2, cells := 0, slots := 0, locals := 49 } s m args below meth c 0 0 (bQv below args s G σ0 Q) G (va_A (bk_w G σ0) s.heap.size) 5 21 [(0, .ref (G.2.2 3)), (1, .ref (G.2.2 1)), (2, .ref (G.2.2 2)), (3, .int (bI x3)), (4, .int (bI x4))] [] σ := by
  unfold bX2_settleNeeds_21 at h
  refine br_iload S 4 dX2_settleNeeds_21 rfl ?_
  refine br_aload_n S 1 dX2_settleNeeds_23 rfl rfl ?_
  refine br_get (f := 2) (N := 9) (C := RX6) (T := TX6) S inT_X6 wd_1_45 (by decide) rfl rfl (by decide) rfl dX2_settleNeeds_24 ?_
  refine br_ic_ge S 47 hx4 (hσ 1 2) dX2_settleNeeds_27 (by decide) (fun c1 => ?_) (fun c1 => ?_)
  · replace h := h.1 c1
    exact bA.perm [0, 1] rfl <| wX2_settleNeeds_47 S hr hlk hP21 hP55 hσ h
  · replace h := h.2 c1
    refine br_iload_n S 3 dX2_settleNeeds_30 rfl rfl ?_
    refine br_if_eq S 47 hx3 dX2_settleNeeds_31 (by decide) (fun c2 => ?_) (fun c2 => ?_)
    · replace h := h.1 c2
      exact bA.perm [0, 1] rfl <| wX2_settleNeeds_47 S hr hlk hP21 hP55 hσ h
    · replace h := h.2 c2
      refine br_aload_n S 0 dX2_settleNeeds_34 rfl rfl ?_
      refine br_aload_n S 1 dX2_settleNeeds_35 rfl rfl ?_
      refine br_aload_n S 2 dX2_settleNeeds_36 rfl rfl ?_
      refine br_callV (As := [.ref (G.2.2 1), .ref (G.2.2 2)]) (rest := []) S (cwV_X2_raiseNeeds S.2.2.2.2 wd_3_15 ⟨by decide, by decide⟩) (mX2_raiseNeeds l G σ h) (by decide) rfl rfl rfl hσ rfl rfl (Nat.le_of_ble_eq_true rfl) ⟨by decide, by decide⟩ dX2_settleNeeds_37 (fun z3 σ4 hz3 hσ4 h => ?_)
      refine br_istore_n S [(3, .int (bI z3)), (0, .ref (G.2.2 3)), (1, .ref (G.2.2 1)), (2, .ref (G.2.2 2)), (4, .int (bI x4))] dX2_settleNeeds_40 rfl (by decide) rfl ?_
      refine br_iinc S 4 [(4, .int (bI (x4 + 1))), (3, .int (bI z3)), (0, .ref (G.2.2 3)), (1, .ref (G.2.2 1)), (2, .ref (G.2.2 2))] dX2_settleNeeds_41 rfl (by decide) rfl ?_
      refine br_goto S 21 dX2_settleNeeds_44 (by decide) ?_
      obtain ⟨g5, h⟩ := h
      exact bA.perm [2, 3, 4, 1, 0] rfl <| hP21 z3 (x4 + 1) σ4 hz3 g5 hσ4 h
def bX2_settleNeeds_55 (Q : bS → Prop) (P21 : Int → Int → bS → Prop) (P55 : Int → bS → Prop) (x4 : Int) (σ : bS) : Prop := (((σ 1 2) ≤ x4 → (Q σ)) ∧ (¬ (σ 1 2) ≤ x4 → ((0 ≤ x4 ∧ x4 < 30) ∧ (bR ((σ 26 x4) + (σ 15 x4)) ∧ (∀ σ4 : bS, σ4 = bup σ 3 13 (max (σ 3 13) ((σ 26 x4) + (σ 15 x4))) → (bR (x4 + 1) ∧ (P55 (x4 + 1) σ4)))))))
theorem mono_bX2_settleNeeds_55 {Q Q9 : bS → Prop} {P21 P219 : Int → Int → bS → Prop} {P55 P559 : Int → bS → Prop} {x4 : Int} {σ : bS} (hQ : ∀ σ, Q σ → Q9 σ) (hP21 : ∀ x3 x4 σ, P21 x3 x4 σ → P219 x3 x4 σ) (hP55 : ∀ x4 σ, P55 x4 σ → P559 x4 σ) : bX2_settleNeeds_55 Q P21 P55 x4 σ → bX2_settleNeeds_55 Q9 P219 P559 x4 σ := (bm_and (bm_imp (hQ _)) (bm_imp (bm_r (bm_r (bm_all fun _ => bm_imp (bm_r (hP55 _ _)))))))
theorem wX2_settleNeeds_55 {p : Program} {l : Launch} {e : Env} {s : State} {m : MethodId} {args : Array Value} {below : List Frame} {meth : Method} {c : Code} {G : bG} {σ0 : bS} {Q : bS → Prop} {P21 : Int → Int → bS → Prop} {P55 : Int → bS → Prop} {x4 : Int} {σ : bS} (S : CallFix p m c cX2_settleNeeds 5 s args bT "BankLinker$Layout") (hr : meth.sig.returnType = none) (hlk : meth.locks = false) (hP21 : ∀ (x3 : Int) (x4 : Int) (σ : bS), bR x3 → bR x4 → bRG σ → P21 x3 x4 σ → bA p l e { frames := 2, cells := 0, slots := 0, locals := 49 } s m args below meth c 0 0 (bQv below args s G σ0 Q) G (va_A (bk_w G σ0) s.heap.size) 5 21 [(0, .ref (G.2.2 3)), (1, .ref (G.2.2 1)), (2, .ref (G.2.2 2)), (3, .int (bI x3)), (4, .int (bI x4))] [] σ) (hP55 : ∀ (x4 : Int) (σ : bS), bR x4 → bRG σ → P55 x4 σ → bA p l e { frames := 2, cells := 0, slots := 0, locals := 49 } s m args below meth c 0 0 (bQv below args s G σ0 Q) G (va_A (bk_w G σ0) s.heap.size) 5 55 [(0, .ref (G.2.2 3)), (1, .ref (G.2.2 1)), (4, .int (bI x4))] [] σ) (hx4 : bR x4) (hσ : bRG σ) (h : bX2_settleNeeds_55 Q P21 P55 x4 σ) : bA p l e { frames := 2, cells := 0, slots := 0, locals := 49 } s m args below meth c 0 0 (bQv below args s G σ0 Q) G (va_A (bk_w G σ0) s.heap.size) 5 55 [(0, .ref (G.2.2 3)), (1, .ref (G.2.2 1)), (4, .int (bI x4))] [] σ := by
  unfold bX2_settleNeeds_55 at h
  refine br_iload S 2 dX2_settleNeeds_55 rfl ?_
  refine br_aload_n S 1 dX2_settleNeeds_57 rfl rfl ?_
  refine br_get (f := 2) (N := 9) (C := RX6) (T := TX6) S inT_X6 wd_1_45 (by decide) rfl rfl (by decide) rfl dX2_settleNeeds_58 ?_
  refine br_ic_ge S 96 hx4 (hσ 1 2) dX2_settleNeeds_61 (by decide) (fun c1 => ?_) (fun c1 => ?_)
  · replace h := h.1 c1
    exact br_vret S hr hlk hσ dX2_settleNeeds_96 h
  · replace h := h.2 c1
    refine br_aload_n S 0 dX2_settleNeeds_64 rfl rfl ?_
    refine br_aload_n S 0 dX2_settleNeeds_65 rfl rfl ?_
    refine br_get (f := 13) (N := 14) (C := RX2) (T := TX2) S inT_X2 wd_1_134 (by decide) rfl rfl (by decide) rfl dX2_settleNeeds_66 ?_
    refine br_aload_n S 0 dX2_settleNeeds_69 rfl rfl ?_
    refine br_get (f := 4) (N := 14) (C := RX2) (T := TX2) S inT_X2 wd_1_116 (by decide) rfl rfl (by decide) rfl dX2_settleNeeds_70 ?_
    refine br_iload S 2 dX2_settleNeeds_73 rfl ?_
    obtain ⟨g2, h⟩ := h
    refine br_iald (n := 30) S ⟨by decide, by decide, fun _ => rfl⟩ g2.1 g2.2 dX2_settleNeeds_75 ?_
    refine br_aload_n S 1 dX2_settleNeeds_76 rfl rfl ?_
    refine br_get (f := 4) (N := 9) (C := RX6) (T := TX6) S inT_X6 wd_1_53 (by decide) rfl rfl (by decide) rfl dX2_settleNeeds_77 ?_
    refine br_iload S 2 dX2_settleNeeds_80 rfl ?_
    refine br_iald (n := 30) S ⟨by decide, by decide, fun _ => rfl⟩ g2.1 g2.2 dX2_settleNeeds_82 ?_
    refine br_iadd S dX2_settleNeeds_83 ?_
    obtain ⟨g3, h⟩ := h
    refine br_max S wd_3_19 wd_max1 wd_max2 wd_max3 (hσ 3 13) g3 (by decide) (Nat.le_of_ble_eq_true rfl) ⟨by decide, by decide⟩ dX2_settleNeeds_84 ?_
    obtain ⟨σ4, e5⟩ : ∃ τ, τ = bup σ 3 13 (max (σ 3 13) ((σ 26 x4) + (σ 15 x4))) := ⟨_, rfl⟩
    replace h := h σ4 e5
    have hσ4 : bRG σ4 := by rw [e5]; exact bup_rg hσ (bR_max (hσ 3 13) g3)
    refine br_put (f := 13) (N := 14) (C := RX2) (T := TX2) S tyX2 tyX2_ok nmX2 inT_X2 wd_1_134 (by decide) rfl (pf_3_13 _ _ _) rfl (by decide) (Nat.le_of_ble_eq_true rfl) rfl rfl rfl rfl dX2_settleNeeds_87 ?_
    refine bA.to rfl rfl e5.symm ?_
    refine br_iinc S 2 [(4, .int (bI (x4 + 1))), (0, .ref (G.2.2 3)), (1, .ref (G.2.2 1))] dX2_settleNeeds_90 rfl (by decide) rfl ?_
    refine br_goto S 55 dX2_settleNeeds_93 (by decide) ?_
    obtain ⟨g6, h⟩ := h
    exact bA.perm [1, 2, 0] rfl <| hP55 (x4 + 1) σ4 g6 hσ4 h
def eX2_settleNeeds (Q : bS → Prop) (P21 : Int → Int → bS → Prop) (P55 : Int → bS → Prop) (σ : bS) : Prop := (vJ7_fill_53178_26 (fun σ2 => (vJ7_fill_53178_27 (fun σ4 => (P21 1 0 σ4)) 0 σ2)) 0 σ)
theorem mono_eX2_settleNeeds {Q Q9 : bS → Prop} {P21 P219 : Int → Int → bS → Prop} {P55 P559 : Int → bS → Prop} {σ : bS} (hQ : ∀ σ, Q σ → Q9 σ) (hP21 : ∀ x3 x4 σ, P21 x3 x4 σ → P219 x3 x4 σ) (hP55 : ∀ x4 σ, P55 x4 σ → P559 x4 σ) : eX2_settleNeeds Q P21 P55 σ → eX2_settleNeeds Q9 P219 P559 σ := (mono_J7_fill_53178_26 (fun _ => (mono_J7_fill_53178_27 (fun _ => (hP21 _ _ _)))))
theorem wX2_settleNeeds_e {p : Program} {l : Launch} {e : Env} {s : State} {m : MethodId} {args : Array Value} {below : List Frame} {meth : Method} {c : Code} {G : bG} {σ0 : bS} {Q : bS → Prop} {P21 : Int → Int → bS → Prop} {P55 : Int → bS → Prop} {σ : bS} (S : CallFix p m c cX2_settleNeeds 5 s args bT "BankLinker$Layout") (hr : meth.sig.returnType = none) (hlk : meth.locks = false) (hP21 : ∀ (x3 : Int) (x4 : Int) (σ : bS), bR x3 → bR x4 → bRG σ → P21 x3 x4 σ → bA p l e { frames := 2, cells := 0, slots := 0, locals := 49 } s m args below meth c 0 0 (bQv below args s G σ0 Q) G (va_A (bk_w G σ0) s.heap.size) 5 21 [(0, .ref (G.2.2 3)), (1, .ref (G.2.2 1)), (2, .ref (G.2.2 2)), (3, .int (bI x3)), (4, .int (bI x4))] [] σ) (hP55 : ∀ (x4 : Int) (σ : bS), bR x4 → bRG σ → P55 x4 σ → bA p l e { frames := 2, cells := 0, slots := 0, locals := 49 } s m args below meth c 0 0 (bQv below args s G σ0 Q) G (va_A (bk_w G σ0) s.heap.size) 5 55 [(0, .ref (G.2.2 3)), (1, .ref (G.2.2 1)), (4, .int (bI x4))] [] σ) (hσ : bRG σ) (h : eX2_settleNeeds Q P21 P55 σ) : bA p l e { frames := 2, cells := 0, slots := 0, locals := 49 } s m args below meth c 0 0 (bQv below args s G σ0 Q) G (va_A (bk_w G σ0) s.heap.size) 5 0 [(0, .ref (G.2.2 3)), (1, .ref (G.2.2 1)), (2, .ref (G.2.2 2))] [] σ := by
  unfold eX2_settleNeeds at h
  refine br_aload_n S 0 dX2_settleNeeds_0 rfl rfl ?_
  refine br_get (f := 4) (N := 14) (C := RX2) (T := TX2) S inT_X2 wd_1_116 (by decide) rfl rfl (by decide) rfl dX2_settleNeeds_1 ?_
  refine br_iconst S dX2_settleNeeds_4 ?_
  refine br_callSv (As := [.ref (G.2.2 26), .int (bI 0)]) (rest := []) S (cwS_J7_fill_53178 S.2.2.2.2 wd_2_194 ⟨by decide, by decide⟩) (mJ7_fill_53178_26 l G σ 0 (by decide) h) hσ rfl rfl (Nat.le_of_ble_eq_true rfl) ⟨by decide, by decide⟩ dX2_settleNeeds_5 (fun σ2 hσ2 h => ?_)
  refine br_aload_n S 0 dX2_settleNeeds_8 rfl rfl ?_
  refine br_get (f := 5) (N := 14) (C := RX2) (T := TX2) S inT_X2 wd_1_119 (by decide) rfl rfl (by decide) rfl dX2_settleNeeds_9 ?_
  refine br_iconst S dX2_settleNeeds_12 ?_
  refine br_callSv (As := [.ref (G.2.2 27), .int (bI 0)]) (rest := []) S (cwS_J7_fill_53178 S.2.2.2.2 wd_2_194 ⟨by decide, by decide⟩) (mJ7_fill_53178_27 l G σ2 0 (by decide) h) hσ2 rfl rfl (Nat.le_of_ble_eq_true rfl) ⟨by decide, by decide⟩ dX2_settleNeeds_13 (fun σ4 hσ4 h => ?_)
  refine br_iconst S dX2_settleNeeds_16 ?_
  refine br_istore_n S [(3, .int (bI 1)), (0, .ref (G.2.2 3)), (1, .ref (G.2.2 1)), (2, .ref (G.2.2 2))] dX2_settleNeeds_17 rfl (by decide) rfl ?_
  refine br_iconst S dX2_settleNeeds_18 ?_
  refine br_istore S [(4, .int (bI 0)), (3, .int (bI 1)), (0, .ref (G.2.2 3)), (1, .ref (G.2.2 1)), (2, .ref (G.2.2 2))] dX2_settleNeeds_19 (by decide) rfl ?_
  exact bA.perm [2, 3, 4, 1, 0] rfl <| hP21 1 0 σ4 (by decide) (by decide) hσ4 h
def LX2_settleNeeds_21 (Q : bS → Prop) (x3 : Int) (x4 : Int) (σ : bS) : Prop := ∀ (P21 : Int → Int → bS → Prop) (P55 : Int → bS → Prop), (∀ x3 x4 σ, bX2_settleNeeds_21 Q P21 P55 x3 x4 σ → P21 x3 x4 σ) → (∀ x4 σ, bX2_settleNeeds_55 Q P21 P55 x4 σ → P55 x4 σ) → P21 x3 x4 σ
def LX2_settleNeeds_55 (Q : bS → Prop) (x4 : Int) (σ : bS) : Prop := ∀ (P21 : Int → Int → bS → Prop) (P55 : Int → bS → Prop), (∀ x3 x4 σ, bX2_settleNeeds_21 Q P21 P55 x3 x4 σ → P21 x3 x4 σ) → (∀ x4 σ, bX2_settleNeeds_55 Q P21 P55 x4 σ → P55 x4 σ) → P55 x4 σ
theorem LX2_settleNeeds_21_in {Q : bS → Prop} {x3 : Int} {x4 : Int} {σ : bS} (h : bX2_settleNeeds_21 Q (LX2_settleNeeds_21 Q) (LX2_settleNeeds_55 Q) x3 x4 σ) : LX2_settleNeeds_21 Q x3 x4 σ := fun P21 P55 H21 H55 => H21 _ _ _ (mono_bX2_settleNeeds_21 (fun _ h => h) (fun _ _ _ h => h P21 P55 H21 H55) (fun _ _ h => h P21 P55 H21 H55) h)
theorem mono_LX2_settleNeeds_21 {Q Q9 : bS → Prop} {x3 : Int} {x4 : Int} {σ : bS} (hQ : ∀ σ, Q σ → Q9 σ) (h : LX2_settleNeeds_21 Q x3 x4 σ) : LX2_settleNeeds_21 Q9 x3 x4 σ := fun P21 P55 H21 H55 => h P21 P55 (fun _ _ _ hb => H21 _ _ _ (mono_bX2_settleNeeds_21 hQ (fun _ _ _ h => h) (fun _ _ h => h) hb)) (fun _ _ hb => H55 _ _ (mono_bX2_settleNeeds_55 hQ (fun _ _ _ h => h) (fun _ _ h => h) hb))
theorem LX2_settleNeeds_55_in {Q : bS → Prop} {x4 : Int} {σ : bS} (h : bX2_settleNeeds_55 Q (LX2_settleNeeds_21 Q) (LX2_settleNeeds_55 Q) x4 σ) : LX2_settleNeeds_55 Q x4 σ := fun P21 P55 H21 H55 => H55 _ _ (mono_bX2_settleNeeds_55 (fun _ h => h) (fun _ _ _ h => h P21 P55 H21 H55) (fun _ _ h => h P21 P55 H21 H55) h)
theorem mono_LX2_settleNeeds_55 {Q Q9 : bS → Prop} {x4 : Int} {σ : bS} (hQ : ∀ σ, Q σ → Q9 σ) (h : LX2_settleNeeds_55 Q x4 σ) : LX2_settleNeeds_55 Q9 x4 σ := fun P21 P55 H21 H55 => h P21 P55 (fun _ _ _ hb => H21 _ _ _ (mono_bX2_settleNeeds_21 hQ (fun _ _ _ h => h) (fun _ _ h => h) hb)) (fun _ _ hb => H55 _ _ (mono_bX2_settleNeeds_55 hQ (fun _ _ _ h => h) (fun _ _ h => h) hb))
def vX2_settleNeeds (Q : bS → Prop) (σ : bS) : Prop := eX2_settleNeeds Q (LX2_settleNeeds_21 Q) (LX2_settleNeeds_55 Q) σ
theorem mono_vX2_settleNeeds {Q Q9 : bS → Prop} {σ : bS} (hQ : ∀ σ, Q σ → Q9 σ) : vX2_settleNeeds Q σ → vX2_settleNeeds Q9 σ := mono_eX2_settleNeeds hQ (fun _ _ _ h => mono_LX2_settleNeeds_21 hQ h) (fun _ _ h => mono_LX2_settleNeeds_55 hQ h)
theorem mono_X2_settleNeeds {Q Q9 : bS → Prop} {σ : bS} (hQ : ∀ σ, Q σ → Q9 σ) : vX2_settleNeeds Q σ → vX2_settleNeeds Q9 σ := mono_vX2_settleNeeds hQ
theorem mX2_settleNeeds (l : Launch) (G : bG) (σ : bS) {Q : bS → Prop} (h : vX2_settleNeeds Q σ) : bk_Mv l yX2_settleNeeds (Cond.code yX2_settleNeeds cX2_settleNeeds 5 (none) :: bT) { frames := 2, cells := 0, slots := 0, locals := 49 } G σ [.ref (G.2.2 3), .ref (G.2.2 1), .ref (G.2.2 2)] Q := by
  refine bk_Mv.of (cc := cX2_settleNeeds) (maxL := 5) (ret := none) (by decide) rfl (Nat.le_of_ble_eq_true rfl) ?_
  intro p e s m args below meth c S hr hlk hσ
  let K21 : Int → Int → bS → Prop := fun x3 x4 τ => bR x3 → bR x4 → bRG τ → bA p l e { frames := 2, cells := 0, slots := 0, locals := 49 } s m args below meth c 0 0 (bQv below args s G σ Q) G (va_A (bk_w G σ) s.heap.size) 5 21 [(0, .ref (G.2.2 3)), (1, .ref (G.2.2 1)), (2, .ref (G.2.2 2)), (3, .int (bI x3)), (4, .int (bI x4))] [] τ
  let K55 : Int → bS → Prop := fun x4 τ => bR x4 → bRG τ → bA p l e { frames := 2, cells := 0, slots := 0, locals := 49 } s m args below meth c 0 0 (bQv below args s G σ Q) G (va_A (bk_w G σ) s.heap.size) 5 55 [(0, .ref (G.2.2 3)), (1, .ref (G.2.2 1)), (4, .int (bI x4))] [] τ
  have C21 : ∀ x3 x4 τ, bX2_settleNeeds_21 Q K21 K55 x3 x4 τ → K21 x3 x4 τ := fun x3 x4 τ hb hx3 hx4 hτ => wX2_settleNeeds_21 S hr hlk (fun x3 x4 σ hx3 hx4 hσ h => h hx3 hx4 hσ) (fun x4 σ hx4 hσ h => h hx4 hσ) hx3 hx4 hτ hb
  have C55 : ∀ x4 τ, bX2_settleNeeds_55 Q K21 K55 x4 τ → K55 x4 τ := fun x4 τ hb hx4 hτ => wX2_settleNeeds_55 S hr hlk (fun x3 x4 σ hx3 hx4 hσ h => h hx3 hx4 hσ) (fun x4 σ hx4 hσ h => h hx4 hσ) hx4 hτ hb
  exact wX2_settleNeeds_e S hr hlk (fun x3 x4 σ hx3 hx4 hσ h => h K21 K55 C21 C55 hx3 hx4 hσ) (fun x4 σ hx4 hσ h => h K21 K55 C21 C55 hx4 hσ) hσ h
def vX5_append (Q : bS → Prop) (a1 : Int) (a2 : Int) (σ : bS) : Prop := (bR (a1 + 1) ∧ (((a1 + 1) < 0 → (Q σ)) ∧ (¬ (a1 + 1) < 0 → ((9 ≤ (a1 + 1) → (Q σ)) ∧ (¬ 9 ≤ (a1 + 1) → ((0 ≤ (a1 + 1) ∧ (a1 + 1) < 9) ∧ (((σ 32 (a1 + 1)) < 250 → ((0 ≤ (σ 32 (a1 + 1)) ∧ (σ 32 (a1 + 1)) < 250) ∧ (∀ σ7 : bS, σ7 = bup σ (33 + (a1 + 1).toNat) (σ 32 (a1 + 1)) (a2 % 256) → (bR ((σ7 32 (a1 + 1)) + 1) ∧ (∀ σ10 : bS, σ10 = bup σ7 32 (a1 + 1) ((σ7 32 (a1 + 1)) + 1) → (Q σ10)))))) ∧ (¬ (σ 32 (a1 + 1)) < 250 → (Q σ)))))))))
theorem mono_vX5_append {Q Q9 : bS → Prop} {a1 : Int} {a2 : Int} {σ : bS} (hQ : ∀ σ, Q σ → Q9 σ) : vX5_append Q a1 a2 σ → vX5_append Q9 a1 a2 σ := (bm_r (bm_and (bm_imp (hQ _)) (bm_imp (bm_and (bm_imp (hQ _)) (bm_imp (bm_r (bm_and (bm_imp (bm_r (bm_all fun _ => bm_imp (bm_r (bm_all fun _ => bm_imp (hQ _)))))) (bm_imp (hQ _)))))))))
theorem wX5_append_e {p : Program} {l : Launch} {e : Env} {s : State} {m : MethodId} {args : Array Value} {below : List Frame} {meth : Method} {c : Code} {G : bG} {σ0 : bS} {Q : bS → Prop} {a1 : Int} {a2 : Int} {σ : bS} (S : CallFix p m c cX5_append 4 s args bT "BankLinker$Memory") (hr : meth.sig.returnType = none) (hlk : meth.locks = false) (ha1 : bR a1) (ha2 : bR a2) (hσ : bRG σ) (h : vX5_append Q a1 a2 σ) : bA p l e { frames := 0, cells := 0, slots := 0, locals := 0 } s m args below meth c 0 0 (bQv below args s G σ0 Q) G (va_A (bk_w G σ0) s.heap.size) 4 0 [(0, .ref (G.2.2 4)), (1, .int (bI a1)), (2, .int (bI a2))] [] σ := by
  unfold vX5_append at h
  refine br_iload_n S 1 dX5_append_0 rfl rfl ?_
  refine br_iconst S dX5_append_1 ?_
  refine br_iadd S dX5_append_2 ?_
  refine br_istore_n S [(3, .int (bI (a1 + 1))), (0, .ref (G.2.2 4)), (1, .int (bI a1)), (2, .int (bI a2))] dX5_append_3 rfl (by decide) rfl ?_
  refine br_iload_n S 0 dX5_append_4 rfl rfl ?_
  obtain ⟨g1, h⟩ := h
  refine br_if_lt S 29 g1 dX5_append_5 (by decide) (fun c2 => ?_) (fun c2 => ?_)
  · replace h := h.1 c2
    exact br_vret S hr hlk hσ dX5_append_29 h
  · replace h := h.2 c2
    refine br_iload_n S 0 dX5_append_8 rfl rfl ?_
    refine br_aload_n S 1 dX5_append_9 rfl rfl ?_
    refine br_get (f := 0) (N := 2) (C := RX5) (T := TX5) S inT_X5 wd_1_173 (by decide) rfl rfl (by decide) rfl dX5_append_10 ?_
    refine br_alenR S dX5_append_13 ?_
    refine br_ic_ge S 29 g1 (by decide) dX5_append_14 (by decide) (fun c3 => ?_) (fun c3 => ?_)
    · replace h := h.1 c3
      exact br_vret S hr hlk hσ dX5_append_29 h
    · replace h := h.2 c3
      refine br_aload_n S 1 dX5_append_17 rfl rfl ?_
      refine br_get (f := 1) (N := 2) (C := RX5) (T := TX5) S inT_X5 wd_1_174 (by decide) rfl rfl (by decide) rfl dX5_append_18 ?_
      refine br_iload_n S 0 dX5_append_21 rfl rfl ?_
      obtain ⟨g4, h⟩ := h
      refine br_iald (n := 9) S ⟨by decide, by decide, fun _ => rfl⟩ g4.1 g4.2 dX5_append_22 ?_
      refine br_sipush S dX5_append_23 rfl ?_
      refine br_ic_lt S 30 (hσ 32 (a1 + 1)) (by decide) dX5_append_26 (by decide) (fun c5 => ?_) (fun c5 => ?_)
      · replace h := h.1 c5
        refine br_aload_n S 1 dX5_append_30 rfl rfl ?_
        refine br_get (f := 0) (N := 2) (C := RX5) (T := TX5) S inT_X5 wd_1_173 (by decide) rfl rfl (by decide) rfl dX5_append_31 ?_
        refine br_iload_n S 0 dX5_append_34 rfl rfl ?_
        refine br_aald S g4.1 g4.2 dX5_append_35 ?_
        refine br_aload_n S 1 dX5_append_36 rfl rfl ?_
        refine br_get (f := 1) (N := 2) (C := RX5) (T := TX5) S inT_X5 wd_1_174 (by decide) rfl rfl (by decide) rfl dX5_append_37 ?_
        refine br_iload_n S 0 dX5_append_40 rfl rfl ?_
        refine br_iald (n := 9) S ⟨by decide, by decide, fun _ => rfl⟩ g4.1 g4.2 dX5_append_41 ?_
        refine br_iload_n S 3 dX5_append_42 rfl rfl ?_
        refine br_sipush S dX5_append_43 rfl ?_
        refine br_and255 S dX5_append_46 ?_
        obtain ⟨g6, h⟩ := h
        obtain ⟨σ7, e8⟩ : ∃ τ, τ = bup σ (33 + (a1 + 1).toNat) (σ 32 (a1 + 1)) (a2 % 256) := ⟨_, rfl⟩
        replace h := h σ7 e8
        have hσ7 : bRG σ7 := by rw [e8]; exact bup_rg hσ (bR_mod256 _)
        refine br_iast (n := 250) S (bk_rowsI ⟨g4.1, g4.2⟩) g6.1 g6.2 dX5_append_47 ?_
        refine bA.to rfl rfl e8.symm ?_
        refine br_aload_n S 1 dX5_append_48 rfl rfl ?_
        refine br_get (f := 1) (N := 2) (C := RX5) (T := TX5) S inT_X5 wd_1_174 (by decide) rfl rfl (by decide) rfl dX5_append_49 ?_
        refine br_iload_n S 0 dX5_append_52 rfl rfl ?_
        refine br_dup2 S dX5_append_53 rfl rfl ?_
        refine br_iald (n := 9) S ⟨by decide, by decide, fun _ => rfl⟩ g4.1 g4.2 dX5_append_54 ?_
        refine br_iconst S dX5_append_55 ?_
        refine br_iadd S dX5_append_56 ?_
        obtain ⟨g9, h⟩ := h
        obtain ⟨σ10, e11⟩ : ∃ τ, τ = bup σ7 32 (a1 + 1) ((σ7 32 (a1 + 1)) + 1) := ⟨_, rfl⟩
        replace h := h σ10 e11
        have hσ10 : bRG σ10 := by rw [e11]; exact bup_rg hσ7 g9
        refine br_iast (n := 9) S ⟨by decide, by decide, fun _ => rfl⟩ g4.1 g4.2 dX5_append_57 ?_
        refine bA.to rfl rfl e11.symm ?_
        exact br_vret S hr hlk hσ10 dX5_append_58 h
      · replace h := h.2 c5
        exact br_vret S hr hlk hσ dX5_append_29 h
theorem mono_X5_append {Q Q9 : bS → Prop} {a1 : Int} {a2 : Int} {σ : bS} (hQ : ∀ σ, Q σ → Q9 σ) : vX5_append Q a1 a2 σ → vX5_append Q9 a1 a2 σ := mono_vX5_append hQ
theorem mX5_append (l : Launch) (G : bG) (σ : bS) (a1 : Int) (ha1 : bR a1) (a2 : Int) (ha2 : bR a2) {Q : bS → Prop} (h : vX5_append Q a1 a2 σ) : bk_Mv l yX5_append (Cond.code yX5_append cX5_append 4 (none) :: bT) { frames := 0, cells := 0, slots := 0, locals := 0 } G σ [.ref (G.2.2 4), .int (bI a1), .int (bI a2)] Q := by
  refine bk_Mv.of (cc := cX5_append) (maxL := 4) (ret := none) (by decide) rfl (Nat.le_of_ble_eq_true rfl) ?_
  intro p e s m args below meth c S hr hlk hσ
  exact wX5_append_e S hr hlk ha1 ha2 hσ h
def vX5_appendAddress (Q : bS → Prop) (a1 : Int) (a2 : Int) (σ : bS) : Prop := (vX5_append (fun σ2 => (vX5_append (fun σ4 => (Q σ4)) a1 (a2 / 256) σ2)) a1 a2 σ)
theorem mono_vX5_appendAddress {Q Q9 : bS → Prop} {a1 : Int} {a2 : Int} {σ : bS} (hQ : ∀ σ, Q σ → Q9 σ) : vX5_appendAddress Q a1 a2 σ → vX5_appendAddress Q9 a1 a2 σ := (mono_X5_append (fun _ => (mono_X5_append (fun _ => (hQ _)))))
theorem wX5_appendAddress_e {p : Program} {l : Launch} {e : Env} {s : State} {m : MethodId} {args : Array Value} {below : List Frame} {meth : Method} {c : Code} {G : bG} {σ0 : bS} {Q : bS → Prop} {a1 : Int} {a2 : Int} {σ : bS} (S : CallFix p m c cX5_appendAddress 3 s args bT "BankLinker$Memory") (hr : meth.sig.returnType = none) (hlk : meth.locks = false) (ha1 : bR a1) (ha2 : bR a2) (hσ : bRG σ) (h : vX5_appendAddress Q a1 a2 σ) : bA p l e { frames := 1, cells := 0, slots := 0, locals := 23 } s m args below meth c 0 0 (bQv below args s G σ0 Q) G (va_A (bk_w G σ0) s.heap.size) 3 0 [(0, .ref (G.2.2 4)), (1, .int (bI a1)), (2, .int (bI a2))] [] σ := by
  unfold vX5_appendAddress at h
  refine br_aload_n S 0 dX5_appendAddress_0 rfl rfl ?_
  refine br_iload_n S 1 dX5_appendAddress_1 rfl rfl ?_
  refine br_iload_n S 2 dX5_appendAddress_2 rfl rfl ?_
  refine br_callVv (As := [.int (bI a1), .int (bI a2)]) (rest := []) S (cwV_X5_append S.2.2.2.2 wd_3_56 ⟨by decide, by decide⟩) (mX5_append l G σ a1 ha1 a2 ha2 h) (by decide) rfl rfl rfl hσ rfl rfl (Nat.le_of_ble_eq_true rfl) ⟨by decide, by decide⟩ dX5_appendAddress_3 (fun σ2 hσ2 h => ?_)
  refine br_aload_n S 0 dX5_appendAddress_6 rfl rfl ?_
  refine br_iload_n S 1 dX5_appendAddress_7 rfl rfl ?_
  refine br_iload_n S 2 dX5_appendAddress_8 rfl rfl ?_
  refine br_bipush S dX5_appendAddress_9 rfl ?_
  refine br_shr8 S ha2 dX5_appendAddress_11 ?_
  refine br_callVv (As := [.int (bI a1), .int (bI (a2 / 256))]) (rest := []) S (cwV_X5_append S.2.2.2.2 wd_3_56 ⟨by decide, by decide⟩) (mX5_append l G σ2 a1 ha1 (a2 / 256) (bR_div256 ha2) h) (by decide) rfl rfl rfl hσ2 rfl rfl (Nat.le_of_ble_eq_true rfl) ⟨by decide, by decide⟩ dX5_appendAddress_12 (fun σ4 hσ4 h => ?_)
  exact br_vret S hr hlk hσ4 dX5_appendAddress_15 h
theorem mono_X5_appendAddress {Q Q9 : bS → Prop} {a1 : Int} {a2 : Int} {σ : bS} (hQ : ∀ σ, Q σ → Q9 σ) : vX5_appendAddress Q a1 a2 σ → vX5_appendAddress Q9 a1 a2 σ := mono_vX5_appendAddress hQ
theorem mX5_appendAddress (l : Launch) (G : bG) (σ : bS) (a1 : Int) (ha1 : bR a1) (a2 : Int) (ha2 : bR a2) {Q : bS → Prop} (h : vX5_appendAddress Q a1 a2 σ) : bk_Mv l yX5_appendAddress (Cond.code yX5_appendAddress cX5_appendAddress 3 (none) :: bT) { frames := 1, cells := 0, slots := 0, locals := 23 } G σ [.ref (G.2.2 4), .int (bI a1), .int (bI a2)] Q := by
  refine bk_Mv.of (cc := cX5_appendAddress) (maxL := 3) (ret := none) (by decide) rfl (Nat.le_of_ble_eq_true rfl) ?_
  intro p e s m args below meth c S hr hlk hσ
  exact wX5_appendAddress_e S hr hlk ha1 ha2 hσ h
def vX5_empty (Q : bS → Prop) (σ : bS) : Prop := (vJ7_fill_53178_32 (fun σ2 => (Q σ2)) 0 σ)
theorem mono_vX5_empty {Q Q9 : bS → Prop} {σ : bS} (hQ : ∀ σ, Q σ → Q9 σ) : vX5_empty Q σ → vX5_empty Q9 σ := (mono_J7_fill_53178_32 (fun _ => (hQ _)))
theorem wX5_empty_e {p : Program} {l : Launch} {e : Env} {s : State} {m : MethodId} {args : Array Value} {below : List Frame} {meth : Method} {c : Code} {G : bG} {σ0 : bS} {Q : bS → Prop} {σ : bS} (S : CallFix p m c cX5_empty 1 s args bT "BankLinker$Memory") (hr : meth.sig.returnType = none) (hlk : meth.locks = false) (hσ : bRG σ) (h : vX5_empty Q σ) : bA p l e { frames := 1, cells := 0, slots := 0, locals := 23 } s m args below meth c 0 0 (bQv below args s G σ0 Q) G (va_A (bk_w G σ0) s.heap.size) 1 0 [(0, .ref (G.2.2 4))] [] σ := by
  unfold vX5_empty at h
  refine br_aload_n S 0 dX5_empty_0 rfl rfl ?_
  refine br_get (f := 1) (N := 2) (C := RX5) (T := TX5) S inT_X5 wd_1_174 (by decide) rfl rfl (by decide) rfl dX5_empty_1 ?_
  refine br_iconst S dX5_empty_4 ?_
  refine br_callSv (As := [.ref (G.2.2 32), .int (bI 0)]) (rest := []) S (cwS_J7_fill_53178 S.2.2.2.2 wd_2_153 ⟨by decide, by decide⟩) (mJ7_fill_53178_32 l G σ 0 (by decide) h) hσ rfl rfl (Nat.le_of_ble_eq_true rfl) ⟨by decide, by decide⟩ dX5_empty_5 (fun σ2 hσ2 h => ?_)
  exact br_vret S hr hlk hσ2 dX5_empty_8 h
theorem mono_X5_empty {Q Q9 : bS → Prop} {σ : bS} (hQ : ∀ σ, Q σ → Q9 σ) : vX5_empty Q σ → vX5_empty Q9 σ := mono_vX5_empty hQ
theorem mX5_empty (l : Launch) (G : bG) (σ : bS) {Q : bS → Prop} (h : vX5_empty Q σ) : bk_Mv l yX5_empty (Cond.code yX5_empty cX5_empty 1 (none) :: bT) { frames := 1, cells := 0, slots := 0, locals := 23 } G σ [.ref (G.2.2 4)] Q := by
  refine bk_Mv.of (cc := cX5_empty) (maxL := 1) (ret := none) (by decide) rfl (Nat.le_of_ble_eq_true rfl) ?_
  intro p e s m args below meth c S hr hlk hσ
  exact wX5_empty_e S hr hlk hσ h
def vX5_byteAt (Q : Int → bS → Prop) (a1 : Int) (a2 : Int) (σ : bS) : Prop := (bR (a1 + 1) ∧ (((a1 + 1) < 0 → (Q (-1) σ)) ∧ (¬ (a1 + 1) < 0 → ((9 ≤ (a1 + 1) → (Q (-1) σ)) ∧ (¬ 9 ≤ (a1 + 1) → ((a2 < 0 → (Q (-1) σ)) ∧ (¬ a2 < 0 → ((0 ≤ (a1 + 1) ∧ (a1 + 1) < 9) ∧ ((a2 < (σ 32 (a1 + 1)) → ((0 ≤ a2 ∧ a2 < 250) ∧ (Q (σ (33 + (a1 + 1).toNat) a2) σ))) ∧ (¬ a2 < (σ 32 (a1 + 1)) → (Q (-1) σ)))))))))))
theorem mono_vX5_byteAt {Q Q9 : Int → bS → Prop} {a1 : Int} {a2 : Int} {σ : bS} (hQ : ∀ r σ, Q r σ → Q9 r σ) : vX5_byteAt Q a1 a2 σ → vX5_byteAt Q9 a1 a2 σ := (bm_r (bm_and (bm_imp (hQ _ _)) (bm_imp (bm_and (bm_imp (hQ _ _)) (bm_imp (bm_and (bm_imp (hQ _ _)) (bm_imp (bm_r (bm_and (bm_imp (bm_r (hQ _ _))) (bm_imp (hQ _ _)))))))))))
theorem wX5_byteAt_e {p : Program} {l : Launch} {e : Env} {s : State} {m : MethodId} {args : Array Value} {below : List Frame} {meth : Method} {c : Code} {G : bG} {σ0 : bS} {Q : Int → bS → Prop} {a1 : Int} {a2 : Int} {σ : bS} (S : CallFix p m c cX5_byteAt 4 s args bT "BankLinker$Memory") (hr : meth.sig.returnType = some .int) (hlk : meth.locks = false) (ha1 : bR a1) (ha2 : bR a2) (hσ : bRG σ) (h : vX5_byteAt Q a1 a2 σ) : bA p l e { frames := 0, cells := 0, slots := 0, locals := 0 } s m args below meth c 0 0 (bQi below args s G σ0 Q) G (va_A (bk_w G σ0) s.heap.size) 4 0 [(0, .ref (G.2.2 4)), (1, .int (bI a1)), (2, .int (bI a2))] [] σ := by
  unfold vX5_byteAt at h
  refine br_iload_n S 1 dX5_byteAt_0 rfl rfl ?_
  refine br_iconst S dX5_byteAt_1 ?_
  refine br_iadd S dX5_byteAt_2 ?_
  refine br_istore_n S [(3, .int (bI (a1 + 1))), (0, .ref (G.2.2 4)), (1, .int (bI a1)), (2, .int (bI a2))] dX5_byteAt_3 rfl (by decide) rfl ?_
  refine br_iload_n S 0 dX5_byteAt_4 rfl rfl ?_
  obtain ⟨g1, h⟩ := h
  refine br_if_lt S 31 g1 dX5_byteAt_5 (by decide) (fun c2 => ?_) (fun c2 => ?_)
  · replace h := h.1 c2
    refine br_iconst S dX5_byteAt_31 ?_
    exact br_iret S hr hlk (by decide) hσ dX5_byteAt_32 h
  · replace h := h.2 c2
    refine br_iload_n S 0 dX5_byteAt_8 rfl rfl ?_
    refine br_aload_n S 1 dX5_byteAt_9 rfl rfl ?_
    refine br_get (f := 0) (N := 2) (C := RX5) (T := TX5) S inT_X5 wd_1_173 (by decide) rfl rfl (by decide) rfl dX5_byteAt_10 ?_
    refine br_alenR S dX5_byteAt_13 ?_
    refine br_ic_ge S 31 g1 (by decide) dX5_byteAt_14 (by decide) (fun c3 => ?_) (fun c3 => ?_)
    · replace h := h.1 c3
      refine br_iconst S dX5_byteAt_31 ?_
      exact br_iret S hr hlk (by decide) hσ dX5_byteAt_32 h
    · replace h := h.2 c3
      refine br_iload_n S 3 dX5_byteAt_17 rfl rfl ?_
      refine br_if_lt S 31 ha2 dX5_byteAt_18 (by decide) (fun c4 => ?_) (fun c4 => ?_)
      · replace h := h.1 c4
        refine br_iconst S dX5_byteAt_31 ?_
        exact br_iret S hr hlk (by decide) hσ dX5_byteAt_32 h
      · replace h := h.2 c4
        refine br_iload_n S 3 dX5_byteAt_21 rfl rfl ?_
        refine br_aload_n S 1 dX5_byteAt_22 rfl rfl ?_
        refine br_get (f := 1) (N := 2) (C := RX5) (T := TX5) S inT_X5 wd_1_174 (by decide) rfl rfl (by decide) rfl dX5_byteAt_23 ?_
        refine br_iload_n S 0 dX5_byteAt_26 rfl rfl ?_
        obtain ⟨g5, h⟩ := h
        refine br_iald (n := 9) S ⟨by decide, by decide, fun _ => rfl⟩ g5.1 g5.2 dX5_byteAt_27 ?_
        refine br_ic_lt S 33 ha2 (hσ 32 (a1 + 1)) dX5_byteAt_28 (by decide) (fun c6 => ?_) (fun c6 => ?_)
        · replace h := h.1 c6
          refine br_aload_n S 1 dX5_byteAt_33 rfl rfl ?_
          refine br_get (f := 0) (N := 2) (C := RX5) (T := TX5) S inT_X5 wd_1_173 (by decide) rfl rfl (by decide) rfl dX5_byteAt_34 ?_
          refine br_iload_n S 0 dX5_byteAt_37 rfl rfl ?_
          refine br_aald S g5.1 g5.2 dX5_byteAt_38 ?_
          refine br_iload_n S 3 dX5_byteAt_39 rfl rfl ?_
          obtain ⟨g7, h⟩ := h
          refine br_iald (n := 250) S (bk_rowsI ⟨g5.1, g5.2⟩) g7.1 g7.2 dX5_byteAt_40 ?_
          exact br_iret S hr hlk (hσ (33 + (a1 + 1).toNat) a2) hσ dX5_byteAt_41 h
        · replace h := h.2 c6
          refine br_iconst S dX5_byteAt_31 ?_
          exact br_iret S hr hlk (by decide) hσ dX5_byteAt_32 h
theorem mono_X5_byteAt {Q Q9 : Int → bS → Prop} {a1 : Int} {a2 : Int} {σ : bS} (hQ : ∀ r σ, Q r σ → Q9 r σ) : vX5_byteAt Q a1 a2 σ → vX5_byteAt Q9 a1 a2 σ := mono_vX5_byteAt hQ
theorem mX5_byteAt (l : Launch) (G : bG) (σ : bS) (a1 : Int) (ha1 : bR a1) (a2 : Int) (ha2 : bR a2) {Q : Int → bS → Prop} (h : vX5_byteAt Q a1 a2 σ) : bk_Mi l yX5_byteAt (Cond.code yX5_byteAt cX5_byteAt 4 (some .int) :: bT) { frames := 0, cells := 0, slots := 0, locals := 0 } G σ [.ref (G.2.2 4), .int (bI a1), .int (bI a2)] Q := by
  refine bk_Mi.of (cc := cX5_byteAt) (maxL := 4) (ret := some .int) (by decide) rfl (Nat.le_of_ble_eq_true rfl) ?_
  intro p e s m args below meth c S hr hlk hσ
  exact wX5_byteAt_e S hr hlk ha1 ha2 hσ h
def vX5_seenAt (Q : Int → bS → Prop) (a1 : Int) (a2 : Int) (σ : bS) : Prop := ((256 ≤ a2 → (bR (a2 - 256) ∧ (vX5_byteAt (fun z3 σ4 => (Q z3 σ4)) a1 (a2 - 256) σ))) ∧ (¬ 256 ≤ a2 → (vX5_byteAt (fun z5 σ6 => (Q z5 σ6)) (-1) a2 σ)))
theorem mono_vX5_seenAt {Q Q9 : Int → bS → Prop} {a1 : Int} {a2 : Int} {σ : bS} (hQ : ∀ r σ, Q r σ → Q9 r σ) : vX5_seenAt Q a1 a2 σ → vX5_seenAt Q9 a1 a2 σ := (bm_and (bm_imp (bm_r (mono_X5_byteAt (fun _ _ => (hQ _ _))))) (bm_imp (mono_X5_byteAt (fun _ _ => (hQ _ _)))))
theorem wX5_seenAt_e {p : Program} {l : Launch} {e : Env} {s : State} {m : MethodId} {args : Array Value} {below : List Frame} {meth : Method} {c : Code} {G : bG} {σ0 : bS} {Q : Int → bS → Prop} {a1 : Int} {a2 : Int} {σ : bS} (S : CallFix p m c cX5_seenAt 3 s args bT "BankLinker$Memory") (hr : meth.sig.returnType = some .int) (hlk : meth.locks = false) (ha1 : bR a1) (ha2 : bR a2) (hσ : bRG σ) (h : vX5_seenAt Q a1 a2 σ) : bA p l e { frames := 1, cells := 0, slots := 0, locals := 23 } s m args below meth c 0 0 (bQi below args s G σ0 Q) G (va_A (bk_w G σ0) s.heap.size) 3 0 [(0, .ref (G.2.2 4)), (1, .int (bI a1)), (2, .int (bI a2))] [] σ := by
  unfold vX5_seenAt at h
  refine br_iload_n S 2 dX5_seenAt_0 rfl rfl ?_
  refine br_sipush S dX5_seenAt_1 rfl ?_
  refine br_ic_ge S 16 ha2 (by decide) dX5_seenAt_4 (by decide) (fun c1 => ?_) (fun c1 => ?_)
  · replace h := h.1 c1
    refine br_aload_n S 0 dX5_seenAt_16 rfl rfl ?_
    refine br_iload_n S 1 dX5_seenAt_17 rfl rfl ?_
    refine br_iload_n S 2 dX5_seenAt_18 rfl rfl ?_
    refine br_sipush S dX5_seenAt_19 rfl ?_
    refine br_isub S dX5_seenAt_22 ?_
    obtain ⟨g2, h⟩ := h
    refine br_callV (As := [.int (bI a1), .int (bI (a2 - 256))]) (rest := []) S (cwV_X5_byteAt S.2.2.2.2 wd_3_126 ⟨by decide, by decide⟩) (mX5_byteAt l G σ a1 ha1 (a2 - 256) g2 h) (by decide) rfl rfl rfl hσ rfl rfl (Nat.le_of_ble_eq_true rfl) ⟨by decide, by decide⟩ dX5_seenAt_23 (fun z3 σ4 hz3 hσ4 h => ?_)
    exact br_iret S hr hlk hz3 hσ4 dX5_seenAt_26 h
  · replace h := h.2 c1
    refine br_aload_n S 0 dX5_seenAt_7 rfl rfl ?_
    refine br_iconst S dX5_seenAt_8 ?_
    refine br_iload_n S 2 dX5_seenAt_9 rfl rfl ?_
    refine br_callV (As := [.int (bI (-1)), .int (bI a2)]) (rest := []) S (cwV_X5_byteAt S.2.2.2.2 wd_3_126 ⟨by decide, by decide⟩) (mX5_byteAt l G σ (-1) (by decide) a2 ha2 h) (by decide) rfl rfl rfl hσ rfl rfl (Nat.le_of_ble_eq_true rfl) ⟨by decide, by decide⟩ dX5_seenAt_10 (fun z5 σ6 hz5 hσ6 h => ?_)
    refine br_goto S 26 dX5_seenAt_13 (by decide) ?_
    exact br_iret S hr hlk hz5 hσ6 dX5_seenAt_26 h
theorem mono_X5_seenAt {Q Q9 : Int → bS → Prop} {a1 : Int} {a2 : Int} {σ : bS} (hQ : ∀ r σ, Q r σ → Q9 r σ) : vX5_seenAt Q a1 a2 σ → vX5_seenAt Q9 a1 a2 σ := mono_vX5_seenAt hQ
theorem mX5_seenAt (l : Launch) (G : bG) (σ : bS) (a1 : Int) (ha1 : bR a1) (a2 : Int) (ha2 : bR a2) {Q : Int → bS → Prop} (h : vX5_seenAt Q a1 a2 σ) : bk_Mi l yX5_seenAt (Cond.code yX5_seenAt cX5_seenAt 3 (some .int) :: bT) { frames := 1, cells := 0, slots := 0, locals := 23 } G σ [.ref (G.2.2 4), .int (bI a1), .int (bI a2)] Q := by
  refine bk_Mi.of (cc := cX5_seenAt) (maxL := 3) (ret := some .int) (by decide) rfl (Nat.le_of_ble_eq_true rfl) ?_
  intro p e s m args below meth c S hr hlk hσ
  exact wX5_seenAt_e S hr hlk ha1 ha2 hσ h
def vX5_banksWithBytes_25 (Q : Int → bS → Prop) (P4 : Int → Int → bS → Prop) (x1 : Int) (x2 : Int) (σ : bS) : Prop := (bR (x2 + 1) ∧ (P4 x1 (x2 + 1) σ))
theorem mono_vX5_banksWithBytes_25 {Q Q9 : Int → bS → Prop} {P4 P49 : Int → Int → bS → Prop} {x1 : Int} {x2 : Int} {σ : bS} (hQ : ∀ r σ, Q r σ → Q9 r σ) (hP4 : ∀ x1 x2 σ, P4 x1 x2 σ → P49 x1 x2 σ) : vX5_banksWithBytes_25 Q P4 x1 x2 σ → vX5_banksWithBytes_25 Q9 P49 x1 x2 σ := (bm_r (hP4 _ _ _))
theorem wX5_banksWithBytes_25 {p : Program} {l : Launch} {e : Env} {s : State} {m : MethodId} {args : Array Value} {below : List Frame} {meth : Method} {c : Code} {G : bG} {σ0 : bS} {Q : Int → bS → Prop} {P4 : Int → Int → bS → Prop} {x1 : Int} {x2 : Int} {σ : bS} (S : CallFix p m c cX5_banksWithBytes 3 s args bT "BankLinker$Memory") (hr : meth.sig.returnType = some .int) (hlk : meth.locks = false) (hP4 : ∀ (x1 : Int) (x2 : Int) (σ : bS), bR x1 → bR x2 → bRG σ → P4 x1 x2 σ → bA p l e { frames := 0, cells := 0, slots := 0, locals := 0 } s m args below meth c 0 0 (bQi below args s G σ0 Q) G (va_A (bk_w G σ0) s.heap.size) 3 4 [(0, .ref (G.2.2 4)), (1, .int (bI x1)), (2, .int (bI x2))] [] σ) (hx1 : bR x1) (hx2 : bR x2) (hσ : bRG σ) (h : vX5_banksWithBytes_25 Q P4 x1 x2 σ) : bA p l e { frames := 0, cells := 0, slots := 0, locals := 0 } s m args below meth c 0 0 (bQi below args s G σ0 Q) G (va_A (bk_w G σ0) s.heap.size) 3 25 [(0, .ref (G.2.2 4)), (1, .int (bI x1)), (2, .int (bI x2))] [] σ := by
  unfold vX5_banksWithBytes_25 at h
  refine br_iinc S 2 [(2, .int (bI (x2 + 1))), (0, .ref (G.2.2 4)), (1, .int (bI x1))] dX5_banksWithBytes_25 rfl (by decide) rfl ?_
  refine br_goto S 4 dX5_banksWithBytes_28 (by decide) ?_
  obtain ⟨g1, h⟩ := h
  exact bA.perm [1, 2, 0] rfl <| hP4 x1 (x2 + 1) σ hx1 g1 hσ h
def bX5_banksWithBytes_4 (Q : Int → bS → Prop) (P4 : Int → Int → bS → Prop) (x1 : Int) (x2 : Int) (σ : bS) : Prop := ((9 ≤ x2 → (Q x1 σ)) ∧ (¬ 9 ≤ x2 → ((0 ≤ x2 ∧ x2 < 9) ∧ (((σ 32 x2) ≤ 0 → (vX5_banksWithBytes_25 Q P4 x1 x2 σ)) ∧ (¬ (σ 32 x2) ≤ 0 → (bR (x1 + 1) ∧ (vX5_banksWithBytes_25 Q P4 (x1 + 1) x2 σ)))))))
theorem mono_bX5_banksWithBytes_4 {Q Q9 : Int → bS → Prop} {P4 P49 : Int → Int → bS → Prop} {x1 : Int} {x2 : Int} {σ : bS} (hQ : ∀ r σ, Q r σ → Q9 r σ) (hP4 : ∀ x1 x2 σ, P4 x1 x2 σ → P49 x1 x2 σ) : bX5_banksWithBytes_4 Q P4 x1 x2 σ → bX5_banksWithBytes_4 Q9 P49 x1 x2 σ := (bm_and (bm_imp (hQ _ _)) (bm_imp (bm_r (bm_and (bm_imp (mono_vX5_banksWithBytes_25 hQ hP4)) (bm_imp (bm_r (mono_vX5_banksWithBytes_25 hQ hP4)))))))
theorem wX5_banksWithBytes_4 {p : Program} {l : Launch} {e : Env} {s : State} {m : MethodId} {args : Array Value} {below : List Frame} {meth : Method} {c : Code} {G : bG} {σ0 : bS} {Q : Int → bS → Prop} {P4 : Int → Int → bS → Prop} {x1 : Int} {x2 : Int} {σ : bS} (S : CallFix p m c cX5_banksWithBytes 3 s args bT "BankLinker$Memory") (hr : meth.sig.returnType = some .int) (hlk : meth.locks = false) (hP4 : ∀ (x1 : Int) (x2 : Int) (σ : bS), bR x1 → bR x2 → bRG σ → P4 x1 x2 σ → bA p l e { frames := 0, cells := 0, slots := 0, locals := 0 } s m args below meth c 0 0 (bQi below args s G σ0 Q) G (va_A (bk_w G σ0) s.heap.size) 3 4 [(0, .ref (G.2.2 4)), (1, .int (bI x1)), (2, .int (bI x2))] [] σ) (hx1 : bR x1) (hx2 : bR x2) (hσ : bRG σ) (h : bX5_banksWithBytes_4 Q P4 x1 x2 σ) : bA p l e { frames := 0, cells := 0, slots := 0, locals := 0 } s m args below meth c 0 0 (bQi below args s G σ0 Q) G (va_A (bk_w G σ0) s.heap.size) 3 4 [(0, .ref (G.2.2 4)), (1, .int (bI x1)), (2, .int (bI x2))] [] σ := by
  unfold bX5_banksWithBytes_4 at h
  refine br_iload_n S 2 dX5_banksWithBytes_4 rfl rfl ?_
  refine br_aload_n S 0 dX5_banksWithBytes_5 rfl rfl ?_
  refine br_get (f := 1) (N := 2) (C := RX5) (T := TX5) S inT_X5 wd_1_174 (by decide) rfl rfl (by decide) rfl dX5_banksWithBytes_6 ?_
  refine br_alen (n := 9) S ⟨by decide, by decide, fun _ => rfl⟩ dX5_banksWithBytes_9 ?_
  refine bA.to (st' := .int (bI 9) :: _) rfl rfl rfl ?_
  refine br_ic_ge S 31 hx2 (by decide) dX5_banksWithBytes_10 (by decide) (fun c1 => ?_) (fun c1 => ?_)
  · replace h := h.1 c1
    refine br_iload_n S 1 dX5_banksWithBytes_31 rfl rfl ?_
    exact br_iret S hr hlk hx1 hσ dX5_banksWithBytes_32 h
  · replace h := h.2 c1
    refine br_aload_n S 0 dX5_banksWithBytes_13 rfl rfl ?_
    refine br_get (f := 1) (N := 2) (C := RX5) (T := TX5) S inT_X5 wd_1_174 (by decide) rfl rfl (by decide) rfl dX5_banksWithBytes_14 ?_
    refine br_iload_n S 2 dX5_banksWithBytes_17 rfl rfl ?_
    obtain ⟨g2, h⟩ := h
    refine br_iald (n := 9) S ⟨by decide, by decide, fun _ => rfl⟩ g2.1 g2.2 dX5_banksWithBytes_18 ?_
    refine br_if_le S 25 (hσ 32 x2) dX5_banksWithBytes_19 (by decide) (fun c3 => ?_) (fun c3 => ?_)
    · replace h := h.1 c3
      exact wX5_banksWithBytes_25 S hr hlk hP4 hx1 hx2 hσ h
    · replace h := h.2 c3
      refine br_iinc S 1 [(1, .int (bI (x1 + 1))), (0, .ref (G.2.2 4)), (2, .int (bI x2))] dX5_banksWithBytes_22 rfl (by decide) rfl ?_
      obtain ⟨g4, h⟩ := h
      exact bA.perm [1, 0, 2] rfl <| wX5_banksWithBytes_25 S hr hlk hP4 g4 hx2 hσ h
def eX5_banksWithBytes (Q : Int → bS → Prop) (P4 : Int → Int → bS → Prop) (σ : bS) : Prop := (P4 0 1 σ)
theorem mono_eX5_banksWithBytes {Q Q9 : Int → bS → Prop} {P4 P49 : Int → Int → bS → Prop} {σ : bS} (hQ : ∀ r σ, Q r σ → Q9 r σ) (hP4 : ∀ x1 x2 σ, P4 x1 x2 σ → P49 x1 x2 σ) : eX5_banksWithBytes Q P4 σ → eX5_banksWithBytes Q9 P49 σ := (hP4 _ _ _)
theorem wX5_banksWithBytes_e {p : Program} {l : Launch} {e : Env} {s : State} {m : MethodId} {args : Array Value} {below : List Frame} {meth : Method} {c : Code} {G : bG} {σ0 : bS} {Q : Int → bS → Prop} {P4 : Int → Int → bS → Prop} {σ : bS} (S : CallFix p m c cX5_banksWithBytes 3 s args bT "BankLinker$Memory") (hr : meth.sig.returnType = some .int) (hlk : meth.locks = false) (hP4 : ∀ (x1 : Int) (x2 : Int) (σ : bS), bR x1 → bR x2 → bRG σ → P4 x1 x2 σ → bA p l e { frames := 0, cells := 0, slots := 0, locals := 0 } s m args below meth c 0 0 (bQi below args s G σ0 Q) G (va_A (bk_w G σ0) s.heap.size) 3 4 [(0, .ref (G.2.2 4)), (1, .int (bI x1)), (2, .int (bI x2))] [] σ) (hσ : bRG σ) (h : eX5_banksWithBytes Q P4 σ) : bA p l e { frames := 0, cells := 0, slots := 0, locals := 0 } s m args below meth c 0 0 (bQi below args s G σ0 Q) G (va_A (bk_w G σ0) s.heap.size) 3 0 [(0, .ref (G.2.2 4))] [] σ := by
  unfold eX5_banksWithBytes at h
  refine br_iconst S dX5_banksWithBytes_0 ?_
  refine br_istore_n S [(1, .int (bI 0)), (0, .ref (G.2.2 4))] dX5_banksWithBytes_1 rfl (by decide) rfl ?_
  refine br_iconst S dX5_banksWithBytes_2 ?_
  refine br_istore_n S [(2, .int (bI 1)), (1, .int (bI 0)), (0, .ref (G.2.2 4))] dX5_banksWithBytes_3 rfl (by decide) rfl ?_
  exact bA.perm [2, 1, 0] rfl <| hP4 0 1 σ (by decide) (by decide) hσ h
def LX5_banksWithBytes_4 (Q : Int → bS → Prop) (x1 : Int) (x2 : Int) (σ : bS) : Prop := ∀ (P4 : Int → Int → bS → Prop), (∀ x1 x2 σ, bX5_banksWithBytes_4 Q P4 x1 x2 σ → P4 x1 x2 σ) → P4 x1 x2 σ
theorem LX5_banksWithBytes_4_in {Q : Int → bS → Prop} {x1 : Int} {x2 : Int} {σ : bS} (h : bX5_banksWithBytes_4 Q (LX5_banksWithBytes_4 Q) x1 x2 σ) : LX5_banksWithBytes_4 Q x1 x2 σ := fun P4 H4 => H4 _ _ _ (mono_bX5_banksWithBytes_4 (fun _ _ h => h) (fun _ _ _ h => h P4 H4) h)
theorem mono_LX5_banksWithBytes_4 {Q Q9 : Int → bS → Prop} {x1 : Int} {x2 : Int} {σ : bS} (hQ : ∀ r σ, Q r σ → Q9 r σ) (h : LX5_banksWithBytes_4 Q x1 x2 σ) : LX5_banksWithBytes_4 Q9 x1 x2 σ := fun P4 H4 => h P4 (fun _ _ _ hb => H4 _ _ _ (mono_bX5_banksWithBytes_4 hQ (fun _ _ _ h => h) hb))
def vX5_banksWithBytes (Q : Int → bS → Prop) (σ : bS) : Prop := eX5_banksWithBytes Q (LX5_banksWithBytes_4 Q) σ
theorem mono_vX5_banksWithBytes {Q Q9 : Int → bS → Prop} {σ : bS} (hQ : ∀ r σ, Q r σ → Q9 r σ) : vX5_banksWithBytes Q σ → vX5_banksWithBytes Q9 σ := mono_eX5_banksWithBytes hQ (fun _ _ _ h => mono_LX5_banksWithBytes_4 hQ h)
theorem mono_X5_banksWithBytes {Q Q9 : Int → bS → Prop} {σ : bS} (hQ : ∀ r σ, Q r σ → Q9 r σ) : vX5_banksWithBytes Q σ → vX5_banksWithBytes Q9 σ := mono_vX5_banksWithBytes hQ
theorem mX5_banksWithBytes (l : Launch) (G : bG) (σ : bS) {Q : Int → bS → Prop} (h : vX5_banksWithBytes Q σ) : bk_Mi l yX5_banksWithBytes (Cond.code yX5_banksWithBytes cX5_banksWithBytes 3 (some .int) :: bT) { frames := 0, cells := 0, slots := 0, locals := 0 } G σ [.ref (G.2.2 4)] Q := by
  refine bk_Mi.of (cc := cX5_banksWithBytes) (maxL := 3) (ret := some .int) (by decide) rfl (Nat.le_of_ble_eq_true rfl) ?_
  intro p e s m args below meth c S hr hlk hσ
  let K4 : Int → Int → bS → Prop := fun x1 x2 τ => bR x1 → bR x2 → bRG τ → bA p l e { frames := 0, cells := 0, slots := 0, locals := 0 } s m args below meth c 0 0 (bQi below args s G σ Q) G (va_A (bk_w G σ) s.heap.size) 3 4 [(0, .ref (G.2.2 4)), (1, .int (bI x1)), (2, .int (bI x2))] [] τ
  have C4 : ∀ x1 x2 τ, bX5_banksWithBytes_4 Q K4 x1 x2 τ → K4 x1 x2 τ := fun x1 x2 τ hb hx1 hx2 hτ => wX5_banksWithBytes_4 S hr hlk (fun x1 x2 σ hx1 hx2 hσ h => h hx1 hx2 hσ) hx1 hx2 hτ hb
  exact wX5_banksWithBytes_e S hr hlk (fun x1 x2 σ hx1 hx2 hσ h => h K4 C4 hx1 hx2 hσ) hσ h

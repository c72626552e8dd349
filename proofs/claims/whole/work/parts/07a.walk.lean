def vX6_codeAt (Q : Int → bS → Prop) (a1 : Int) (a2 : Int) (σ : bS) : Prop := ((a2 < 0 → (Q 8 σ)) ∧ (¬ a2 < 0 → ((0 ≤ a1 ∧ a1 < 30) ∧ (((σ 16 a1) ≤ a2 → (Q 8 σ)) ∧ (¬ (σ 16 a1) ≤ a2 → ((0 ≤ ((a1 * 40) + a2) ∧ ((a1 * 40) + a2) < 1200) ∧ (Q (σ 17 ((a1 * 40) + a2)) σ)))))))
theorem mono_vX6_codeAt {Q Q9 : Int → bS → Prop} {a1 : Int} {a2 : Int} {σ : bS} (hQ : ∀ r σ, Q r σ → Q9 r σ) : vX6_codeAt Q a1 a2 σ → vX6_codeAt Q9 a1 a2 σ := (bm_and (bm_imp (hQ _ _)) (bm_imp (bm_r (bm_and (bm_imp (hQ _ _)) (bm_imp (bm_r (hQ _ _)))))))
theorem wX6_codeAt_e {p : Program} {l : Launch} {e : Env} {s : State} {m : MethodId} {args : Array Value} {below : List Frame} {meth : Method} {c : Code} {G : bG} {σ0 : bS} {Q : Int → bS → Prop} {a1 : Int} {a2 : Int} {σ : bS} (S : CallFix p m c cX6_codeAt 3 s args bT "BankLinker$Program") (hr : meth.sig.returnType = some .int) (hlk : meth.locks = false) (ha1 : bR a1) (ha2 : bR a2) (hσ : bRG σ) (h : vX6_codeAt Q a1 a2 σ) : bA p l e { frames := 0, cells := 0, slots := 0, locals := 0 } s m args below meth c 0 0 (bQi below args s G σ0 Q) G (va_A (bk_w G σ0) s.heap.size) 3 0 [(0, .ref (G.2.2 1)), (1, .int (bI a1)), (2, .int (bI a2))] [] σ := by
  unfold vX6_codeAt at h
  refine br_iload_n S 2 dX6_codeAt_0 rfl rfl ?_
  refine br_if_lt S 28 ha2 dX6_codeAt_1 (by decide) (fun c1 => ?_) (fun c1 => ?_)
  · replace h := h.1 c1
    refine br_bipush S dX6_codeAt_28 rfl ?_
    exact br_iret S hr hlk (by decide) hσ dX6_codeAt_30 h
  · replace h := h.2 c1
    refine br_iload_n S 2 dX6_codeAt_4 rfl rfl ?_
    refine br_aload_n S 0 dX6_codeAt_5 rfl rfl ?_
    refine br_get (f := 5) (N := 9) (C := RX6) (T := TX6) S inT_X6 wd_1_54 (by decide) rfl rfl (by decide) rfl dX6_codeAt_6 ?_
    refine br_iload_n S 1 dX6_codeAt_9 rfl rfl ?_
    obtain ⟨g2, h⟩ := h
    refine br_iald (n := 30) S ⟨by decide, by decide, fun _ => rfl⟩ g2.1 g2.2 dX6_codeAt_10 ?_
    refine br_ic_ge S 28 ha2 (hσ 16 a1) dX6_codeAt_11 (by decide) (fun c3 => ?_) (fun c3 => ?_)
    · replace h := h.1 c3
      refine br_bipush S dX6_codeAt_28 rfl ?_
      exact br_iret S hr hlk (by decide) hσ dX6_codeAt_30 h
    · replace h := h.2 c3
      refine br_aload_n S 0 dX6_codeAt_14 rfl rfl ?_
      refine br_get (f := 6) (N := 9) (C := RX6) (T := TX6) S inT_X6 wd_1_60 (by decide) rfl rfl (by decide) rfl dX6_codeAt_15 ?_
      refine br_iload_n S 1 dX6_codeAt_18 rfl rfl ?_
      refine br_bipush S dX6_codeAt_19 rfl ?_
      refine br_imul S dX6_codeAt_21 ?_
      refine br_iload_n S 2 dX6_codeAt_22 rfl rfl ?_
      refine br_iadd S dX6_codeAt_23 ?_
      obtain ⟨g4, h⟩ := h
      refine br_iald (n := 1200) S ⟨by decide, by decide, fun _ => rfl⟩ g4.1 g4.2 dX6_codeAt_24 ?_
      refine br_goto S 30 dX6_codeAt_25 (by decide) ?_
      exact br_iret S hr hlk (hσ 17 ((a1 * 40) + a2)) hσ dX6_codeAt_30 h
theorem mono_X6_codeAt {Q Q9 : Int → bS → Prop} {a1 : Int} {a2 : Int} {σ : bS} (hQ : ∀ r σ, Q r σ → Q9 r σ) : vX6_codeAt Q a1 a2 σ → vX6_codeAt Q9 a1 a2 σ := mono_vX6_codeAt hQ
theorem mX6_codeAt (l : Launch) (G : bG) (σ : bS) (a1 : Int) (ha1 : bR a1) (a2 : Int) (ha2 : bR a2) {Q : Int → bS → Prop} (h : vX6_codeAt Q a1 a2 σ) : bk_Mi l yX6_codeAt (Cond.code yX6_codeAt cX6_codeAt 3 (some .int) :: bT) { frames := 0, cells := 0, slots := 0, locals := 0 } G σ [.ref (G.2.2 1), .int (bI a1), .int (bI a2)] Q := by
  refine bk_Mi.of (cc := cX6_codeAt) (maxL := 3) (ret := some .int) (by decide) rfl (Nat.le_of_ble_eq_true rfl) ?_
  intro p e s m args below meth c S hr hlk hσ
  exact wX6_codeAt_e S hr hlk ha1 ha2 hσ h
def vX6_valueAt (Q : Int → bS → Prop) (a1 : Int) (a2 : Int) (σ : bS) : Prop := ((a2 < 0 → (Q 0 σ)) ∧ (¬ a2 < 0 → ((0 ≤ a1 ∧ a1 < 30) ∧ (((σ 16 a1) ≤ a2 → (Q 0 σ)) ∧ (¬ (σ 16 a1) ≤ a2 → ((0 ≤ ((a1 * 40) + a2) ∧ ((a1 * 40) + a2) < 1200) ∧ (Q (σ 18 ((a1 * 40) + a2)) σ)))))))
theorem mono_vX6_valueAt {Q Q9 : Int → bS → Prop} {a1 : Int} {a2 : Int} {σ : bS} (hQ : ∀ r σ, Q r σ → Q9 r σ) : vX6_valueAt Q a1 a2 σ → vX6_valueAt Q9 a1 a2 σ := (bm_and (bm_imp (hQ _ _)) (bm_imp (bm_r (bm_and (bm_imp (hQ _ _)) (bm_imp (bm_r (hQ _ _)))))))
theorem wX6_valueAt_e {p : Program} {l : Launch} {e : Env} {s : State} {m : MethodId} {args : Array Value} {below : List Frame} {meth : Method} {c : Code} {G : bG} {σ0 : bS} {Q : Int → bS → Prop} {a1 : Int} {a2 : Int} {σ : bS} (S : CallFix p m c cX6_valueAt 3 s args bT "BankLinker$Program") (hr : meth.sig.returnType = some .int) (hlk : meth.locks = false) (ha1 : bR a1) (ha2 : bR a2) (hσ : bRG σ) (h : vX6_valueAt Q a1 a2 σ) : bA p l e { frames := 0, cells := 0, slots := 0, locals := 0 } s m args below meth c 0 0 (bQi below args s G σ0 Q) G (va_A (bk_w G σ0) s.heap.size) 3 0 [(0, .ref (G.2.2 1)), (1, .int (bI a1)), (2, .int (bI a2))] [] σ := by
  unfold vX6_valueAt at h
  refine br_iload_n S 2 dX6_valueAt_0 rfl rfl ?_
  refine br_if_lt S 28 ha2 dX6_valueAt_1 (by decide) (fun c1 => ?_) (fun c1 => ?_)
  · replace h := h.1 c1
    refine br_iconst S dX6_valueAt_28 ?_
    exact br_iret S hr hlk (by decide) hσ dX6_valueAt_29 h
  · replace h := h.2 c1
    refine br_iload_n S 2 dX6_valueAt_4 rfl rfl ?_
    refine br_aload_n S 0 dX6_valueAt_5 rfl rfl ?_
    refine br_get (f := 5) (N := 9) (C := RX6) (T := TX6) S inT_X6 wd_1_54 (by decide) rfl rfl (by decide) rfl dX6_valueAt_6 ?_
    refine br_iload_n S 1 dX6_valueAt_9 rfl rfl ?_
    obtain ⟨g2, h⟩ := h
    refine br_iald (n := 30) S ⟨by decide, by decide, fun _ => rfl⟩ g2.1 g2.2 dX6_valueAt_10 ?_
    refine br_ic_ge S 28 ha2 (hσ 16 a1) dX6_valueAt_11 (by decide) (fun c3 => ?_) (fun c3 => ?_)
    · replace h := h.1 c3
      refine br_iconst S dX6_valueAt_28 ?_
      exact br_iret S hr hlk (by decide) hσ dX6_valueAt_29 h
    · replace h := h.2 c3
      refine br_aload_n S 0 dX6_valueAt_14 rfl rfl ?_
      refine br_get (f := 7) (N := 9) (C := RX6) (T := TX6) S inT_X6 wd_1_61 (by decide) rfl rfl (by decide) rfl dX6_valueAt_15 ?_
      refine br_iload_n S 1 dX6_valueAt_18 rfl rfl ?_
      refine br_bipush S dX6_valueAt_19 rfl ?_
      refine br_imul S dX6_valueAt_21 ?_
      refine br_iload_n S 2 dX6_valueAt_22 rfl rfl ?_
      refine br_iadd S dX6_valueAt_23 ?_
      obtain ⟨g4, h⟩ := h
      refine br_iald (n := 1200) S ⟨by decide, by decide, fun _ => rfl⟩ g4.1 g4.2 dX6_valueAt_24 ?_
      refine br_goto S 29 dX6_valueAt_25 (by decide) ?_
      exact br_iret S hr hlk (hσ 18 ((a1 * 40) + a2)) hσ dX6_valueAt_29 h
theorem mono_X6_valueAt {Q Q9 : Int → bS → Prop} {a1 : Int} {a2 : Int} {σ : bS} (hQ : ∀ r σ, Q r σ → Q9 r σ) : vX6_valueAt Q a1 a2 σ → vX6_valueAt Q9 a1 a2 σ := mono_vX6_valueAt hQ
theorem mX6_valueAt (l : Launch) (G : bG) (σ : bS) (a1 : Int) (ha1 : bR a1) (a2 : Int) (ha2 : bR a2) {Q : Int → bS → Prop} (h : vX6_valueAt Q a1 a2 σ) : bk_Mi l yX6_valueAt (Cond.code yX6_valueAt cX6_valueAt 3 (some .int) :: bT) { frames := 0, cells := 0, slots := 0, locals := 0 } G σ [.ref (G.2.2 1), .int (bI a1), .int (bI a2)] Q := by
  refine bk_Mi.of (cc := cX6_valueAt) (maxL := 3) (ret := some .int) (by decide) rfl (Nat.le_of_ble_eq_true rfl) ?_
  intro p e s m args below meth c S hr hlk hσ
  exact wX6_valueAt_e S hr hlk ha1 ha2 hσ h
def vJ7_rangeCheck_23922 (Q : bS → Prop) (a0 : Int) (a1 : Int) (a2 : Int) (σ : bS) : Prop := ((a1 ≤ a2 → ((0 ≤ a1 → ((a2 ≤ a0 → (Q σ)) ∧ (¬ a2 ≤ a0 → False))) ∧ (¬ 0 ≤ a1 → False))) ∧ (¬ a1 ≤ a2 → False))
theorem mono_vJ7_rangeCheck_23922 {Q Q9 : bS → Prop} {a0 : Int} {a1 : Int} {a2 : Int} {σ : bS} (hQ : ∀ σ, Q σ → Q9 σ) : vJ7_rangeCheck_23922 Q a0 a1 a2 σ → vJ7_rangeCheck_23922 Q9 a0 a1 a2 σ := (bm_and (bm_imp (bm_and (bm_imp (bm_and (bm_imp (hQ _)) (bm_imp id))) (bm_imp id))) (bm_imp id))
theorem wJ7_rangeCheck_23922_e {p : Program} {l : Launch} {e : Env} {s : State} {m : MethodId} {args : Array Value} {below : List Frame} {meth : Method} {c : Code} {G : bG} {σ0 : bS} {Q : bS → Prop} {a0 : Int} {a1 : Int} {a2 : Int} {σ : bS} (S : CallFix p m c cJ7_rangeCheck_23922 3 s args bT "java/util/Arrays") (hr : meth.sig.returnType = none) (hlk : meth.locks = false) (ha0 : bR a0) (ha1 : bR a1) (ha2 : bR a2) (hσ : bRG σ) (h : vJ7_rangeCheck_23922 Q a0 a1 a2 σ) : bA p l e { frames := 0, cells := 0, slots := 0, locals := 0 } s m args below meth c 0 0 (bQv below args s G σ0 Q) G (va_A (bk_w G σ0) s.heap.size) 3 0 [(0, .int (bI a0)), (1, .int (bI a1)), (2, .int (bI a2))] [] σ := by
  unfold vJ7_rangeCheck_23922 at h
  refine br_iload_n S 1 dJ7_rangeCheck_23922_0 rfl rfl ?_
  refine br_iload_n S 2 dJ7_rangeCheck_23922_1 rfl rfl ?_
  refine br_ic_le S 46 ha1 ha2 dJ7_rangeCheck_23922_2 (by decide) (fun c1 => ?_) (fun c1 => ?_)
  · replace h := h.1 c1
    refine br_iload_n S 1 dJ7_rangeCheck_23922_46 rfl rfl ?_
    refine br_if_ge S 59 ha1 dJ7_rangeCheck_23922_47 (by decide) (fun c2 => ?_) (fun c2 => ?_)
    · replace h := h.1 c2
      refine br_iload_n S 2 dJ7_rangeCheck_23922_59 rfl rfl ?_
      refine br_iload_n S 0 dJ7_rangeCheck_23922_60 rfl rfl ?_
      refine br_ic_le S 73 ha2 ha0 dJ7_rangeCheck_23922_61 (by decide) (fun c3 => ?_) (fun c3 => ?_)
      · replace h := h.1 c3
        exact br_vret S hr hlk hσ dJ7_rangeCheck_23922_73 h
      · replace h := h.2 c3
        exact False.elim h
    · replace h := h.2 c2
      exact False.elim h
  · replace h := h.2 c1
    exact False.elim h
theorem mono_J7_rangeCheck_23922 {Q Q9 : bS → Prop} {a0 : Int} {a1 : Int} {a2 : Int} {σ : bS} (hQ : ∀ σ, Q σ → Q9 σ) : vJ7_rangeCheck_23922 Q a0 a1 a2 σ → vJ7_rangeCheck_23922 Q9 a0 a1 a2 σ := mono_vJ7_rangeCheck_23922 hQ
theorem mJ7_rangeCheck_23922 (l : Launch) (G : bG) (σ : bS) (a0 : Int) (ha0 : bR a0) (a1 : Int) (ha1 : bR a1) (a2 : Int) (ha2 : bR a2) {Q : bS → Prop} (h : vJ7_rangeCheck_23922 Q a0 a1 a2 σ) : bk_Mv l yJ7_rangeCheck_23922 (Cond.code yJ7_rangeCheck_23922 cJ7_rangeCheck_23922 3 (none) :: bT) { frames := 0, cells := 0, slots := 0, locals := 0 } G σ [.int (bI a0), .int (bI a1), .int (bI a2)] Q := by
  refine bk_Mv.of (cc := cJ7_rangeCheck_23922) (maxL := 3) (ret := none) (by decide) rfl (Nat.le_of_ble_eq_true rfl) ?_
  intro p e s m args below meth c S hr hlk hσ
  exact wJ7_rangeCheck_23922_e S hr hlk ha0 ha1 ha2 hσ h
def bJ7_fill_fda19_46_10 (Q : bS → Prop) (P10 : Int → Int → Int → bS → Prop) (x2 : Int) (x3 : Int) (x4 : Int) (σ : bS) : Prop := ((x2 ≤ x4 → (Q σ)) ∧ (¬ x2 ≤ x4 → ((0 ≤ x4 ∧ x4 < 549) ∧ (∀ σ3 : bS, σ3 = bup σ 46 x4 x3 → (bR (x4 + 1) ∧ (P10 x2 x3 (x4 + 1) σ3))))))
theorem mono_bJ7_fill_fda19_46_10 {Q Q9 : bS → Prop} {P10 P109 : Int → Int → Int → bS → Prop} {x2 : Int} {x3 : Int} {x4 : Int} {σ : bS} (hQ : ∀ σ, Q σ → Q9 σ) (hP10 : ∀ x2 x3 x4 σ, P10 x2 x3 x4 σ → P109 x2 x3 x4 σ) : bJ7_fill_fda19_46_10 Q P10 x2 x3 x4 σ → bJ7_fill_fda19_46_10 Q9 P109 x2 x3 x4 σ := (bm_and (bm_imp (hQ _)) (bm_imp (bm_r (bm_all fun _ => bm_imp (bm_r (hP10 _ _ _ _))))))
theorem wJ7_fill_fda19_46_10 {p : Program} {l : Launch} {e : Env} {s : State} {m : MethodId} {args : Array Value} {below : List Frame} {meth : Method} {c : Code} {G : bG} {σ0 : bS} {Q : bS → Prop} {P10 : Int → Int → Int → bS → Prop} {x2 : Int} {x3 : Int} {x4 : Int} {σ : bS} (S : CallFix p m c cJ7_fill_fda19 5 s args bT "java/util/Arrays") (hr : meth.sig.returnType = none) (hlk : meth.locks = false) (hP10 : ∀ (x2 : Int) (x3 : Int) (x4 : Int) (σ : bS), bR x2 → bR x3 → bR x4 → bRG σ → P10 x2 x3 x4 σ → bA p l e { frames := 1, cells := 0, slots := 0, locals := 22 } s m args below meth c 0 0 (bQv below args s G σ0 Q) G (va_A (bk_w G σ0) s.heap.size) 5 10 [(0, .ref (G.2.2 46)), (2, .int (bI x2)), (3, .int (bI x3)), (4, .int (bI x4))] [] σ) (hx2 : bR x2) (hx3 : bR x3) (hx4 : bR x4) (hσ : bRG σ) (h : bJ7_fill_fda19_46_10 Q P10 x2 x3 x4 σ) : bA p l e { frames := 1, cells := 0, slots := 0, locals := 22 } s m args below meth c 0 0 (bQv below args s G σ0 Q) G (va_A (bk_w G σ0) s.heap.size) 5 10 [(0, .ref (G.2.2 46)), (2, .int (bI x2)), (3, .int (bI x3)), (4, .int (bI x4))] [] σ := by
  unfold bJ7_fill_fda19_46_10 at h
  refine br_iload S 3 dJ7_fill_fda19_10 rfl ?_
  refine br_iload_n S 1 dJ7_fill_fda19_12 rfl rfl ?_
  refine br_ic_ge S 27 hx4 hx2 dJ7_fill_fda19_13 (by decide) (fun c1 => ?_) (fun c1 => ?_)
  · replace h := h.1 c1
    exact br_vret S hr hlk hσ dJ7_fill_fda19_27 h
  · replace h := h.2 c1
    refine br_aload_n S 0 dJ7_fill_fda19_16 rfl rfl ?_
    refine br_iload S 3 dJ7_fill_fda19_17 rfl ?_
    refine br_iload_n S 2 dJ7_fill_fda19_19 rfl rfl ?_
    obtain ⟨g2, h⟩ := h
    obtain ⟨σ3, e4⟩ : ∃ τ, τ = bup σ 46 x4 x3 := ⟨_, rfl⟩
    replace h := h σ3 e4
    have hσ3 : bRG σ3 := by rw [e4]; exact bup_rg hσ hx3
    refine br_iast (n := 549) S ⟨by decide, by decide, fun _ => rfl⟩ g2.1 g2.2 dJ7_fill_fda19_20 ?_
    refine bA.to rfl rfl e4.symm ?_
    refine br_iinc S 3 [(4, .int (bI (x4 + 1))), (0, .ref (G.2.2 46)), (2, .int (bI x2)), (3, .int (bI x3))] dJ7_fill_fda19_21 rfl (by decide) rfl ?_
    refine br_goto S 10 dJ7_fill_fda19_24 (by decide) ?_
    obtain ⟨g5, h⟩ := h
    exact bA.perm [1, 2, 3, 0] rfl <| hP10 x2 x3 (x4 + 1) σ3 hx2 hx3 g5 hσ3 h
def eJ7_fill_fda19_46 (Q : bS → Prop) (P10 : Int → Int → Int → bS → Prop) (a1 : Int) (a2 : Int) (a3 : Int) (σ : bS) : Prop := (vJ7_rangeCheck_23922 (fun σ2 => (P10 a2 a3 a1 σ2)) 549 a1 a2 σ)
theorem mono_eJ7_fill_fda19_46 {Q Q9 : bS → Prop} {P10 P109 : Int → Int → Int → bS → Prop} {a1 : Int} {a2 : Int} {a3 : Int} {σ : bS} (hQ : ∀ σ, Q σ → Q9 σ) (hP10 : ∀ x2 x3 x4 σ, P10 x2 x3 x4 σ → P109 x2 x3 x4 σ) : eJ7_fill_fda19_46 Q P10 a1 a2 a3 σ → eJ7_fill_fda19_46 Q9 P109 a1 a2 a3 σ := (mono_J7_rangeCheck_23922 (fun _ => (hP10 _ _ _ _)))
theorem wJ7_fill_fda19_46_e {p : Program} {l : Launch} {e : Env} {s : State} {m : MethodId} {args : Array Value} {below : List Frame} {meth : Method} {c : Code} {G : bG} {σ0 : bS} {Q : bS → Prop} {P10 : Int → Int → Int → bS → Prop} {a1 : Int} {a2 : Int} {a3 : Int} {σ : bS} (S : CallFix p m c cJ7_fill_fda19 5 s args bT "java/util/Arrays") (hr : meth.sig.returnType = none) (hlk : meth.locks = false) (hP10 : ∀ (x2 : Int) (x3 : Int) (x4 : Int) (σ : bS), bR x2 → bR x3 → bR x4 → bRG σ → P10 x2 x3 x4 σ → bA p l e { frames := 1, cells := 0, slots := 0, locals := 22 } s m args below meth c 0 0 (bQv below args s G σ0 Q) G (va_A (bk_w G σ0) s.heap.size) 5 10 [(0, .ref (G.2.2 46)), (2, .int (bI x2)), (3, .int (bI x3)), (4, .int (bI x4))] [] σ) (ha1 : bR a1) (ha2 : bR a2) (ha3 : bR a3) (hσ : bRG σ) (h : eJ7_fill_fda19_46 Q P10 a1 a2 a3 σ) : bA p l e { frames := 1, cells := 0, slots := 0, locals := 22 } s m args below meth c 0 0 (bQv below args s G σ0 Q) G (va_A (bk_w G σ0) s.heap.size) 5 0 [(0, .ref (G.2.2 46)), (1, .int (bI a1)), (2, .int (bI a2)), (3, .int (bI a3))] [] σ := by
  unfold eJ7_fill_fda19_46 at h
  refine br_aload_n S 0 dJ7_fill_fda19_0 rfl rfl ?_
  refine br_alen (n := 549) S ⟨by decide, by decide, fun _ => rfl⟩ dJ7_fill_fda19_1 ?_
  refine bA.to (st' := .int (bI 549) :: _) rfl rfl rfl ?_
  refine br_iload_n S 1 dJ7_fill_fda19_2 rfl rfl ?_
  refine br_iload_n S 2 dJ7_fill_fda19_3 rfl rfl ?_
  refine br_callSv (As := [.int (bI 549), .int (bI a1), .int (bI a2)]) (rest := []) S (cwS_J7_rangeCheck_23922 S.2.2.2.2 wd_3_192 ⟨by decide, by decide⟩) (mJ7_rangeCheck_23922 l G σ 549 (by decide) a1 ha1 a2 ha2 h) hσ rfl rfl (Nat.le_of_ble_eq_true rfl) ⟨by decide, by decide⟩ dJ7_fill_fda19_4 (fun σ2 hσ2 h => ?_)
  refine br_iload_n S 1 dJ7_fill_fda19_7 rfl rfl ?_
  refine br_istore S [(4, .int (bI a1)), (0, .ref (G.2.2 46)), (1, .int (bI a1)), (2, .int (bI a2)), (3, .int (bI a3))] dJ7_fill_fda19_8 (by decide) rfl ?_
  exact bA.perm [1, 3, 4, 0] rfl <| hP10 a2 a3 a1 σ2 ha2 ha3 ha1 hσ2 h
def LJ7_fill_fda19_46_10 (Q : bS → Prop) (x2 : Int) (x3 : Int) (x4 : Int) (σ : bS) : Prop := ∀ (P10 : Int → Int → Int → bS → Prop), (∀ x2 x3 x4 σ, bJ7_fill_fda19_46_10 Q P10 x2 x3 x4 σ → P10 x2 x3 x4 σ) → P10 x2 x3 x4 σ
theorem LJ7_fill_fda19_46_10_in {Q : bS → Prop} {x2 : Int} {x3 : Int} {x4 : Int} {σ : bS} (h : bJ7_fill_fda19_46_10 Q (LJ7_fill_fda19_46_10 Q) x2 x3 x4 σ) : LJ7_fill_fda19_46_10 Q x2 x3 x4 σ := fun P10 H10 => H10 _ _ _ _ (mono_bJ7_fill_fda19_46_10 (fun _ h => h) (fun _ _ _ _ h => h P10 H10) h)
theorem mono_LJ7_fill_fda19_46_10 {Q Q9 : bS → Prop} {x2 : Int} {x3 : Int} {x4 : Int} {σ : bS} (hQ : ∀ σ, Q σ → Q9 σ) (h : LJ7_fill_fda19_46_10 Q x2 x3 x4 σ) : LJ7_fill_fda19_46_10 Q9 x2 x3 x4 σ := fun P10 H10 => h P10 (fun _ _ _ _ hb => H10 _ _ _ _ (mono_bJ7_fill_fda19_46_10 hQ (fun _ _ _ _ h => h) hb))
def vJ7_fill_fda19_46 (Q : bS → Prop) (a1 : Int) (a2 : Int) (a3 : Int) (σ : bS) : Prop := eJ7_fill_fda19_46 Q (LJ7_fill_fda19_46_10 Q) a1 a2 a3 σ
theorem mono_vJ7_fill_fda19_46 {Q Q9 : bS → Prop} {a1 : Int} {a2 : Int} {a3 : Int} {σ : bS} (hQ : ∀ σ, Q σ → Q9 σ) : vJ7_fill_fda19_46 Q a1 a2 a3 σ → vJ7_fill_fda19_46 Q9 a1 a2 a3 σ := mono_eJ7_fill_fda19_46 hQ (fun _ _ _ _ h => mono_LJ7_fill_fda19_46_10 hQ h)
theorem mono_J7_fill_fda19_46 {Q Q9 : bS → Prop} {a1 : Int} {a2 : Int} {a3 : Int} {σ : bS} (hQ : ∀ σ, Q σ → Q9 σ) : vJ7_fill_fda19_46 Q a1 a2 a3 σ → vJ7_fill_fda19_46 Q9 a1 a2 a3 σ := mono_vJ7_fill_fda19_46 hQ
theorem mJ7_fill_fda19_46 (l : Launch) (G : bG) (σ : bS) (a1 : Int) (ha1 : bR a1) (a2 : Int) (ha2 : bR a2) (a3 : Int) (ha3 : bR a3) {Q : bS → Prop} (h : vJ7_fill_fda19_46 Q a1 a2 a3 σ) : bk_Mv l yJ7_fill_fda19 (Cond.code yJ7_fill_fda19 cJ7_fill_fda19 5 (none) :: bT) { frames := 1, cells := 0, slots := 0, locals := 22 } G σ [.ref (G.2.2 46), .int (bI a1), .int (bI a2), .int (bI a3)] Q := by
  refine bk_Mv.of (cc := cJ7_fill_fda19) (maxL := 5) (ret := none) (by decide) rfl (Nat.le_of_ble_eq_true rfl) ?_
  intro p e s m args below meth c S hr hlk hσ
  let K10 : Int → Int → Int → bS → Prop := fun x2 x3 x4 τ => bR x2 → bR x3 → bR x4 → bRG τ → bA p l e { frames := 1, cells := 0, slots := 0, locals := 22 } s m args below meth c 0 0 (bQv below args s G σ Q) G (va_A (bk_w G σ) s.heap.size) 5 10 [(0, .ref (G.2.2 46)), (2, .int (bI x2)), (3, .int (bI x3)), (4, .int (bI x4))] [] τ
  have C10 : ∀ x2 x3 x4 τ, bJ7_fill_fda19_46_10 Q K10 x2 x3 x4 τ → K10 x2 x3 x4 τ := fun x2 x3 x4 τ hb hx2 hx3 hx4 hτ => wJ7_fill_fda19_46_10 S hr hlk (fun x2 x3 x4 σ hx2 hx3 hx4 hσ h => h hx2 hx3 hx4 hσ) hx2 hx3 hx4 hτ hb
  exact wJ7_fill_fda19_46_e S hr hlk (fun x2 x3 x4 σ hx2 hx3 hx4 hσ h => h K10 C10 hx2 hx3 hx4 hσ) ha1 ha2 ha3 hσ h
def vX7_reach_8 (Q : bS → Prop) (a1 : Int) (σ : bS) : Prop := (∀ σ1 : bS, σ1 = bup σ 8 4 (max (σ 8 4) a1) → (Q σ1))
theorem mono_vX7_reach_8 {Q Q9 : bS → Prop} {a1 : Int} {σ : bS} (hQ : ∀ σ, Q σ → Q9 σ) : vX7_reach_8 Q a1 σ → vX7_reach_8 Q9 a1 σ := (bm_all fun _ => bm_imp (hQ _))
theorem wX7_reach_8_e {p : Program} {l : Launch} {e : Env} {s : State} {m : MethodId} {args : Array Value} {below : List Frame} {meth : Method} {c : Code} {G : bG} {σ0 : bS} {Q : bS → Prop} {a1 : Int} {σ : bS} (S : CallFix p m c cX7_reach 2 s args bT "BankLinker$Report") (hr : meth.sig.returnType = none) (hlk : meth.locks = false) (ha1 : bR a1) (hσ : bRG σ) (h : vX7_reach_8 Q a1 σ) : bA p l e { frames := 1, cells := 0, slots := 0, locals := 21 } s m args below meth c 0 0 (bQv below args s G σ0 Q) G (va_A (bk_w G σ0) s.heap.size) 2 0 [(0, .ref (G.2.2 8)), (1, .int (bI a1))] [] σ := by
  unfold vX7_reach_8 at h
  refine br_aload_n S 0 dX7_reach_0 rfl rfl ?_
  refine br_aload_n S 0 dX7_reach_1 rfl rfl ?_
  refine br_get (f := 4) (N := 6) (C := RX7) (T := TX7) S inT_X7 wd_1_234 (by decide) rfl rfl (by decide) rfl dX7_reach_2 ?_
  refine br_iload_n S 1 dX7_reach_5 rfl rfl ?_
  refine br_max S wd_3_159 wd_max1 wd_max2 wd_max3 (hσ 8 4) ha1 (by decide) (Nat.le_of_ble_eq_true rfl) ⟨by decide, by decide⟩ dX7_reach_6 ?_
  obtain ⟨σ1, e2⟩ : ∃ τ, τ = bup σ 8 4 (max (σ 8 4) a1) := ⟨_, rfl⟩
  replace h := h σ1 e2
  have hσ1 : bRG σ1 := by rw [e2]; exact bup_rg hσ (bR_max (hσ 8 4) ha1)
  refine br_put (f := 4) (N := 6) (C := RX7) (T := TX7) S tyX7 tyX7_ok nmX7 inT_X7 wd_1_234 (by decide) rfl (pf_8_4 _ _ _) rfl (by decide) (Nat.le_of_ble_eq_true rfl) rfl rfl rfl rfl dX7_reach_9 ?_
  refine bA.to rfl rfl e2.symm ?_
  exact br_vret S hr hlk hσ1 dX7_reach_12 h
theorem mono_X7_reach_8 {Q Q9 : bS → Prop} {a1 : Int} {σ : bS} (hQ : ∀ σ, Q σ → Q9 σ) : vX7_reach_8 Q a1 σ → vX7_reach_8 Q9 a1 σ := mono_vX7_reach_8 hQ
theorem mX7_reach_8 (l : Launch) (G : bG) (σ : bS) (a1 : Int) (ha1 : bR a1) {Q : bS → Prop} (h : vX7_reach_8 Q a1 σ) : bk_Mv l yX7_reach (Cond.code yX7_reach cX7_reach 2 (none) :: bT) { frames := 1, cells := 0, slots := 0, locals := 21 } G σ [.ref (G.2.2 8), .int (bI a1)] Q := by
  refine bk_Mv.of (cc := cX7_reach) (maxL := 2) (ret := none) (by decide) rfl (Nat.le_of_ble_eq_true rfl) ?_
  intro p e s m args below meth c S hr hlk hσ
  exact wX7_reach_8_e S hr hlk ha1 hσ h
def vX7_reach_9 (Q : bS → Prop) (a1 : Int) (σ : bS) : Prop := (∀ σ1 : bS, σ1 = bup σ 9 4 (max (σ 9 4) a1) → (Q σ1))
theorem mono_vX7_reach_9 {Q Q9 : bS → Prop} {a1 : Int} {σ : bS} (hQ : ∀ σ, Q σ → Q9 σ) : vX7_reach_9 Q a1 σ → vX7_reach_9 Q9 a1 σ := (bm_all fun _ => bm_imp (hQ _))
theorem wX7_reach_9_e {p : Program} {l : Launch} {e : Env} {s : State} {m : MethodId} {args : Array Value} {below : List Frame} {meth : Method} {c : Code} {G : bG} {σ0 : bS} {Q : bS → Prop} {a1 : Int} {σ : bS} (S : CallFix p m c cX7_reach 2 s args bT "BankLinker$Report") (hr : meth.sig.returnType = none) (hlk : meth.locks = false) (ha1 : bR a1) (hσ : bRG σ) (h : vX7_reach_9 Q a1 σ) : bA p l e { frames := 1, cells := 0, slots := 0, locals := 21 } s m args below meth c 0 0 (bQv below args s G σ0 Q) G (va_A (bk_w G σ0) s.heap.size) 2 0 [(0, .ref (G.2.2 9)), (1, .int (bI a1))] [] σ := by
  unfold vX7_reach_9 at h
  refine br_aload_n S 0 dX7_reach_0 rfl rfl ?_
  refine br_aload_n S 0 dX7_reach_1 rfl rfl ?_
  refine br_get (f := 4) (N := 6) (C := RX7) (T := TX7) S inT_X7 wd_1_234 (by decide) rfl rfl (by decide) rfl dX7_reach_2 ?_
  refine br_iload_n S 1 dX7_reach_5 rfl rfl ?_
  refine br_max S wd_3_159 wd_max1 wd_max2 wd_max3 (hσ 9 4) ha1 (by decide) (Nat.le_of_ble_eq_true rfl) ⟨by decide, by decide⟩ dX7_reach_6 ?_
  obtain ⟨σ1, e2⟩ : ∃ τ, τ = bup σ 9 4 (max (σ 9 4) a1) := ⟨_, rfl⟩
  replace h := h σ1 e2
  have hσ1 : bRG σ1 := by rw [e2]; exact bup_rg hσ (bR_max (hσ 9 4) ha1)
  refine br_put (f := 4) (N := 6) (C := RX7) (T := TX7) S tyX7 tyX7_ok nmX7 inT_X7 wd_1_234 (by decide) rfl (pf_9_4 _ _ _) rfl (by decide) (Nat.le_of_ble_eq_true rfl) rfl rfl rfl rfl dX7_reach_9 ?_
  refine bA.to rfl rfl e2.symm ?_
  exact br_vret S hr hlk hσ1 dX7_reach_12 h
theorem mono_X7_reach_9 {Q Q9 : bS → Prop} {a1 : Int} {σ : bS} (hQ : ∀ σ, Q σ → Q9 σ) : vX7_reach_9 Q a1 σ → vX7_reach_9 Q9 a1 σ := mono_vX7_reach_9 hQ
theorem mX7_reach_9 (l : Launch) (G : bG) (σ : bS) (a1 : Int) (ha1 : bR a1) {Q : bS → Prop} (h : vX7_reach_9 Q a1 σ) : bk_Mv l yX7_reach (Cond.code yX7_reach cX7_reach 2 (none) :: bT) { frames := 1, cells := 0, slots := 0, locals := 21 } G σ [.ref (G.2.2 9), .int (bI a1)] Q := by
  refine bk_Mv.of (cc := cX7_reach) (maxL := 2) (ret := none) (by decide) rfl (Nat.le_of_ble_eq_true rfl) ?_
  intro p e s m args below meth c S hr hlk hσ
  exact wX7_reach_9_e S hr hlk ha1 hσ h
def vX7_add_8 (Q : bS → Prop) (a1 : Int) (σ : bS) : Prop := (∀ σ1 : bS, σ1 = bup σ 8 2 (((σ 8 2) + a1) % 256) → (Q σ1))
theorem mono_vX7_add_8 {Q Q9 : bS → Prop} {a1 : Int} {σ : bS} (hQ : ∀ σ, Q σ → Q9 σ) : vX7_add_8 Q a1 σ → vX7_add_8 Q9 a1 σ := (bm_all fun _ => bm_imp (hQ _))
theorem wX7_add_8_e {p : Program} {l : Launch} {e : Env} {s : State} {m : MethodId} {args : Array Value} {below : List Frame} {meth : Method} {c : Code} {G : bG} {σ0 : bS} {Q : bS → Prop} {a1 : Int} {σ : bS} (S : CallFix p m c cX7_add 2 s args bT "BankLinker$Report") (hr : meth.sig.returnType = none) (hlk : meth.locks = false) (ha1 : bR a1) (hσ : bRG σ) (h : vX7_add_8 Q a1 σ) : bA p l e { frames := 0, cells := 0, slots := 0, locals := 0 } s m args below meth c 0 0 (bQv below args s G σ0 Q) G (va_A (bk_w G σ0) s.heap.size) 2 0 [(0, .ref (G.2.2 8)), (1, .int (bI a1))] [] σ := by
  unfold vX7_add_8 at h
  refine br_aload_n S 0 dX7_add_0 rfl rfl ?_
  refine br_aload_n S 0 dX7_add_1 rfl rfl ?_
  refine br_get (f := 2) (N := 6) (C := RX7) (T := TX7) S inT_X7 wd_1_228 (by decide) rfl rfl (by decide) rfl dX7_add_2 ?_
  refine br_iload_n S 1 dX7_add_5 rfl rfl ?_
  refine br_iadd S dX7_add_6 ?_
  refine br_sipush S dX7_add_7 rfl ?_
  refine br_and255 S dX7_add_10 ?_
  obtain ⟨σ1, e2⟩ : ∃ τ, τ = bup σ 8 2 (((σ 8 2) + a1) % 256) := ⟨_, rfl⟩
  replace h := h σ1 e2
  have hσ1 : bRG σ1 := by rw [e2]; exact bup_rg hσ (bR_mod256 _)
  refine br_put (f := 2) (N := 6) (C := RX7) (T := TX7) S tyX7 tyX7_ok nmX7 inT_X7 wd_1_228 (by decide) rfl (pf_8_2 _ _ _) rfl (by decide) (Nat.le_of_ble_eq_true rfl) rfl rfl rfl rfl dX7_add_11 ?_
  refine bA.to rfl rfl e2.symm ?_
  exact br_vret S hr hlk hσ1 dX7_add_14 h
theorem mono_X7_add_8 {Q Q9 : bS → Prop} {a1 : Int} {σ : bS} (hQ : ∀ σ, Q σ → Q9 σ) : vX7_add_8 Q a1 σ → vX7_add_8 Q9 a1 σ := mono_vX7_add_8 hQ
theorem mX7_add_8 (l : Launch) (G : bG) (σ : bS) (a1 : Int) (ha1 : bR a1) {Q : bS → Prop} (h : vX7_add_8 Q a1 σ) : bk_Mv l yX7_add (Cond.code yX7_add cX7_add 2 (none) :: bT) { frames := 0, cells := 0, slots := 0, locals := 0 } G σ [.ref (G.2.2 8), .int (bI a1)] Q := by
  refine bk_Mv.of (cc := cX7_add) (maxL := 2) (ret := none) (by decide) rfl (Nat.le_of_ble_eq_true rfl) ?_
  intro p e s m args below meth c S hr hlk hσ
  exact wX7_add_8_e S hr hlk ha1 hσ h
def vX7_add_9 (Q : bS → Prop) (a1 : Int) (σ : bS) : Prop := (∀ σ1 : bS, σ1 = bup σ 9 2 (((σ 9 2) + a1) % 256) → (Q σ1))
theorem mono_vX7_add_9 {Q Q9 : bS → Prop} {a1 : Int} {σ : bS} (hQ : ∀ σ, Q σ → Q9 σ) : vX7_add_9 Q a1 σ → vX7_add_9 Q9 a1 σ := (bm_all fun _ => bm_imp (hQ _))
theorem wX7_add_9_e {p : Program} {l : Launch} {e : Env} {s : State} {m : MethodId} {args : Array Value} {below : List Frame} {meth : Method} {c : Code} {G : bG} {σ0 : bS} {Q : bS → Prop} {a1 : Int} {σ : bS} (S : CallFix p m c cX7_add 2 s args bT "BankLinker$Report") (hr : meth.sig.returnType = none) (hlk : meth.locks = false) (ha1 : bR a1) (hσ : bRG σ) (h : vX7_add_9 Q a1 σ) : bA p l e { frames := 0, cells := 0, slots := 0, locals := 0 } s m args below meth c 0 0 (bQv below args s G σ0 Q) G (va_A (bk_w G σ0) s.heap.size) 2 0 [(0, .ref (G.2.2 9)), (1, .int (bI a1))] [] σ := by
  unfold vX7_add_9 at h
  refine br_aload_n S 0 dX7_add_0 rfl rfl ?_
  refine br_aload_n S 0 dX7_add_1 rfl rfl ?_
  refine br_get (f := 2) (N := 6) (C := RX7) (T := TX7) S inT_X7 wd_1_228 (by decide) rfl rfl (by decide) rfl dX7_add_2 ?_
  refine br_iload_n S 1 dX7_add_5 rfl rfl ?_
  refine br_iadd S dX7_add_6 ?_
  refine br_sipush S dX7_add_7 rfl ?_
  refine br_and255 S dX7_add_10 ?_
  obtain ⟨σ1, e2⟩ : ∃ τ, τ = bup σ 9 2 (((σ 9 2) + a1) % 256) := ⟨_, rfl⟩
  replace h := h σ1 e2
  have hσ1 : bRG σ1 := by rw [e2]; exact bup_rg hσ (bR_mod256 _)
  refine br_put (f := 2) (N := 6) (C := RX7) (T := TX7) S tyX7 tyX7_ok nmX7 inT_X7 wd_1_228 (by decide) rfl (pf_9_2 _ _ _) rfl (by decide) (Nat.le_of_ble_eq_true rfl) rfl rfl rfl rfl dX7_add_11 ?_
  refine bA.to rfl rfl e2.symm ?_
  exact br_vret S hr hlk hσ1 dX7_add_14 h
theorem mono_X7_add_9 {Q Q9 : bS → Prop} {a1 : Int} {σ : bS} (hQ : ∀ σ, Q σ → Q9 σ) : vX7_add_9 Q a1 σ → vX7_add_9 Q9 a1 σ := mono_vX7_add_9 hQ
theorem mX7_add_9 (l : Launch) (G : bG) (σ : bS) (a1 : Int) (ha1 : bR a1) {Q : bS → Prop} (h : vX7_add_9 Q a1 σ) : bk_Mv l yX7_add (Cond.code yX7_add cX7_add 2 (none) :: bT) { frames := 0, cells := 0, slots := 0, locals := 0 } G σ [.ref (G.2.2 9), .int (bI a1)] Q := by
  refine bk_Mv.of (cc := cX7_add) (maxL := 2) (ret := none) (by decide) rfl (Nat.le_of_ble_eq_true rfl) ?_
  intro p e s m args below meth c S hr hlk hσ
  exact wX7_add_9_e S hr hlk ha1 hσ h
def vX7_tellA_8_22 (Q : bS → Prop) (σ : bS) : Prop := (bR ((σ 8 3) + 1) ∧ (∀ σ2 : bS, σ2 = bup σ 8 3 ((σ 8 3) + 1) → (Q σ2)))
theorem mono_vX7_tellA_8_22 {Q Q9 : bS → Prop} {σ : bS} (hQ : ∀ σ, Q σ → Q9 σ) : vX7_tellA_8_22 Q σ → vX7_tellA_8_22 Q9 σ := (bm_r (bm_all fun _ => bm_imp (hQ _)))
theorem wX7_tellA_8_22 {p : Program} {l : Launch} {e : Env} {s : State} {m : MethodId} {args : Array Value} {below : List Frame} {meth : Method} {c : Code} {G : bG} {σ0 : bS} {Q : bS → Prop} {σ : bS} (S : CallFix p m c cX7_tellA 1 s args bT "BankLinker$Report") (hr : meth.sig.returnType = none) (hlk : meth.locks = false) (hσ : bRG σ) (h : vX7_tellA_8_22 Q σ) : bA p l e { frames := 0, cells := 0, slots := 0, locals := 0 } s m args below meth c 0 0 (bQv below args s G σ0 Q) G (va_A (bk_w G σ0) s.heap.size) 1 22 [(0, .ref (G.2.2 8))] [] σ := by
  unfold vX7_tellA_8_22 at h
  refine br_aload_n S 0 dX7_tellA_22 rfl rfl ?_
  refine br_dup S dX7_tellA_23 rfl ?_
  refine br_get (f := 3) (N := 6) (C := RX7) (T := TX7) S inT_X7 wd_1_232 (by decide) rfl rfl (by decide) rfl dX7_tellA_24 ?_
  refine br_iconst S dX7_tellA_27 ?_
  refine br_iadd S dX7_tellA_28 ?_
  obtain ⟨g1, h⟩ := h
  obtain ⟨σ2, e3⟩ : ∃ τ, τ = bup σ 8 3 ((σ 8 3) + 1) := ⟨_, rfl⟩
  replace h := h σ2 e3
  have hσ2 : bRG σ2 := by rw [e3]; exact bup_rg hσ g1
  refine br_put (f := 3) (N := 6) (C := RX7) (T := TX7) S tyX7 tyX7_ok nmX7 inT_X7 wd_1_232 (by decide) rfl (pf_8_3 _ _ _) rfl (by decide) (Nat.le_of_ble_eq_true rfl) rfl rfl rfl rfl dX7_tellA_29 ?_
  refine bA.to rfl rfl e3.symm ?_
  exact br_vret S hr hlk hσ2 dX7_tellA_32 h
def vX7_tellA_8 (Q : bS → Prop) (σ : bS) : Prop := ((100 ≤ (σ 8 3) → (vX7_tellA_8_22 Q σ)) ∧ (¬ 100 ≤ (σ 8 3) → ((0 ≤ (σ 8 3) ∧ (σ 8 3) < 100) ∧ (∀ σ3 : bS, σ3 = bup σ 47 (σ 8 3) (σ 8 2) → (vX7_tellA_8_22 Q σ3)))))
theorem mono_vX7_tellA_8 {Q Q9 : bS → Prop} {σ : bS} (hQ : ∀ σ, Q σ → Q9 σ) : vX7_tellA_8 Q σ → vX7_tellA_8 Q9 σ := (bm_and (bm_imp (mono_vX7_tellA_8_22 hQ)) (bm_imp (bm_r (bm_all fun _ => bm_imp (mono_vX7_tellA_8_22 hQ)))))
theorem wX7_tellA_8_e {p : Program} {l : Launch} {e : Env} {s : State} {m : MethodId} {args : Array Value} {below : List Frame} {meth : Method} {c : Code} {G : bG} {σ0 : bS} {Q : bS → Prop} {σ : bS} (S : CallFix p m c cX7_tellA 1 s args bT "BankLinker$Report") (hr : meth.sig.returnType = none) (hlk : meth.locks = false) (hσ : bRG σ) (h : vX7_tellA_8 Q σ) : bA p l e { frames := 0, cells := 0, slots := 0, locals := 0 } s m args below meth c 0 0 (bQv below args s G σ0 Q) G (va_A (bk_w G σ0) s.heap.size) 1 0 [(0, .ref (G.2.2 8))] [] σ := by
  unfold vX7_tellA_8 at h
  refine br_aload_n S 0 dX7_tellA_0 rfl rfl ?_
  refine br_get (f := 3) (N := 6) (C := RX7) (T := TX7) S inT_X7 wd_1_232 (by decide) rfl rfl (by decide) rfl dX7_tellA_1 ?_
  refine br_bipush S dX7_tellA_4 rfl ?_
  refine br_ic_ge S 22 (hσ 8 3) (by decide) dX7_tellA_6 (by decide) (fun c1 => ?_) (fun c1 => ?_)
  · replace h := h.1 c1
    exact wX7_tellA_8_22 S hr hlk hσ h
  · replace h := h.2 c1
    refine br_aload_n S 0 dX7_tellA_9 rfl rfl ?_
    refine br_get (f := 0) (N := 6) (C := RX7) (T := TX7) S inT_X7 wd_1_223 (by decide) rfl rfl (by decide) rfl dX7_tellA_10 ?_
    refine br_aload_n S 0 dX7_tellA_13 rfl rfl ?_
    refine br_get (f := 3) (N := 6) (C := RX7) (T := TX7) S inT_X7 wd_1_232 (by decide) rfl rfl (by decide) rfl dX7_tellA_14 ?_
    refine br_aload_n S 0 dX7_tellA_17 rfl rfl ?_
    refine br_get (f := 2) (N := 6) (C := RX7) (T := TX7) S inT_X7 wd_1_228 (by decide) rfl rfl (by decide) rfl dX7_tellA_18 ?_
    obtain ⟨g2, h⟩ := h
    obtain ⟨σ3, e4⟩ : ∃ τ, τ = bup σ 47 (σ 8 3) (σ 8 2) := ⟨_, rfl⟩
    replace h := h σ3 e4
    have hσ3 : bRG σ3 := by rw [e4]; exact bup_rg hσ (hσ 8 2)
    refine br_iast (n := 100) S ⟨by decide, by decide, fun _ => rfl⟩ g2.1 g2.2 dX7_tellA_21 ?_
    refine bA.to rfl rfl e4.symm ?_
    exact wX7_tellA_8_22 S hr hlk hσ3 h
theorem mono_X7_tellA_8 {Q Q9 : bS → Prop} {σ : bS} (hQ : ∀ σ, Q σ → Q9 σ) : vX7_tellA_8 Q σ → vX7_tellA_8 Q9 σ := mono_vX7_tellA_8 hQ
theorem mX7_tellA_8 (l : Launch) (G : bG) (σ : bS) {Q : bS → Prop} (h : vX7_tellA_8 Q σ) : bk_Mv l yX7_tellA (Cond.code yX7_tellA cX7_tellA 1 (none) :: bT) { frames := 0, cells := 0, slots := 0, locals := 0 } G σ [.ref (G.2.2 8)] Q := by
  refine bk_Mv.of (cc := cX7_tellA) (maxL := 1) (ret := none) (by decide) rfl (Nat.le_of_ble_eq_true rfl) ?_
  intro p e s m args below meth c S hr hlk hσ
  exact wX7_tellA_8_e S hr hlk hσ h
def vX7_tellA_9_22 (Q : bS → Prop) (σ : bS) : Prop := (bR ((σ 9 3) + 1) ∧ (∀ σ2 : bS, σ2 = bup σ 9 3 ((σ 9 3) + 1) → (Q σ2)))
theorem mono_vX7_tellA_9_22 {Q Q9 : bS → Prop} {σ : bS} (hQ : ∀ σ, Q σ → Q9 σ) : vX7_tellA_9_22 Q σ → vX7_tellA_9_22 Q9 σ := (bm_r (bm_all fun _ => bm_imp (hQ _)))
theorem wX7_tellA_9_22 {p : Program} {l : Launch} {e : Env} {s : State} {m : MethodId} {args : Array Value} {below : List Frame} {meth : Method} {c : Code} {G : bG} {σ0 : bS} {Q : bS → Prop} {σ : bS} (S : CallFix p m c cX7_tellA 1 s args bT "BankLinker$Report") (hr : meth.sig.returnType = none) (hlk : meth.locks = false) (hσ : bRG σ) (h : vX7_tellA_9_22 Q σ) : bA p l e { frames := 0, cells := 0, slots := 0, locals := 0 } s m args below meth c 0 0 (bQv below args s G σ0 Q) G (va_A (bk_w G σ0) s.heap.size) 1 22 [(0, .ref (G.2.2 9))] [] σ := by
  unfold vX7_tellA_9_22 at h
  refine br_aload_n S 0 dX7_tellA_22 rfl rfl ?_
  refine br_dup S dX7_tellA_23 rfl ?_
  refine br_get (f := 3) (N := 6) (C := RX7) (T := TX7) S inT_X7 wd_1_232 (by decide) rfl rfl (by decide) rfl dX7_tellA_24 ?_
  refine br_iconst S dX7_tellA_27 ?_
  refine br_iadd S dX7_tellA_28 ?_
  obtain ⟨g1, h⟩ := h
  obtain ⟨σ2, e3⟩ : ∃ τ, τ = bup σ 9 3 ((σ 9 3) + 1) := ⟨_, rfl⟩
  replace h := h σ2 e3
  have hσ2 : bRG σ2 := by rw [e3]; exact bup_rg hσ g1
  refine br_put (f := 3) (N := 6) (C := RX7) (T := TX7) S tyX7 tyX7_ok nmX7 inT_X7 wd_1_232 (by decide) rfl (pf_9_3 _ _ _) rfl (by decide) (Nat.le_of_ble_eq_true rfl) rfl rfl rfl rfl dX7_tellA_29 ?_
  refine bA.to rfl rfl e3.symm ?_
  exact br_vret S hr hlk hσ2 dX7_tellA_32 h
def vX7_tellA_9 (Q : bS → Prop) (σ : bS) : Prop := ((100 ≤ (σ 9 3) → (vX7_tellA_9_22 Q σ)) ∧ (¬ 100 ≤ (σ 9 3) → ((0 ≤ (σ 9 3) ∧ (σ 9 3) < 100) ∧ (∀ σ3 : bS, σ3 = bup σ 48 (σ 9 3) (σ 9 2) → (vX7_tellA_9_22 Q σ3)))))
theorem mono_vX7_tellA_9 {Q Q9 : bS → Prop} {σ : bS} (hQ : ∀ σ, Q σ → Q9 σ) : vX7_tellA_9 Q σ → vX7_tellA_9 Q9 σ := (bm_and (bm_imp (mono_vX7_tellA_9_22 hQ)) (bm_imp (bm_r (bm_all fun _ => bm_imp (mono_vX7_tellA_9_22 hQ)))))
theorem wX7_tellA_9_e {p : Program} {l : Launch} {e : Env} {s : State} {m : MethodId} {args : Array Value} {below : List Frame} {meth : Method} {c : Code} {G : bG} {σ0 : bS} {Q : bS → Prop} {σ : bS} (S : CallFix p m c cX7_tellA 1 s args bT "BankLinker$Report") (hr : meth.sig.returnType = none) (hlk : meth.locks = false) (hσ : bRG σ) (h : vX7_tellA_9 Q σ) : bA p l e { frames := 0, cells := 0, slots := 0, locals := 0 } s m args below meth c 0 0 (bQv below args s G σ0 Q) G (va_A (bk_w G σ0) s.heap.size) 1 0 [(0, .ref (G.2.2 9))] [] σ := by
  unfold vX7_tellA_9 at h
  refine br_aload_n S 0 dX7_tellA_0 rfl rfl ?_
  refine br_get (f := 3) (N := 6) (C := RX7) (T := TX7) S inT_X7 wd_1_232 (by decide) rfl rfl (by decide) rfl dX7_tellA_1 ?_
  refine br_bipush S dX7_tellA_4 rfl ?_
  refine br_ic_ge S 22 (hσ 9 3) (by decide) dX7_tellA_6 (by decide) (fun c1 => ?_) (fun c1 => ?_)
  · replace h := h.1 c1
    exact wX7_tellA_9_22 S hr hlk hσ h
  · replace h := h.2 c1
    refine br_aload_n S 0 dX7_tellA_9 rfl rfl ?_
    refine br_get (f := 0) (N := 6) (C := RX7) (T := TX7) S inT_X7 wd_1_223 (by decide) rfl rfl (by decide) rfl dX7_tellA_10 ?_
    refine br_aload_n S 0 dX7_tellA_13 rfl rfl ?_
    refine br_get (f := 3) (N := 6) (C := RX7) (T := TX7) S inT_X7 wd_1_232 (by decide) rfl rfl (by decide) rfl dX7_tellA_14 ?_
    refine br_aload_n S 0 dX7_tellA_17 rfl rfl ?_
    refine br_get (f := 2) (N := 6) (C := RX7) (T := TX7) S inT_X7 wd_1_228 (by decide) rfl rfl (by decide) rfl dX7_tellA_18 ?_
    obtain ⟨g2, h⟩ := h
    obtain ⟨σ3, e4⟩ : ∃ τ, τ = bup σ 48 (σ 9 3) (σ 9 2) := ⟨_, rfl⟩
    replace h := h σ3 e4
    have hσ3 : bRG σ3 := by rw [e4]; exact bup_rg hσ (hσ 9 2)
    refine br_iast (n := 100) S ⟨by decide, by decide, fun _ => rfl⟩ g2.1 g2.2 dX7_tellA_21 ?_
    refine bA.to rfl rfl e4.symm ?_
    exact wX7_tellA_9_22 S hr hlk hσ3 h
theorem mono_X7_tellA_9 {Q Q9 : bS → Prop} {σ : bS} (hQ : ∀ σ, Q σ → Q9 σ) : vX7_tellA_9 Q σ → vX7_tellA_9 Q9 σ := mono_vX7_tellA_9 hQ
theorem mX7_tellA_9 (l : Launch) (G : bG) (σ : bS) {Q : bS → Prop} (h : vX7_tellA_9 Q σ) : bk_Mv l yX7_tellA (Cond.code yX7_tellA cX7_tellA 1 (none) :: bT) { frames := 0, cells := 0, slots := 0, locals := 0 } G σ [.ref (G.2.2 9)] Q := by
  refine bk_Mv.of (cc := cX7_tellA) (maxL := 1) (ret := none) (by decide) rfl (Nat.le_of_ble_eq_true rfl) ?_
  intro p e s m args below meth c S hr hlk hσ
  exact wX7_tellA_9_e S hr hlk hσ h
def vX7_begin_8 (Q : bS → Prop) (a1 : Int) (σ : bS) : Prop := (∀ σ1 : bS, σ1 = bup σ 8 1 0 → (∀ σ3 : bS, σ3 = bup σ1 8 2 a1 → (∀ σ5 : bS, σ5 = bup σ3 8 3 0 → (∀ σ7 : bS, σ7 = bup σ5 8 4 0 → (∀ σ9 : bS, σ9 = bup σ7 8 5 0 → (Q σ9))))))
theorem mono_vX7_begin_8 {Q Q9 : bS → Prop} {a1 : Int} {σ : bS} (hQ : ∀ σ, Q σ → Q9 σ) : vX7_begin_8 Q a1 σ → vX7_begin_8 Q9 a1 σ := (bm_all fun _ => bm_imp (bm_all fun _ => bm_imp (bm_all fun _ => bm_imp (bm_all fun _ => bm_imp (bm_all fun _ => bm_imp (hQ _))))))
theorem wX7_begin_8_e {p : Program} {l : Launch} {e : Env} {s : State} {m : MethodId} {args : Array Value} {below : List Frame} {meth : Method} {c : Code} {G : bG} {σ0 : bS} {Q : bS → Prop} {a1 : Int} {σ : bS} (S : CallFix p m c cX7_begin 2 s args bT "BankLinker$Report") (hr : meth.sig.returnType = none) (hlk : meth.locks = false) (ha1 : bR a1) (hσ : bRG σ) (h : vX7_begin_8 Q a1 σ) : bA p l e { frames := 0, cells := 0, slots := 0, locals := 0 } s m args below meth c 0 0 (bQv below args s G σ0 Q) G (va_A (bk_w G σ0) s.heap.size) 2 0 [(0, .ref (G.2.2 8)), (1, .int (bI a1))] [] σ := by
  unfold vX7_begin_8 at h
  refine br_aload_n S 0 dX7_begin_0 rfl rfl ?_
  refine br_iconst S dX7_begin_1 ?_
  obtain ⟨σ1, e2⟩ : ∃ τ, τ = bup σ 8 1 0 := ⟨_, rfl⟩
  replace h := h σ1 e2
  have hσ1 : bRG σ1 := by rw [e2]; exact bup_rg hσ (by decide)
  refine br_put (f := 1) (N := 6) (C := RX7) (T := TX7) S tyX7 tyX7_ok nmX7 inT_X7 wd_1_224 (by decide) rfl (pf_8_1 _ _ _) rfl (by decide) (Nat.le_of_ble_eq_true rfl) rfl rfl rfl rfl dX7_begin_2 ?_
  refine bA.to rfl rfl e2.symm ?_
  refine br_aload_n S 0 dX7_begin_5 rfl rfl ?_
  refine br_iload_n S 1 dX7_begin_6 rfl rfl ?_
  obtain ⟨σ3, e4⟩ : ∃ τ, τ = bup σ1 8 2 a1 := ⟨_, rfl⟩
  replace h := h σ3 e4
  have hσ3 : bRG σ3 := by rw [e4]; exact bup_rg hσ1 ha1
  refine br_put (f := 2) (N := 6) (C := RX7) (T := TX7) S tyX7 tyX7_ok nmX7 inT_X7 wd_1_228 (by decide) rfl (pf_8_2 _ _ _) rfl (by decide) (Nat.le_of_ble_eq_true rfl) rfl rfl rfl rfl dX7_begin_7 ?_
  refine bA.to rfl rfl e4.symm ?_
  refine br_aload_n S 0 dX7_begin_10 rfl rfl ?_
  refine br_iconst S dX7_begin_11 ?_
  obtain ⟨σ5, e6⟩ : ∃ τ, τ = bup σ3 8 3 0 := ⟨_, rfl⟩
  replace h := h σ5 e6
  have hσ5 : bRG σ5 := by rw [e6]; exact bup_rg hσ3 (by decide)
  refine br_put (f := 3) (N := 6) (C := RX7) (T := TX7) S tyX7 tyX7_ok nmX7 inT_X7 wd_1_232 (by decide) rfl (pf_8_3 _ _ _) rfl (by decide) (Nat.le_of_ble_eq_true rfl) rfl rfl rfl rfl dX7_begin_12 ?_
  refine bA.to rfl rfl e6.symm ?_
  refine br_aload_n S 0 dX7_begin_15 rfl rfl ?_
  refine br_iconst S dX7_begin_16 ?_
  obtain ⟨σ7, e8⟩ : ∃ τ, τ = bup σ5 8 4 0 := ⟨_, rfl⟩
  replace h := h σ7 e8
  have hσ7 : bRG σ7 := by rw [e8]; exact bup_rg hσ5 (by decide)
  refine br_put (f := 4) (N := 6) (C := RX7) (T := TX7) S tyX7 tyX7_ok nmX7 inT_X7 wd_1_234 (by decide) rfl (pf_8_4 _ _ _) rfl (by decide) (Nat.le_of_ble_eq_true rfl) rfl rfl rfl rfl dX7_begin_17 ?_
  refine bA.to rfl rfl e8.symm ?_
  refine br_aload_n S 0 dX7_begin_20 rfl rfl ?_
  refine br_iconst S dX7_begin_21 ?_
  obtain ⟨σ9, e10⟩ : ∃ τ, τ = bup σ7 8 5 0 := ⟨_, rfl⟩
  replace h := h σ9 e10
  have hσ9 : bRG σ9 := by rw [e10]; exact bup_rg hσ7 (by decide)
  refine br_put (f := 5) (N := 6) (C := RX7) (T := TX7) S tyX7 tyX7_ok nmX7 inT_X7 wd_1_236 (by decide) rfl (pf_8_5 _ _ _) rfl (by decide) (Nat.le_of_ble_eq_true rfl) rfl rfl rfl rfl dX7_begin_22 ?_
  refine bA.to rfl rfl e10.symm ?_
  exact br_vret S hr hlk hσ9 dX7_begin_25 h
theorem mono_X7_begin_8 {Q Q9 : bS → Prop} {a1 : Int} {σ : bS} (hQ : ∀ σ, Q σ → Q9 σ) : vX7_begin_8 Q a1 σ → vX7_begin_8 Q9 a1 σ := mono_vX7_begin_8 hQ
theorem mX7_begin_8 (l : Launch) (G : bG) (σ : bS) (a1 : Int) (ha1 : bR a1) {Q : bS → Prop} (h : vX7_begin_8 Q a1 σ) : bk_Mv l yX7_begin (Cond.code yX7_begin cX7_begin 2 (none) :: bT) { frames := 0, cells := 0, slots := 0, locals := 0 } G σ [.ref (G.2.2 8), .int (bI a1)] Q := by
  refine bk_Mv.of (cc := cX7_begin) (maxL := 2) (ret := none) (by decide) rfl (Nat.le_of_ble_eq_true rfl) ?_
  intro p e s m args below meth c S hr hlk hσ
  exact wX7_begin_8_e S hr hlk ha1 hσ h
def vX7_begin_9 (Q : bS → Prop) (a1 : Int) (σ : bS) : Prop := (∀ σ1 : bS, σ1 = bup σ 9 1 0 → (∀ σ3 : bS, σ3 = bup σ1 9 2 a1 → (∀ σ5 : bS, σ5 = bup σ3 9 3 0 → (∀ σ7 : bS, σ7 = bup σ5 9 4 0 → (∀ σ9 : bS, σ9 = bup σ7 9 5 0 → (Q σ9))))))
theorem mono_vX7_begin_9 {Q Q9 : bS → Prop} {a1 : Int} {σ : bS} (hQ : ∀ σ, Q σ → Q9 σ) : vX7_begin_9 Q a1 σ → vX7_begin_9 Q9 a1 σ := (bm_all fun _ => bm_imp (bm_all fun _ => bm_imp (bm_all fun _ => bm_imp (bm_all fun _ => bm_imp (bm_all fun _ => bm_imp (hQ _))))))
theorem wX7_begin_9_e {p : Program} {l : Launch} {e : Env} {s : State} {m : MethodId} {args : Array Value} {below : List Frame} {meth : Method} {c : Code} {G : bG} {σ0 : bS} {Q : bS → Prop} {a1 : Int} {σ : bS} (S : CallFix p m c cX7_begin 2 s args bT "BankLinker$Report") (hr : meth.sig.returnType = none) (hlk : meth.locks = false) (ha1 : bR a1) (hσ : bRG σ) (h : vX7_begin_9 Q a1 σ) : bA p l e { frames := 0, cells := 0, slots := 0, locals := 0 } s m args below meth c 0 0 (bQv below args s G σ0 Q) G (va_A (bk_w G σ0) s.heap.size) 2 0 [(0, .ref (G.2.2 9)), (1, .int (bI a1))] [] σ := by
  unfold vX7_begin_9 at h
  refine br_aload_n S 0 dX7_begin_0 rfl rfl ?_
  refine br_iconst S dX7_begin_1 ?_
  obtain ⟨σ1, e2⟩ : ∃ τ, τ = bup σ 9 1 0 := ⟨_, rfl⟩
  replace h := h σ1 e2
  have hσ1 : bRG σ1 := by rw [e2]; exact bup_rg hσ (by decide)
  refine br_put (f := 1) (N := 6) (C := RX7) (T := TX7) S tyX7 tyX7_ok nmX7 inT_X7 wd_1_224 (by decide) rfl (pf_9_1 _ _ _) rfl (by decide) (Nat.le_of_ble_eq_true rfl) rfl rfl rfl rfl dX7_begin_2 ?_
  refine bA.to rfl rfl e2.symm ?_
  refine br_aload_n S 0 dX7_begin_5 rfl rfl ?_
  refine br_iload_n S 1 dX7_begin_6 rfl rfl ?_
  obtain ⟨σ3, e4⟩ : ∃ τ, τ = bup σ1 9 2 a1 := ⟨_, rfl⟩
  replace h := h σ3 e4
  have hσ3 : bRG σ3 := by rw [e4]; exact bup_rg hσ1 ha1
  refine br_put (f := 2) (N := 6) (C := RX7) (T := TX7) S tyX7 tyX7_ok nmX7 inT_X7 wd_1_228 (by decide) rfl (pf_9_2 _ _ _) rfl (by decide) (Nat.le_of_ble_eq_true rfl) rfl rfl rfl rfl dX7_begin_7 ?_
  refine bA.to rfl rfl e4.symm ?_
  refine br_aload_n S 0 dX7_begin_10 rfl rfl ?_
  refine br_iconst S dX7_begin_11 ?_
  obtain ⟨σ5, e6⟩ : ∃ τ, τ = bup σ3 9 3 0 := ⟨_, rfl⟩
  replace h := h σ5 e6
  have hσ5 : bRG σ5 := by rw [e6]; exact bup_rg hσ3 (by decide)
  refine br_put (f := 3) (N := 6) (C := RX7) (T := TX7) S tyX7 tyX7_ok nmX7 inT_X7 wd_1_232 (by decide) rfl (pf_9_3 _ _ _) rfl (by decide) (Nat.le_of_ble_eq_true rfl) rfl rfl rfl rfl dX7_begin_12 ?_
  refine bA.to rfl rfl e6.symm ?_
  refine br_aload_n S 0 dX7_begin_15 rfl rfl ?_
  refine br_iconst S dX7_begin_16 ?_
  obtain ⟨σ7, e8⟩ : ∃ τ, τ = bup σ5 9 4 0 := ⟨_, rfl⟩
  replace h := h σ7 e8
  have hσ7 : bRG σ7 := by rw [e8]; exact bup_rg hσ5 (by decide)
  refine br_put (f := 4) (N := 6) (C := RX7) (T := TX7) S tyX7 tyX7_ok nmX7 inT_X7 wd_1_234 (by decide) rfl (pf_9_4 _ _ _) rfl (by decide) (Nat.le_of_ble_eq_true rfl) rfl rfl rfl rfl dX7_begin_17 ?_
  refine bA.to rfl rfl e8.symm ?_
  refine br_aload_n S 0 dX7_begin_20 rfl rfl ?_
  refine br_iconst S dX7_begin_21 ?_
  obtain ⟨σ9, e10⟩ : ∃ τ, τ = bup σ7 9 5 0 := ⟨_, rfl⟩
  replace h := h σ9 e10
  have hσ9 : bRG σ9 := by rw [e10]; exact bup_rg hσ7 (by decide)
  refine br_put (f := 5) (N := 6) (C := RX7) (T := TX7) S tyX7 tyX7_ok nmX7 inT_X7 wd_1_236 (by decide) rfl (pf_9_5 _ _ _) rfl (by decide) (Nat.le_of_ble_eq_true rfl) rfl rfl rfl rfl dX7_begin_22 ?_
  refine bA.to rfl rfl e10.symm ?_
  exact br_vret S hr hlk hσ9 dX7_begin_25 h
theorem mono_X7_begin_9 {Q Q9 : bS → Prop} {a1 : Int} {σ : bS} (hQ : ∀ σ, Q σ → Q9 σ) : vX7_begin_9 Q a1 σ → vX7_begin_9 Q9 a1 σ := mono_vX7_begin_9 hQ
theorem mX7_begin_9 (l : Launch) (G : bG) (σ : bS) (a1 : Int) (ha1 : bR a1) {Q : bS → Prop} (h : vX7_begin_9 Q a1 σ) : bk_Mv l yX7_begin (Cond.code yX7_begin cX7_begin 2 (none) :: bT) { frames := 0, cells := 0, slots := 0, locals := 0 } G σ [.ref (G.2.2 9), .int (bI a1)] Q := by
  refine bk_Mv.of (cc := cX7_begin) (maxL := 2) (ret := none) (by decide) rfl (Nat.le_of_ble_eq_true rfl) ?_
  intro p e s m args below meth c S hr hlk hσ
  exact wX7_begin_9_e S hr hlk ha1 hσ h
def bJ7_fill_53178_26_5 (Q : bS → Prop) (P5 : Int → Int → Int → bS → Prop) (x1 : Int) (x2 : Int) (x3 : Int) (σ : bS) : Prop := ((x3 ≤ x2 → (Q σ)) ∧ (¬ x3 ≤ x2 → ((0 ≤ x2 ∧ x2 < 30) ∧ (∀ σ3 : bS, σ3 = bup σ 26 x2 x1 → (bR (x2 + 1) ∧ (P5 x1 (x2 + 1) x3 σ3))))))
theorem mono_bJ7_fill_53178_26_5 {Q Q9 : bS → Prop} {P5 P59 : Int → Int → Int → bS → Prop} {x1 : Int} {x2 : Int} {x3 : Int} {σ : bS} (hQ : ∀ σ, Q σ → Q9 σ) (hP5 : ∀ x1 x2 x3 σ, P5 x1 x2 x3 σ → P59 x1 x2 x3 σ) : bJ7_fill_53178_26_5 Q P5 x1 x2 x3 σ → bJ7_fill_53178_26_5 Q9 P59 x1 x2 x3 σ := (bm_and (bm_imp (hQ _)) (bm_imp (bm_r (bm_all fun _ => bm_imp (bm_r (hP5 _ _ _ _))))))
theorem wJ7_fill_53178_26_5 {p : Program} {l : Launch} {e : Env} {s : State} {m : MethodId} {args : Array Value} {below : List Frame} {meth : Method} {c : Code} {G : bG} {σ0 : bS} {Q : bS → Prop} {P5 : Int → Int → Int → bS → Prop} {x1 : Int} {x2 : Int} {x3 : Int} {σ : bS} (S : CallFix p m c cJ7_fill_53178 4 s args bT "java/util/Arrays") (hr : meth.sig.returnType = none) (hlk : meth.locks = false) (hP5 : ∀ (x1 : Int) (x2 : Int) (x3 : Int) (σ : bS), bR x1 → bR x2 → bR x3 → bRG σ → P5 x1 x2 x3 σ → bA p l e { frames := 0, cells := 0, slots := 0, locals := 0 } s m args below meth c 0 0 (bQv below args s G σ0 Q) G (va_A (bk_w G σ0) s.heap.size) 4 5 [(0, .ref (G.2.2 26)), (1, .int (bI x1)), (2, .int (bI x2)), (3, .int (bI x3))] [] σ) (hx1 : bR x1) (hx2 : bR x2) (hx3 : bR x3) (hσ : bRG σ) (h : bJ7_fill_53178_26_5 Q P5 x1 x2 x3 σ) : bA p l e { frames := 0, cells := 0, slots := 0, locals := 0 } s m args below meth c 0 0 (bQv below args s G σ0 Q) G (va_A (bk_w G σ0) s.heap.size) 4 5 [(0, .ref (G.2.2 26)), (1, .int (bI x1)), (2, .int (bI x2)), (3, .int (bI x3))] [] σ := by
  unfold bJ7_fill_53178_26_5 at h
  refine br_iload_n S 2 dJ7_fill_53178_5 rfl rfl ?_
  refine br_iload_n S 3 dJ7_fill_53178_6 rfl rfl ?_
  refine br_ic_ge S 20 hx2 hx3 dJ7_fill_53178_7 (by decide) (fun c1 => ?_) (fun c1 => ?_)
  · replace h := h.1 c1
    exact br_vret S hr hlk hσ dJ7_fill_53178_20 h
  · replace h := h.2 c1
    refine br_aload_n S 0 dJ7_fill_53178_10 rfl rfl ?_
    refine br_iload_n S 2 dJ7_fill_53178_11 rfl rfl ?_
    refine br_iload_n S 1 dJ7_fill_53178_12 rfl rfl ?_
    obtain ⟨g2, h⟩ := h
    obtain ⟨σ3, e4⟩ : ∃ τ, τ = bup σ 26 x2 x1 := ⟨_, rfl⟩
    replace h := h σ3 e4
    have hσ3 : bRG σ3 := by rw [e4]; exact bup_rg hσ hx1
    refine br_iast (n := 30) S ⟨by decide, by decide, fun _ => rfl⟩ g2.1 g2.2 dJ7_fill_53178_13 ?_
    refine bA.to rfl rfl e4.symm ?_
    refine br_iinc S 2 [(2, .int (bI (x2 + 1))), (0, .ref (G.2.2 26)), (1, .int (bI x1)), (3, .int (bI x3))] dJ7_fill_53178_14 rfl (by decide) rfl ?_
    refine br_goto S 5 dJ7_fill_53178_17 (by decide) ?_
    obtain ⟨g5, h⟩ := h
    exact bA.perm [1, 2, 0, 3] rfl <| hP5 x1 (x2 + 1) x3 σ3 hx1 g5 hx3 hσ3 h
def eJ7_fill_53178_26 (Q : bS → Prop) (P5 : Int → Int → Int → bS → Prop) (a1 : Int) (σ : bS) : Prop := (P5 a1 0 30 σ)
theorem mono_eJ7_fill_53178_26 {Q Q9 : bS → Prop} {P5 P59 : Int → Int → Int → bS → Prop} {a1 : Int} {σ : bS} (hQ : ∀ σ, Q σ → Q9 σ) (hP5 : ∀ x1 x2 x3 σ, P5 x1 x2 x3 σ → P59 x1 x2 x3 σ) : eJ7_fill_53178_26 Q P5 a1 σ → eJ7_fill_53178_26 Q9 P59 a1 σ := (hP5 _ _ _ _)
theorem wJ7_fill_53178_26_e {p : Program} {l : Launch} {e : Env} {s : State} {m : MethodId} {args : Array Value} {below : List Frame} {meth : Method} {c : Code} {G : bG} {σ0 : bS} {Q : bS → Prop} {P5 : Int → Int → Int → bS → Prop} {a1 : Int} {σ : bS} (S : CallFix p m c cJ7_fill_53178 4 s args bT "java/util/Arrays") (hr : meth.sig.returnType = none) (hlk : meth.locks = false) (hP5 : ∀ (x1 : Int) (x2 : Int) (x3 : Int) (σ : bS), bR x1 → bR x2 → bR x3 → bRG σ → P5 x1 x2 x3 σ → bA p l e { frames := 0, cells := 0, slots := 0, locals := 0 } s m args below meth c 0 0 (bQv below args s G σ0 Q) G (va_A (bk_w G σ0) s.heap.size) 4 5 [(0, .ref (G.2.2 26)), (1, .int (bI x1)), (2, .int (bI x2)), (3, .int (bI x3))] [] σ) (ha1 : bR a1) (hσ : bRG σ) (h : eJ7_fill_53178_26 Q P5 a1 σ) : bA p l e { frames := 0, cells := 0, slots := 0, locals := 0 } s m args below meth c 0 0 (bQv below args s G σ0 Q) G (va_A (bk_w G σ0) s.heap.size) 4 0 [(0, .ref (G.2.2 26)), (1, .int (bI a1))] [] σ := by
  unfold eJ7_fill_53178_26 at h
  refine br_iconst S dJ7_fill_53178_0 ?_
  refine br_istore_n S [(2, .int (bI 0)), (0, .ref (G.2.2 26)), (1, .int (bI a1))] dJ7_fill_53178_1 rfl (by decide) rfl ?_
  refine br_aload_n S 1 dJ7_fill_53178_2 rfl rfl ?_
  refine br_alen (n := 30) S ⟨by decide, by decide, fun _ => rfl⟩ dJ7_fill_53178_3 ?_
  refine bA.to (st' := .int (bI 30) :: _) rfl rfl rfl ?_
  refine br_istore_n S [(3, .int (bI 30)), (2, .int (bI 0)), (0, .ref (G.2.2 26)), (1, .int (bI a1))] dJ7_fill_53178_4 rfl (by decide) rfl ?_
  exact bA.perm [2, 3, 1, 0] rfl <| hP5 a1 0 30 σ ha1 (by decide) (by decide) hσ h
def LJ7_fill_53178_26_5 (Q : bS → Prop) (x1 : Int) (x2 : Int) (x3 : Int) (σ : bS) : Prop := ∀ (P5 : Int → Int → Int → bS → Prop), (∀ x1 x2 x3 σ, bJ7_fill_53178_26_5 Q P5 x1 x2 x3 σ → P5 x1 x2 x3 σ) → P5 x1 x2 x3 σ
theorem LJ7_fill_53178_26_5_in {Q : bS → Prop} {x1 : Int} {x2 : Int} {x3 : Int} {σ : bS} (h : bJ7_fill_53178_26_5 Q (LJ7_fill_53178_26_5 Q) x1 x2 x3 σ) : LJ7_fill_53178_26_5 Q x1 x2 x3 σ := fun P5 H5 => H5 _ _ _ _ (mono_bJ7_fill_53178_26_5 (fun _ h => h) (fun _ _ _ _ h => h P5 H5) h)
theorem mono_LJ7_fill_53178_26_5 {Q Q9 : bS → Prop} {x1 : Int} {x2 : Int} {x3 : Int} {σ : bS} (hQ : ∀ σ, Q σ → Q9 σ) (h : LJ7_fill_53178_26_5 Q x1 x2 x3 σ) : LJ7_fill_53178_26_5 Q9 x1 x2 x3 σ := fun P5 H5 => h P5 (fun _ _ _ _ hb => H5 _ _ _ _ (mono_bJ7_fill_53178_26_5 hQ (fun _ _ _ _ h => h) hb))
def vJ7_fill_53178_26 (Q : bS → Prop) (a1 : Int) (σ : bS) : Prop := eJ7_fill_53178_26 Q (LJ7_fill_53178_26_5 Q) a1 σ
theorem mono_vJ7_fill_53178_26 {Q Q9 : bS → Prop} {a1 : Int} {σ : bS} (hQ : ∀ σ, Q σ → Q9 σ) : vJ7_fill_53178_26 Q a1 σ → vJ7_fill_53178_26 Q9 a1 σ := mono_eJ7_fill_53178_26 hQ (fun _ _ _ _ h => mono_LJ7_fill_53178_26_5 hQ h)
theorem mono_J7_fill_53178_26 {Q Q9 : bS → Prop} {a1 : Int} {σ : bS} (hQ : ∀ σ, Q σ → Q9 σ) : vJ7_fill_53178_26 Q a1 σ → vJ7_fill_53178_26 Q9 a1 σ := mono_vJ7_fill_53178_26 hQ
theorem mJ7_fill_53178_26 (l : Launch) (G : bG) (σ : bS) (a1 : Int) (ha1 : bR a1) {Q : bS → Prop} (h : vJ7_fill_53178_26 Q a1 σ) : bk_Mv l yJ7_fill_53178 (Cond.code yJ7_fill_53178 cJ7_fill_53178 4 (none) :: bT) { frames := 0, cells := 0, slots := 0, locals := 0 } G σ [.ref (G.2.2 26), .int (bI a1)] Q := by
  refine bk_Mv.of (cc := cJ7_fill_53178) (maxL := 4) (ret := none) (by decide) rfl (Nat.le_of_ble_eq_true rfl) ?_
  intro p e s m args below meth c S hr hlk hσ
  let K5 : Int → Int → Int → bS → Prop := fun x1 x2 x3 τ => bR x1 → bR x2 → bR x3 → bRG τ → bA p l e { frames := 0, cells := 0, slots := 0, locals := 0 } s m args below meth c 0 0 (bQv below args s G σ Q) G (va_A (bk_w G σ) s.heap.size) 4 5 [(0, .ref (G.2.2 26)), (1, .int (bI x1)), (2, .int (bI x2)), (3, .int (bI x3))] [] τ
  have C5 : ∀ x1 x2 x3 τ, bJ7_fill_53178_26_5 Q K5 x1 x2 x3 τ → K5 x1 x2 x3 τ := fun x1 x2 x3 τ hb hx1 hx2 hx3 hτ => wJ7_fill_53178_26_5 S hr hlk (fun x1 x2 x3 σ hx1 hx2 hx3 hσ h => h hx1 hx2 hx3 hσ) hx1 hx2 hx3 hτ hb
  exact wJ7_fill_53178_26_e S hr hlk (fun x1 x2 x3 σ hx1 hx2 hx3 hσ h => h K5 C5 hx1 hx2 hx3 hσ) ha1 hσ h
def bJ7_fill_53178_27_5 (Q : bS → Prop) (P5 : Int → Int → Int → bS → Prop) (x1 : Int) (x2 : Int) (x3 : Int) (σ : bS) : Prop := ((x3 ≤ x2 → (Q σ)) ∧ (¬ x3 ≤ x2 → ((0 ≤ x2 ∧ x2 < 30) ∧ (∀ σ3 : bS, σ3 = bup σ 27 x2 x1 → (bR (x2 + 1) ∧ (P5 x1 (x2 + 1) x3 σ3))))))
theorem mono_bJ7_fill_53178_27_5 {Q Q9 : bS → Prop} {P5 P59 : Int → Int → Int → bS → Prop} {x1 : Int} {x2 : Int} {x3 : Int} {σ : bS} (hQ : ∀ σ, Q σ → Q9 σ) (hP5 : ∀ x1 x2 x3 σ, P5 x1 x2 x3 σ → P59 x1 x2 x3 σ) : bJ7_fill_53178_27_5 Q P5 x1 x2 x3 σ → bJ7_fill_53178_27_5 Q9 P59 x1 x2 x3 σ := (bm_and (bm_imp (hQ _)) (bm_imp (bm_r (bm_all fun _ => bm_imp (bm_r (hP5 _ _ _ _))))))
theorem wJ7_fill_53178_27_5 {p : Program} {l : Launch} {e : Env} {s : State} {m : MethodId} {args : Array Value} {below : List Frame} {meth : Method} {c : Code} {G : bG} {σ0 : bS} {Q : bS → Prop} {P5 : Int → Int → Int → bS → Prop} {x1 : Int} {x2 : Int} {x3 : Int} {σ : bS} (S : CallFix p m c cJ7_fill_53178 4 s args bT "java/util/Arrays") (hr : meth.sig.returnType = none) (hlk : meth.locks = false) (hP5 : ∀ (x1 : Int) (x2 : Int) (x3 : Int) (σ : bS), bR x1 → bR x2 → bR x3 → bRG σ → P5 x1 x2 x3 σ → bA p l e { frames := 0, cells := 0, slots := 0, locals := 0 } s m args below meth c 0 0 (bQv below args s G σ0 Q) G (va_A (bk_w G σ0) s.heap.size) 4 5 [(0, .ref (G.2.2 27)), (1, .int (bI x1)), (2, .int (bI x2)), (3, .int (bI x3))] [] σ) (hx1 : bR x1) (hx2 : bR x2) (hx3 : bR x3) (hσ : bRG σ) (h : bJ7_fill_53178_27_5 Q P5 x1 x2 x3 σ) : bA p l e { frames := 0, cells := 0, slots := 0, locals := 0 } s m args below meth c 0 0 (bQv below args s G σ0 Q) G (va_A (bk_w G σ0) s.heap.size) 4 5 [(0, .ref (G.2.2 27)), (1, .int (bI x1)), (2, .int (bI x2)), (3, .int (bI x3))] [] σ := by
  unfold bJ7_fill_53178_27_5 at h
  refine br_iload_n S 2 dJ7_fill_53178_5 rfl rfl ?_
  refine br_iload_n S 3 dJ7_fill_53178_6 rfl rfl ?_
  refine br_ic_ge S 20 hx2 hx3 dJ7_fill_53178_7 (by decide) (fun c1 => ?_) (fun c1 => ?_)
  · replace h := h.1 c1
    exact br_vret S hr hlk hσ dJ7_fill_53178_20 h
  · replace h := h.2 c1
    refine br_aload_n S 0 dJ7_fill_53178_10 rfl rfl ?_
    refine br_iload_n S 2 dJ7_fill_53178_11 rfl rfl ?_
    refine br_iload_n S 1 dJ7_fill_53178_12 rfl rfl ?_
    obtain ⟨g2, h⟩ := h
    obtain ⟨σ3, e4⟩ : ∃ τ, τ = bup σ 27 x2 x1 := ⟨_, rfl⟩
    replace h := h σ3 e4
    have hσ3 : bRG σ3 := by rw [e4]; exact bup_rg hσ hx1
    refine br_iast (n := 30) S ⟨by decide, by decide, fun _ => rfl⟩ g2.1 g2.2 dJ7_fill_53178_13 ?_
    refine bA.to rfl rfl e4.symm ?_
    refine br_iinc S 2 [(2, .int (bI (x2 + 1))), (0, .ref (G.2.2 27)), (1, .int (bI x1)), (3, .int (bI x3))] dJ7_fill_53178_14 rfl (by decide) rfl ?_
    refine br_goto S 5 dJ7_fill_53178_17 (by decide) ?_
    obtain ⟨g5, h⟩ := h
    exact bA.perm [1, 2, 0, 3] rfl <| hP5 x1 (x2 + 1) x3 σ3 hx1 g5 hx3 hσ3 h
def eJ7_fill_53178_27 (Q : bS → Prop) (P5 : Int → Int → Int → bS → Prop) (a1 : Int) (σ : bS) : Prop := (P5 a1 0 30 σ)
theorem mono_eJ7_fill_53178_27 {Q Q9 : bS → Prop} {P5 P59 : Int → Int → Int → bS → Prop} {a1 : Int} {σ : bS} (hQ : ∀ σ, Q σ → Q9 σ) (hP5 : ∀ x1 x2 x3 σ, P5 x1 x2 x3 σ → P59 x1 x2 x3 σ) : eJ7_fill_53178_27 Q P5 a1 σ → eJ7_fill_53178_27 Q9 P59 a1 σ := (hP5 _ _ _ _)
theorem wJ7_fill_53178_27_e {p : Program} {l : Launch} {e : Env} {s : State} {m : MethodId} {args : Array Value} {below : List Frame} {meth : Method} {c : Code} {G : bG} {σ0 : bS} {Q : bS → Prop} {P5 : Int → Int → Int → bS → Prop} {a1 : Int} {σ : bS} (S : CallFix p m c cJ7_fill_53178 4 s args bT "java/util/Arrays") (hr : meth.sig.returnType = none) (hlk : meth.locks = false) (hP5 : ∀ (x1 : Int) (x2 : Int) (x3 : Int) (σ : bS), bR x1 → bR x2 → bR x3 → bRG σ → P5 x1 x2 x3 σ → bA p l e { frames := 0, cells := 0, slots := 0, locals := 0 } s m args below meth c 0 0 (bQv below args s G σ0 Q) G (va_A (bk_w G σ0) s.heap.size) 4 5 [(0, .ref (G.2.2 27)), (1, .int (bI x1)), (2, .int (bI x2)), (3, .int (bI x3))] [] σ) (ha1 : bR a1) (hσ : bRG σ) (h : eJ7_fill_53178_27 Q P5 a1 σ) : bA p l e { frames := 0, cells := 0, slots := 0, locals := 0 } s m args below meth c 0 0 (bQv below args s G σ0 Q) G (va_A (bk_w G σ0) s.heap.size) 4 0 [(0, .ref (G.2.2 27)), (1, .int (bI a1))] [] σ := by
  unfold eJ7_fill_53178_27 at h
  refine br_iconst S dJ7_fill_53178_0 ?_
  refine br_istore_n S [(2, .int (bI 0)), (0, .ref (G.2.2 27)), (1, .int (bI a1))] dJ7_fill_53178_1 rfl (by decide) rfl ?_
  refine br_aload_n S 1 dJ7_fill_53178_2 rfl rfl ?_
  refine br_alen (n := 30) S ⟨by decide, by decide, fun _ => rfl⟩ dJ7_fill_53178_3 ?_
  refine bA.to (st' := .int (bI 30) :: _) rfl rfl rfl ?_
  refine br_istore_n S [(3, .int (bI 30)), (2, .int (bI 0)), (0, .ref (G.2.2 27)), (1, .int (bI a1))] dJ7_fill_53178_4 rfl (by decide) rfl ?_
  exact bA.perm [2, 3, 1, 0] rfl <| hP5 a1 0 30 σ ha1 (by decide) (by decide) hσ h
def LJ7_fill_53178_27_5 (Q : bS → Prop) (x1 : Int) (x2 : Int) (x3 : Int) (σ : bS) : Prop := ∀ (P5 : Int → Int → Int → bS → Prop), (∀ x1 x2 x3 σ, bJ7_fill_53178_27_5 Q P5 x1 x2 x3 σ → P5 x1 x2 x3 σ) → P5 x1 x2 x3 σ
theorem LJ7_fill_53178_27_5_in {Q : bS → Prop} {x1 : Int} {x2 : Int} {x3 : Int} {σ : bS} (h : bJ7_fill_53178_27_5 Q (LJ7_fill_53178_27_5 Q) x1 x2 x3 σ) : LJ7_fill_53178_27_5 Q x1 x2 x3 σ := fun P5 H5 => H5 _ _ _ _ (mono_bJ7_fill_53178_27_5 (fun _ h => h) (fun _ _ _ _ h => h P5 H5) h)
theorem mono_LJ7_fill_53178_27_5 {Q Q9 : bS → Prop} {x1 : Int} {x2 : Int} {x3 : Int} {σ : bS} (hQ : ∀ σ, Q σ → Q9 σ) (h : LJ7_fill_53178_27_5 Q x1 x2 x3 σ) : LJ7_fill_53178_27_5 Q9 x1 x2 x3 σ := fun P5 H5 => h P5 (fun _ _ _ _ hb => H5 _ _ _ _ (mono_bJ7_fill_53178_27_5 hQ (fun _ _ _ _ h => h) hb))
def vJ7_fill_53178_27 (Q : bS → Prop) (a1 : Int) (σ : bS) : Prop := eJ7_fill_53178_27 Q (LJ7_fill_53178_27_5 Q) a1 σ
theorem mono_vJ7_fill_53178_27 {Q Q9 : bS → Prop} {a1 : Int} {σ : bS} (hQ : ∀ σ, Q σ → Q9 σ) : vJ7_fill_53178_27 Q a1 σ → vJ7_fill_53178_27 Q9 a1 σ := mono_eJ7_fill_53178_27 hQ (fun _ _ _ _ h => mono_LJ7_fill_53178_27_5 hQ h)
theorem mono_J7_fill_53178_27 {Q Q9 : bS → Prop} {a1 : Int} {σ : bS} (hQ : ∀ σ, Q σ → Q9 σ) : vJ7_fill_53178_27 Q a1 σ → vJ7_fill_53178_27 Q9 a1 σ := mono_vJ7_fill_53178_27 hQ
theorem mJ7_fill_53178_27 (l : Launch) (G : bG) (σ : bS) (a1 : Int) (ha1 : bR a1) {Q : bS → Prop} (h : vJ7_fill_53178_27 Q a1 σ) : bk_Mv l yJ7_fill_53178 (Cond.code yJ7_fill_53178 cJ7_fill_53178 4 (none) :: bT) { frames := 0, cells := 0, slots := 0, locals := 0 } G σ [.ref (G.2.2 27), .int (bI a1)] Q := by
  refine bk_Mv.of (cc := cJ7_fill_53178) (maxL := 4) (ret := none) (by decide) rfl (Nat.le_of_ble_eq_true rfl) ?_
  intro p e s m args below meth c S hr hlk hσ
  let K5 : Int → Int → Int → bS → Prop := fun x1 x2 x3 τ => bR x1 → bR x2 → bR x3 → bRG τ → bA p l e { frames := 0, cells := 0, slots := 0, locals := 0 } s m args below meth c 0 0 (bQv below args s G σ Q) G (va_A (bk_w G σ) s.heap.size) 4 5 [(0, .ref (G.2.2 27)), (1, .int (bI x1)), (2, .int (bI x2)), (3, .int (bI x3))] [] τ
  have C5 : ∀ x1 x2 x3 τ, bJ7_fill_53178_27_5 Q K5 x1 x2 x3 τ → K5 x1 x2 x3 τ := fun x1 x2 x3 τ hb hx1 hx2 hx3 hτ => wJ7_fill_53178_27_5 S hr hlk (fun x1 x2 x3 σ hx1 hx2 hx3 hσ h => h hx1 hx2 hx3 hσ) hx1 hx2 hx3 hτ hb
  exact wJ7_fill_53178_27_e S hr hlk (fun x1 x2 x3 σ hx1 hx2 hx3 hσ h => h K5 C5 hx1 hx2 hx3 hσ) ha1 hσ h
def bJ7_fill_53178_28_5 (Q : bS → Prop) (P5 : Int → Int → Int → bS → Prop) (x1 : Int) (x2 : Int) (x3 : Int) (σ : bS) : Prop := ((x3 ≤ x2 → (Q σ)) ∧ (¬ x3 ≤ x2 → ((0 ≤ x2 ∧ x2 < 12) ∧ (∀ σ3 : bS, σ3 = bup σ 28 x2 x1 → (bR (x2 + 1) ∧ (P5 x1 (x2 + 1) x3 σ3))))))
theorem mono_bJ7_fill_53178_28_5 {Q Q9 : bS → Prop} {P5 P59 : Int → Int → Int → bS → Prop} {x1 : Int} {x2 : Int} {x3 : Int} {σ : bS} (hQ : ∀ σ, Q σ → Q9 σ) (hP5 : ∀ x1 x2 x3 σ, P5 x1 x2 x3 σ → P59 x1 x2 x3 σ) : bJ7_fill_53178_28_5 Q P5 x1 x2 x3 σ → bJ7_fill_53178_28_5 Q9 P59 x1 x2 x3 σ := (bm_and (bm_imp (hQ _)) (bm_imp (bm_r (bm_all fun _ => bm_imp (bm_r (hP5 _ _ _ _))))))
theorem wJ7_fill_53178_28_5 {p : Program} {l : Launch} {e : Env} {s : State} {m : MethodId} {args : Array Value} {below : List Frame} {meth : Method} {c : Code} {G : bG} {σ0 : bS} {Q : bS → Prop} {P5 : Int → Int → Int → bS → Prop} {x1 : Int} {x2 : Int} {x3 : Int} {σ : bS} (S : CallFix p m c cJ7_fill_53178 4 s args bT "java/util/Arrays") (hr : meth.sig.returnType = none) (hlk : meth.locks = false) (hP5 : ∀ (x1 : Int) (x2 : Int) (x3 : Int) (σ : bS), bR x1 → bR x2 → bR x3 → bRG σ → P5 x1 x2 x3 σ → bA p l e { frames := 0, cells := 0, slots := 0, locals := 0 } s m args below meth c 0 0 (bQv below args s G σ0 Q) G (va_A (bk_w G σ0) s.heap.size) 4 5 [(0, .ref (G.2.2 28)), (1, .int (bI x1)), (2, .int (bI x2)), (3, .int (bI x3))] [] σ) (hx1 : bR x1) (hx2 : bR x2) (hx3 : bR x3) (hσ : bRG σ) (h : bJ7_fill_53178_28_5 Q P5 x1 x2 x3 σ) : bA p l e { frames := 0, cells := 0, slots := 0, locals := 0 } s m args below meth c 0 0 (bQv below args s G σ0 Q) G (va_A (bk_w G σ0) s.heap.size) 4 5 [(0, .ref (G.2.2 28)), (1, .int (bI x1)), (2, .int (bI x2)), (3, .int (bI x3))] [] σ := by
  unfold bJ7_fill_53178_28_5 at h
  refine br_iload_n S 2 dJ7_fill_53178_5 rfl rfl ?_
  refine br_iload_n S 3 dJ7_fill_53178_6 rfl rfl ?_
  refine br_ic_ge S 20 hx2 hx3 dJ7_fill_53178_7 (by decide) (fun c1 => ?_) (fun c1 => ?_)
  · replace h := h.1 c1
    exact br_vret S hr hlk hσ dJ7_fill_53178_20 h
  · replace h := h.2 c1
    refine br_aload_n S 0 dJ7_fill_53178_10 rfl rfl ?_
    refine br_iload_n S 2 dJ7_fill_53178_11 rfl rfl ?_
    refine br_iload_n S 1 dJ7_fill_53178_12 rfl rfl ?_
    obtain ⟨g2, h⟩ := h
    obtain ⟨σ3, e4⟩ : ∃ τ, τ = bup σ 28 x2 x1 := ⟨_, rfl⟩
    replace h := h σ3 e4
    have hσ3 : bRG σ3 := by rw [e4]; exact bup_rg hσ hx1
    refine br_iast (n := 12) S ⟨by decide, by decide, fun _ => rfl⟩ g2.1 g2.2 dJ7_fill_53178_13 ?_
    refine bA.to rfl rfl e4.symm ?_
    refine br_iinc S 2 [(2, .int (bI (x2 + 1))), (0, .ref (G.2.2 28)), (1, .int (bI x1)), (3, .int (bI x3))] dJ7_fill_53178_14 rfl (by decide) rfl ?_
    refine br_goto S 5 dJ7_fill_53178_17 (by decide) ?_
    obtain ⟨g5, h⟩ := h
    exact bA.perm [1, 2, 0, 3] rfl <| hP5 x1 (x2 + 1) x3 σ3 hx1 g5 hx3 hσ3 h
def eJ7_fill_53178_28 (Q : bS → Prop) (P5 : Int → Int → Int → bS → Prop) (a1 : Int) (σ : bS) : Prop := (P5 a1 0 12 σ)
theorem mono_eJ7_fill_53178_28 {Q Q9 : bS → Prop} {P5 P59 : Int → Int → Int → bS → Prop} {a1 : Int} {σ : bS} (hQ : ∀ σ, Q σ → Q9 σ) (hP5 : ∀ x1 x2 x3 σ, P5 x1 x2 x3 σ → P59 x1 x2 x3 σ) : eJ7_fill_53178_28 Q P5 a1 σ → eJ7_fill_53178_28 Q9 P59 a1 σ := (hP5 _ _ _ _)
theorem wJ7_fill_53178_28_e {p : Program} {l : Launch} {e : Env} {s : State} {m : MethodId} {args : Array Value} {below : List Frame} {meth : Method} {c : Code} {G : bG} {σ0 : bS} {Q : bS → Prop} {P5 : Int → Int → Int → bS → Prop} {a1 : Int} {σ : bS} (S : CallFix p m c cJ7_fill_53178 4 s args bT "java/util/Arrays") (hr : meth.sig.returnType = none) (hlk : meth.locks = false) (hP5 : ∀ (x1 : Int) (x2 : Int) (x3 : Int) (σ : bS), bR x1 → bR x2 → bR x3 → bRG σ → P5 x1 x2 x3 σ → bA p l e { frames := 0, cells := 0, slots := 0, locals := 0 } s m args below meth c 0 0 (bQv below args s G σ0 Q) G (va_A (bk_w G σ0) s.heap.size) 4 5 [(0, .ref (G.2.2 28)), (1, .int (bI x1)), (2, .int (bI x2)), (3, .int (bI x3))] [] σ) (ha1 : bR a1) (hσ : bRG σ) (h : eJ7_fill_53178_28 Q P5 a1 σ) : bA p l e { frames := 0, cells := 0, slots := 0, locals := 0 } s m args below meth c 0 0 (bQv below args s G σ0 Q) G (va_A (bk_w G σ0) s.heap.size) 4 0 [(0, .ref (G.2.2 28)), (1, .int (bI a1))] [] σ := by
  unfold eJ7_fill_53178_28 at h
  refine br_iconst S dJ7_fill_53178_0 ?_
  refine br_istore_n S [(2, .int (bI 0)), (0, .ref (G.2.2 28)), (1, .int (bI a1))] dJ7_fill_53178_1 rfl (by decide) rfl ?_
  refine br_aload_n S 1 dJ7_fill_53178_2 rfl rfl ?_
  refine br_alen (n := 12) S ⟨by decide, by decide, fun _ => rfl⟩ dJ7_fill_53178_3 ?_
  refine bA.to (st' := .int (bI 12) :: _) rfl rfl rfl ?_
  refine br_istore_n S [(3, .int (bI 12)), (2, .int (bI 0)), (0, .ref (G.2.2 28)), (1, .int (bI a1))] dJ7_fill_53178_4 rfl (by decide) rfl ?_
  exact bA.perm [2, 3, 1, 0] rfl <| hP5 a1 0 12 σ ha1 (by decide) (by decide) hσ h
def LJ7_fill_53178_28_5 (Q : bS → Prop) (x1 : Int) (x2 : Int) (x3 : Int) (σ : bS) : Prop := ∀ (P5 : Int → Int → Int → bS → Prop), (∀ x1 x2 x3 σ, bJ7_fill_53178_28_5 Q P5 x1 x2 x3 σ → P5 x1 x2 x3 σ) → P5 x1 x2 x3 σ
theorem LJ7_fill_53178_28_5_in {Q : bS → Prop} {x1 : Int} {x2 : Int} {x3 : Int} {σ : bS} (h : bJ7_fill_53178_28_5 Q (LJ7_fill_53178_28_5 Q) x1 x2 x3 σ) : LJ7_fill_53178_28_5 Q x1 x2 x3 σ := fun P5 H5 => H5 _ _ _ _ (mono_bJ7_fill_53178_28_5 (fun _ h => h) (fun _ _ _ _ h => h P5 H5) h)
theorem mono_LJ7_fill_53178_28_5 {Q Q9 : bS → Prop} {x1 : Int} {x2 : Int} {x3 : Int} {σ : bS} (hQ : ∀ σ, Q σ → Q9 σ) (h : LJ7_fill_53178_28_5 Q x1 x2 x3 σ) : LJ7_fill_53178_28_5 Q9 x1 x2 x3 σ := fun P5 H5 => h P5 (fun _ _ _ _ hb => H5 _ _ _ _ (mono_bJ7_fill_53178_28_5 hQ (fun _ _ _ _ h => h) hb))
def vJ7_fill_53178_28 (Q : bS → Prop) (a1 : Int) (σ : bS) : Prop := eJ7_fill_53178_28 Q (LJ7_fill_53178_28_5 Q) a1 σ
theorem mono_vJ7_fill_53178_28 {Q Q9 : bS → Prop} {a1 : Int} {σ : bS} (hQ : ∀ σ, Q σ → Q9 σ) : vJ7_fill_53178_28 Q a1 σ → vJ7_fill_53178_28 Q9 a1 σ := mono_eJ7_fill_53178_28 hQ (fun _ _ _ _ h => mono_LJ7_fill_53178_28_5 hQ h)
theorem mono_J7_fill_53178_28 {Q Q9 : bS → Prop} {a1 : Int} {σ : bS} (hQ : ∀ σ, Q σ → Q9 σ) : vJ7_fill_53178_28 Q a1 σ → vJ7_fill_53178_28 Q9 a1 σ := mono_vJ7_fill_53178_28 hQ
theorem mJ7_fill_53178_28 (l : Launch) (G : bG) (σ : bS) (a1 : Int) (ha1 : bR a1) {Q : bS → Prop} (h : vJ7_fill_53178_28 Q a1 σ) : bk_Mv l yJ7_fill_53178 (Cond.code yJ7_fill_53178 cJ7_fill_53178 4 (none) :: bT) { frames := 0, cells := 0, slots := 0, locals := 0 } G σ [.ref (G.2.2 28), .int (bI a1)] Q := by
  refine bk_Mv.of (cc := cJ7_fill_53178) (maxL := 4) (ret := none) (by decide) rfl (Nat.le_of_ble_eq_true rfl) ?_
  intro p e s m args below meth c S hr hlk hσ
  let K5 : Int → Int → Int → bS → Prop := fun x1 x2 x3 τ => bR x1 → bR x2 → bR x3 → bRG τ → bA p l e { frames := 0, cells := 0, slots := 0, locals := 0 } s m args below meth c 0 0 (bQv below args s G σ Q) G (va_A (bk_w G σ) s.heap.size) 4 5 [(0, .ref (G.2.2 28)), (1, .int (bI x1)), (2, .int (bI x2)), (3, .int (bI x3))] [] τ
  have C5 : ∀ x1 x2 x3 τ, bJ7_fill_53178_28_5 Q K5 x1 x2 x3 τ → K5 x1 x2 x3 τ := fun x1 x2 x3 τ hb hx1 hx2 hx3 hτ => wJ7_fill_53178_28_5 S hr hlk (fun x1 x2 x3 σ hx1 hx2 hx3 hσ h => h hx1 hx2 hx3 hσ) hx1 hx2 hx3 hτ hb
  exact wJ7_fill_53178_28_e S hr hlk (fun x1 x2 x3 σ hx1 hx2 hx3 hσ h => h K5 C5 hx1 hx2 hx3 hσ) ha1 hσ h
def bJ7_fill_53178_31_5 (Q : bS → Prop) (P5 : Int → Int → Int → bS → Prop) (x1 : Int) (x2 : Int) (x3 : Int) (σ : bS) : Prop := ((x3 ≤ x2 → (Q σ)) ∧ (¬ x3 ≤ x2 → ((0 ≤ x2 ∧ x2 < 8) ∧ (∀ σ3 : bS, σ3 = bup σ 31 x2 x1 → (bR (x2 + 1) ∧ (P5 x1 (x2 + 1) x3 σ3))))))
theorem mono_bJ7_fill_53178_31_5 {Q Q9 : bS → Prop} {P5 P59 : Int → Int → Int → bS → Prop} {x1 : Int} {x2 : Int} {x3 : Int} {σ : bS} (hQ : ∀ σ, Q σ → Q9 σ) (hP5 : ∀ x1 x2 x3 σ, P5 x1 x2 x3 σ → P59 x1 x2 x3 σ) : bJ7_fill_53178_31_5 Q P5 x1 x2 x3 σ → bJ7_fill_53178_31_5 Q9 P59 x1 x2 x3 σ := (bm_and (bm_imp (hQ _)) (bm_imp (bm_r (bm_all fun _ => bm_imp (bm_r (hP5 _ _ _ _))))))
theorem wJ7_fill_53178_31_5 {p : Program} {l : Launch} {e : Env} {s : State} {m : MethodId} {args : Array Value} {below : List Frame} {meth : Method} {c : Code} {G : bG} {σ0 : bS} {Q : bS → Prop} {P5 : Int → Int → Int → bS → Prop} {x1 : Int} {x2 : Int} {x3 : Int} {σ : bS} (S : CallFix p m c cJ7_fill_53178 4 s args bT "java/util/Arrays") (hr : meth.sig.returnType = none) (hlk : meth.locks = false) (hP5 : ∀ (x1 : Int) (x2 : Int) (x3 : Int) (σ : bS), bR x1 → bR x2 → bR x3 → bRG σ → P5 x1 x2 x3 σ → bA p l e { frames := 0, cells := 0, slots := 0, locals := 0 } s m args below meth c 0 0 (bQv below args s G σ0 Q) G (va_A (bk_w G σ0) s.heap.size) 4 5 [(0, .ref (G.2.2 31)), (1, .int (bI x1)), (2, .int (bI x2)), (3, .int (bI x3))] [] σ) (hx1 : bR x1) (hx2 : bR x2) (hx3 : bR x3) (hσ : bRG σ) (h : bJ7_fill_53178_31_5 Q P5 x1 x2 x3 σ) : bA p l e { frames := 0, cells := 0, slots := 0, locals := 0 } s m args below meth c 0 0 (bQv below args s G σ0 Q) G (va_A (bk_w G σ0) s.heap.size) 4 5 [(0, .ref (G.2.2 31)), (1, .int (bI x1)), (2, .int (bI x2)), (3, .int (bI x3))] [] σ := by
  unfold bJ7_fill_53178_31_5 at h
  refine br_iload_n S 2 dJ7_fill_53178_5 rfl rfl ?_
  refine br_iload_n S 3 dJ7_fill_53178_6 rfl rfl ?_
  refine br_ic_ge S 20 hx2 hx3 dJ7_fill_53178_7 (by decide) (fun c1 => ?_) (fun c1 => ?_)
  · replace h := h.1 c1
    exact br_vret S hr hlk hσ dJ7_fill_53178_20 h
  · replace h := h.2 c1
    refine br_aload_n S 0 dJ7_fill_53178_10 rfl rfl ?_
    refine br_iload_n S 2 dJ7_fill_53178_11 rfl rfl ?_
    refine br_iload_n S 1 dJ7_fill_53178_12 rfl rfl ?_
    obtain ⟨g2, h⟩ := h
    obtain ⟨σ3, e4⟩ : ∃ τ, τ = bup σ 31 x2 x1 := ⟨_, rfl⟩
    replace h := h σ3 e4
    have hσ3 : bRG σ3 := by rw [e4]; exact bup_rg hσ hx1
    refine br_iast (n := 8) S ⟨by decide, by decide, fun _ => rfl⟩ g2.1 g2.2 dJ7_fill_53178_13 ?_
    refine bA.to rfl rfl e4.symm ?_
    refine br_iinc S 2 [(2, .int (bI (x2 + 1))), (0, .ref (G.2.2 31)), (1, .int (bI x1)), (3, .int (bI x3))] dJ7_fill_53178_14 rfl (by decide) rfl ?_
    refine br_goto S 5 dJ7_fill_53178_17 (by decide) ?_
    obtain ⟨g5, h⟩ := h
    exact bA.perm [1, 2, 0, 3] rfl <| hP5 x1 (x2 + 1) x3 σ3 hx1 g5 hx3 hσ3 h
def eJ7_fill_53178_31 (Q : bS → Prop) (P5 : Int → Int → Int → bS → Prop) (a1 : Int) (σ : bS) : Prop := (P5 a1 0 8 σ)
theorem mono_eJ7_fill_53178_31 {Q Q9 : bS → Prop} {P5 P59 : Int → Int → Int → bS → Prop} {a1 : Int} {σ : bS} (hQ : ∀ σ, Q σ → Q9 σ) (hP5 : ∀ x1 x2 x3 σ, P5 x1 x2 x3 σ → P59 x1 x2 x3 σ) : eJ7_fill_53178_31 Q P5 a1 σ → eJ7_fill_53178_31 Q9 P59 a1 σ := (hP5 _ _ _ _)
theorem wJ7_fill_53178_31_e {p : Program} {l : Launch} {e : Env} {s : State} {m : MethodId} {args : Array Value} {below : List Frame} {meth : Method} {c : Code} {G : bG} {σ0 : bS} {Q : bS → Prop} {P5 : Int → Int → Int → bS → Prop} {a1 : Int} {σ : bS} (S : CallFix p m c cJ7_fill_53178 4 s args bT "java/util/Arrays") (hr : meth.sig.returnType = none) (hlk : meth.locks = false) (hP5 : ∀ (x1 : Int) (x2 : Int) (x3 : Int) (σ : bS), bR x1 → bR x2 → bR x3 → bRG σ → P5 x1 x2 x3 σ → bA p l e { frames := 0, cells := 0, slots := 0, locals := 0 } s m args below meth c 0 0 (bQv below args s G σ0 Q) G (va_A (bk_w G σ0) s.heap.size) 4 5 [(0, .ref (G.2.2 31)), (1, .int (bI x1)), (2, .int (bI x2)), (3, .int (bI x3))] [] σ) (ha1 : bR a1) (hσ : bRG σ) (h : eJ7_fill_53178_31 Q P5 a1 σ) : bA p l e { frames := 0, cells := 0, slots := 0, locals := 0 } s m args below meth c 0 0 (bQv below args s G σ0 Q) G (va_A (bk_w G σ0) s.heap.size) 4 0 [(0, .ref (G.2.2 31)), (1, .int (bI a1))] [] σ := by
  unfold eJ7_fill_53178_31 at h
  refine br_iconst S dJ7_fill_53178_0 ?_
  refine br_istore_n S [(2, .int (bI 0)), (0, .ref (G.2.2 31)), (1, .int (bI a1))] dJ7_fill_53178_1 rfl (by decide) rfl ?_
  refine br_aload_n S 1 dJ7_fill_53178_2 rfl rfl ?_
  refine br_alen (n := 8) S ⟨by decide, by decide, fun _ => rfl⟩ dJ7_fill_53178_3 ?_
  refine bA.to (st' := .int (bI 8) :: _) rfl rfl rfl ?_
  refine br_istore_n S [(3, .int (bI 8)), (2, .int (bI 0)), (0, .ref (G.2.2 31)), (1, .int (bI a1))] dJ7_fill_53178_4 rfl (by decide) rfl ?_
  exact bA.perm [2, 3, 1, 0] rfl <| hP5 a1 0 8 σ ha1 (by decide) (by decide) hσ h
def LJ7_fill_53178_31_5 (Q : bS → Prop) (x1 : Int) (x2 : Int) (x3 : Int) (σ : bS) : Prop := ∀ (P5 : Int → Int → Int → bS → Prop), (∀ x1 x2 x3 σ, bJ7_fill_53178_31_5 Q P5 x1 x2 x3 σ → P5 x1 x2 x3 σ) → P5 x1 x2 x3 σ
theorem LJ7_fill_53178_31_5_in {Q : bS → Prop} {x1 : Int} {x2 : Int} {x3 : Int} {σ : bS} (h : bJ7_fill_53178_31_5 Q (LJ7_fill_53178_31_5 Q) x1 x2 x3 σ) : LJ7_fill_53178_31_5 Q x1 x2 x3 σ := fun P5 H5 => H5 _ _ _ _ (mono_bJ7_fill_53178_31_5 (fun _ h => h) (fun _ _ _ _ h => h P5 H5) h)
theorem mono_LJ7_fill_53178_31_5 {Q Q9 : bS → Prop} {x1 : Int} {x2 : Int} {x3 : Int} {σ : bS} (hQ : ∀ σ, Q σ → Q9 σ) (h : LJ7_fill_53178_31_5 Q x1 x2 x3 σ) : LJ7_fill_53178_31_5 Q9 x1 x2 x3 σ := fun P5 H5 => h P5 (fun _ _ _ _ hb => H5 _ _ _ _ (mono_bJ7_fill_53178_31_5 hQ (fun _ _ _ _ h => h) hb))
def vJ7_fill_53178_31 (Q : bS → Prop) (a1 : Int) (σ : bS) : Prop := eJ7_fill_53178_31 Q (LJ7_fill_53178_31_5 Q) a1 σ
theorem mono_vJ7_fill_53178_31 {Q Q9 : bS → Prop} {a1 : Int} {σ : bS} (hQ : ∀ σ, Q σ → Q9 σ) : vJ7_fill_53178_31 Q a1 σ → vJ7_fill_53178_31 Q9 a1 σ := mono_eJ7_fill_53178_31 hQ (fun _ _ _ _ h => mono_LJ7_fill_53178_31_5 hQ h)
theorem mono_J7_fill_53178_31 {Q Q9 : bS → Prop} {a1 : Int} {σ : bS} (hQ : ∀ σ, Q σ → Q9 σ) : vJ7_fill_53178_31 Q a1 σ → vJ7_fill_53178_31 Q9 a1 σ := mono_vJ7_fill_53178_31 hQ
theorem mJ7_fill_53178_31 (l : Launch) (G : bG) (σ : bS) (a1 : Int) (ha1 : bR a1) {Q : bS → Prop} (h : vJ7_fill_53178_31 Q a1 σ) : bk_Mv l yJ7_fill_53178 (Cond.code yJ7_fill_53178 cJ7_fill_53178 4 (none) :: bT) { frames := 0, cells := 0, slots := 0, locals := 0 } G σ [.ref (G.2.2 31), .int (bI a1)] Q := by
  refine bk_Mv.of (cc := cJ7_fill_53178) (maxL := 4) (ret := none) (by decide) rfl (Nat.le_of_ble_eq_true rfl) ?_
  intro p e s m args below meth c S hr hlk hσ
  let K5 : Int → Int → Int → bS → Prop := fun x1 x2 x3 τ => bR x1 → bR x2 → bR x3 → bRG τ → bA p l e { frames := 0, cells := 0, slots := 0, locals := 0 } s m args below meth c 0 0 (bQv below args s G σ Q) G (va_A (bk_w G σ) s.heap.size) 4 5 [(0, .ref (G.2.2 31)), (1, .int (bI x1)), (2, .int (bI x2)), (3, .int (bI x3))] [] τ
  have C5 : ∀ x1 x2 x3 τ, bJ7_fill_53178_31_5 Q K5 x1 x2 x3 τ → K5 x1 x2 x3 τ := fun x1 x2 x3 τ hb hx1 hx2 hx3 hτ => wJ7_fill_53178_31_5 S hr hlk (fun x1 x2 x3 σ hx1 hx2 hx3 hσ h => h hx1 hx2 hx3 hσ) hx1 hx2 hx3 hτ hb
  exact wJ7_fill_53178_31_e S hr hlk (fun x1 x2 x3 σ hx1 hx2 hx3 hσ h => h K5 C5 hx1 hx2 hx3 hσ) ha1 hσ h
def bJ7_fill_53178_32_5 (Q : bS → Prop) (P5 : Int → Int → Int → bS → Prop) (x1 : Int) (x2 : Int) (x3 : Int) (σ : bS) : Prop := ((x3 ≤ x2 → (Q σ)) ∧ (¬ x3 ≤ x2 → ((0 ≤ x2 ∧ x2 < 9) ∧ (∀ σ3 : bS, σ3 = bup σ 32 x2 x1 → (bR (x2 + 1) ∧ (P5 x1 (x2 + 1) x3 σ3))))))
theorem mono_bJ7_fill_53178_32_5 {Q Q9 : bS → Prop} {P5 P59 : Int → Int → Int → bS → Prop} {x1 : Int} {x2 : Int} {x3 : Int} {σ : bS} (hQ : ∀ σ, Q σ → Q9 σ) (hP5 : ∀ x1 x2 x3 σ, P5 x1 x2 x3 σ → P59 x1 x2 x3 σ) : bJ7_fill_53178_32_5 Q P5 x1 x2 x3 σ → bJ7_fill_53178_32_5 Q9 P59 x1 x2 x3 σ := (bm_and (bm_imp (hQ _)) (bm_imp (bm_r (bm_all fun _ => bm_imp (bm_r (hP5 _ _ _ _))))))
theorem wJ7_fill_53178_32_5 {p : Program} {l : Launch} {e : Env} {s : State} {m : MethodId} {args : Array Value} {below : List Frame} {meth : Method} {c : Code} {G : bG} {σ0 : bS} {Q : bS → Prop} {P5 : Int → Int → Int → bS → Prop} {x1 : Int} {x2 : Int} {x3 : Int} {σ : bS} (S : CallFix p m c cJ7_fill_53178 4 s args bT "java/util/Arrays") (hr : meth.sig.returnType = none) (hlk : meth.locks = false) (hP5 : ∀ (x1 : Int) (x2 : Int) (x3 : Int) (σ : bS), bR x1 → bR x2 → bR x3 → bRG σ → P5 x1 x2 x3 σ → bA p l e { frames := 0, cells := 0, slots := 0, locals := 0 } s m args below meth c 0 0 (bQv below args s G σ0 Q) G (va_A (bk_w G σ0) s.heap.size) 4 5 [(0, .ref (G.2.2 32)), (1, .int (bI x1)), (2, .int (bI x2)), (3, .int (bI x3))] [] σ) (hx1 : bR x1) (hx2 : bR x2) (hx3 : bR x3) (hσ : bRG σ) (h : bJ7_fill_53178_32_5 Q P5 x1 x2 x3 σ) : bA p l e { frames := 0, cells := 0, slots := 0, locals := 0 } s m args below meth c 0 0 (bQv below args s G σ0 Q) G (va_A (bk_w G σ0) s.heap.size) 4 5 [(0, .ref (G.2.2 32)), (1, .int (bI x1)), (2, .int (bI x2)), (3, .int (bI x3))] [] σ := by
  unfold bJ7_fill_53178_32_5 at h
  refine br_iload_n S 2 dJ7_fill_53178_5 rfl rfl ?_
  refine br_iload_n S 3 dJ7_fill_53178_6 rfl rfl ?_
  refine br_ic_ge S 20 hx2 hx3 dJ7_fill_53178_7 (by decide) (fun c1 => ?_) (fun c1 => ?_)
  · replace h := h.1 c1
    exact br_vret S hr hlk hσ dJ7_fill_53178_20 h
  · replace h := h.2 c1
    refine br_aload_n S 0 dJ7_fill_53178_10 rfl rfl ?_
    refine br_iload_n S 2 dJ7_fill_53178_11 rfl rfl ?_
    refine br_iload_n S 1 dJ7_fill_53178_12 rfl rfl ?_
    obtain ⟨g2, h⟩ := h
    obtain ⟨σ3, e4⟩ : ∃ τ, τ = bup σ 32 x2 x1 := ⟨_, rfl⟩
    replace h := h σ3 e4
    have hσ3 : bRG σ3 := by rw [e4]; exact bup_rg hσ hx1
    refine br_iast (n := 9) S ⟨by decide, by decide, fun _ => rfl⟩ g2.1 g2.2 dJ7_fill_53178_13 ?_
    refine bA.to rfl rfl e4.symm ?_
    refine br_iinc S 2 [(2, .int (bI (x2 + 1))), (0, .ref (G.2.2 32)), (1, .int (bI x1)), (3, .int (bI x3))] dJ7_fill_53178_14 rfl (by decide) rfl ?_
    refine br_goto S 5 dJ7_fill_53178_17 (by decide) ?_
    obtain ⟨g5, h⟩ := h
    exact bA.perm [1, 2, 0, 3] rfl <| hP5 x1 (x2 + 1) x3 σ3 hx1 g5 hx3 hσ3 h
def eJ7_fill_53178_32 (Q : bS → Prop) (P5 : Int → Int → Int → bS → Prop) (a1 : Int) (σ : bS) : Prop := (P5 a1 0 9 σ)
theorem mono_eJ7_fill_53178_32 {Q Q9 : bS → Prop} {P5 P59 : Int → Int → Int → bS → Prop} {a1 : Int} {σ : bS} (hQ : ∀ σ, Q σ → Q9 σ) (hP5 : ∀ x1 x2 x3 σ, P5 x1 x2 x3 σ → P59 x1 x2 x3 σ) : eJ7_fill_53178_32 Q P5 a1 σ → eJ7_fill_53178_32 Q9 P59 a1 σ := (hP5 _ _ _ _)
theorem wJ7_fill_53178_32_e {p : Program} {l : Launch} {e : Env} {s : State} {m : MethodId} {args : Array Value} {below : List Frame} {meth : Method} {c : Code} {G : bG} {σ0 : bS} {Q : bS → Prop} {P5 : Int → Int → Int → bS → Prop} {a1 : Int} {σ : bS} (S : CallFix p m c cJ7_fill_53178 4 s args bT "java/util/Arrays") (hr : meth.sig.returnType = none) (hlk : meth.locks = false) (hP5 : ∀ (x1 : Int) (x2 : Int) (x3 : Int) (σ : bS), bR x1 → bR x2 → bR x3 → bRG σ → P5 x1 x2 x3 σ → bA p l e { frames := 0, cells := 0, slots := 0, locals := 0 } s m args below meth c 0 0 (bQv below args s G σ0 Q) G (va_A (bk_w G σ0) s.heap.size) 4 5 [(0, .ref (G.2.2 32)), (1, .int (bI x1)), (2, .int (bI x2)), (3, .int (bI x3))] [] σ) (ha1 : bR a1) (hσ : bRG σ) (h : eJ7_fill_53178_32 Q P5 a1 σ) : bA p l e { frames := 0, cells := 0, slots := 0, locals := 0 } s m args below meth c 0 0 (bQv below args s G σ0 Q) G (va_A (bk_w G σ0) s.heap.size) 4 0 [(0, .ref (G.2.2 32)), (1, .int (bI a1))] [] σ := by
  unfold eJ7_fill_53178_32 at h
  refine br_iconst S dJ7_fill_53178_0 ?_
  refine br_istore_n S [(2, .int (bI 0)), (0, .ref (G.2.2 32)), (1, .int (bI a1))] dJ7_fill_53178_1 rfl (by decide) rfl ?_
  refine br_aload_n S 1 dJ7_fill_53178_2 rfl rfl ?_
  refine br_alen (n := 9) S ⟨by decide, by decide, fun _ => rfl⟩ dJ7_fill_53178_3 ?_
  refine bA.to (st' := .int (bI 9) :: _) rfl rfl rfl ?_
  refine br_istore_n S [(3, .int (bI 9)), (2, .int (bI 0)), (0, .ref (G.2.2 32)), (1, .int (bI a1))] dJ7_fill_53178_4 rfl (by decide) rfl ?_
  exact bA.perm [2, 3, 1, 0] rfl <| hP5 a1 0 9 σ ha1 (by decide) (by decide) hσ h
def LJ7_fill_53178_32_5 (Q : bS → Prop) (x1 : Int) (x2 : Int) (x3 : Int) (σ : bS) : Prop := ∀ (P5 : Int → Int → Int → bS → Prop), (∀ x1 x2 x3 σ, bJ7_fill_53178_32_5 Q P5 x1 x2 x3 σ → P5 x1 x2 x3 σ) → P5 x1 x2 x3 σ
theorem LJ7_fill_53178_32_5_in {Q : bS → Prop} {x1 : Int} {x2 : Int} {x3 : Int} {σ : bS} (h : bJ7_fill_53178_32_5 Q (LJ7_fill_53178_32_5 Q) x1 x2 x3 σ) : LJ7_fill_53178_32_5 Q x1 x2 x3 σ := fun P5 H5 => H5 _ _ _ _ (mono_bJ7_fill_53178_32_5 (fun _ h => h) (fun _ _ _ _ h => h P5 H5) h)
theorem mono_LJ7_fill_53178_32_5 {Q Q9 : bS → Prop} {x1 : Int} {x2 : Int} {x3 : Int} {σ : bS} (hQ : ∀ σ, Q σ → Q9 σ) (h : LJ7_fill_53178_32_5 Q x1 x2 x3 σ) : LJ7_fill_53178_32_5 Q9 x1 x2 x3 σ := fun P5 H5 => h P5 (fun _ _ _ _ hb => H5 _ _ _ _ (mono_bJ7_fill_53178_32_5 hQ (fun _ _ _ _ h => h) hb))
def vJ7_fill_53178_32 (Q : bS → Prop) (a1 : Int) (σ : bS) : Prop := eJ7_fill_53178_32 Q (LJ7_fill_53178_32_5 Q) a1 σ
theorem mono_vJ7_fill_53178_32 {Q Q9 : bS → Prop} {a1 : Int} {σ : bS} (hQ : ∀ σ, Q σ → Q9 σ) : vJ7_fill_53178_32 Q a1 σ → vJ7_fill_53178_32 Q9 a1 σ := mono_eJ7_fill_53178_32 hQ (fun _ _ _ _ h => mono_LJ7_fill_53178_32_5 hQ h)
theorem mono_J7_fill_53178_32 {Q Q9 : bS → Prop} {a1 : Int} {σ : bS} (hQ : ∀ σ, Q σ → Q9 σ) : vJ7_fill_53178_32 Q a1 σ → vJ7_fill_53178_32 Q9 a1 σ := mono_vJ7_fill_53178_32 hQ
theorem mJ7_fill_53178_32 (l : Launch) (G : bG) (σ : bS) (a1 : Int) (ha1 : bR a1) {Q : bS → Prop} (h : vJ7_fill_53178_32 Q a1 σ) : bk_Mv l yJ7_fill_53178 (Cond.code yJ7_fill_53178 cJ7_fill_53178 4 (none) :: bT) { frames := 0, cells := 0, slots := 0, locals := 0 } G σ [.ref (G.2.2 32), .int (bI a1)] Q := by
  refine bk_Mv.of (cc := cJ7_fill_53178) (maxL := 4) (ret := none) (by decide) rfl (Nat.le_of_ble_eq_true rfl) ?_
  intro p e s m args below meth c S hr hlk hσ
  let K5 : Int → Int → Int → bS → Prop := fun x1 x2 x3 τ => bR x1 → bR x2 → bR x3 → bRG τ → bA p l e { frames := 0, cells := 0, slots := 0, locals := 0 } s m args below meth c 0 0 (bQv below args s G σ Q) G (va_A (bk_w G σ) s.heap.size) 4 5 [(0, .ref (G.2.2 32)), (1, .int (bI x1)), (2, .int (bI x2)), (3, .int (bI x3))] [] τ
  have C5 : ∀ x1 x2 x3 τ, bJ7_fill_53178_32_5 Q K5 x1 x2 x3 τ → K5 x1 x2 x3 τ := fun x1 x2 x3 τ hb hx1 hx2 hx3 hτ => wJ7_fill_53178_32_5 S hr hlk (fun x1 x2 x3 σ hx1 hx2 hx3 hσ h => h hx1 hx2 hx3 hσ) hx1 hx2 hx3 hτ hb
  exact wJ7_fill_53178_32_e S hr hlk (fun x1 x2 x3 σ hx1 hx2 hx3 hσ h => h K5 C5 hx1 hx2 hx3 hσ) ha1 hσ h
def bJ7_fill_53178_42_5 (Q : bS → Prop) (P5 : Int → Int → Int → bS → Prop) (x1 : Int) (x2 : Int) (x3 : Int) (σ : bS) : Prop := ((x3 ≤ x2 → (Q σ)) ∧ (¬ x3 ≤ x2 → ((0 ≤ x2 ∧ x2 < 64) ∧ (∀ σ3 : bS, σ3 = bup σ 42 x2 x1 → (bR (x2 + 1) ∧ (P5 x1 (x2 + 1) x3 σ3))))))
theorem mono_bJ7_fill_53178_42_5 {Q Q9 : bS → Prop} {P5 P59 : Int → Int → Int → bS → Prop} {x1 : Int} {x2 : Int} {x3 : Int} {σ : bS} (hQ : ∀ σ, Q σ → Q9 σ) (hP5 : ∀ x1 x2 x3 σ, P5 x1 x2 x3 σ → P59 x1 x2 x3 σ) : bJ7_fill_53178_42_5 Q P5 x1 x2 x3 σ → bJ7_fill_53178_42_5 Q9 P59 x1 x2 x3 σ := (bm_and (bm_imp (hQ _)) (bm_imp (bm_r (bm_all fun _ => bm_imp (bm_r (hP5 _ _ _ _))))))
theorem wJ7_fill_53178_42_5 {p : Program} {l : Launch} {e : Env} {s : State} {m : MethodId} {args : Array Value} {below : List Frame} {meth : Method} {c : Code} {G : bG} {σ0 : bS} {Q : bS → Prop} {P5 : Int → Int → Int → bS → Prop} {x1 : Int} {x2 : Int} {x3 : Int} {σ : bS} (S : CallFix p m c cJ7_fill_53178 4 s args bT "java/util/Arrays") (hr : meth.sig.returnType = none) (hlk : meth.locks = false) (hP5 : ∀ (x1 : Int) (x2 : Int) (x3 : Int) (σ : bS), bR x1 → bR x2 → bR x3 → bRG σ → P5 x1 x2 x3 σ → bA p l e { frames := 0, cells := 0, slots := 0, locals := 0 } s m args below meth c 0 0 (bQv below args s G σ0 Q) G (va_A (bk_w G σ0) s.heap.size) 4 5 [(0, .ref (G.2.2 42)), (1, .int (bI x1)), (2, .int (bI x2)), (3, .int (bI x3))] [] σ) (hx1 : bR x1) (hx2 : bR x2) (hx3 : bR x3) (hσ : bRG σ) (h : bJ7_fill_53178_42_5 Q P5 x1 x2 x3 σ) : bA p l e { frames := 0, cells := 0, slots := 0, locals := 0 } s m args below meth c 0 0 (bQv below args s G σ0 Q) G (va_A (bk_w G σ0) s.heap.size) 4 5 [(0, .ref (G.2.2 42)), (1, .int (bI x1)), (2, .int (bI x2)), (3, .int (bI x3))] [] σ := by
  unfold bJ7_fill_53178_42_5 at h
  refine br_iload_n S 2 dJ7_fill_53178_5 rfl rfl ?_
  refine br_iload_n S 3 dJ7_fill_53178_6 rfl rfl ?_
  refine br_ic_ge S 20 hx2 hx3 dJ7_fill_53178_7 (by decide) (fun c1 => ?_) (fun c1 => ?_)
  · replace h := h.1 c1
    exact br_vret S hr hlk hσ dJ7_fill_53178_20 h
  · replace h := h.2 c1
    refine br_aload_n S 0 dJ7_fill_53178_10 rfl rfl ?_
    refine br_iload_n S 2 dJ7_fill_53178_11 rfl rfl ?_
    refine br_iload_n S 1 dJ7_fill_53178_12 rfl rfl ?_
    obtain ⟨g2, h⟩ := h
    obtain ⟨σ3, e4⟩ : ∃ τ, τ = bup σ 42 x2 x1 := ⟨_, rfl⟩
    replace h := h σ3 e4
    have hσ3 : bRG σ3 := by rw [e4]; exact bup_rg hσ hx1
    refine br_iast (n := 64) S ⟨by decide, by decide, fun _ => rfl⟩ g2.1 g2.2 dJ7_fill_53178_13 ?_
    refine bA.to rfl rfl e4.symm ?_
    refine br_iinc S 2 [(2, .int (bI (x2 + 1))), (0, .ref (G.2.2 42)), (1, .int (bI x1)), (3, .int (bI x3))] dJ7_fill_53178_14 rfl (by decide) rfl ?_
    refine br_goto S 5 dJ7_fill_53178_17 (by decide) ?_
    obtain ⟨g5, h⟩ := h
    exact bA.perm [1, 2, 0, 3] rfl <| hP5 x1 (x2 + 1) x3 σ3 hx1 g5 hx3 hσ3 h
def eJ7_fill_53178_42 (Q : bS → Prop) (P5 : Int → Int → Int → bS → Prop) (a1 : Int) (σ : bS) : Prop := (P5 a1 0 64 σ)
theorem mono_eJ7_fill_53178_42 {Q Q9 : bS → Prop} {P5 P59 : Int → Int → Int → bS → Prop} {a1 : Int} {σ : bS} (hQ : ∀ σ, Q σ → Q9 σ) (hP5 : ∀ x1 x2 x3 σ, P5 x1 x2 x3 σ → P59 x1 x2 x3 σ) : eJ7_fill_53178_42 Q P5 a1 σ → eJ7_fill_53178_42 Q9 P59 a1 σ := (hP5 _ _ _ _)
theorem wJ7_fill_53178_42_e {p : Program} {l : Launch} {e : Env} {s : State} {m : MethodId} {args : Array Value} {below : List Frame} {meth : Method} {c : Code} {G : bG} {σ0 : bS} {Q : bS → Prop} {P5 : Int → Int → Int → bS → Prop} {a1 : Int} {σ : bS} (S : CallFix p m c cJ7_fill_53178 4 s args bT "java/util/Arrays") (hr : meth.sig.returnType = none) (hlk : meth.locks = false) (hP5 : ∀ (x1 : Int) (x2 : Int) (x3 : Int) (σ : bS), bR x1 → bR x2 → bR x3 → bRG σ → P5 x1 x2 x3 σ → bA p l e { frames := 0, cells := 0, slots := 0, locals := 0 } s m args below meth c 0 0 (bQv below args s G σ0 Q) G (va_A (bk_w G σ0) s.heap.size) 4 5 [(0, .ref (G.2.2 42)), (1, .int (bI x1)), (2, .int (bI x2)), (3, .int (bI x3))] [] σ) (ha1 : bR a1) (hσ : bRG σ) (h : eJ7_fill_53178_42 Q P5 a1 σ) : bA p l e { frames := 0, cells := 0, slots := 0, locals := 0 } s m args below meth c 0 0 (bQv below args s G σ0 Q) G (va_A (bk_w G σ0) s.heap.size) 4 0 [(0, .ref (G.2.2 42)), (1, .int (bI a1))] [] σ := by
  unfold eJ7_fill_53178_42 at h
  refine br_iconst S dJ7_fill_53178_0 ?_
  refine br_istore_n S [(2, .int (bI 0)), (0, .ref (G.2.2 42)), (1, .int (bI a1))] dJ7_fill_53178_1 rfl (by decide) rfl ?_
  refine br_aload_n S 1 dJ7_fill_53178_2 rfl rfl ?_
  refine br_alen (n := 64) S ⟨by decide, by decide, fun _ => rfl⟩ dJ7_fill_53178_3 ?_
  refine bA.to (st' := .int (bI 64) :: _) rfl rfl rfl ?_
  refine br_istore_n S [(3, .int (bI 64)), (2, .int (bI 0)), (0, .ref (G.2.2 42)), (1, .int (bI a1))] dJ7_fill_53178_4 rfl (by decide) rfl ?_
  exact bA.perm [2, 3, 1, 0] rfl <| hP5 a1 0 64 σ ha1 (by decide) (by decide) hσ h
def LJ7_fill_53178_42_5 (Q : bS → Prop) (x1 : Int) (x2 : Int) (x3 : Int) (σ : bS) : Prop := ∀ (P5 : Int → Int → Int → bS → Prop), (∀ x1 x2 x3 σ, bJ7_fill_53178_42_5 Q P5 x1 x2 x3 σ → P5 x1 x2 x3 σ) → P5 x1 x2 x3 σ
theorem LJ7_fill_53178_42_5_in {Q : bS → Prop} {x1 : Int} {x2 : Int} {x3 : Int} {σ : bS} (h : bJ7_fill_53178_42_5 Q (LJ7_fill_53178_42_5 Q) x1 x2 x3 σ) : LJ7_fill_53178_42_5 Q x1 x2 x3 σ := fun P5 H5 => H5 _ _ _ _ (mono_bJ7_fill_53178_42_5 (fun _ h => h) (fun _ _ _ _ h => h P5 H5) h)
theorem mono_LJ7_fill_53178_42_5 {Q Q9 : bS → Prop} {x1 : Int} {x2 : Int} {x3 : Int} {σ : bS} (hQ : ∀ σ, Q σ → Q9 σ) (h : LJ7_fill_53178_42_5 Q x1 x2 x3 σ) : LJ7_fill_53178_42_5 Q9 x1 x2 x3 σ := fun P5 H5 => h P5 (fun _ _ _ _ hb => H5 _ _ _ _ (mono_bJ7_fill_53178_42_5 hQ (fun _ _ _ _ h => h) hb))
def vJ7_fill_53178_42 (Q : bS → Prop) (a1 : Int) (σ : bS) : Prop := eJ7_fill_53178_42 Q (LJ7_fill_53178_42_5 Q) a1 σ
theorem mono_vJ7_fill_53178_42 {Q Q9 : bS → Prop} {a1 : Int} {σ : bS} (hQ : ∀ σ, Q σ → Q9 σ) : vJ7_fill_53178_42 Q a1 σ → vJ7_fill_53178_42 Q9 a1 σ := mono_eJ7_fill_53178_42 hQ (fun _ _ _ _ h => mono_LJ7_fill_53178_42_5 hQ h)
theorem mono_J7_fill_53178_42 {Q Q9 : bS → Prop} {a1 : Int} {σ : bS} (hQ : ∀ σ, Q σ → Q9 σ) : vJ7_fill_53178_42 Q a1 σ → vJ7_fill_53178_42 Q9 a1 σ := mono_vJ7_fill_53178_42 hQ
theorem mJ7_fill_53178_42 (l : Launch) (G : bG) (σ : bS) (a1 : Int) (ha1 : bR a1) {Q : bS → Prop} (h : vJ7_fill_53178_42 Q a1 σ) : bk_Mv l yJ7_fill_53178 (Cond.code yJ7_fill_53178 cJ7_fill_53178 4 (none) :: bT) { frames := 0, cells := 0, slots := 0, locals := 0 } G σ [.ref (G.2.2 42), .int (bI a1)] Q := by
  refine bk_Mv.of (cc := cJ7_fill_53178) (maxL := 4) (ret := none) (by decide) rfl (Nat.le_of_ble_eq_true rfl) ?_
  intro p e s m args below meth c S hr hlk hσ
  let K5 : Int → Int → Int → bS → Prop := fun x1 x2 x3 τ => bR x1 → bR x2 → bR x3 → bRG τ → bA p l e { frames := 0, cells := 0, slots := 0, locals := 0 } s m args below meth c 0 0 (bQv below args s G σ Q) G (va_A (bk_w G σ) s.heap.size) 4 5 [(0, .ref (G.2.2 42)), (1, .int (bI x1)), (2, .int (bI x2)), (3, .int (bI x3))] [] τ
  have C5 : ∀ x1 x2 x3 τ, bJ7_fill_53178_42_5 Q K5 x1 x2 x3 τ → K5 x1 x2 x3 τ := fun x1 x2 x3 τ hb hx1 hx2 hx3 hτ => wJ7_fill_53178_42_5 S hr hlk (fun x1 x2 x3 σ hx1 hx2 hx3 hσ h => h hx1 hx2 hx3 hσ) hx1 hx2 hx3 hτ hb
  exact wJ7_fill_53178_42_e S hr hlk (fun x1 x2 x3 σ hx1 hx2 hx3 hσ h => h K5 C5 hx1 hx2 hx3 hσ) ha1 hσ h
def vX6_bytesOfClear (Q : Int → bS → Prop) (a1 : Int) (σ : bS) : Prop := ((0 ≤ a1 ∧ a1 < 30) ∧ (((σ 15 a1) ≤ 0 → (Q 0 σ)) ∧ (¬ (σ 15 a1) ≤ 0 → (Q 3 σ))))
theorem mono_vX6_bytesOfClear {Q Q9 : Int → bS → Prop} {a1 : Int} {σ : bS} (hQ : ∀ r σ, Q r σ → Q9 r σ) : vX6_bytesOfClear Q a1 σ → vX6_bytesOfClear Q9 a1 σ := (bm_r (bm_and (bm_imp (hQ _ _)) (bm_imp (hQ _ _))))
theorem wX6_bytesOfClear_e {p : Program} {l : Launch} {e : Env} {s : State} {m : MethodId} {args : Array Value} {below : List Frame} {meth : Method} {c : Code} {G : bG} {σ0 : bS} {Q : Int → bS → Prop} {a1 : Int} {σ : bS} (S : CallFix p m c cX6_bytesOfClear 2 s args bT "BankLinker$Program") (hr : meth.sig.returnType = some .int) (hlk : meth.locks = false) (ha1 : bR a1) (hσ : bRG σ) (h : vX6_bytesOfClear Q a1 σ) : bA p l e { frames := 0, cells := 0, slots := 0, locals := 0 } s m args below meth c 0 0 (bQi below args s G σ0 Q) G (va_A (bk_w G σ0) s.heap.size) 2 0 [(0, .ref (G.2.2 1)), (1, .int (bI a1))] [] σ := by
  unfold vX6_bytesOfClear at h
  refine br_aload_n S 0 dX6_bytesOfClear_0 rfl rfl ?_
  refine br_get (f := 4) (N := 9) (C := RX6) (T := TX6) S inT_X6 wd_1_51 (by decide) rfl rfl (by decide) rfl dX6_bytesOfClear_1 ?_
  refine br_iload_n S 1 dX6_bytesOfClear_4 rfl rfl ?_
  obtain ⟨g1, h⟩ := h
  refine br_iald (n := 30) S ⟨by decide, by decide, fun _ => rfl⟩ g1.1 g1.2 dX6_bytesOfClear_5 ?_
  refine br_if_le S 13 (hσ 15 a1) dX6_bytesOfClear_6 (by decide) (fun c2 => ?_) (fun c2 => ?_)
  · replace h := h.1 c2
    refine br_iconst S dX6_bytesOfClear_13 ?_
    exact br_iret S hr hlk (by decide) hσ dX6_bytesOfClear_14 h
  · replace h := h.2 c2
    refine br_iconst S dX6_bytesOfClear_9 ?_
    refine br_goto S 14 dX6_bytesOfClear_10 (by decide) ?_
    exact br_iret S hr hlk (by decide) hσ dX6_bytesOfClear_14 h
theorem mono_X6_bytesOfClear {Q Q9 : Int → bS → Prop} {a1 : Int} {σ : bS} (hQ : ∀ r σ, Q r σ → Q9 r σ) : vX6_bytesOfClear Q a1 σ → vX6_bytesOfClear Q9 a1 σ := mono_vX6_bytesOfClear hQ
theorem mX6_bytesOfClear (l : Launch) (G : bG) (σ : bS) (a1 : Int) (ha1 : bR a1) {Q : Int → bS → Prop} (h : vX6_bytesOfClear Q a1 σ) : bk_Mi l yX6_bytesOfClear (Cond.code yX6_bytesOfClear cX6_bytesOfClear 2 (some .int) :: bT) { frames := 0, cells := 0, slots := 0, locals := 0 } G σ [.ref (G.2.2 1), .int (bI a1)] Q := by
  refine bk_Mi.of (cc := cX6_bytesOfClear) (maxL := 2) (ret := some .int) (by decide) rfl (Nat.le_of_ble_eq_true rfl) ?_
  intro p e s m args below meth c S hr hlk hσ
  exact wX6_bytesOfClear_e S hr hlk ha1 hσ h
def bX6_offsetOf_9 (Q : Int → bS → Prop) (P9 : Int → Int → Int → Int → bS → Prop) (x1 : Int) (x2 : Int) (x3 : Int) (x4 : Int) (σ : bS) : Prop := ((x2 ≤ x4 → (Q x3 σ)) ∧ (¬ x2 ≤ x4 → (vX6_codeAt (fun z2 σ3 => ((0 ≤ z2 ∧ z2 < 9) ∧ (bR (x3 + (bk_t0 z2)) ∧ (bR (x4 + 1) ∧ (P9 x1 x2 (x3 + (bk_t0 z2)) (x4 + 1) σ3))))) x1 x4 σ)))
theorem mono_bX6_offsetOf_9 {Q Q9 : Int → bS → Prop} {P9 P99 : Int → Int → Int → Int → bS → Prop} {x1 : Int} {x2 : Int} {x3 : Int} {x4 : Int} {σ : bS} (hQ : ∀ r σ, Q r σ → Q9 r σ) (hP9 : ∀ x1 x2 x3 x4 σ, P9 x1 x2 x3 x4 σ → P99 x1 x2 x3 x4 σ) : bX6_offsetOf_9 Q P9 x1 x2 x3 x4 σ → bX6_offsetOf_9 Q9 P99 x1 x2 x3 x4 σ := (bm_and (bm_imp (hQ _ _)) (bm_imp (mono_X6_codeAt (fun _ _ => (bm_r (bm_r (bm_r (hP9 _ _ _ _ _))))))))
theorem wX6_offsetOf_9 {p : Program} {l : Launch} {e : Env} {s : State} {m : MethodId} {args : Array Value} {below : List Frame} {meth : Method} {c : Code} {G : bG} {σ0 : bS} {Q : Int → bS → Prop} {P9 : Int → Int → Int → Int → bS → Prop} {x1 : Int} {x2 : Int} {x3 : Int} {x4 : Int} {σ : bS} (S : CallFix p m c cX6_offsetOf 5 s args bT "BankLinker$Program") (hr : meth.sig.returnType = some .int) (hlk : meth.locks = false) (hP9 : ∀ (x1 : Int) (x2 : Int) (x3 : Int) (x4 : Int) (σ : bS), bR x1 → bR x2 → bR x3 → bR x4 → bRG σ → P9 x1 x2 x3 x4 σ → bA p l e { frames := 1, cells := 0, slots := 0, locals := 22 } s m args below meth c 0 0 (bQi below args s G σ0 Q) G (va_A (bk_w G σ0) s.heap.size) 5 9 [(0, .ref (G.2.2 1)), (1, .int (bI x1)), (2, .int (bI x2)), (3, .int (bI x3)), (4, .int (bI x4))] [] σ) (hx1 : bR x1) (hx2 : bR x2) (hx3 : bR x3) (hx4 : bR x4) (hσ : bRG σ) (h : bX6_offsetOf_9 Q P9 x1 x2 x3 x4 σ) : bA p l e { frames := 1, cells := 0, slots := 0, locals := 22 } s m args below meth c 0 0 (bQi below args s G σ0 Q) G (va_A (bk_w G σ0) s.heap.size) 5 9 [(0, .ref (G.2.2 1)), (1, .int (bI x1)), (2, .int (bI x2)), (3, .int (bI x3)), (4, .int (bI x4))] [] σ := by
  unfold bX6_offsetOf_9 at h
  refine br_iload S 4 dX6_offsetOf_9 rfl ?_
  refine br_iload_n S 2 dX6_offsetOf_11 rfl rfl ?_
  refine br_ic_ge S 35 hx4 hx2 dX6_offsetOf_12 (by decide) (fun c1 => ?_) (fun c1 => ?_)
  · replace h := h.1 c1
    refine br_iload_n S 3 dX6_offsetOf_35 rfl rfl ?_
    exact br_iret S hr hlk hx3 hσ dX6_offsetOf_36 h
  · replace h := h.2 c1
    refine br_iload_n S 3 dX6_offsetOf_15 rfl rfl ?_
    refine br_gets0 S dX6_offsetOf_16 ?_
    refine br_aload_n S 0 dX6_offsetOf_19 rfl rfl ?_
    refine br_iload_n S 1 dX6_offsetOf_20 rfl rfl ?_
    refine br_iload S 4 dX6_offsetOf_21 rfl ?_
    refine br_callV (As := [.int (bI x1), .int (bI x4)]) (rest := [.ref (G.2.2 100), .int (bI x3)]) S (cwV_X6_codeAt S.2.2.2.2 wd_2_183 ⟨by decide, by decide⟩) (mX6_codeAt l G σ x1 hx1 x4 hx4 h) (by decide) rfl rfl rfl hσ rfl rfl (Nat.le_of_ble_eq_true rfl) ⟨by decide, by decide⟩ dX6_offsetOf_23 (fun z2 σ3 hz2 hσ3 h => ?_)
    obtain ⟨g4, h⟩ := h
    refine br_ti0 S g4.1 g4.2 dX6_offsetOf_26 ?_
    refine br_iadd S dX6_offsetOf_27 ?_
    refine br_istore_n S [(3, .int (bI (x3 + (bk_t0 z2)))), (0, .ref (G.2.2 1)), (1, .int (bI x1)), (2, .int (bI x2)), (4, .int (bI x4))] dX6_offsetOf_28 rfl (by decide) rfl ?_
    refine br_iinc S 4 [(4, .int (bI (x4 + 1))), (3, .int (bI (x3 + (bk_t0 z2)))), (0, .ref (G.2.2 1)), (1, .int (bI x1)), (2, .int (bI x2))] dX6_offsetOf_29 rfl (by decide) rfl ?_
    refine br_goto S 9 dX6_offsetOf_32 (by decide) ?_
    obtain ⟨g5, h⟩ := h
    obtain ⟨g6, h⟩ := h
    exact bA.perm [2, 3, 4, 1, 0] rfl <| hP9 x1 x2 (x3 + (bk_t0 z2)) (x4 + 1) σ3 hx1 hx2 g5 g6 hσ3 h
def eX6_offsetOf (Q : Int → bS → Prop) (P9 : Int → Int → Int → Int → bS → Prop) (a1 : Int) (a2 : Int) (σ : bS) : Prop := (vX6_bytesOfClear (fun z1 σ2 => (P9 a1 a2 z1 0 σ2)) a1 σ)
theorem mono_eX6_offsetOf {Q Q9 : Int → bS → Prop} {P9 P99 : Int → Int → Int → Int → bS → Prop} {a1 : Int} {a2 : Int} {σ : bS} (hQ : ∀ r σ, Q r σ → Q9 r σ) (hP9 : ∀ x1 x2 x3 x4 σ, P9 x1 x2 x3 x4 σ → P99 x1 x2 x3 x4 σ) : eX6_offsetOf Q P9 a1 a2 σ → eX6_offsetOf Q9 P99 a1 a2 σ := (mono_X6_bytesOfClear (fun _ _ => (hP9 _ _ _ _ _)))
theorem wX6_offsetOf_e {p : Program} {l : Launch} {e : Env} {s : State} {m : MethodId} {args : Array Value} {below : List Frame} {meth : Method} {c : Code} {G : bG} {σ0 : bS} {Q : Int → bS → Prop} {P9 : Int → Int → Int → Int → bS → Prop} {a1 : Int} {a2 : Int} {σ : bS} (S : CallFix p m c cX6_offsetOf 5 s args bT "BankLinker$Program") (hr : meth.sig.returnType = some .int) (hlk : meth.locks = false) (hP9 : ∀ (x1 : Int) (x2 : Int) (x3 : Int) (x4 : Int) (σ : bS), bR x1 → bR x2 → bR x3 → bR x4 → bRG σ → P9 x1 x2 x3 x4 σ → bA p l e { frames := 1, cells := 0, slots := 0, locals := 22 } s m args below meth c 0 0 (bQi below args s G σ0 Q) G (va_A (bk_w G σ0) s.heap.size) 5 9 [(0, .ref (G.2.2 1)), (1, .int (bI x1)), (2, .int (bI x2)), (3, .int (bI x3)), (4, .int (bI x4))] [] σ) (ha1 : bR a1) (ha2 : bR a2) (hσ : bRG σ) (h : eX6_offsetOf Q P9 a1 a2 σ) : bA p l e { frames := 1, cells := 0, slots := 0, locals := 22 } s m args below meth c 0 0 (bQi below args s G σ0 Q) G (va_A (bk_w G σ0) s.heap.size) 5 0 [(0, .ref (G.2.2 1)), (1, .int (bI a1)), (2, .int (bI a2))] [] σ := by
  unfold eX6_offsetOf at h
  refine br_aload_n S 0 dX6_offsetOf_0 rfl rfl ?_
  refine br_iload_n S 1 dX6_offsetOf_1 rfl rfl ?_
  refine br_callV (As := [.int (bI a1)]) (rest := []) S (cwV_X6_bytesOfClear S.2.2.2.2 wd_2_203 ⟨by decide, by decide⟩) (mX6_bytesOfClear l G σ a1 ha1 h) (by decide) rfl rfl rfl hσ rfl rfl (Nat.le_of_ble_eq_true rfl) ⟨by decide, by decide⟩ dX6_offsetOf_2 (fun z1 σ2 hz1 hσ2 h => ?_)
  refine br_istore_n S [(3, .int (bI z1)), (0, .ref (G.2.2 1)), (1, .int (bI a1)), (2, .int (bI a2))] dX6_offsetOf_5 rfl (by decide) rfl ?_
  refine br_iconst S dX6_offsetOf_6 ?_
  refine br_istore S [(4, .int (bI 0)), (3, .int (bI z1)), (0, .ref (G.2.2 1)), (1, .int (bI a1)), (2, .int (bI a2))] dX6_offsetOf_7 (by decide) rfl ?_
  exact bA.perm [2, 3, 4, 1, 0] rfl <| hP9 a1 a2 z1 0 σ2 ha1 ha2 hz1 (by decide) hσ2 h
def LX6_offsetOf_9 (Q : Int → bS → Prop) (x1 : Int) (x2 : Int) (x3 : Int) (x4 : Int) (σ : bS) : Prop := ∀ (P9 : Int → Int → Int → Int → bS → Prop), (∀ x1 x2 x3 x4 σ, bX6_offsetOf_9 Q P9 x1 x2 x3 x4 σ → P9 x1 x2 x3 x4 σ) → P9 x1 x2 x3 x4 σ
theorem LX6_offsetOf_9_in {Q : Int → bS → Prop} {x1 : Int} {x2 : Int} {x3 : Int} {x4 : Int} {σ : bS} (h : bX6_offsetOf_9 Q (LX6_offsetOf_9 Q) x1 x2 x3 x4 σ) : LX6_offsetOf_9 Q x1 x2 x3 x4 σ := fun P9 H9 => H9 _ _ _ _ _ (mono_bX6_offsetOf_9 (fun _ _ h => h) (fun _ _ _ _ _ h => h P9 H9) h)
theorem mono_LX6_offsetOf_9 {Q Q9 : Int → bS → Prop} {x1 : Int} {x2 : Int} {x3 : Int} {x4 : Int} {σ : bS} (hQ : ∀ r σ, Q r σ → Q9 r σ) (h : LX6_offsetOf_9 Q x1 x2 x3 x4 σ) : LX6_offsetOf_9 Q9 x1 x2 x3 x4 σ := fun P9 H9 => h P9 (fun _ _ _ _ _ hb => H9 _ _ _ _ _ (mono_bX6_offsetOf_9 hQ (fun _ _ _ _ _ h => h) hb))
def vX6_offsetOf (Q : Int → bS → Prop) (a1 : Int) (a2 : Int) (σ : bS) : Prop := eX6_offsetOf Q (LX6_offsetOf_9 Q) a1 a2 σ
theorem mono_vX6_offsetOf {Q Q9 : Int → bS → Prop} {a1 : Int} {a2 : Int} {σ : bS} (hQ : ∀ r σ, Q r σ → Q9 r σ) : vX6_offsetOf Q a1 a2 σ → vX6_offsetOf Q9 a1 a2 σ := mono_eX6_offsetOf hQ (fun _ _ _ _ _ h => mono_LX6_offsetOf_9 hQ h)
theorem mono_X6_offsetOf {Q Q9 : Int → bS → Prop} {a1 : Int} {a2 : Int} {σ : bS} (hQ : ∀ r σ, Q r σ → Q9 r σ) : vX6_offsetOf Q a1 a2 σ → vX6_offsetOf Q9 a1 a2 σ := mono_vX6_offsetOf hQ
theorem mX6_offsetOf (l : Launch) (G : bG) (σ : bS) (a1 : Int) (ha1 : bR a1) (a2 : Int) (ha2 : bR a2) {Q : Int → bS → Prop} (h : vX6_offsetOf Q a1 a2 σ) : bk_Mi l yX6_offsetOf (Cond.code yX6_offsetOf cX6_offsetOf 5 (some .int) :: bT) { frames := 1, cells := 0, slots := 0, locals := 22 } G σ [.ref (G.2.2 1), .int (bI a1), .int (bI a2)] Q := by
  refine bk_Mi.of (cc := cX6_offsetOf) (maxL := 5) (ret := some .int) (by decide) rfl (Nat.le_of_ble_eq_true rfl) ?_
  intro p e s m args below meth c S hr hlk hσ
  let K9 : Int → Int → Int → Int → bS → Prop := fun x1 x2 x3 x4 τ => bR x1 → bR x2 → bR x3 → bR x4 → bRG τ → bA p l e { frames := 1, cells := 0, slots := 0, locals := 22 } s m args below meth c 0 0 (bQi below args s G σ Q) G (va_A (bk_w G σ) s.heap.size) 5 9 [(0, .ref (G.2.2 1)), (1, .int (bI x1)), (2, .int (bI x2)), (3, .int (bI x3)), (4, .int (bI x4))] [] τ
  have C9 : ∀ x1 x2 x3 x4 τ, bX6_offsetOf_9 Q K9 x1 x2 x3 x4 τ → K9 x1 x2 x3 x4 τ := fun x1 x2 x3 x4 τ hb hx1 hx2 hx3 hx4 hτ => wX6_offsetOf_9 S hr hlk (fun x1 x2 x3 x4 σ hx1 hx2 hx3 hx4 hσ h => h hx1 hx2 hx3 hx4 hσ) hx1 hx2 hx3 hx4 hτ hb
  exact wX6_offsetOf_e S hr hlk (fun x1 x2 x3 x4 σ hx1 hx2 hx3 hx4 hσ h => h K9 C9 hx1 hx2 hx3 hx4 hσ) ha1 ha2 hσ h
def vX6_bytesOf (Q : Int → bS → Prop) (a1 : Int) (σ : bS) : Prop := ((0 ≤ a1 ∧ a1 < 30) ∧ (bR ((σ 16 a1) + 1) ∧ (vX6_offsetOf (fun z3 σ4 => (Q z3 σ4)) a1 ((σ 16 a1) + 1) σ)))
theorem mono_vX6_bytesOf {Q Q9 : Int → bS → Prop} {a1 : Int} {σ : bS} (hQ : ∀ r σ, Q r σ → Q9 r σ) : vX6_bytesOf Q a1 σ → vX6_bytesOf Q9 a1 σ := (bm_r (bm_r (mono_X6_offsetOf (fun _ _ => (hQ _ _)))))
theorem wX6_bytesOf_e {p : Program} {l : Launch} {e : Env} {s : State} {m : MethodId} {args : Array Value} {below : List Frame} {meth : Method} {c : Code} {G : bG} {σ0 : bS} {Q : Int → bS → Prop} {a1 : Int} {σ : bS} (S : CallFix p m c cX6_bytesOf 2 s args bT "BankLinker$Program") (hr : meth.sig.returnType = some .int) (hlk : meth.locks = false) (ha1 : bR a1) (hσ : bRG σ) (h : vX6_bytesOf Q a1 σ) : bA p l e { frames := 2, cells := 0, slots := 0, locals := 46 } s m args below meth c 0 0 (bQi below args s G σ0 Q) G (va_A (bk_w G σ0) s.heap.size) 2 0 [(0, .ref (G.2.2 1)), (1, .int (bI a1))] [] σ := by
  unfold vX6_bytesOf at h
  refine br_aload_n S 0 dX6_bytesOf_0 rfl rfl ?_
  refine br_iload_n S 1 dX6_bytesOf_1 rfl rfl ?_
  refine br_aload_n S 0 dX6_bytesOf_2 rfl rfl ?_
  refine br_get (f := 5) (N := 9) (C := RX6) (T := TX6) S inT_X6 wd_1_54 (by decide) rfl rfl (by decide) rfl dX6_bytesOf_3 ?_
  refine br_iload_n S 1 dX6_bytesOf_6 rfl rfl ?_
  obtain ⟨g1, h⟩ := h
  refine br_iald (n := 30) S ⟨by decide, by decide, fun _ => rfl⟩ g1.1 g1.2 dX6_bytesOf_7 ?_
  refine br_iconst S dX6_bytesOf_8 ?_
  refine br_iadd S dX6_bytesOf_9 ?_
  obtain ⟨g2, h⟩ := h
  refine br_callV (As := [.int (bI a1), .int (bI ((σ 16 a1) + 1))]) (rest := []) S (cwV_X6_offsetOf S.2.2.2.2 wd_2_199 ⟨by decide, by decide⟩) (mX6_offsetOf l G σ a1 ha1 ((σ 16 a1) + 1) g2 h) (by decide) rfl rfl rfl hσ rfl rfl (Nat.le_of_ble_eq_true rfl) ⟨by decide, by decide⟩ dX6_bytesOf_10 (fun z3 σ4 hz3 hσ4 h => ?_)
  exact br_iret S hr hlk hz3 hσ4 dX6_bytesOf_13 h
theorem mono_X6_bytesOf {Q Q9 : Int → bS → Prop} {a1 : Int} {σ : bS} (hQ : ∀ r σ, Q r σ → Q9 r σ) : vX6_bytesOf Q a1 σ → vX6_bytesOf Q9 a1 σ := mono_vX6_bytesOf hQ
theorem mX6_bytesOf (l : Launch) (G : bG) (σ : bS) (a1 : Int) (ha1 : bR a1) {Q : Int → bS → Prop} (h : vX6_bytesOf Q a1 σ) : bk_Mi l yX6_bytesOf (Cond.code yX6_bytesOf cX6_bytesOf 2 (some .int) :: bT) { frames := 2, cells := 0, slots := 0, locals := 46 } G σ [.ref (G.2.2 1), .int (bI a1)] Q := by
  refine bk_Mi.of (cc := cX6_bytesOf) (maxL := 2) (ret := some .int) (by decide) rfl (Nat.le_of_ble_eq_true rfl) ?_
  intro p e s m args below meth c S hr hlk hσ
  exact wX6_bytesOf_e S hr hlk ha1 hσ h
def vX6_isJump (Q : Int → bS → Prop) (a1 : Int) (a2 : Int) (σ : bS) : Prop := (vX6_codeAt (fun z1 σ2 => ((z1 = 6 → (Q 1 σ2)) ∧ (¬ z1 = 6 → ((¬ z1 = 7 → (Q 0 σ2)) ∧ (z1 = 7 → (Q 1 σ2)))))) a1 a2 σ)
theorem mono_vX6_isJump {Q Q9 : Int → bS → Prop} {a1 : Int} {a2 : Int} {σ : bS} (hQ : ∀ r σ, Q r σ → Q9 r σ) : vX6_isJump Q a1 a2 σ → vX6_isJump Q9 a1 a2 σ := (mono_X6_codeAt (fun _ _ => (bm_and (bm_imp (hQ _ _)) (bm_imp (bm_and (bm_imp (hQ _ _)) (bm_imp (hQ _ _)))))))
theorem wX6_isJump_e {p : Program} {l : Launch} {e : Env} {s : State} {m : MethodId} {args : Array Value} {below : List Frame} {meth : Method} {c : Code} {G : bG} {σ0 : bS} {Q : Int → bS → Prop} {a1 : Int} {a2 : Int} {σ : bS} (S : CallFix p m c cX6_isJump 4 s args bT "BankLinker$Program") (hr : meth.sig.returnType = some .boolean) (hlk : meth.locks = false) (ha1 : bR a1) (ha2 : bR a2) (hσ : bRG σ) (h : vX6_isJump Q a1 a2 σ) : bA p l e { frames := 1, cells := 0, slots := 0, locals := 22 } s m args below meth c 0 0 (bQi below args s G σ0 Q) G (va_A (bk_w G σ0) s.heap.size) 4 0 [(0, .ref (G.2.2 1)), (1, .int (bI a1)), (2, .int (bI a2))] [] σ := by
  unfold vX6_isJump at h
  refine br_aload_n S 0 dX6_isJump_0 rfl rfl ?_
  refine br_iload_n S 1 dX6_isJump_1 rfl rfl ?_
  refine br_iload_n S 2 dX6_isJump_2 rfl rfl ?_
  refine br_callV (As := [.int (bI a1), .int (bI a2)]) (rest := []) S (cwV_X6_codeAt S.2.2.2.2 wd_2_183 ⟨by decide, by decide⟩) (mX6_codeAt l G σ a1 ha1 a2 ha2 h) (by decide) rfl rfl rfl hσ rfl rfl (Nat.le_of_ble_eq_true rfl) ⟨by decide, by decide⟩ dX6_isJump_3 (fun z1 σ2 hz1 hσ2 h => ?_)
  refine br_istore_n S [(3, .int (bI z1)), (0, .ref (G.2.2 1)), (1, .int (bI a1)), (2, .int (bI a2))] dX6_isJump_6 rfl (by decide) rfl ?_
  refine br_iload_n S 0 dX6_isJump_7 rfl rfl ?_
  refine br_bipush S dX6_isJump_8 rfl ?_
  refine br_ic_eq S 19 hz1 (by decide) dX6_isJump_10 (by decide) (fun c3 => ?_) (fun c3 => ?_)
  · replace h := h.1 c3
    refine br_iconst S dX6_isJump_19 ?_
    refine br_goto S 24 dX6_isJump_20 (by decide) ?_
    exact br_zret S hr hlk (by decide) hσ2 dX6_isJump_24 h
  · replace h := h.2 c3
    refine br_iload_n S 0 dX6_isJump_13 rfl rfl ?_
    refine br_bipush S dX6_isJump_14 rfl ?_
    refine br_ic_ne S 23 hz1 (by decide) dX6_isJump_16 (by decide) (fun c4 => ?_) (fun c4 => ?_)
    · replace h := h.1 c4
      refine br_iconst S dX6_isJump_23 ?_
      exact br_zret S hr hlk (by decide) hσ2 dX6_isJump_24 h
    · replace h := h.2 c4
      refine br_iconst S dX6_isJump_19 ?_
      refine br_goto S 24 dX6_isJump_20 (by decide) ?_
      exact br_zret S hr hlk (by decide) hσ2 dX6_isJump_24 h
theorem mono_X6_isJump {Q Q9 : Int → bS → Prop} {a1 : Int} {a2 : Int} {σ : bS} (hQ : ∀ r σ, Q r σ → Q9 r σ) : vX6_isJump Q a1 a2 σ → vX6_isJump Q9 a1 a2 σ := mono_vX6_isJump hQ
theorem mX6_isJump (l : Launch) (G : bG) (σ : bS) (a1 : Int) (ha1 : bR a1) (a2 : Int) (ha2 : bR a2) {Q : Int → bS → Prop} (h : vX6_isJump Q a1 a2 σ) : bk_Mi l yX6_isJump (Cond.code yX6_isJump cX6_isJump 4 (some .boolean) :: bT) { frames := 1, cells := 0, slots := 0, locals := 22 } G σ [.ref (G.2.2 1), .int (bI a1), .int (bI a2)] Q := by
  refine bk_Mi.of (cc := cX6_isJump) (maxL := 4) (ret := some .boolean) (by decide) rfl (Nat.le_of_ble_eq_true rfl) ?_
  intro p e s m args below meth c S hr hlk hσ
  exact wX6_isJump_e S hr hlk ha1 ha2 hσ h
def vX6_hasModule (Q : Int → bS → Prop) (a1 : Int) (σ : bS) : Prop := ((a1 < 0 → (Q 0 σ)) ∧ (¬ a1 < 0 → (((σ 1 0) ≤ a1 → (Q 0 σ)) ∧ (¬ (σ 1 0) ≤ a1 → (Q 1 σ)))))
theorem mono_vX6_hasModule {Q Q9 : Int → bS → Prop} {a1 : Int} {σ : bS} (hQ : ∀ r σ, Q r σ → Q9 r σ) : vX6_hasModule Q a1 σ → vX6_hasModule Q9 a1 σ := (bm_and (bm_imp (hQ _ _)) (bm_imp (bm_and (bm_imp (hQ _ _)) (bm_imp (hQ _ _)))))
theorem wX6_hasModule_e {p : Program} {l : Launch} {e : Env} {s : State} {m : MethodId} {args : Array Value} {below : List Frame} {meth : Method} {c : Code} {G : bG} {σ0 : bS} {Q : Int → bS → Prop} {a1 : Int} {σ : bS} (S : CallFix p m c cX6_hasModule 2 s args bT "BankLinker$Program") (hr : meth.sig.returnType = some .boolean) (hlk : meth.locks = false) (ha1 : bR a1) (hσ : bRG σ) (h : vX6_hasModule Q a1 σ) : bA p l e { frames := 0, cells := 0, slots := 0, locals := 0 } s m args below meth c 0 0 (bQi below args s G σ0 Q) G (va_A (bk_w G σ0) s.heap.size) 2 0 [(0, .ref (G.2.2 1)), (1, .int (bI a1))] [] σ := by
  unfold vX6_hasModule at h
  refine br_iload_n S 1 dX6_hasModule_0 rfl rfl ?_
  refine br_if_lt S 16 ha1 dX6_hasModule_1 (by decide) (fun c1 => ?_) (fun c1 => ?_)
  · replace h := h.1 c1
    refine br_iconst S dX6_hasModule_16 ?_
    exact br_zret S hr hlk (by decide) hσ dX6_hasModule_17 h
  · replace h := h.2 c1
    refine br_iload_n S 1 dX6_hasModule_4 rfl rfl ?_
    refine br_aload_n S 0 dX6_hasModule_5 rfl rfl ?_
    refine br_get (f := 0) (N := 9) (C := RX6) (T := TX6) S inT_X6 wd_1_36 (by decide) rfl rfl (by decide) rfl dX6_hasModule_6 ?_
    refine br_ic_ge S 16 ha1 (hσ 1 0) dX6_hasModule_9 (by decide) (fun c2 => ?_) (fun c2 => ?_)
    · replace h := h.1 c2
      refine br_iconst S dX6_hasModule_16 ?_
      exact br_zret S hr hlk (by decide) hσ dX6_hasModule_17 h
    · replace h := h.2 c2
      refine br_iconst S dX6_hasModule_12 ?_
      refine br_goto S 17 dX6_hasModule_13 (by decide) ?_
      exact br_zret S hr hlk (by decide) hσ dX6_hasModule_17 h
theorem mono_X6_hasModule {Q Q9 : Int → bS → Prop} {a1 : Int} {σ : bS} (hQ : ∀ r σ, Q r σ → Q9 r σ) : vX6_hasModule Q a1 σ → vX6_hasModule Q9 a1 σ := mono_vX6_hasModule hQ
theorem mX6_hasModule (l : Launch) (G : bG) (σ : bS) (a1 : Int) (ha1 : bR a1) {Q : Int → bS → Prop} (h : vX6_hasModule Q a1 σ) : bk_Mi l yX6_hasModule (Cond.code yX6_hasModule cX6_hasModule 2 (some .boolean) :: bT) { frames := 0, cells := 0, slots := 0, locals := 0 } G σ [.ref (G.2.2 1), .int (bI a1)] Q := by
  refine bk_Mi.of (cc := cX6_hasModule) (maxL := 2) (ret := some .boolean) (by decide) rfl (Nat.le_of_ble_eq_true rfl) ?_
  intro p e s m args below meth c S hr hlk hσ
  exact wX6_hasModule_e S hr hlk ha1 hσ h
def vX6_hasRoutine (Q : Int → bS → Prop) (a1 : Int) (σ : bS) : Prop := ((a1 < 0 → (Q 0 σ)) ∧ (¬ a1 < 0 → (((σ 1 2) ≤ a1 → (Q 0 σ)) ∧ (¬ (σ 1 2) ≤ a1 → (Q 1 σ)))))
theorem mono_vX6_hasRoutine {Q Q9 : Int → bS → Prop} {a1 : Int} {σ : bS} (hQ : ∀ r σ, Q r σ → Q9 r σ) : vX6_hasRoutine Q a1 σ → vX6_hasRoutine Q9 a1 σ := (bm_and (bm_imp (hQ _ _)) (bm_imp (bm_and (bm_imp (hQ _ _)) (bm_imp (hQ _ _)))))
theorem wX6_hasRoutine_e {p : Program} {l : Launch} {e : Env} {s : State} {m : MethodId} {args : Array Value} {below : List Frame} {meth : Method} {c : Code} {G : bG} {σ0 : bS} {Q : Int → bS → Prop} {a1 : Int} {σ : bS} (S : CallFix p m c cX6_hasRoutine 2 s args bT "BankLinker$Program") (hr : meth.sig.returnType = some .boolean) (hlk : meth.locks = false) (ha1 : bR a1) (hσ : bRG σ) (h : vX6_hasRoutine Q a1 σ) : bA p l e { frames := 0, cells := 0, slots := 0, locals := 0 } s m args below meth c 0 0 (bQi below args s G σ0 Q) G (va_A (bk_w G σ0) s.heap.size) 2 0 [(0, .ref (G.2.2 1)), (1, .int (bI a1))] [] σ := by
  unfold vX6_hasRoutine at h
  refine br_iload_n S 1 dX6_hasRoutine_0 rfl rfl ?_
  refine br_if_lt S 16 ha1 dX6_hasRoutine_1 (by decide) (fun c1 => ?_) (fun c1 => ?_)
  · replace h := h.1 c1
    refine br_iconst S dX6_hasRoutine_16 ?_
    exact br_zret S hr hlk (by decide) hσ dX6_hasRoutine_17 h
  · replace h := h.2 c1
    refine br_iload_n S 1 dX6_hasRoutine_4 rfl rfl ?_
    refine br_aload_n S 0 dX6_hasRoutine_5 rfl rfl ?_
    refine br_get (f := 2) (N := 9) (C := RX6) (T := TX6) S inT_X6 wd_1_43 (by decide) rfl rfl (by decide) rfl dX6_hasRoutine_6 ?_
    refine br_ic_ge S 16 ha1 (hσ 1 2) dX6_hasRoutine_9 (by decide) (fun c2 => ?_) (fun c2 => ?_)
    · replace h := h.1 c2
      refine br_iconst S dX6_hasRoutine_16 ?_
      exact br_zret S hr hlk (by decide) hσ dX6_hasRoutine_17 h
    · replace h := h.2 c2
      refine br_iconst S dX6_hasRoutine_12 ?_
      refine br_goto S 17 dX6_hasRoutine_13 (by decide) ?_
      exact br_zret S hr hlk (by decide) hσ dX6_hasRoutine_17 h
theorem mono_X6_hasRoutine {Q Q9 : Int → bS → Prop} {a1 : Int} {σ : bS} (hQ : ∀ r σ, Q r σ → Q9 r σ) : vX6_hasRoutine Q a1 σ → vX6_hasRoutine Q9 a1 σ := mono_vX6_hasRoutine hQ
theorem mX6_hasRoutine (l : Launch) (G : bG) (σ : bS) (a1 : Int) (ha1 : bR a1) {Q : Int → bS → Prop} (h : vX6_hasRoutine Q a1 σ) : bk_Mi l yX6_hasRoutine (Cond.code yX6_hasRoutine cX6_hasRoutine 2 (some .boolean) :: bT) { frames := 0, cells := 0, slots := 0, locals := 0 } G σ [.ref (G.2.2 1), .int (bI a1)] Q := by
  refine bk_Mi.of (cc := cX6_hasRoutine) (maxL := 2) (ret := some .boolean) (by decide) rfl (Nat.le_of_ble_eq_true rfl) ?_
  intro p e s m args below meth c S hr hlk hσ
  exact wX6_hasRoutine_e S hr hlk ha1 hσ h
def vX6_addModule (Q : Int → bS → Prop) (a1 : Int) (σ : bS) : Prop := ((0 ≤ (σ 1 0) ∧ (σ 1 0) < 12) ∧ (∀ σ2 : bS, σ2 = bup σ 13 (σ 1 0) a1 → (bR ((σ2 1 0) + 1) ∧ (∀ σ5 : bS, σ5 = bup σ2 1 0 ((σ2 1 0) + 1) → (bR ((σ5 1 0) - 1) ∧ (Q ((σ5 1 0) - 1) σ5))))))
theorem mono_vX6_addModule {Q Q9 : Int → bS → Prop} {a1 : Int} {σ : bS} (hQ : ∀ r σ, Q r σ → Q9 r σ) : vX6_addModule Q a1 σ → vX6_addModule Q9 a1 σ := (bm_r (bm_all fun _ => bm_imp (bm_r (bm_all fun _ => bm_imp (bm_r (hQ _ _))))))
theorem wX6_addModule_e {p : Program} {l : Launch} {e : Env} {s : State} {m : MethodId} {args : Array Value} {below : List Frame} {meth : Method} {c : Code} {G : bG} {σ0 : bS} {Q : Int → bS → Prop} {a1 : Int} {σ : bS} (S : CallFix p m c cX6_addModule 2 s args bT "BankLinker$Program") (hr : meth.sig.returnType = some .int) (hlk : meth.locks = false) (ha1 : bR a1) (hσ : bRG σ) (h : vX6_addModule Q a1 σ) : bA p l e { frames := 0, cells := 0, slots := 0, locals := 0 } s m args below meth c 0 0 (bQi below args s G σ0 Q) G (va_A (bk_w G σ0) s.heap.size) 2 0 [(0, .ref (G.2.2 1)), (1, .int (bI a1))] [] σ := by
  unfold vX6_addModule at h
  refine br_aload_n S 0 dX6_addModule_0 rfl rfl ?_
  refine br_get (f := 1) (N := 9) (C := RX6) (T := TX6) S inT_X6 wd_1_40 (by decide) rfl rfl (by decide) rfl dX6_addModule_1 ?_
  refine br_aload_n S 0 dX6_addModule_4 rfl rfl ?_
  refine br_get (f := 0) (N := 9) (C := RX6) (T := TX6) S inT_X6 wd_1_36 (by decide) rfl rfl (by decide) rfl dX6_addModule_5 ?_
  refine br_iload_n S 1 dX6_addModule_8 rfl rfl ?_
  obtain ⟨g1, h⟩ := h
  obtain ⟨σ2, e3⟩ : ∃ τ, τ = bup σ 13 (σ 1 0) a1 := ⟨_, rfl⟩
  replace h := h σ2 e3
  have hσ2 : bRG σ2 := by rw [e3]; exact bup_rg hσ ha1
  refine br_iast (n := 12) S ⟨by decide, by decide, fun _ => rfl⟩ g1.1 g1.2 dX6_addModule_9 ?_
  refine bA.to rfl rfl e3.symm ?_
  refine br_aload_n S 0 dX6_addModule_10 rfl rfl ?_
  refine br_dup S dX6_addModule_11 rfl ?_
  refine br_get (f := 0) (N := 9) (C := RX6) (T := TX6) S inT_X6 wd_1_36 (by decide) rfl rfl (by decide) rfl dX6_addModule_12 ?_
  refine br_iconst S dX6_addModule_15 ?_
  refine br_iadd S dX6_addModule_16 ?_
  obtain ⟨g4, h⟩ := h
  obtain ⟨σ5, e6⟩ : ∃ τ, τ = bup σ2 1 0 ((σ2 1 0) + 1) := ⟨_, rfl⟩
  replace h := h σ5 e6
  have hσ5 : bRG σ5 := by rw [e6]; exact bup_rg hσ2 g4
  refine br_put (f := 0) (N := 9) (C := RX6) (T := TX6) S tyX6 tyX6_ok nmX6 inT_X6 wd_1_36 (by decide) rfl (pf_1_0 _ _ _) rfl (by decide) (Nat.le_of_ble_eq_true rfl) rfl rfl rfl rfl dX6_addModule_17 ?_
  refine bA.to rfl rfl e6.symm ?_
  refine br_aload_n S 0 dX6_addModule_20 rfl rfl ?_
  refine br_get (f := 0) (N := 9) (C := RX6) (T := TX6) S inT_X6 wd_1_36 (by decide) rfl rfl (by decide) rfl dX6_addModule_21 ?_
  refine br_iconst S dX6_addModule_24 ?_
  refine br_isub S dX6_addModule_25 ?_
  obtain ⟨g7, h⟩ := h
  exact br_iret S hr hlk g7 hσ5 dX6_addModule_26 h
theorem mono_X6_addModule {Q Q9 : Int → bS → Prop} {a1 : Int} {σ : bS} (hQ : ∀ r σ, Q r σ → Q9 r σ) : vX6_addModule Q a1 σ → vX6_addModule Q9 a1 σ := mono_vX6_addModule hQ
theorem mX6_addModule (l : Launch) (G : bG) (σ : bS) (a1 : Int) (ha1 : bR a1) {Q : Int → bS → Prop} (h : vX6_addModule Q a1 σ) : bk_Mi l yX6_addModule (Cond.code yX6_addModule cX6_addModule 2 (some .int) :: bT) { frames := 0, cells := 0, slots := 0, locals := 0 } G σ [.ref (G.2.2 1), .int (bI a1)] Q := by
  refine bk_Mi.of (cc := cX6_addModule) (maxL := 2) (ret := some .int) (by decide) rfl (Nat.le_of_ble_eq_true rfl) ?_
  intro p e s m args below meth c S hr hlk hσ
  exact wX6_addModule_e S hr hlk ha1 hσ h
def vX6_addRoutine (Q : Int → bS → Prop) (a1 : Int) (a2 : Int) (σ : bS) : Prop := ((0 ≤ (σ 1 2) ∧ (σ 1 2) < 30) ∧ (∀ σ2 : bS, σ2 = bup σ 14 (σ 1 2) a1 → ((0 ≤ (σ2 1 2) ∧ (σ2 1 2) < 30) ∧ (∀ σ5 : bS, σ5 = bup σ2 15 (σ2 1 2) a2 → (bR ((σ5 1 2) + 1) ∧ (∀ σ8 : bS, σ8 = bup σ5 1 2 ((σ5 1 2) + 1) → (bR ((σ8 1 2) - 1) ∧ (Q ((σ8 1 2) - 1) σ8))))))))
theorem mono_vX6_addRoutine {Q Q9 : Int → bS → Prop} {a1 : Int} {a2 : Int} {σ : bS} (hQ : ∀ r σ, Q r σ → Q9 r σ) : vX6_addRoutine Q a1 a2 σ → vX6_addRoutine Q9 a1 a2 σ := (bm_r (bm_all fun _ => bm_imp (bm_r (bm_all fun _ => bm_imp (bm_r (bm_all fun _ => bm_imp (bm_r (hQ _ _))))))))
theorem wX6_addRoutine_e {p : Program} {l : Launch} {e : Env} {s : State} {m : MethodId} {args : Array Value} {below : List Frame} {meth : Method} {c : Code} {G : bG} {σ0 : bS} {Q : Int → bS → Prop} {a1 : Int} {a2 : Int} {σ : bS} (S : CallFix p m c cX6_addRoutine 3 s args bT "BankLinker$Program") (hr : meth.sig.returnType = some .int) (hlk : meth.locks = false) (ha1 : bR a1) (ha2 : bR a2) (hσ : bRG σ) (h : vX6_addRoutine Q a1 a2 σ) : bA p l e { frames := 0, cells := 0, slots := 0, locals := 0 } s m args below meth c 0 0 (bQi below args s G σ0 Q) G (va_A (bk_w G σ0) s.heap.size) 3 0 [(0, .ref (G.2.2 1)), (1, .int (bI a1)), (2, .int (bI a2))] [] σ := by
  unfold vX6_addRoutine at h
  refine br_aload_n S 0 dX6_addRoutine_0 rfl rfl ?_
  refine br_get (f := 3) (N := 9) (C := RX6) (T := TX6) S inT_X6 wd_1_48 (by decide) rfl rfl (by decide) rfl dX6_addRoutine_1 ?_
  refine br_aload_n S 0 dX6_addRoutine_4 rfl rfl ?_
  refine br_get (f := 2) (N := 9) (C := RX6) (T := TX6) S inT_X6 wd_1_43 (by decide) rfl rfl (by decide) rfl dX6_addRoutine_5 ?_
  refine br_iload_n S 1 dX6_addRoutine_8 rfl rfl ?_
  obtain ⟨g1, h⟩ := h
  obtain ⟨σ2, e3⟩ : ∃ τ, τ = bup σ 14 (σ 1 2) a1 := ⟨_, rfl⟩
  replace h := h σ2 e3
  have hσ2 : bRG σ2 := by rw [e3]; exact bup_rg hσ ha1
  refine br_iast (n := 30) S ⟨by decide, by decide, fun _ => rfl⟩ g1.1 g1.2 dX6_addRoutine_9 ?_
  refine bA.to rfl rfl e3.symm ?_
  refine br_aload_n S 0 dX6_addRoutine_10 rfl rfl ?_
  refine br_get (f := 4) (N := 9) (C := RX6) (T := TX6) S inT_X6 wd_1_51 (by decide) rfl rfl (by decide) rfl dX6_addRoutine_11 ?_
  refine br_aload_n S 0 dX6_addRoutine_14 rfl rfl ?_
  refine br_get (f := 2) (N := 9) (C := RX6) (T := TX6) S inT_X6 wd_1_43 (by decide) rfl rfl (by decide) rfl dX6_addRoutine_15 ?_
  refine br_iload_n S 2 dX6_addRoutine_18 rfl rfl ?_
  obtain ⟨g4, h⟩ := h
  obtain ⟨σ5, e6⟩ : ∃ τ, τ = bup σ2 15 (σ2 1 2) a2 := ⟨_, rfl⟩
  replace h := h σ5 e6
  have hσ5 : bRG σ5 := by rw [e6]; exact bup_rg hσ2 ha2
  refine br_iast (n := 30) S ⟨by decide, by decide, fun _ => rfl⟩ g4.1 g4.2 dX6_addRoutine_19 ?_
  refine bA.to rfl rfl e6.symm ?_
  refine br_aload_n S 0 dX6_addRoutine_20 rfl rfl ?_
  refine br_dup S dX6_addRoutine_21 rfl ?_
  refine br_get (f := 2) (N := 9) (C := RX6) (T := TX6) S inT_X6 wd_1_43 (by decide) rfl rfl (by decide) rfl dX6_addRoutine_22 ?_
  refine br_iconst S dX6_addRoutine_25 ?_
  refine br_iadd S dX6_addRoutine_26 ?_
  obtain ⟨g7, h⟩ := h
  obtain ⟨σ8, e9⟩ : ∃ τ, τ = bup σ5 1 2 ((σ5 1 2) + 1) := ⟨_, rfl⟩
  replace h := h σ8 e9
  have hσ8 : bRG σ8 := by rw [e9]; exact bup_rg hσ5 g7
  refine br_put (f := 2) (N := 9) (C := RX6) (T := TX6) S tyX6 tyX6_ok nmX6 inT_X6 wd_1_43 (by decide) rfl (pf_1_2 _ _ _) rfl (by decide) (Nat.le_of_ble_eq_true rfl) rfl rfl rfl rfl dX6_addRoutine_27 ?_
  refine bA.to rfl rfl e9.symm ?_
  refine br_aload_n S 0 dX6_addRoutine_30 rfl rfl ?_
  refine br_get (f := 2) (N := 9) (C := RX6) (T := TX6) S inT_X6 wd_1_43 (by decide) rfl rfl (by decide) rfl dX6_addRoutine_31 ?_
  refine br_iconst S dX6_addRoutine_34 ?_
  refine br_isub S dX6_addRoutine_35 ?_
  obtain ⟨g10, h⟩ := h
  exact br_iret S hr hlk g10 hσ8 dX6_addRoutine_36 h
theorem mono_X6_addRoutine {Q Q9 : Int → bS → Prop} {a1 : Int} {a2 : Int} {σ : bS} (hQ : ∀ r σ, Q r σ → Q9 r σ) : vX6_addRoutine Q a1 a2 σ → vX6_addRoutine Q9 a1 a2 σ := mono_vX6_addRoutine hQ
theorem mX6_addRoutine (l : Launch) (G : bG) (σ : bS) (a1 : Int) (ha1 : bR a1) (a2 : Int) (ha2 : bR a2) {Q : Int → bS → Prop} (h : vX6_addRoutine Q a1 a2 σ) : bk_Mi l yX6_addRoutine (Cond.code yX6_addRoutine cX6_addRoutine 3 (some .int) :: bT) { frames := 0, cells := 0, slots := 0, locals := 0 } G σ [.ref (G.2.2 1), .int (bI a1), .int (bI a2)] Q := by
  refine bk_Mi.of (cc := cX6_addRoutine) (maxL := 3) (ret := some .int) (by decide) rfl (Nat.le_of_ble_eq_true rfl) ?_
  intro p e s m args below meth c S hr hlk hσ
  exact wX6_addRoutine_e S hr hlk ha1 ha2 hσ h
def vX6_addOp (Q : Int → bS → Prop) (a1 : Int) (a2 : Int) (a3 : Int) (σ : bS) : Prop := ((0 ≤ a1 ∧ a1 < 30) ∧ ((0 ≤ ((a1 * 40) + (σ 16 a1)) ∧ ((a1 * 40) + (σ 16 a1)) < 1200) ∧ (∀ σ3 : bS, σ3 = bup σ 17 ((a1 * 40) + (σ 16 a1)) a2 → (∀ σ5 : bS, σ5 = bup σ3 18 ((a1 * 40) + (σ 16 a1)) a3 → (bR ((σ5 16 a1) + 1) ∧ (∀ σ8 : bS, σ8 = bup σ5 16 a1 ((σ5 16 a1) + 1) → (Q (σ8 16 a1) σ8)))))))
theorem mono_vX6_addOp {Q Q9 : Int → bS → Prop} {a1 : Int} {a2 : Int} {a3 : Int} {σ : bS} (hQ : ∀ r σ, Q r σ → Q9 r σ) : vX6_addOp Q a1 a2 a3 σ → vX6_addOp Q9 a1 a2 a3 σ := (bm_r (bm_r (bm_all fun _ => bm_imp (bm_all fun _ => bm_imp (bm_r (bm_all fun _ => bm_imp (hQ _ _)))))))
theorem wX6_addOp_e {p : Program} {l : Launch} {e : Env} {s : State} {m : MethodId} {args : Array Value} {below : List Frame} {meth : Method} {c : Code} {G : bG} {σ0 : bS} {Q : Int → bS → Prop} {a1 : Int} {a2 : Int} {a3 : Int} {σ : bS} (S : CallFix p m c cX6_addOp 5 s args bT "BankLinker$Program") (hr : meth.sig.returnType = some .int) (hlk : meth.locks = false) (ha1 : bR a1) (ha2 : bR a2) (ha3 : bR a3) (hσ : bRG σ) (h : vX6_addOp Q a1 a2 a3 σ) : bA p l e { frames := 0, cells := 0, slots := 0, locals := 0 } s m args below meth c 0 0 (bQi below args s G σ0 Q) G (va_A (bk_w G σ0) s.heap.size) 5 0 [(0, .ref (G.2.2 1)), (1, .int (bI a1)), (2, .int (bI a2)), (3, .int (bI a3))] [] σ := by
  unfold vX6_addOp at h
  refine br_iload_n S 1 dX6_addOp_0 rfl rfl ?_
  refine br_bipush S dX6_addOp_1 rfl ?_
  refine br_imul S dX6_addOp_3 ?_
  refine br_aload_n S 0 dX6_addOp_4 rfl rfl ?_
  refine br_get (f := 5) (N := 9) (C := RX6) (T := TX6) S inT_X6 wd_1_54 (by decide) rfl rfl (by decide) rfl dX6_addOp_5 ?_
  refine br_iload_n S 1 dX6_addOp_8 rfl rfl ?_
  obtain ⟨g1, h⟩ := h
  refine br_iald (n := 30) S ⟨by decide, by decide, fun _ => rfl⟩ g1.1 g1.2 dX6_addOp_9 ?_
  refine br_iadd S dX6_addOp_10 ?_
  refine br_istore S [(4, .int (bI ((a1 * 40) + (σ 16 a1)))), (0, .ref (G.2.2 1)), (1, .int (bI a1)), (2, .int (bI a2)), (3, .int (bI a3))] dX6_addOp_11 (by decide) rfl ?_
  refine br_aload_n S 1 dX6_addOp_13 rfl rfl ?_
  refine br_get (f := 6) (N := 9) (C := RX6) (T := TX6) S inT_X6 wd_1_60 (by decide) rfl rfl (by decide) rfl dX6_addOp_14 ?_
  refine br_iload S 0 dX6_addOp_17 rfl ?_
  refine br_iload_n S 3 dX6_addOp_19 rfl rfl ?_
  obtain ⟨g2, h⟩ := h
  obtain ⟨σ3, e4⟩ : ∃ τ, τ = bup σ 17 ((a1 * 40) + (σ 16 a1)) a2 := ⟨_, rfl⟩
  replace h := h σ3 e4
  have hσ3 : bRG σ3 := by rw [e4]; exact bup_rg hσ ha2
  refine br_iast (n := 1200) S ⟨by decide, by decide, fun _ => rfl⟩ g2.1 g2.2 dX6_addOp_20 ?_
  refine bA.to rfl rfl e4.symm ?_
  refine br_aload_n S 1 dX6_addOp_21 rfl rfl ?_
  refine br_get (f := 7) (N := 9) (C := RX6) (T := TX6) S inT_X6 wd_1_61 (by decide) rfl rfl (by decide) rfl dX6_addOp_22 ?_
  refine br_iload S 0 dX6_addOp_25 rfl ?_
  refine br_iload_n S 4 dX6_addOp_27 rfl rfl ?_
  obtain ⟨σ5, e6⟩ : ∃ τ, τ = bup σ3 18 ((a1 * 40) + (σ 16 a1)) a3 := ⟨_, rfl⟩
  replace h := h σ5 e6
  have hσ5 : bRG σ5 := by rw [e6]; exact bup_rg hσ3 ha3
  refine br_iast (n := 1200) S ⟨by decide, by decide, fun _ => rfl⟩ g2.1 g2.2 dX6_addOp_28 ?_
  refine bA.to rfl rfl e6.symm ?_
  refine br_aload_n S 1 dX6_addOp_29 rfl rfl ?_
  refine br_get (f := 5) (N := 9) (C := RX6) (T := TX6) S inT_X6 wd_1_54 (by decide) rfl rfl (by decide) rfl dX6_addOp_30 ?_
  refine br_iload_n S 2 dX6_addOp_33 rfl rfl ?_
  refine br_dup2 S dX6_addOp_34 rfl rfl ?_
  refine br_iald (n := 30) S ⟨by decide, by decide, fun _ => rfl⟩ g1.1 g1.2 dX6_addOp_35 ?_
  refine br_iconst S dX6_addOp_36 ?_
  refine br_iadd S dX6_addOp_37 ?_
  obtain ⟨g7, h⟩ := h
  obtain ⟨σ8, e9⟩ : ∃ τ, τ = bup σ5 16 a1 ((σ5 16 a1) + 1) := ⟨_, rfl⟩
  replace h := h σ8 e9
  have hσ8 : bRG σ8 := by rw [e9]; exact bup_rg hσ5 g7
  refine br_iast (n := 30) S ⟨by decide, by decide, fun _ => rfl⟩ g1.1 g1.2 dX6_addOp_38 ?_
  refine bA.to rfl rfl e9.symm ?_
  refine br_aload_n S 1 dX6_addOp_39 rfl rfl ?_
  refine br_get (f := 5) (N := 9) (C := RX6) (T := TX6) S inT_X6 wd_1_54 (by decide) rfl rfl (by decide) rfl dX6_addOp_40 ?_
  refine br_iload_n S 2 dX6_addOp_43 rfl rfl ?_
  refine br_iald (n := 30) S ⟨by decide, by decide, fun _ => rfl⟩ g1.1 g1.2 dX6_addOp_44 ?_
  exact br_iret S hr hlk (hσ8 16 a1) hσ8 dX6_addOp_45 h
theorem mono_X6_addOp {Q Q9 : Int → bS → Prop} {a1 : Int} {a2 : Int} {a3 : Int} {σ : bS} (hQ : ∀ r σ, Q r σ → Q9 r σ) : vX6_addOp Q a1 a2 a3 σ → vX6_addOp Q9 a1 a2 a3 σ := mono_vX6_addOp hQ
theorem mX6_addOp (l : Launch) (G : bG) (σ : bS) (a1 : Int) (ha1 : bR a1) (a2 : Int) (ha2 : bR a2) (a3 : Int) (ha3 : bR a3) {Q : Int → bS → Prop} (h : vX6_addOp Q a1 a2 a3 σ) : bk_Mi l yX6_addOp (Cond.code yX6_addOp cX6_addOp 5 (some .int) :: bT) { frames := 0, cells := 0, slots := 0, locals := 0 } G σ [.ref (G.2.2 1), .int (bI a1), .int (bI a2), .int (bI a3)] Q := by
  refine bk_Mi.of (cc := cX6_addOp) (maxL := 5) (ret := some .int) (by decide) rfl (Nat.le_of_ble_eq_true rfl) ?_
  intro p e s m args below meth c S hr hlk hσ
  exact wX6_addOp_e S hr hlk ha1 ha2 ha3 hσ h
def vX6_mayAdd_48 (Q : Int → bS → Prop) (x3 : Int) (σ : bS) : Prop := ((x3 < 0 → (Q 0 σ)) ∧ (¬ x3 < 0 → ((255 < x3 → (Q 0 σ)) ∧ (¬ 255 < x3 → (Q 1 σ)))))
theorem mono_vX6_mayAdd_48 {Q Q9 : Int → bS → Prop} {x3 : Int} {σ : bS} (hQ : ∀ r σ, Q r σ → Q9 r σ) : vX6_mayAdd_48 Q x3 σ → vX6_mayAdd_48 Q9 x3 σ := (bm_and (bm_imp (hQ _ _)) (bm_imp (bm_and (bm_imp (hQ _ _)) (bm_imp (hQ _ _)))))
theorem wX6_mayAdd_48 {p : Program} {l : Launch} {e : Env} {s : State} {m : MethodId} {args : Array Value} {below : List Frame} {meth : Method} {c : Code} {G : bG} {σ0 : bS} {Q : Int → bS → Prop} {x3 : Int} {σ : bS} (S : CallFix p m c cX6_mayAdd 4 s args bT "BankLinker$Program") (hr : meth.sig.returnType = some .boolean) (hlk : meth.locks = false) (hx3 : bR x3) (hσ : bRG σ) (h : vX6_mayAdd_48 Q x3 σ) : bA p l e { frames := 1, cells := 0, slots := 0, locals := 21 } s m args below meth c 0 0 (bQi below args s G σ0 Q) G (va_A (bk_w G σ0) s.heap.size) 4 48 [(3, .int (bI x3))] [] σ := by
  unfold vX6_mayAdd_48 at h
  refine br_iload_n S 0 dX6_mayAdd_48 rfl rfl ?_
  refine br_if_lt S 63 hx3 dX6_mayAdd_49 (by decide) (fun c1 => ?_) (fun c1 => ?_)
  · replace h := h.1 c1
    refine br_iconst S dX6_mayAdd_63 ?_
    exact br_zret S hr hlk (by decide) hσ dX6_mayAdd_64 h
  · replace h := h.2 c1
    refine br_iload_n S 0 dX6_mayAdd_52 rfl rfl ?_
    refine br_sipush S dX6_mayAdd_53 rfl ?_
    refine br_ic_gt S 63 hx3 (by decide) dX6_mayAdd_56 (by decide) (fun c2 => ?_) (fun c2 => ?_)
    · replace h := h.1 c2
      refine br_iconst S dX6_mayAdd_63 ?_
      exact br_zret S hr hlk (by decide) hσ dX6_mayAdd_64 h
    · replace h := h.2 c2
      refine br_iconst S dX6_mayAdd_59 ?_
      refine br_goto S 64 dX6_mayAdd_60 (by decide) ?_
      exact br_zret S hr hlk (by decide) hσ dX6_mayAdd_64 h
def vX6_mayAdd_65 (Q : Int → bS → Prop) (x1 : Int) (x3 : Int) (σ : bS) : Prop := ((x3 < 0 → (Q 0 σ)) ∧ (¬ x3 < 0 → ((0 ≤ x1 ∧ x1 < 30) ∧ (((σ 15 x1) ≤ x3 → (Q 0 σ)) ∧ (¬ (σ 15 x1) ≤ x3 → (Q 1 σ))))))
theorem mono_vX6_mayAdd_65 {Q Q9 : Int → bS → Prop} {x1 : Int} {x3 : Int} {σ : bS} (hQ : ∀ r σ, Q r σ → Q9 r σ) : vX6_mayAdd_65 Q x1 x3 σ → vX6_mayAdd_65 Q9 x1 x3 σ := (bm_and (bm_imp (hQ _ _)) (bm_imp (bm_r (bm_and (bm_imp (hQ _ _)) (bm_imp (hQ _ _))))))
theorem wX6_mayAdd_65 {p : Program} {l : Launch} {e : Env} {s : State} {m : MethodId} {args : Array Value} {below : List Frame} {meth : Method} {c : Code} {G : bG} {σ0 : bS} {Q : Int → bS → Prop} {x1 : Int} {x3 : Int} {σ : bS} (S : CallFix p m c cX6_mayAdd 4 s args bT "BankLinker$Program") (hr : meth.sig.returnType = some .boolean) (hlk : meth.locks = false) (hx1 : bR x1) (hx3 : bR x3) (hσ : bRG σ) (h : vX6_mayAdd_65 Q x1 x3 σ) : bA p l e { frames := 1, cells := 0, slots := 0, locals := 21 } s m args below meth c 0 0 (bQi below args s G σ0 Q) G (va_A (bk_w G σ0) s.heap.size) 4 65 [(0, .ref (G.2.2 1)), (1, .int (bI x1)), (3, .int (bI x3))] [] σ := by
  unfold vX6_mayAdd_65 at h
  refine br_iload_n S 2 dX6_mayAdd_65 rfl rfl ?_
  refine br_if_lt S 83 hx3 dX6_mayAdd_66 (by decide) (fun c1 => ?_) (fun c1 => ?_)
  · replace h := h.1 c1
    refine br_iconst S dX6_mayAdd_83 ?_
    exact br_zret S hr hlk (by decide) hσ dX6_mayAdd_84 h
  · replace h := h.2 c1
    refine br_iload_n S 2 dX6_mayAdd_69 rfl rfl ?_
    refine br_aload_n S 0 dX6_mayAdd_70 rfl rfl ?_
    refine br_get (f := 4) (N := 9) (C := RX6) (T := TX6) S inT_X6 wd_1_51 (by decide) rfl rfl (by decide) rfl dX6_mayAdd_71 ?_
    refine br_iload_n S 1 dX6_mayAdd_74 rfl rfl ?_
    obtain ⟨g2, h⟩ := h
    refine br_iald (n := 30) S ⟨by decide, by decide, fun _ => rfl⟩ g2.1 g2.2 dX6_mayAdd_75 ?_
    refine br_ic_ge S 83 hx3 (hσ 15 x1) dX6_mayAdd_76 (by decide) (fun c3 => ?_) (fun c3 => ?_)
    · replace h := h.1 c3
      refine br_iconst S dX6_mayAdd_83 ?_
      exact br_zret S hr hlk (by decide) hσ dX6_mayAdd_84 h
    · replace h := h.2 c3
      refine br_iconst S dX6_mayAdd_79 ?_
      refine br_goto S 84 dX6_mayAdd_80 (by decide) ?_
      exact br_zret S hr hlk (by decide) hσ dX6_mayAdd_84 h
def vX6_mayAdd_91 (Q : Int → bS → Prop) (x3 : Int) (σ : bS) : Prop := ((x3 < 0 → (Q 0 σ)) ∧ (¬ x3 < 0 → ((40 < x3 → (Q 0 σ)) ∧ (¬ 40 < x3 → (Q 1 σ)))))
theorem mono_vX6_mayAdd_91 {Q Q9 : Int → bS → Prop} {x3 : Int} {σ : bS} (hQ : ∀ r σ, Q r σ → Q9 r σ) : vX6_mayAdd_91 Q x3 σ → vX6_mayAdd_91 Q9 x3 σ := (bm_and (bm_imp (hQ _ _)) (bm_imp (bm_and (bm_imp (hQ _ _)) (bm_imp (hQ _ _)))))
theorem wX6_mayAdd_91 {p : Program} {l : Launch} {e : Env} {s : State} {m : MethodId} {args : Array Value} {below : List Frame} {meth : Method} {c : Code} {G : bG} {σ0 : bS} {Q : Int → bS → Prop} {x3 : Int} {σ : bS} (S : CallFix p m c cX6_mayAdd 4 s args bT "BankLinker$Program") (hr : meth.sig.returnType = some .boolean) (hlk : meth.locks = false) (hx3 : bR x3) (hσ : bRG σ) (h : vX6_mayAdd_91 Q x3 σ) : bA p l e { frames := 1, cells := 0, slots := 0, locals := 21 } s m args below meth c 0 0 (bQi below args s G σ0 Q) G (va_A (bk_w G σ0) s.heap.size) 4 91 [(3, .int (bI x3))] [] σ := by
  unfold vX6_mayAdd_91 at h
  refine br_iload_n S 0 dX6_mayAdd_91 rfl rfl ?_
  refine br_if_lt S 105 hx3 dX6_mayAdd_92 (by decide) (fun c1 => ?_) (fun c1 => ?_)
  · replace h := h.1 c1
    refine br_iconst S dX6_mayAdd_105 ?_
    exact br_zret S hr hlk (by decide) hσ dX6_mayAdd_106 h
  · replace h := h.2 c1
    refine br_iload_n S 0 dX6_mayAdd_95 rfl rfl ?_
    refine br_bipush S dX6_mayAdd_96 rfl ?_
    refine br_ic_gt S 105 hx3 (by decide) dX6_mayAdd_98 (by decide) (fun c2 => ?_) (fun c2 => ?_)
    · replace h := h.1 c2
      refine br_iconst S dX6_mayAdd_105 ?_
      exact br_zret S hr hlk (by decide) hσ dX6_mayAdd_106 h
    · replace h := h.2 c2
      refine br_iconst S dX6_mayAdd_101 ?_
      refine br_goto S 106 dX6_mayAdd_102 (by decide) ?_
      exact br_zret S hr hlk (by decide) hσ dX6_mayAdd_106 h
def vX6_mayAdd_107 (Q : Int → bS → Prop) (x2 : Int) (σ : bS) : Prop := ((x2 = 2 → (Q 1 σ)) ∧ (¬ x2 = 2 → ((¬ x2 = 8 → (Q 0 σ)) ∧ (x2 = 8 → (Q 1 σ)))))
theorem mono_vX6_mayAdd_107 {Q Q9 : Int → bS → Prop} {x2 : Int} {σ : bS} (hQ : ∀ r σ, Q r σ → Q9 r σ) : vX6_mayAdd_107 Q x2 σ → vX6_mayAdd_107 Q9 x2 σ := (bm_and (bm_imp (hQ _ _)) (bm_imp (bm_and (bm_imp (hQ _ _)) (bm_imp (hQ _ _)))))
theorem wX6_mayAdd_107 {p : Program} {l : Launch} {e : Env} {s : State} {m : MethodId} {args : Array Value} {below : List Frame} {meth : Method} {c : Code} {G : bG} {σ0 : bS} {Q : Int → bS → Prop} {x2 : Int} {σ : bS} (S : CallFix p m c cX6_mayAdd 4 s args bT "BankLinker$Program") (hr : meth.sig.returnType = some .boolean) (hlk : meth.locks = false) (hx2 : bR x2) (hσ : bRG σ) (h : vX6_mayAdd_107 Q x2 σ) : bA p l e { frames := 1, cells := 0, slots := 0, locals := 21 } s m args below meth c 0 0 (bQi below args s G σ0 Q) G (va_A (bk_w G σ0) s.heap.size) 4 107 [(2, .int (bI x2))] [] σ := by
  unfold vX6_mayAdd_107 at h
  refine br_iload_n S 0 dX6_mayAdd_107 rfl rfl ?_
  refine br_iconst S dX6_mayAdd_108 ?_
  refine br_ic_eq S 118 hx2 (by decide) dX6_mayAdd_109 (by decide) (fun c1 => ?_) (fun c1 => ?_)
  · replace h := h.1 c1
    refine br_iconst S dX6_mayAdd_118 ?_
    refine br_goto S 123 dX6_mayAdd_119 (by decide) ?_
    exact br_zret S hr hlk (by decide) hσ dX6_mayAdd_123 h
  · replace h := h.2 c1
    refine br_iload_n S 0 dX6_mayAdd_112 rfl rfl ?_
    refine br_bipush S dX6_mayAdd_113 rfl ?_
    refine br_ic_ne S 122 hx2 (by decide) dX6_mayAdd_115 (by decide) (fun c2 => ?_) (fun c2 => ?_)
    · replace h := h.1 c2
      refine br_iconst S dX6_mayAdd_122 ?_
      exact br_zret S hr hlk (by decide) hσ dX6_mayAdd_123 h
    · replace h := h.2 c2
      refine br_iconst S dX6_mayAdd_118 ?_
      refine br_goto S 123 dX6_mayAdd_119 (by decide) ?_
      exact br_zret S hr hlk (by decide) hσ dX6_mayAdd_123 h
def vX6_mayAdd (Q : Int → bS → Prop) (a1 : Int) (a2 : Int) (a3 : Int) (σ : bS) : Prop := (((a2 < 0 ∨ 7 < a2) → (vX6_mayAdd_107 Q a2 σ)) ∧ (a2 = 0 → (vX6_mayAdd_48 Q a3 σ)) ∧ (a2 = 1 → (vX6_mayAdd_48 Q a3 σ)) ∧ (a2 = 2 → (vX6_mayAdd_107 Q a2 σ)) ∧ (a2 = 3 → (vX6_mayAdd_65 Q a1 a3 σ)) ∧ (a2 = 4 → (vX6_mayAdd_65 Q a1 a3 σ)) ∧ (a2 = 5 → (vX6_hasRoutine (fun z3 σ4 => ((z3 = 0 ∨ z3 = 1) ∧ (Q z3 σ4))) a3 σ)) ∧ (a2 = 6 → (vX6_mayAdd_91 Q a3 σ)) ∧ (a2 = 7 → (vX6_mayAdd_91 Q a3 σ)))
theorem mono_vX6_mayAdd {Q Q9 : Int → bS → Prop} {a1 : Int} {a2 : Int} {a3 : Int} {σ : bS} (hQ : ∀ r σ, Q r σ → Q9 r σ) : vX6_mayAdd Q a1 a2 a3 σ → vX6_mayAdd Q9 a1 a2 a3 σ := (bm_and (bm_imp (mono_vX6_mayAdd_107 hQ)) (bm_and (bm_imp (mono_vX6_mayAdd_48 hQ)) (bm_and (bm_imp (mono_vX6_mayAdd_48 hQ)) (bm_and (bm_imp (mono_vX6_mayAdd_107 hQ)) (bm_and (bm_imp (mono_vX6_mayAdd_65 hQ)) (bm_and (bm_imp (mono_vX6_mayAdd_65 hQ)) (bm_and (bm_imp (mono_X6_hasRoutine (fun _ _ => (bm_r (hQ _ _))))) (bm_and (bm_imp (mono_vX6_mayAdd_91 hQ)) (bm_imp (mono_vX6_mayAdd_91 hQ))))))))))
theorem wX6_mayAdd_e {p : Program} {l : Launch} {e : Env} {s : State} {m : MethodId} {args : Array Value} {below : List Frame} {meth : Method} {c : Code} {G : bG} {σ0 : bS} {Q : Int → bS → Prop} {a1 : Int} {a2 : Int} {a3 : Int} {σ : bS} (S : CallFix p m c cX6_mayAdd 4 s args bT "BankLinker$Program") (hr : meth.sig.returnType = some .boolean) (hlk : meth.locks = false) (ha1 : bR a1) (ha2 : bR a2) (ha3 : bR a3) (hσ : bRG σ) (h : vX6_mayAdd Q a1 a2 a3 σ) : bA p l e { frames := 1, cells := 0, slots := 0, locals := 21 } s m args below meth c 0 0 (bQi below args s G σ0 Q) G (va_A (bk_w G σ0) s.heap.size) 4 0 [(0, .ref (G.2.2 1)), (1, .int (bI a1)), (2, .int (bI a2)), (3, .int (bI a3))] [] σ := by
  unfold vX6_mayAdd at h
  refine br_iload_n S 2 dX6_mayAdd_0 rfl rfl ?_
  by_cases c1 : a2 < 0 ∨ 7 < a2
  · replace h := h.1 c1
    refine br_tblO S 107 ha2 c1 dX6_mayAdd_1 (by decide) ?_
    exact bA.perm [2] rfl <| wX6_mayAdd_107 S hr hlk ha2 hσ h
  · rcases (show a2 = 0 ∨ a2 = 1 ∨ a2 = 2 ∨ a2 = 3 ∨ a2 = 4 ∨ a2 = 5 ∨ a2 = 6 ∨ a2 = 7 by omega) with c2 | c2 | c2 | c2 | c2 | c2 | c2 | c2
    · replace h := h.2.1 c2
      refine br_tblI S 48 0 ha2 c2 (by decide) rfl dX6_mayAdd_1 (by decide) ?_
      exact bA.perm [3] rfl <| wX6_mayAdd_48 S hr hlk ha3 hσ h
    · replace h := h.2.2.1 c2
      refine br_tblI S 48 1 ha2 c2 (by decide) rfl dX6_mayAdd_1 (by decide) ?_
      exact bA.perm [3] rfl <| wX6_mayAdd_48 S hr hlk ha3 hσ h
    · replace h := h.2.2.2.1 c2
      refine br_tblI S 107 2 ha2 c2 (by decide) rfl dX6_mayAdd_1 (by decide) ?_
      exact bA.perm [2] rfl <| wX6_mayAdd_107 S hr hlk ha2 hσ h
    · replace h := h.2.2.2.2.1 c2
      refine br_tblI S 65 3 ha2 c2 (by decide) rfl dX6_mayAdd_1 (by decide) ?_
      exact bA.perm [0, 1, 3] rfl <| wX6_mayAdd_65 S hr hlk ha1 ha3 hσ h
    · replace h := h.2.2.2.2.2.1 c2
      refine br_tblI S 65 4 ha2 c2 (by decide) rfl dX6_mayAdd_1 (by decide) ?_
      exact bA.perm [0, 1, 3] rfl <| wX6_mayAdd_65 S hr hlk ha1 ha3 hσ h
    · replace h := h.2.2.2.2.2.2.1 c2
      refine br_tblI S 85 5 ha2 c2 (by decide) rfl dX6_mayAdd_1 (by decide) ?_
      refine br_aload_n S 0 dX6_mayAdd_85 rfl rfl ?_
      refine br_iload_n S 3 dX6_mayAdd_86 rfl rfl ?_
      refine br_callV (As := [.int (bI a3)]) (rest := []) S (cwV_X6_hasRoutine S.2.2.2.2 wd_2_120 ⟨by decide, by decide⟩) (mX6_hasRoutine l G σ a3 ha3 h) (by decide) rfl rfl rfl hσ rfl rfl (Nat.le_of_ble_eq_true rfl) ⟨by decide, by decide⟩ dX6_mayAdd_87 (fun z3 σ4 hz3 hσ4 h => ?_)
      obtain ⟨g5, h⟩ := h
      exact br_zret S hr hlk g5 hσ4 dX6_mayAdd_90 h
    · replace h := h.2.2.2.2.2.2.2.1 c2
      refine br_tblI S 91 6 ha2 c2 (by decide) rfl dX6_mayAdd_1 (by decide) ?_
      exact bA.perm [3] rfl <| wX6_mayAdd_91 S hr hlk ha3 hσ h
    · replace h := h.2.2.2.2.2.2.2.2 c2
      refine br_tblI S 91 7 ha2 c2 (by decide) rfl dX6_mayAdd_1 (by decide) ?_
      exact bA.perm [3] rfl <| wX6_mayAdd_91 S hr hlk ha3 hσ h
theorem mono_X6_mayAdd {Q Q9 : Int → bS → Prop} {a1 : Int} {a2 : Int} {a3 : Int} {σ : bS} (hQ : ∀ r σ, Q r σ → Q9 r σ) : vX6_mayAdd Q a1 a2 a3 σ → vX6_mayAdd Q9 a1 a2 a3 σ := mono_vX6_mayAdd hQ
theorem mX6_mayAdd (l : Launch) (G : bG) (σ : bS) (a1 : Int) (ha1 : bR a1) (a2 : Int) (ha2 : bR a2) (a3 : Int) (ha3 : bR a3) {Q : Int → bS → Prop} (h : vX6_mayAdd Q a1 a2 a3 σ) : bk_Mi l yX6_mayAdd (Cond.code yX6_mayAdd cX6_mayAdd 4 (some .boolean) :: bT) { frames := 1, cells := 0, slots := 0, locals := 21 } G σ [.ref (G.2.2 1), .int (bI a1), .int (bI a2), .int (bI a3)] Q := by
  refine bk_Mi.of (cc := cX6_mayAdd) (maxL := 4) (ret := some .boolean) (by decide) rfl (Nat.le_of_ble_eq_true rfl) ?_
  intro p e s m args below meth c S hr hlk hσ
  exact wX6_mayAdd_e S hr hlk ha1 ha2 ha3 hσ h
def bX6_opsOfAll_4 (Q : Int → bS → Prop) (P4 : Int → Int → bS → Prop) (x1 : Int) (x2 : Int) (σ : bS) : Prop := (((σ 1 2) ≤ x2 → (Q x1 σ)) ∧ (¬ (σ 1 2) ≤ x2 → ((0 ≤ x2 ∧ x2 < 30) ∧ (bR (x1 + (σ 16 x2)) ∧ (bR (x2 + 1) ∧ (P4 (x1 + (σ 16 x2)) (x2 + 1) σ))))))
theorem mono_bX6_opsOfAll_4 {Q Q9 : Int → bS → Prop} {P4 P49 : Int → Int → bS → Prop} {x1 : Int} {x2 : Int} {σ : bS} (hQ : ∀ r σ, Q r σ → Q9 r σ) (hP4 : ∀ x1 x2 σ, P4 x1 x2 σ → P49 x1 x2 σ) : bX6_opsOfAll_4 Q P4 x1 x2 σ → bX6_opsOfAll_4 Q9 P49 x1 x2 σ := (bm_and (bm_imp (hQ _ _)) (bm_imp (bm_r (bm_r (bm_r (hP4 _ _ _))))))
theorem wX6_opsOfAll_4 {p : Program} {l : Launch} {e : Env} {s : State} {m : MethodId} {args : Array Value} {below : List Frame} {meth : Method} {c : Code} {G : bG} {σ0 : bS} {Q : Int → bS → Prop} {P4 : Int → Int → bS → Prop} {x1 : Int} {x2 : Int} {σ : bS} (S : CallFix p m c cX6_opsOfAll 3 s args bT "BankLinker$Program") (hr : meth.sig.returnType = some .int) (hlk : meth.locks = false) (hP4 : ∀ (x1 : Int) (x2 : Int) (σ : bS), bR x1 → bR x2 → bRG σ → P4 x1 x2 σ → bA p l e { frames := 0, cells := 0, slots := 0, locals := 0 } s m args below meth c 0 0 (bQi below args s G σ0 Q) G (va_A (bk_w G σ0) s.heap.size) 3 4 [(0, .ref (G.2.2 1)), (1, .int (bI x1)), (2, .int (bI x2))] [] σ) (hx1 : bR x1) (hx2 : bR x2) (hσ : bRG σ) (h : bX6_opsOfAll_4 Q P4 x1 x2 σ) : bA p l e { frames := 0, cells := 0, slots := 0, locals := 0 } s m args below meth c 0 0 (bQi below args s G σ0 Q) G (va_A (bk_w G σ0) s.heap.size) 3 4 [(0, .ref (G.2.2 1)), (1, .int (bI x1)), (2, .int (bI x2))] [] σ := by
  unfold bX6_opsOfAll_4 at h
  refine br_iload_n S 2 dX6_opsOfAll_4 rfl rfl ?_
  refine br_aload_n S 0 dX6_opsOfAll_5 rfl rfl ?_
  refine br_get (f := 2) (N := 9) (C := RX6) (T := TX6) S inT_X6 wd_1_43 (by decide) rfl rfl (by decide) rfl dX6_opsOfAll_6 ?_
  refine br_ic_ge S 27 hx2 (hσ 1 2) dX6_opsOfAll_9 (by decide) (fun c1 => ?_) (fun c1 => ?_)
  · replace h := h.1 c1
    refine br_iload_n S 1 dX6_opsOfAll_27 rfl rfl ?_
    exact br_iret S hr hlk hx1 hσ dX6_opsOfAll_28 h
  · replace h := h.2 c1
    refine br_iload_n S 1 dX6_opsOfAll_12 rfl rfl ?_
    refine br_aload_n S 0 dX6_opsOfAll_13 rfl rfl ?_
    refine br_get (f := 5) (N := 9) (C := RX6) (T := TX6) S inT_X6 wd_1_54 (by decide) rfl rfl (by decide) rfl dX6_opsOfAll_14 ?_
    refine br_iload_n S 2 dX6_opsOfAll_17 rfl rfl ?_
    obtain ⟨g2, h⟩ := h
    refine br_iald (n := 30) S ⟨by decide, by decide, fun _ => rfl⟩ g2.1 g2.2 dX6_opsOfAll_18 ?_
    refine br_iadd S dX6_opsOfAll_19 ?_
    refine br_istore_n S [(1, .int (bI (x1 + (σ 16 x2)))), (0, .ref (G.2.2 1)), (2, .int (bI x2))] dX6_opsOfAll_20 rfl (by decide) rfl ?_
    refine br_iinc S 2 [(2, .int (bI (x2 + 1))), (1, .int (bI (x1 + (σ 16 x2)))), (0, .ref (G.2.2 1))] dX6_opsOfAll_21 rfl (by decide) rfl ?_
    refine br_goto S 4 dX6_opsOfAll_24 (by decide) ?_
    obtain ⟨g3, h⟩ := h
    obtain ⟨g4, h⟩ := h
    exact bA.perm [2, 1, 0] rfl <| hP4 (x1 + (σ 16 x2)) (x2 + 1) σ g3 g4 hσ h
def eX6_opsOfAll (Q : Int → bS → Prop) (P4 : Int → Int → bS → Prop) (σ : bS) : Prop := (P4 0 0 σ)
theorem mono_eX6_opsOfAll {Q Q9 : Int → bS → Prop} {P4 P49 : Int → Int → bS → Prop} {σ : bS} (hQ : ∀ r σ, Q r σ → Q9 r σ) (hP4 : ∀ x1 x2 σ, P4 x1 x2 σ → P49 x1 x2 σ) : eX6_opsOfAll Q P4 σ → eX6_opsOfAll Q9 P49 σ := (hP4 _ _ _)
theorem wX6_opsOfAll_e {p : Program} {l : Launch} {e : Env} {s : State} {m : MethodId} {args : Array Value} {below : List Frame} {meth : Method} {c : Code} {G : bG} {σ0 : bS} {Q : Int → bS → Prop} {P4 : Int → Int → bS → Prop} {σ : bS} (S : CallFix p m c cX6_opsOfAll 3 s args bT "BankLinker$Program") (hr : meth.sig.returnType = some .int) (hlk : meth.locks = false) (hP4 : ∀ (x1 : Int) (x2 : Int) (σ : bS), bR x1 → bR x2 → bRG σ → P4 x1 x2 σ → bA p l e { frames := 0, cells := 0, slots := 0, locals := 0 } s m args below meth c 0 0 (bQi below args s G σ0 Q) G (va_A (bk_w G σ0) s.heap.size) 3 4 [(0, .ref (G.2.2 1)), (1, .int (bI x1)), (2, .int (bI x2))] [] σ) (hσ : bRG σ) (h : eX6_opsOfAll Q P4 σ) : bA p l e { frames := 0, cells := 0, slots := 0, locals := 0 } s m args below meth c 0 0 (bQi below args s G σ0 Q) G (va_A (bk_w G σ0) s.heap.size) 3 0 [(0, .ref (G.2.2 1))] [] σ := by
  unfold eX6_opsOfAll at h
  refine br_iconst S dX6_opsOfAll_0 ?_
  refine br_istore_n S [(1, .int (bI 0)), (0, .ref (G.2.2 1))] dX6_opsOfAll_1 rfl (by decide) rfl ?_
  refine br_iconst S dX6_opsOfAll_2 ?_
  refine br_istore_n S [(2, .int (bI 0)), (1, .int (bI 0)), (0, .ref (G.2.2 1))] dX6_opsOfAll_3 rfl (by decide) rfl ?_
  exact bA.perm [2, 1, 0] rfl <| hP4 0 0 σ (by decide) (by decide) hσ h
def LX6_opsOfAll_4 (Q : Int → bS → Prop) (x1 : Int) (x2 : Int) (σ : bS) : Prop := ∀ (P4 : Int → Int → bS → Prop), (∀ x1 x2 σ, bX6_opsOfAll_4 Q P4 x1 x2 σ → P4 x1 x2 σ) → P4 x1 x2 σ
theorem LX6_opsOfAll_4_in {Q : Int → bS → Prop} {x1 : Int} {x2 : Int} {σ : bS} (h : bX6_opsOfAll_4 Q (LX6_opsOfAll_4 Q) x1 x2 σ) : LX6_opsOfAll_4 Q x1 x2 σ := fun P4 H4 => H4 _ _ _ (mono_bX6_opsOfAll_4 (fun _ _ h => h) (fun _ _ _ h => h P4 H4) h)
theorem mono_LX6_opsOfAll_4 {Q Q9 : Int → bS → Prop} {x1 : Int} {x2 : Int} {σ : bS} (hQ : ∀ r σ, Q r σ → Q9 r σ) (h : LX6_opsOfAll_4 Q x1 x2 σ) : LX6_opsOfAll_4 Q9 x1 x2 σ := fun P4 H4 => h P4 (fun _ _ _ hb => H4 _ _ _ (mono_bX6_opsOfAll_4 hQ (fun _ _ _ h => h) hb))
def vX6_opsOfAll (Q : Int → bS → Prop) (σ : bS) : Prop := eX6_opsOfAll Q (LX6_opsOfAll_4 Q) σ
theorem mono_vX6_opsOfAll {Q Q9 : Int → bS → Prop} {σ : bS} (hQ : ∀ r σ, Q r σ → Q9 r σ) : vX6_opsOfAll Q σ → vX6_opsOfAll Q9 σ := mono_eX6_opsOfAll hQ (fun _ _ _ h => mono_LX6_opsOfAll_4 hQ h)
theorem mono_X6_opsOfAll {Q Q9 : Int → bS → Prop} {σ : bS} (hQ : ∀ r σ, Q r σ → Q9 r σ) : vX6_opsOfAll Q σ → vX6_opsOfAll Q9 σ := mono_vX6_opsOfAll hQ
theorem mX6_opsOfAll (l : Launch) (G : bG) (σ : bS) {Q : Int → bS → Prop} (h : vX6_opsOfAll Q σ) : bk_Mi l yX6_opsOfAll (Cond.code yX6_opsOfAll cX6_opsOfAll 3 (some .int) :: bT) { frames := 0, cells := 0, slots := 0, locals := 0 } G σ [.ref (G.2.2 1)] Q := by
  refine bk_Mi.of (cc := cX6_opsOfAll) (maxL := 3) (ret := some .int) (by decide) rfl (Nat.le_of_ble_eq_true rfl) ?_
  intro p e s m args below meth c S hr hlk hσ
  let K4 : Int → Int → bS → Prop := fun x1 x2 τ => bR x1 → bR x2 → bRG τ → bA p l e { frames := 0, cells := 0, slots := 0, locals := 0 } s m args below meth c 0 0 (bQi below args s G σ Q) G (va_A (bk_w G σ) s.heap.size) 3 4 [(0, .ref (G.2.2 1)), (1, .int (bI x1)), (2, .int (bI x2))] [] τ
  have C4 : ∀ x1 x2 τ, bX6_opsOfAll_4 Q K4 x1 x2 τ → K4 x1 x2 τ := fun x1 x2 τ hb hx1 hx2 hτ => wX6_opsOfAll_4 S hr hlk (fun x1 x2 σ hx1 hx2 hσ h => h hx1 hx2 hσ) hx1 hx2 hτ hb
  exact wX6_opsOfAll_e S hr hlk (fun x1 x2 σ hx1 hx2 hσ h => h K4 C4 hx1 hx2 hσ) hσ h
def vX7_keptNumber_8 (Q : Int → bS → Prop) (a1 : Int) (σ : bS) : Prop := ((a1 < 0 → (Q (-1) σ)) ∧ (¬ a1 < 0 → ((100 ≤ a1 → (Q (-1) σ)) ∧ (¬ 100 ≤ a1 → (((σ 8 3) ≤ a1 → (Q (-1) σ)) ∧ (¬ (σ 8 3) ≤ a1 → ((0 ≤ a1 ∧ a1 < 100) ∧ (Q (σ 47 a1) σ))))))))
theorem mono_vX7_keptNumber_8 {Q Q9 : Int → bS → Prop} {a1 : Int} {σ : bS} (hQ : ∀ r σ, Q r σ → Q9 r σ) : vX7_keptNumber_8 Q a1 σ → vX7_keptNumber_8 Q9 a1 σ := (bm_and (bm_imp (hQ _ _)) (bm_imp (bm_and (bm_imp (hQ _ _)) (bm_imp (bm_and (bm_imp (hQ _ _)) (bm_imp (bm_r (hQ _ _))))))))
theorem wX7_keptNumber_8_e {p : Program} {l : Launch} {e : Env} {s : State} {m : MethodId} {args : Array Value} {below : List Frame} {meth : Method} {c : Code} {G : bG} {σ0 : bS} {Q : Int → bS → Prop} {a1 : Int} {σ : bS} (S : CallFix p m c cX7_keptNumber 2 s args bT "BankLinker$Report") (hr : meth.sig.returnType = some .int) (hlk : meth.locks = false) (ha1 : bR a1) (hσ : bRG σ) (h : vX7_keptNumber_8 Q a1 σ) : bA p l e { frames := 0, cells := 0, slots := 0, locals := 0 } s m args below meth c 0 0 (bQi below args s G σ0 Q) G (va_A (bk_w G σ0) s.heap.size) 2 0 [(0, .ref (G.2.2 8)), (1, .int (bI a1))] [] σ := by
  unfold vX7_keptNumber_8 at h
  refine br_iload_n S 1 dX7_keptNumber_0 rfl rfl ?_
  refine br_if_lt S 27 ha1 dX7_keptNumber_1 (by decide) (fun c1 => ?_) (fun c1 => ?_)
  · replace h := h.1 c1
    refine br_iconst S dX7_keptNumber_27 ?_
    exact br_iret S hr hlk (by decide) hσ dX7_keptNumber_28 h
  · replace h := h.2 c1
    refine br_iload_n S 1 dX7_keptNumber_4 rfl rfl ?_
    refine br_bipush S dX7_keptNumber_5 rfl ?_
    refine br_ic_ge S 27 ha1 (by decide) dX7_keptNumber_7 (by decide) (fun c2 => ?_) (fun c2 => ?_)
    · replace h := h.1 c2
      refine br_iconst S dX7_keptNumber_27 ?_
      exact br_iret S hr hlk (by decide) hσ dX7_keptNumber_28 h
    · replace h := h.2 c2
      refine br_iload_n S 1 dX7_keptNumber_10 rfl rfl ?_
      refine br_aload_n S 0 dX7_keptNumber_11 rfl rfl ?_
      refine br_get (f := 3) (N := 6) (C := RX7) (T := TX7) S inT_X7 wd_1_232 (by decide) rfl rfl (by decide) rfl dX7_keptNumber_12 ?_
      refine br_ic_ge S 27 ha1 (hσ 8 3) dX7_keptNumber_15 (by decide) (fun c3 => ?_) (fun c3 => ?_)
      · replace h := h.1 c3
        refine br_iconst S dX7_keptNumber_27 ?_
        exact br_iret S hr hlk (by decide) hσ dX7_keptNumber_28 h
      · replace h := h.2 c3
        refine br_aload_n S 0 dX7_keptNumber_18 rfl rfl ?_
        refine br_get (f := 0) (N := 6) (C := RX7) (T := TX7) S inT_X7 wd_1_223 (by decide) rfl rfl (by decide) rfl dX7_keptNumber_19 ?_
        refine br_iload_n S 1 dX7_keptNumber_22 rfl rfl ?_
        obtain ⟨g4, h⟩ := h
        refine br_iald (n := 100) S ⟨by decide, by decide, fun _ => rfl⟩ g4.1 g4.2 dX7_keptNumber_23 ?_
        refine br_goto S 28 dX7_keptNumber_24 (by decide) ?_
        exact br_iret S hr hlk (hσ 47 a1) hσ dX7_keptNumber_28 h
theorem mono_X7_keptNumber_8 {Q Q9 : Int → bS → Prop} {a1 : Int} {σ : bS} (hQ : ∀ r σ, Q r σ → Q9 r σ) : vX7_keptNumber_8 Q a1 σ → vX7_keptNumber_8 Q9 a1 σ := mono_vX7_keptNumber_8 hQ
theorem mX7_keptNumber_8 (l : Launch) (G : bG) (σ : bS) (a1 : Int) (ha1 : bR a1) {Q : Int → bS → Prop} (h : vX7_keptNumber_8 Q a1 σ) : bk_Mi l yX7_keptNumber (Cond.code yX7_keptNumber cX7_keptNumber 2 (some .int) :: bT) { frames := 0, cells := 0, slots := 0, locals := 0 } G σ [.ref (G.2.2 8), .int (bI a1)] Q := by
  refine bk_Mi.of (cc := cX7_keptNumber) (maxL := 2) (ret := some .int) (by decide) rfl (Nat.le_of_ble_eq_true rfl) ?_
  intro p e s m args below meth c S hr hlk hσ
  exact wX7_keptNumber_8_e S hr hlk ha1 hσ h
def vX7_keptNumber_9 (Q : Int → bS → Prop) (a1 : Int) (σ : bS) : Prop := ((a1 < 0 → (Q (-1) σ)) ∧ (¬ a1 < 0 → ((100 ≤ a1 → (Q (-1) σ)) ∧ (¬ 100 ≤ a1 → (((σ 9 3) ≤ a1 → (Q (-1) σ)) ∧ (¬ (σ 9 3) ≤ a1 → ((0 ≤ a1 ∧ a1 < 100) ∧ (Q (σ 48 a1) σ))))))))
theorem mono_vX7_keptNumber_9 {Q Q9 : Int → bS → Prop} {a1 : Int} {σ : bS} (hQ : ∀ r σ, Q r σ → Q9 r σ) : vX7_keptNumber_9 Q a1 σ → vX7_keptNumber_9 Q9 a1 σ := (bm_and (bm_imp (hQ _ _)) (bm_imp (bm_and (bm_imp (hQ _ _)) (bm_imp (bm_and (bm_imp (hQ _ _)) (bm_imp (bm_r (hQ _ _))))))))
theorem wX7_keptNumber_9_e {p : Program} {l : Launch} {e : Env} {s : State} {m : MethodId} {args : Array Value} {below : List Frame} {meth : Method} {c : Code} {G : bG} {σ0 : bS} {Q : Int → bS → Prop} {a1 : Int} {σ : bS} (S : CallFix p m c cX7_keptNumber 2 s args bT "BankLinker$Report") (hr : meth.sig.returnType = some .int) (hlk : meth.locks = false) (ha1 : bR a1) (hσ : bRG σ) (h : vX7_keptNumber_9 Q a1 σ) : bA p l e { frames := 0, cells := 0, slots := 0, locals := 0 } s m args below meth c 0 0 (bQi below args s G σ0 Q) G (va_A (bk_w G σ0) s.heap.size) 2 0 [(0, .ref (G.2.2 9)), (1, .int (bI a1))] [] σ := by
  unfold vX7_keptNumber_9 at h
  refine br_iload_n S 1 dX7_keptNumber_0 rfl rfl ?_
  refine br_if_lt S 27 ha1 dX7_keptNumber_1 (by decide) (fun c1 => ?_) (fun c1 => ?_)
  · replace h := h.1 c1
    refine br_iconst S dX7_keptNumber_27 ?_
    exact br_iret S hr hlk (by decide) hσ dX7_keptNumber_28 h
  · replace h := h.2 c1
    refine br_iload_n S 1 dX7_keptNumber_4 rfl rfl ?_
    refine br_bipush S dX7_keptNumber_5 rfl ?_
    refine br_ic_ge S 27 ha1 (by decide) dX7_keptNumber_7 (by decide) (fun c2 => ?_) (fun c2 => ?_)
    · replace h := h.1 c2
      refine br_iconst S dX7_keptNumber_27 ?_
      exact br_iret S hr hlk (by decide) hσ dX7_keptNumber_28 h
    · replace h := h.2 c2
      refine br_iload_n S 1 dX7_keptNumber_10 rfl rfl ?_
      refine br_aload_n S 0 dX7_keptNumber_11 rfl rfl ?_
      refine br_get (f := 3) (N := 6) (C := RX7) (T := TX7) S inT_X7 wd_1_232 (by decide) rfl rfl (by decide) rfl dX7_keptNumber_12 ?_
      refine br_ic_ge S 27 ha1 (hσ 9 3) dX7_keptNumber_15 (by decide) (fun c3 => ?_) (fun c3 => ?_)
      · replace h := h.1 c3
        refine br_iconst S dX7_keptNumber_27 ?_
        exact br_iret S hr hlk (by decide) hσ dX7_keptNumber_28 h
      · replace h := h.2 c3
        refine br_aload_n S 0 dX7_keptNumber_18 rfl rfl ?_
        refine br_get (f := 0) (N := 6) (C := RX7) (T := TX7) S inT_X7 wd_1_223 (by decide) rfl rfl (by decide) rfl dX7_keptNumber_19 ?_
        refine br_iload_n S 1 dX7_keptNumber_22 rfl rfl ?_
        obtain ⟨g4, h⟩ := h
        refine br_iald (n := 100) S ⟨by decide, by decide, fun _ => rfl⟩ g4.1 g4.2 dX7_keptNumber_23 ?_
        refine br_goto S 28 dX7_keptNumber_24 (by decide) ?_
        exact br_iret S hr hlk (hσ 48 a1) hσ dX7_keptNumber_28 h
theorem mono_X7_keptNumber_9 {Q Q9 : Int → bS → Prop} {a1 : Int} {σ : bS} (hQ : ∀ r σ, Q r σ → Q9 r σ) : vX7_keptNumber_9 Q a1 σ → vX7_keptNumber_9 Q9 a1 σ := mono_vX7_keptNumber_9 hQ
theorem mX7_keptNumber_9 (l : Launch) (G : bG) (σ : bS) (a1 : Int) (ha1 : bR a1) {Q : Int → bS → Prop} (h : vX7_keptNumber_9 Q a1 σ) : bk_Mi l yX7_keptNumber (Cond.code yX7_keptNumber cX7_keptNumber 2 (some .int) :: bT) { frames := 0, cells := 0, slots := 0, locals := 0 } G σ [.ref (G.2.2 9), .int (bI a1)] Q := by
  refine bk_Mi.of (cc := cX7_keptNumber) (maxL := 2) (ret := some .int) (by decide) rfl (Nat.le_of_ble_eq_true rfl) ?_
  intro p e s m args below meth c S hr hlk hσ
  exact wX7_keptNumber_9_e S hr hlk ha1 hσ h

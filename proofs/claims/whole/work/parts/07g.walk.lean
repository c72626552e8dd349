def bX9_areJumpsGood_2 (Q : Int → bS → Prop) (P2 : Int → bS → Prop) (P12 : Int → Int → bS → Prop) (P106 : Int → bS → Prop) (x1 : Int) (σ : bS) : Prop := (((σ 10 3) ≤ x1 → (P106 0 σ)) ∧ (¬ (σ 10 3) ≤ x1 → (P12 x1 0 σ)))
theorem mono_bX9_areJumpsGood_2 {Q Q9 : Int → bS → Prop} {P2 P29 : Int → bS → Prop} {P12 P129 : Int → Int → bS → Prop} {P106 P1069 : Int → bS → Prop} {x1 : Int} {σ : bS} (hQ : ∀ r σ, Q r σ → Q9 r σ) (hP2 : ∀ x1 σ, P2 x1 σ → P29 x1 σ) (hP12 : ∀ x1 x2 σ, P12 x1 x2 σ → P129 x1 x2 σ) (hP106 : ∀ x1 σ, P106 x1 σ → P1069 x1 σ) : bX9_areJumpsGood_2 Q P2 P12 P106 x1 σ → bX9_areJumpsGood_2 Q9 P29 P129 P1069 x1 σ := (bm_and (bm_imp (hP106 _ _)) (bm_imp (hP12 _ _ _)))
theorem wX9_areJumpsGood_2 {p : Program} {l : Launch} {e : Env} {s : State} {m : MethodId} {args : Array Value} {below : List Frame} {meth : Method} {c : Code} {G : bG} {σ0 : bS} {Q : Int → bS → Prop} {P2 : Int → bS → Prop} {P12 : Int → Int → bS → Prop} {P106 : Int → bS → Prop} {x1 : Int} {σ : bS} (S : CallFix p m c cX9_areJumpsGood 4 s args bT "BankLinkerModel") (hr : meth.sig.returnType = some .boolean) (hlk : meth.locks = false) (hP2 : ∀ (x1 : Int) (σ : bS), bR x1 → bRG σ → P2 x1 σ → bA p l e { frames := 1, cells := 0, slots := 0, locals := 24 } s m args below meth c 0 0 (bQi below args s G σ0 Q) G (va_A (bk_w G σ0) s.heap.size) 4 2 [(0, .ref (G.2.2 10)), (1, .int (bI x1))] [] σ) (hP12 : ∀ (x1 : Int) (x2 : Int) (σ : bS), bR x1 → bR x2 → bRG σ → P12 x1 x2 σ → bA p l e { frames := 1, cells := 0, slots := 0, locals := 24 } s m args below meth c 0 0 (bQi below args s G σ0 Q) G (va_A (bk_w G σ0) s.heap.size) 4 12 [(0, .ref (G.2.2 10)), (1, .int (bI x1)), (2, .int (bI x2))] [] σ) (hP106 : ∀ (x1 : Int) (σ : bS), bR x1 → bRG σ → P106 x1 σ → bA p l e { frames := 1, cells := 0, slots := 0, locals := 24 } s m args below meth c 0 0 (bQi below args s G σ0 Q) G (va_A (bk_w G σ0) s.heap.size) 4 106 [(0, .ref (G.2.2 10)), (1, .int (bI x1))] [] σ) (hx1 : bR x1) (hσ : bRG σ) (h : bX9_areJumpsGood_2 Q P2 P12 P106 x1 σ) : bA p l e { frames := 1, cells := 0, slots := 0, locals := 24 } s m args below meth c 0 0 (bQi below args s G σ0 Q) G (va_A (bk_w G σ0) s.heap.size) 4 2 [(0, .ref (G.2.2 10)), (1, .int (bI x1))] [] σ := by
  unfold bX9_areJumpsGood_2 at h
  refine br_iload_n S 1 dX9_areJumpsGood_2 rfl rfl ?_
  refine br_aload_n S 0 dX9_areJumpsGood_3 rfl rfl ?_
  refine br_get (f := 3) (N := 37) (C := RX9) (T := TX9) S inT_X9 wd_3_237 (by decide) rfl rfl (by decide) rfl dX9_areJumpsGood_4 ?_
  refine br_ic_ge S 104 hx1 (hσ 10 3) dX9_areJumpsGood_7 (by decide) (fun c1 => ?_) (fun c1 => ?_)
  · replace h := h.1 c1
    refine br_iconst S dX9_areJumpsGood_104 ?_
    refine br_istore_n S [(1, .int (bI 0)), (0, .ref (G.2.2 10))] dX9_areJumpsGood_105 rfl (by decide) rfl ?_
    exact bA.perm [1, 0] rfl <| hP106 0 σ (by decide) hσ h
  · replace h := h.2 c1
    refine br_iconst S dX9_areJumpsGood_10 ?_
    refine br_istore_n S [(2, .int (bI 0)), (0, .ref (G.2.2 10)), (1, .int (bI x1))] dX9_areJumpsGood_11 rfl (by decide) rfl ?_
    exact bA.perm [1, 2, 0] rfl <| hP12 x1 0 σ hx1 (by decide) hσ h
def vX9_areJumpsGood_92 (Q : Int → bS → Prop) (P2 : Int → bS → Prop) (P12 : Int → Int → bS → Prop) (P106 : Int → bS → Prop) (x1 : Int) (x2 : Int) (σ : bS) : Prop := (bR (x2 + 1) ∧ (P12 x1 (x2 + 1) σ))
theorem mono_vX9_areJumpsGood_92 {Q Q9 : Int → bS → Prop} {P2 P29 : Int → bS → Prop} {P12 P129 : Int → Int → bS → Prop} {P106 P1069 : Int → bS → Prop} {x1 : Int} {x2 : Int} {σ : bS} (hQ : ∀ r σ, Q r σ → Q9 r σ) (hP2 : ∀ x1 σ, P2 x1 σ → P29 x1 σ) (hP12 : ∀ x1 x2 σ, P12 x1 x2 σ → P129 x1 x2 σ) (hP106 : ∀ x1 σ, P106 x1 σ → P1069 x1 σ) : vX9_areJumpsGood_92 Q P2 P12 P106 x1 x2 σ → vX9_areJumpsGood_92 Q9 P29 P129 P1069 x1 x2 σ := (bm_r (hP12 _ _ _))
theorem wX9_areJumpsGood_92 {p : Program} {l : Launch} {e : Env} {s : State} {m : MethodId} {args : Array Value} {below : List Frame} {meth : Method} {c : Code} {G : bG} {σ0 : bS} {Q : Int → bS → Prop} {P2 : Int → bS → Prop} {P12 : Int → Int → bS → Prop} {P106 : Int → bS → Prop} {x1 : Int} {x2 : Int} {σ : bS} (S : CallFix p m c cX9_areJumpsGood 4 s args bT "BankLinkerModel") (hr : meth.sig.returnType = some .boolean) (hlk : meth.locks = false) (hP2 : ∀ (x1 : Int) (σ : bS), bR x1 → bRG σ → P2 x1 σ → bA p l e { frames := 1, cells := 0, slots := 0, locals := 24 } s m args below meth c 0 0 (bQi below args s G σ0 Q) G (va_A (bk_w G σ0) s.heap.size) 4 2 [(0, .ref (G.2.2 10)), (1, .int (bI x1))] [] σ) (hP12 : ∀ (x1 : Int) (x2 : Int) (σ : bS), bR x1 → bR x2 → bRG σ → P12 x1 x2 σ → bA p l e { frames := 1, cells := 0, slots := 0, locals := 24 } s m args below meth c 0 0 (bQi below args s G σ0 Q) G (va_A (bk_w G σ0) s.heap.size) 4 12 [(0, .ref (G.2.2 10)), (1, .int (bI x1)), (2, .int (bI x2))] [] σ) (hP106 : ∀ (x1 : Int) (σ : bS), bR x1 → bRG σ → P106 x1 σ → bA p l e { frames := 1, cells := 0, slots := 0, locals := 24 } s m args below meth c 0 0 (bQi below args s G σ0 Q) G (va_A (bk_w G σ0) s.heap.size) 4 106 [(0, .ref (G.2.2 10)), (1, .int (bI x1))] [] σ) (hx1 : bR x1) (hx2 : bR x2) (hσ : bRG σ) (h : vX9_areJumpsGood_92 Q P2 P12 P106 x1 x2 σ) : bA p l e { frames := 1, cells := 0, slots := 0, locals := 24 } s m args below meth c 0 0 (bQi below args s G σ0 Q) G (va_A (bk_w G σ0) s.heap.size) 4 92 [(0, .ref (G.2.2 10)), (1, .int (bI x1)), (2, .int (bI x2))] [] σ := by
  unfold vX9_areJumpsGood_92 at h
  refine br_iinc S 2 [(2, .int (bI (x2 + 1))), (0, .ref (G.2.2 10)), (1, .int (bI x1))] dX9_areJumpsGood_92 rfl (by decide) rfl ?_
  refine br_goto S 12 dX9_areJumpsGood_95 (by decide) ?_
  obtain ⟨g1, h⟩ := h
  exact bA.perm [1, 2, 0] rfl <| hP12 x1 (x2 + 1) σ hx1 g1 hσ h
def vX9_areJumpsGood_59 (Q : Int → bS → Prop) (P2 : Int → bS → Prop) (P12 : Int → Int → bS → Prop) (P106 : Int → bS → Prop) (x1 : Int) (x2 : Int) (s0 : Int) (σ : bS) : Prop := ((s0 = 0 → (vX9_areJumpsGood_92 Q P2 P12 P106 x1 x2 σ)) ∧ (¬ s0 = 0 → ((0 ≤ ((40 * x1) + x2) ∧ ((40 * x1) + x2) < 1200) ∧ ((0 ≤ x1 ∧ x1 < 30) ∧ (((σ 54 ((40 * x1) + x2)) ≤ (σ 52 x1) → (vX9_areJumpsGood_92 Q P2 P12 P106 x1 x2 σ)) ∧ (¬ (σ 54 ((40 * x1) + x2)) ≤ (σ 52 x1) → (vX9_told (fun z5 σ6 => ((z5 = 0 ∨ z5 = 1) ∧ (Q z5 σ6))) 1 x1 x2 σ)))))))
theorem mono_vX9_areJumpsGood_59 {Q Q9 : Int → bS → Prop} {P2 P29 : Int → bS → Prop} {P12 P129 : Int → Int → bS → Prop} {P106 P1069 : Int → bS → Prop} {x1 : Int} {x2 : Int} {s0 : Int} {σ : bS} (hQ : ∀ r σ, Q r σ → Q9 r σ) (hP2 : ∀ x1 σ, P2 x1 σ → P29 x1 σ) (hP12 : ∀ x1 x2 σ, P12 x1 x2 σ → P129 x1 x2 σ) (hP106 : ∀ x1 σ, P106 x1 σ → P1069 x1 σ) : vX9_areJumpsGood_59 Q P2 P12 P106 x1 x2 s0 σ → vX9_areJumpsGood_59 Q9 P29 P129 P1069 x1 x2 s0 σ := (bm_and (bm_imp (mono_vX9_areJumpsGood_92 hQ hP2 hP12 hP106)) (bm_imp (bm_r (bm_r (bm_and (bm_imp (mono_vX9_areJumpsGood_92 hQ hP2 hP12 hP106)) (bm_imp (mono_X9_told (fun _ _ => (bm_r (hQ _ _))))))))))
theorem wX9_areJumpsGood_59 {p : Program} {l : Launch} {e : Env} {s : State} {m : MethodId} {args : Array Value} {below : List Frame} {meth : Method} {c : Code} {G : bG} {σ0 : bS} {Q : Int → bS → Prop} {P2 : Int → bS → Prop} {P12 : Int → Int → bS → Prop} {P106 : Int → bS → Prop} {x1 : Int} {x2 : Int} {s0 : Int} {σ : bS} (S : CallFix p m c cX9_areJumpsGood 4 s args bT "BankLinkerModel") (hr : meth.sig.returnType = some .boolean) (hlk : meth.locks = false) (hP2 : ∀ (x1 : Int) (σ : bS), bR x1 → bRG σ → P2 x1 σ → bA p l e { frames := 1, cells := 0, slots := 0, locals := 24 } s m args below meth c 0 0 (bQi below args s G σ0 Q) G (va_A (bk_w G σ0) s.heap.size) 4 2 [(0, .ref (G.2.2 10)), (1, .int (bI x1))] [] σ) (hP12 : ∀ (x1 : Int) (x2 : Int) (σ : bS), bR x1 → bR x2 → bRG σ → P12 x1 x2 σ → bA p l e { frames := 1, cells := 0, slots := 0, locals := 24 } s m args below meth c 0 0 (bQi below args s G σ0 Q) G (va_A (bk_w G σ0) s.heap.size) 4 12 [(0, .ref (G.2.2 10)), (1, .int (bI x1)), (2, .int (bI x2))] [] σ) (hP106 : ∀ (x1 : Int) (σ : bS), bR x1 → bRG σ → P106 x1 σ → bA p l e { frames := 1, cells := 0, slots := 0, locals := 24 } s m args below meth c 0 0 (bQi below args s G σ0 Q) G (va_A (bk_w G σ0) s.heap.size) 4 106 [(0, .ref (G.2.2 10)), (1, .int (bI x1))] [] σ) (hx1 : bR x1) (hx2 : bR x2) (hs0 : bR s0) (hσ : bRG σ) (h : vX9_areJumpsGood_59 Q P2 P12 P106 x1 x2 s0 σ) : bA p l e { frames := 1, cells := 0, slots := 0, locals := 24 } s m args below meth c 0 0 (bQi below args s G σ0 Q) G (va_A (bk_w G σ0) s.heap.size) 4 59 [(0, .ref (G.2.2 10)), (1, .int (bI x1)), (2, .int (bI x2))] [.int (bI s0)] σ := by
  unfold vX9_areJumpsGood_59 at h
  refine br_istore_n S [(3, .int (bI s0)), (0, .ref (G.2.2 10)), (1, .int (bI x1)), (2, .int (bI x2))] dX9_areJumpsGood_59 rfl (by decide) rfl ?_
  refine br_iload_n S 0 dX9_areJumpsGood_60 rfl rfl ?_
  refine br_if_eq S 92 hs0 dX9_areJumpsGood_61 (by decide) (fun c1 => ?_) (fun c1 => ?_)
  · replace h := h.1 c1
    exact bA.perm [1, 2, 3] rfl <| wX9_areJumpsGood_92 S hr hlk hP2 hP12 hP106 hx1 hx2 hσ h
  · replace h := h.2 c1
    refine br_aload_n S 1 dX9_areJumpsGood_64 rfl rfl ?_
    refine br_get (f := 8) (N := 37) (C := RX9) (T := TX9) S inT_X9 wd_4_2 (by decide) rfl rfl (by decide) rfl dX9_areJumpsGood_65 ?_
    refine br_bipush S dX9_areJumpsGood_68 rfl ?_
    refine br_iload_n S 2 dX9_areJumpsGood_70 rfl rfl ?_
    refine br_imul S dX9_areJumpsGood_71 ?_
    refine br_iload_n S 3 dX9_areJumpsGood_72 rfl rfl ?_
    refine br_iadd S dX9_areJumpsGood_73 ?_
    obtain ⟨g2, h⟩ := h
    refine br_iald (n := 1200) S ⟨by decide, by decide, fun _ => rfl⟩ g2.1 g2.2 dX9_areJumpsGood_74 ?_
    refine br_aload_n S 1 dX9_areJumpsGood_75 rfl rfl ?_
    refine br_get (f := 6) (N := 37) (C := RX9) (T := TX9) S inT_X9 wd_4_0 (by decide) rfl rfl (by decide) rfl dX9_areJumpsGood_76 ?_
    refine br_iload_n S 2 dX9_areJumpsGood_79 rfl rfl ?_
    obtain ⟨g3, h⟩ := h
    refine br_iald (n := 30) S ⟨by decide, by decide, fun _ => rfl⟩ g3.1 g3.2 dX9_areJumpsGood_80 ?_
    refine br_ic_le S 92 (hσ 54 ((40 * x1) + x2)) (hσ 52 x1) dX9_areJumpsGood_81 (by decide) (fun c4 => ?_) (fun c4 => ?_)
    · replace h := h.1 c4
      exact bA.perm [1, 2, 3] rfl <| wX9_areJumpsGood_92 S hr hlk hP2 hP12 hP106 hx1 hx2 hσ h
    · replace h := h.2 c4
      refine br_aload_n S 1 dX9_areJumpsGood_84 rfl rfl ?_
      refine br_iconst S dX9_areJumpsGood_85 ?_
      refine br_iload_n S 2 dX9_areJumpsGood_86 rfl rfl ?_
      refine br_iload_n S 3 dX9_areJumpsGood_87 rfl rfl ?_
      refine br_callV (As := [.int (bI 1), .int (bI x1), .int (bI x2)]) (rest := []) S (cwV_X9_told S.2.2.2.2 wd_4_161 ⟨by decide, by decide⟩) (mX9_told l G σ 1 (by decide) x1 hx1 x2 hx2 h) (by decide) rfl rfl rfl hσ rfl rfl (Nat.le_of_ble_eq_true rfl) ⟨by decide, by decide⟩ dX9_areJumpsGood_88 (fun z5 σ6 hz5 hσ6 h => ?_)
      obtain ⟨g7, h⟩ := h
      exact br_zret S hr hlk g7 hσ6 dX9_areJumpsGood_91 h
def vX9_areJumpsGood_54 (Q : Int → bS → Prop) (P2 : Int → bS → Prop) (P12 : Int → Int → bS → Prop) (P106 : Int → bS → Prop) (x1 : Int) (x2 : Int) (σ : bS) : Prop := (vX9_areJumpsGood_59 Q P2 P12 P106 x1 x2 1 σ)
theorem mono_vX9_areJumpsGood_54 {Q Q9 : Int → bS → Prop} {P2 P29 : Int → bS → Prop} {P12 P129 : Int → Int → bS → Prop} {P106 P1069 : Int → bS → Prop} {x1 : Int} {x2 : Int} {σ : bS} (hQ : ∀ r σ, Q r σ → Q9 r σ) (hP2 : ∀ x1 σ, P2 x1 σ → P29 x1 σ) (hP12 : ∀ x1 x2 σ, P12 x1 x2 σ → P129 x1 x2 σ) (hP106 : ∀ x1 σ, P106 x1 σ → P1069 x1 σ) : vX9_areJumpsGood_54 Q P2 P12 P106 x1 x2 σ → vX9_areJumpsGood_54 Q9 P29 P129 P1069 x1 x2 σ := (mono_vX9_areJumpsGood_59 hQ hP2 hP12 hP106)
theorem wX9_areJumpsGood_54 {p : Program} {l : Launch} {e : Env} {s : State} {m : MethodId} {args : Array Value} {below : List Frame} {meth : Method} {c : Code} {G : bG} {σ0 : bS} {Q : Int → bS → Prop} {P2 : Int → bS → Prop} {P12 : Int → Int → bS → Prop} {P106 : Int → bS → Prop} {x1 : Int} {x2 : Int} {σ : bS} (S : CallFix p m c cX9_areJumpsGood 4 s args bT "BankLinkerModel") (hr : meth.sig.returnType = some .boolean) (hlk : meth.locks = false) (hP2 : ∀ (x1 : Int) (σ : bS), bR x1 → bRG σ → P2 x1 σ → bA p l e { frames := 1, cells := 0, slots := 0, locals := 24 } s m args below meth c 0 0 (bQi below args s G σ0 Q) G (va_A (bk_w G σ0) s.heap.size) 4 2 [(0, .ref (G.2.2 10)), (1, .int (bI x1))] [] σ) (hP12 : ∀ (x1 : Int) (x2 : Int) (σ : bS), bR x1 → bR x2 → bRG σ → P12 x1 x2 σ → bA p l e { frames := 1, cells := 0, slots := 0, locals := 24 } s m args below meth c 0 0 (bQi below args s G σ0 Q) G (va_A (bk_w G σ0) s.heap.size) 4 12 [(0, .ref (G.2.2 10)), (1, .int (bI x1)), (2, .int (bI x2))] [] σ) (hP106 : ∀ (x1 : Int) (σ : bS), bR x1 → bRG σ → P106 x1 σ → bA p l e { frames := 1, cells := 0, slots := 0, locals := 24 } s m args below meth c 0 0 (bQi below args s G σ0 Q) G (va_A (bk_w G σ0) s.heap.size) 4 106 [(0, .ref (G.2.2 10)), (1, .int (bI x1))] [] σ) (hx1 : bR x1) (hx2 : bR x2) (hσ : bRG σ) (h : vX9_areJumpsGood_54 Q P2 P12 P106 x1 x2 σ) : bA p l e { frames := 1, cells := 0, slots := 0, locals := 24 } s m args below meth c 0 0 (bQi below args s G σ0 Q) G (va_A (bk_w G σ0) s.heap.size) 4 54 [(0, .ref (G.2.2 10)), (1, .int (bI x1)), (2, .int (bI x2))] [] σ := by
  unfold vX9_areJumpsGood_54 at h
  refine br_iconst S dX9_areJumpsGood_54 ?_
  refine br_goto S 59 dX9_areJumpsGood_55 (by decide) ?_
  exact wX9_areJumpsGood_59 S hr hlk hP2 hP12 hP106 hx1 hx2 (by decide) hσ h
def bX9_areJumpsGood_12 (Q : Int → bS → Prop) (P2 : Int → bS → Prop) (P12 : Int → Int → bS → Prop) (P106 : Int → bS → Prop) (x1 : Int) (x2 : Int) (σ : bS) : Prop := ((0 ≤ x1 ∧ x1 < 30) ∧ (((σ 52 x1) ≤ x2 → (bR (x1 + 1) ∧ (P2 (x1 + 1) σ))) ∧ (¬ (σ 52 x1) ≤ x2 → ((0 ≤ ((40 * x1) + x2) ∧ ((40 * x1) + x2) < 1200) ∧ (((σ 53 ((40 * x1) + x2)) = 6 → (vX9_areJumpsGood_54 Q P2 P12 P106 x1 x2 σ)) ∧ (¬ (σ 53 ((40 * x1) + x2)) = 6 → ((¬ (σ 53 ((40 * x1) + x2)) = 7 → (vX9_areJumpsGood_59 Q P2 P12 P106 x1 x2 0 σ)) ∧ ((σ 53 ((40 * x1) + x2)) = 7 → (vX9_areJumpsGood_54 Q P2 P12 P106 x1 x2 σ)))))))))
theorem mono_bX9_areJumpsGood_12 {Q Q9 : Int → bS → Prop} {P2 P29 : Int → bS → Prop} {P12 P129 : Int → Int → bS → Prop} {P106 P1069 : Int → bS → Prop} {x1 : Int} {x2 : Int} {σ : bS} (hQ : ∀ r σ, Q r σ → Q9 r σ) (hP2 : ∀ x1 σ, P2 x1 σ → P29 x1 σ) (hP12 : ∀ x1 x2 σ, P12 x1 x2 σ → P129 x1 x2 σ) (hP106 : ∀ x1 σ, P106 x1 σ → P1069 x1 σ) : bX9_areJumpsGood_12 Q P2 P12 P106 x1 x2 σ → bX9_areJumpsGood_12 Q9 P29 P129 P1069 x1 x2 σ := (bm_r (bm_and (bm_imp (bm_r (hP2 _ _))) (bm_imp (bm_r (bm_and (bm_imp (mono_vX9_areJumpsGood_54 hQ hP2 hP12 hP106)) (bm_imp (bm_and (bm_imp (mono_vX9_areJumpsGood_59 hQ hP2 hP12 hP106)) (bm_imp (mono_vX9_areJumpsGood_54 hQ hP2 hP12 hP106)))))))))
theorem wX9_areJumpsGood_12 {p : Program} {l : Launch} {e : Env} {s : State} {m : MethodId} {args : Array Value} {below : List Frame} {meth : Method} {c : Code} {G : bG} {σ0 : bS} {Q : Int → bS → Prop} {P2 : Int → bS → Prop} {P12 : Int → Int → bS → Prop} {P106 : Int → bS → Prop} {x1 : Int} {x2 : Int} {σ : bS} (S : CallFix p m c cX9_areJumpsGood 4 s args bT "BankLinkerModel") (hr : meth.sig.returnType = some .boolean) (hlk : meth.locks = false) (hP2 : ∀ (x1 : Int) (σ : bS), bR x1 → bRG σ → P2 x1 σ → bA p l e { frames := 1, cells := 0, slots := 0, locals := 24 } s m args below meth c 0 0 (bQi below args s G σ0 Q) G (va_A (bk_w G σ0) s.heap.size) 4 2 [(0, .ref (G.2.2 10)), (1, .int (bI x1))] [] σ) (hP12 : ∀ (x1 : Int) (x2 : Int) (σ : bS), bR x1 → bR x2 → bRG σ → P12 x1 x2 σ → bA p l e { frames := 1, cells := 0, slots := 0, locals := 24 } s m args below meth c 0 0 (bQi below args s G σ0 Q) G (va_A (bk_w G σ0) s.heap.size) 4 12 [(0, .ref (G.2.2 10)), (1, .int (bI x1)), (2, .int (bI x2))] [] σ) (hP106 : ∀ (x1 : Int) (σ : bS), bR x1 → bRG σ → P106 x1 σ → bA p l e { frames := 1, cells := 0, slots := 0, locals := 24 } s m args below meth c 0 0 (bQi below args s G σ0 Q) G (va_A (bk_w G σ0) s.heap.size) 4 106 [(0, .ref (G.2.2 10)), (1, .int (bI x1))] [] σ) (hx1 : bR x1) (hx2 : bR x2) (hσ : bRG σ) (h : bX9_areJumpsGood_12 Q P2 P12 P106 x1 x2 σ) : bA p l e { frames := 1, cells := 0, slots := 0, locals := 24 } s m args below meth c 0 0 (bQi below args s G σ0 Q) G (va_A (bk_w G σ0) s.heap.size) 4 12 [(0, .ref (G.2.2 10)), (1, .int (bI x1)), (2, .int (bI x2))] [] σ := by
  unfold bX9_areJumpsGood_12 at h
  refine br_iload_n S 2 dX9_areJumpsGood_12 rfl rfl ?_
  refine br_aload_n S 0 dX9_areJumpsGood_13 rfl rfl ?_
  refine br_get (f := 6) (N := 37) (C := RX9) (T := TX9) S inT_X9 wd_4_0 (by decide) rfl rfl (by decide) rfl dX9_areJumpsGood_14 ?_
  refine br_iload_n S 1 dX9_areJumpsGood_17 rfl rfl ?_
  obtain ⟨g1, h⟩ := h
  refine br_iald (n := 30) S ⟨by decide, by decide, fun _ => rfl⟩ g1.1 g1.2 dX9_areJumpsGood_18 ?_
  refine br_ic_ge S 98 hx2 (hσ 52 x1) dX9_areJumpsGood_19 (by decide) (fun c2 => ?_) (fun c2 => ?_)
  · replace h := h.1 c2
    refine br_iinc S 1 [(1, .int (bI (x1 + 1))), (0, .ref (G.2.2 10)), (2, .int (bI x2))] dX9_areJumpsGood_98 rfl (by decide) rfl ?_
    refine br_goto S 2 dX9_areJumpsGood_101 (by decide) ?_
    obtain ⟨g3, h⟩ := h
    exact bA.perm [1, 0] rfl <| hP2 (x1 + 1) σ g3 hσ h
  · replace h := h.2 c2
    refine br_aload_n S 0 dX9_areJumpsGood_22 rfl rfl ?_
    refine br_get (f := 7) (N := 37) (C := RX9) (T := TX9) S inT_X9 wd_4_1 (by decide) rfl rfl (by decide) rfl dX9_areJumpsGood_23 ?_
    refine br_bipush S dX9_areJumpsGood_26 rfl ?_
    refine br_iload_n S 1 dX9_areJumpsGood_28 rfl rfl ?_
    refine br_imul S dX9_areJumpsGood_29 ?_
    refine br_iload_n S 2 dX9_areJumpsGood_30 rfl rfl ?_
    refine br_iadd S dX9_areJumpsGood_31 ?_
    obtain ⟨g4, h⟩ := h
    refine br_iald (n := 1200) S ⟨by decide, by decide, fun _ => rfl⟩ g4.1 g4.2 dX9_areJumpsGood_32 ?_
    refine br_bipush S dX9_areJumpsGood_33 rfl ?_
    refine br_ic_eq S 54 (hσ 53 ((40 * x1) + x2)) (by decide) dX9_areJumpsGood_35 (by decide) (fun c5 => ?_) (fun c5 => ?_)
    · replace h := h.1 c5
      exact wX9_areJumpsGood_54 S hr hlk hP2 hP12 hP106 hx1 hx2 hσ h
    · replace h := h.2 c5
      refine br_aload_n S 0 dX9_areJumpsGood_38 rfl rfl ?_
      refine br_get (f := 7) (N := 37) (C := RX9) (T := TX9) S inT_X9 wd_4_1 (by decide) rfl rfl (by decide) rfl dX9_areJumpsGood_39 ?_
      refine br_bipush S dX9_areJumpsGood_42 rfl ?_
      refine br_iload_n S 1 dX9_areJumpsGood_44 rfl rfl ?_
      refine br_imul S dX9_areJumpsGood_45 ?_
      refine br_iload_n S 2 dX9_areJumpsGood_46 rfl rfl ?_
      refine br_iadd S dX9_areJumpsGood_47 ?_
      refine br_iald (n := 1200) S ⟨by decide, by decide, fun _ => rfl⟩ g4.1 g4.2 dX9_areJumpsGood_48 ?_
      refine br_bipush S dX9_areJumpsGood_49 rfl ?_
      refine br_ic_ne S 58 (hσ 53 ((40 * x1) + x2)) (by decide) dX9_areJumpsGood_51 (by decide) (fun c6 => ?_) (fun c6 => ?_)
      · replace h := h.1 c6
        refine br_iconst S dX9_areJumpsGood_58 ?_
        exact wX9_areJumpsGood_59 S hr hlk hP2 hP12 hP106 hx1 hx2 (by decide) hσ h
      · replace h := h.2 c6
        exact wX9_areJumpsGood_54 S hr hlk hP2 hP12 hP106 hx1 hx2 hσ h
def bX9_areJumpsGood_106 (Q : Int → bS → Prop) (P2 : Int → bS → Prop) (P12 : Int → Int → bS → Prop) (P106 : Int → bS → Prop) (x1 : Int) (σ : bS) : Prop := (((σ 10 3) ≤ x1 → (Q 1 σ)) ∧ (¬ (σ 10 3) ≤ x1 → (vX9_mark (fun σ3 => ((0 ≤ x1 ∧ x1 < 30) ∧ (((σ3 12 x1) = 0 → (bR (x1 + 1) ∧ (P106 (x1 + 1) σ3))) ∧ (¬ (σ3 12 x1) = 0 → (vX9_told (fun z7 σ8 => ((z7 = 0 ∨ z7 = 1) ∧ (Q z7 σ8))) 2 x1 (-1) σ3))))) x1 σ)))
theorem mono_bX9_areJumpsGood_106 {Q Q9 : Int → bS → Prop} {P2 P29 : Int → bS → Prop} {P12 P129 : Int → Int → bS → Prop} {P106 P1069 : Int → bS → Prop} {x1 : Int} {σ : bS} (hQ : ∀ r σ, Q r σ → Q9 r σ) (hP2 : ∀ x1 σ, P2 x1 σ → P29 x1 σ) (hP12 : ∀ x1 x2 σ, P12 x1 x2 σ → P129 x1 x2 σ) (hP106 : ∀ x1 σ, P106 x1 σ → P1069 x1 σ) : bX9_areJumpsGood_106 Q P2 P12 P106 x1 σ → bX9_areJumpsGood_106 Q9 P29 P129 P1069 x1 σ := (bm_and (bm_imp (hQ _ _)) (bm_imp (mono_X9_mark (fun _ => (bm_r (bm_and (bm_imp (bm_r (hP106 _ _))) (bm_imp (mono_X9_told (fun _ _ => (bm_r (hQ _ _)))))))))))
theorem wX9_areJumpsGood_106 {p : Program} {l : Launch} {e : Env} {s : State} {m : MethodId} {args : Array Value} {below : List Frame} {meth : Method} {c : Code} {G : bG} {σ0 : bS} {Q : Int → bS → Prop} {P2 : Int → bS → Prop} {P12 : Int → Int → bS → Prop} {P106 : Int → bS → Prop} {x1 : Int} {σ : bS} (S : CallFix p m c cX9_areJumpsGood 4 s args bT "BankLinkerModel") (hr : meth.sig.returnType = some .boolean) (hlk : meth.locks = false) (hP2 : ∀ (x1 : Int) (σ : bS), bR x1 → bRG σ → P2 x1 σ → bA p l e { frames := 1, cells := 0, slots := 0, locals := 24 } s m args below meth c 0 0 (bQi below args s G σ0 Q) G (va_A (bk_w G σ0) s.heap.size) 4 2 [(0, .ref (G.2.2 10)), (1, .int (bI x1))] [] σ) (hP12 : ∀ (x1 : Int) (x2 : Int) (σ : bS), bR x1 → bR x2 → bRG σ → P12 x1 x2 σ → bA p l e { frames := 1, cells := 0, slots := 0, locals := 24 } s m args below meth c 0 0 (bQi below args s G σ0 Q) G (va_A (bk_w G σ0) s.heap.size) 4 12 [(0, .ref (G.2.2 10)), (1, .int (bI x1)), (2, .int (bI x2))] [] σ) (hP106 : ∀ (x1 : Int) (σ : bS), bR x1 → bRG σ → P106 x1 σ → bA p l e { frames := 1, cells := 0, slots := 0, locals := 24 } s m args below meth c 0 0 (bQi below args s G σ0 Q) G (va_A (bk_w G σ0) s.heap.size) 4 106 [(0, .ref (G.2.2 10)), (1, .int (bI x1))] [] σ) (hx1 : bR x1) (hσ : bRG σ) (h : bX9_areJumpsGood_106 Q P2 P12 P106 x1 σ) : bA p l e { frames := 1, cells := 0, slots := 0, locals := 24 } s m args below meth c 0 0 (bQi below args s G σ0 Q) G (va_A (bk_w G σ0) s.heap.size) 4 106 [(0, .ref (G.2.2 10)), (1, .int (bI x1))] [] σ := by
  unfold bX9_areJumpsGood_106 at h
  refine br_iload_n S 1 dX9_areJumpsGood_106 rfl rfl ?_
  refine br_aload_n S 0 dX9_areJumpsGood_107 rfl rfl ?_
  refine br_get (f := 3) (N := 37) (C := RX9) (T := TX9) S inT_X9 wd_3_237 (by decide) rfl rfl (by decide) rfl dX9_areJumpsGood_108 ?_
  refine br_ic_ge S 142 hx1 (hσ 10 3) dX9_areJumpsGood_111 (by decide) (fun c1 => ?_) (fun c1 => ?_)
  · replace h := h.1 c1
    refine br_iconst S dX9_areJumpsGood_142 ?_
    exact br_zret S hr hlk (by decide) hσ dX9_areJumpsGood_143 h
  · replace h := h.2 c1
    refine br_aload_n S 0 dX9_areJumpsGood_114 rfl rfl ?_
    refine br_iload_n S 1 dX9_areJumpsGood_115 rfl rfl ?_
    refine br_callVv (As := [.int (bI x1)]) (rest := []) S (cwV_X9_mark S.2.2.2.2 wd_4_149 ⟨by decide, by decide⟩) (mX9_mark l G σ x1 hx1 h) (by decide) rfl rfl rfl hσ rfl rfl (Nat.le_of_ble_eq_true rfl) ⟨by decide, by decide⟩ dX9_areJumpsGood_116 (fun σ3 hσ3 h => ?_)
    refine br_aload_n S 0 dX9_areJumpsGood_119 rfl rfl ?_
    refine br_get (f := 25) (N := 37) (C := RX9) (T := TX9) S inT_X9 wd_4_19 (by decide) rfl rfl (by decide) rfl dX9_areJumpsGood_120 ?_
    refine br_iload_n S 1 dX9_areJumpsGood_123 rfl rfl ?_
    obtain ⟨g4, h⟩ := h
    refine br_zald S g4.1 g4.2 dX9_areJumpsGood_124 ?_
    refine br_if_eq S 136 (hσ3 12 x1) dX9_areJumpsGood_125 (by decide) (fun c5 => ?_) (fun c5 => ?_)
    · replace h := h.1 c5
      refine br_iinc S 1 [(1, .int (bI (x1 + 1))), (0, .ref (G.2.2 10))] dX9_areJumpsGood_136 rfl (by decide) rfl ?_
      refine br_goto S 106 dX9_areJumpsGood_139 (by decide) ?_
      obtain ⟨g6, h⟩ := h
      exact bA.perm [1, 0] rfl <| hP106 (x1 + 1) σ3 g6 hσ3 h
    · replace h := h.2 c5
      refine br_aload_n S 0 dX9_areJumpsGood_128 rfl rfl ?_
      refine br_iconst S dX9_areJumpsGood_129 ?_
      refine br_iload_n S 1 dX9_areJumpsGood_130 rfl rfl ?_
      refine br_iconst S dX9_areJumpsGood_131 ?_
      refine br_callV (As := [.int (bI 2), .int (bI x1), .int (bI (-1))]) (rest := []) S (cwV_X9_told S.2.2.2.2 wd_4_161 ⟨by decide, by decide⟩) (mX9_told l G σ3 2 (by decide) x1 hx1 (-1) (by decide) h) (by decide) rfl rfl rfl hσ3 rfl rfl (Nat.le_of_ble_eq_true rfl) ⟨by decide, by decide⟩ dX9_areJumpsGood_132 (fun z7 σ8 hz7 hσ8 h => ?_)
      obtain ⟨g9, h⟩ := h
      exact br_zret S hr hlk g9 hσ8 dX9_areJumpsGood_135 h
def eX9_areJumpsGood (Q : Int → bS → Prop) (P2 : Int → bS → Prop) (P12 : Int → Int → bS → Prop) (P106 : Int → bS → Prop) (σ : bS) : Prop := (P2 0 σ)
theorem mono_eX9_areJumpsGood {Q Q9 : Int → bS → Prop} {P2 P29 : Int → bS → Prop} {P12 P129 : Int → Int → bS → Prop} {P106 P1069 : Int → bS → Prop} {σ : bS} (hQ : ∀ r σ, Q r σ → Q9 r σ) (hP2 : ∀ x1 σ, P2 x1 σ → P29 x1 σ) (hP12 : ∀ x1 x2 σ, P12 x1 x2 σ → P129 x1 x2 σ) (hP106 : ∀ x1 σ, P106 x1 σ → P1069 x1 σ) : eX9_areJumpsGood Q P2 P12 P106 σ → eX9_areJumpsGood Q9 P29 P129 P1069 σ := (hP2 _ _)
theorem wX9_areJumpsGood_e {p : Program} {l : Launch} {e : Env} {s : State} {m : MethodId} {args : Array Value} {below : List Frame} {meth : Method} {c : Code} {G : bG} {σ0 : bS} {Q : Int → bS → Prop} {P2 : Int → bS → Prop} {P12 : Int → Int → bS → Prop} {P106 : Int → bS → Prop} {σ : bS} (S : CallFix p m c cX9_areJumpsGood 4 s args bT "BankLinkerModel") (hr : meth.sig.returnType = some .boolean) (hlk : meth.locks = false) (hP2 : ∀ (x1 : Int) (σ : bS), bR x1 → bRG σ → P2 x1 σ → bA p l e { frames := 1, cells := 0, slots := 0, locals := 24 } s m args below meth c 0 0 (bQi below args s G σ0 Q) G (va_A (bk_w G σ0) s.heap.size) 4 2 [(0, .ref (G.2.2 10)), (1, .int (bI x1))] [] σ) (hP12 : ∀ (x1 : Int) (x2 : Int) (σ : bS), bR x1 → bR x2 → bRG σ → P12 x1 x2 σ → bA p l e { frames := 1, cells := 0, slots := 0, locals := 24 } s m args below meth c 0 0 (bQi below args s G σ0 Q) G (va_A (bk_w G σ0) s.heap.size) 4 12 [(0, .ref (G.2.2 10)), (1, .int (bI x1)), (2, .int (bI x2))] [] σ) (hP106 : ∀ (x1 : Int) (σ : bS), bR x1 → bRG σ → P106 x1 σ → bA p l e { frames := 1, cells := 0, slots := 0, locals := 24 } s m args below meth c 0 0 (bQi below args s G σ0 Q) G (va_A (bk_w G σ0) s.heap.size) 4 106 [(0, .ref (G.2.2 10)), (1, .int (bI x1))] [] σ) (hσ : bRG σ) (h : eX9_areJumpsGood Q P2 P12 P106 σ) : bA p l e { frames := 1, cells := 0, slots := 0, locals := 24 } s m args below meth c 0 0 (bQi below args s G σ0 Q) G (va_A (bk_w G σ0) s.heap.size) 4 0 [(0, .ref (G.2.2 10))] [] σ := by
  unfold eX9_areJumpsGood at h
  refine br_iconst S dX9_areJumpsGood_0 ?_
  refine br_istore_n S [(1, .int (bI 0)), (0, .ref (G.2.2 10))] dX9_areJumpsGood_1 rfl (by decide) rfl ?_
  exact bA.perm [1, 0] rfl <| hP2 0 σ (by decide) hσ h
def LX9_areJumpsGood_2 (Q : Int → bS → Prop) (x1 : Int) (σ : bS) : Prop := ∀ (P2 : Int → bS → Prop) (P12 : Int → Int → bS → Prop) (P106 : Int → bS → Prop), (∀ x1 σ, bX9_areJumpsGood_2 Q P2 P12 P106 x1 σ → P2 x1 σ) → (∀ x1 x2 σ, bX9_areJumpsGood_12 Q P2 P12 P106 x1 x2 σ → P12 x1 x2 σ) → (∀ x1 σ, bX9_areJumpsGood_106 Q P2 P12 P106 x1 σ → P106 x1 σ) → P2 x1 σ
def LX9_areJumpsGood_12 (Q : Int → bS → Prop) (x1 : Int) (x2 : Int) (σ : bS) : Prop := ∀ (P2 : Int → bS → Prop) (P12 : Int → Int → bS → Prop) (P106 : Int → bS → Prop), (∀ x1 σ, bX9_areJumpsGood_2 Q P2 P12 P106 x1 σ → P2 x1 σ) → (∀ x1 x2 σ, bX9_areJumpsGood_12 Q P2 P12 P106 x1 x2 σ → P12 x1 x2 σ) → (∀ x1 σ, bX9_areJumpsGood_106 Q P2 P12 P106 x1 σ → P106 x1 σ) → P12 x1 x2 σ
def LX9_areJumpsGood_106 (Q : Int → bS → Prop) (x1 : Int) (σ : bS) : Prop := ∀ (P2 : Int → bS → Prop) (P12 : Int → Int → bS → Prop) (P106 : Int → bS → Prop), (∀ x1 σ, bX9_areJumpsGood_2 Q P2 P12 P106 x1 σ → P2 x1 σ) → (∀ x1 x2 σ, bX9_areJumpsGood_12 Q P2 P12 P106 x1 x2 σ → P12 x1 x2 σ) → (∀ x1 σ, bX9_areJumpsGood_106 Q P2 P12 P106 x1 σ → P106 x1 σ) → P106 x1 σ
theorem LX9_areJumpsGood_2_in {Q : Int → bS → Prop} {x1 : Int} {σ : bS} (h : bX9_areJumpsGood_2 Q (LX9_areJumpsGood_2 Q) (LX9_areJumpsGood_12 Q) (LX9_areJumpsGood_106 Q) x1 σ) : LX9_areJumpsGood_2 Q x1 σ := fun P2 P12 P106 H2 H12 H106 => H2 _ _ (mono_bX9_areJumpsGood_2 (fun _ _ h => h) (fun _ _ h => h P2 P12 P106 H2 H12 H106) (fun _ _ _ h => h P2 P12 P106 H2 H12 H106) (fun _ _ h => h P2 P12 P106 H2 H12 H106) h)
theorem mono_LX9_areJumpsGood_2 {Q Q9 : Int → bS → Prop} {x1 : Int} {σ : bS} (hQ : ∀ r σ, Q r σ → Q9 r σ) (h : LX9_areJumpsGood_2 Q x1 σ) : LX9_areJumpsGood_2 Q9 x1 σ := fun P2 P12 P106 H2 H12 H106 => h P2 P12 P106 (fun _ _ hb => H2 _ _ (mono_bX9_areJumpsGood_2 hQ (fun _ _ h => h) (fun _ _ _ h => h) (fun _ _ h => h) hb)) (fun _ _ _ hb => H12 _ _ _ (mono_bX9_areJumpsGood_12 hQ (fun _ _ h => h) (fun _ _ _ h => h) (fun _ _ h => h) hb)) (fun _ _ hb => H106 _ _ (mono_bX9_areJumpsGood_106 hQ (fun _ _ h => h) (fun _ _ _ h => h) (fun _ _ h => h) hb))
theorem LX9_areJumpsGood_12_in {Q : Int → bS → Prop} {x1 : Int} {x2 : Int} {σ : bS} (h : bX9_areJumpsGood_12 Q (LX9_areJumpsGood_2 Q) (LX9_areJumpsGood_12 Q) (LX9_areJumpsGood_106 Q) x1 x2 σ) : LX9_areJumpsGood_12 Q x1 x2 σ := fun P2 P12 P106 H2 H12 H106 => H12 _ _ _ (mono_bX9_areJumpsGood_12 (fun _ _ h => h) (fun _ _ h => h P2 P12 P106 H2 H12 H106) (fun _ _ _ h => h P2 P12 P106 H2 H12 H106) (fun _ _ h => h P2 P12 P106 H2 H12 H106) h)
theorem mono_LX9_areJumpsGood_12 {Q Q9 : Int → bS → Prop} {x1 : Int} {x2 : Int} {σ : bS} (hQ : ∀ r σ, Q r σ → Q9 r σ) (h : LX9_areJumpsGood_12 Q x1 x2 σ) : LX9_areJumpsGood_12 Q9 x1 x2 σ := fun P2 P12 P106 H2 H12 H106 => h P2 P12 P106 (fun _ _ hb => H2 _ _ (mono_bX9_areJumpsGood_2 hQ (fun _ _ h => h) (fun _ _ _ h => h) (fun _ _ h => h) hb)) (fun _ _ _ hb => H12 _ _ _ (mono_bX9_areJumpsGood_12 hQ (fun _ _ h => h) (fun _ _ _ h => h) (fun _ _ h => h) hb)) (fun _ _ hb => H106 _ _ (mono_bX9_areJumpsGood_106 hQ (fun _ _ h => h) (fun _ _ _ h => h) (fun _ _ h => h) hb))
theorem LX9_areJumpsGood_106_in {Q : Int → bS → Prop} {x1 : Int} {σ : bS} (h : bX9_areJumpsGood_106 Q (LX9_areJumpsGood_2 Q) (LX9_areJumpsGood_12 Q) (LX9_areJumpsGood_106 Q) x1 σ) : LX9_areJumpsGood_106 Q x1 σ := fun P2 P12 P106 H2 H12 H106 => H106 _ _ (mono_bX9_areJumpsGood_106 (fun _ _ h => h) (fun _ _ h => h P2 P12 P106 H2 H12 H106) (fun _ _ _ h => h P2 P12 P106 H2 H12 H106) (fun _ _ h => h P2 P12 P106 H2 H12 H106) h)
theorem mono_LX9_areJumpsGood_106 {Q Q9 : Int → bS → Prop} {x1 : Int} {σ : bS} (hQ : ∀ r σ, Q r σ → Q9 r σ) (h : LX9_areJumpsGood_106 Q x1 σ) : LX9_areJumpsGood_106 Q9 x1 σ := fun P2 P12 P106 H2 H12 H106 => h P2 P12 P106 (fun _ _ hb => H2 _ _ (mono_bX9_areJumpsGood_2 hQ (fun _ _ h => h) (fun _ _ _ h => h) (fun _ _ h => h) hb)) (fun _ _ _ hb => H12 _ _ _ (mono_bX9_areJumpsGood_12 hQ (fun _ _ h => h) (fun _ _ _ h => h) (fun _ _ h => h) hb)) (fun _ _ hb => H106 _ _ (mono_bX9_areJumpsGood_106 hQ (fun _ _ h => h) (fun _ _ _ h => h) (fun _ _ h => h) hb))
def vX9_areJumpsGood (Q : Int → bS → Prop) (σ : bS) : Prop := eX9_areJumpsGood Q (LX9_areJumpsGood_2 Q) (LX9_areJumpsGood_12 Q) (LX9_areJumpsGood_106 Q) σ
theorem mono_vX9_areJumpsGood {Q Q9 : Int → bS → Prop} {σ : bS} (hQ : ∀ r σ, Q r σ → Q9 r σ) : vX9_areJumpsGood Q σ → vX9_areJumpsGood Q9 σ := mono_eX9_areJumpsGood hQ (fun _ _ h => mono_LX9_areJumpsGood_2 hQ h) (fun _ _ _ h => mono_LX9_areJumpsGood_12 hQ h) (fun _ _ h => mono_LX9_areJumpsGood_106 hQ h)
theorem mono_X9_areJumpsGood {Q Q9 : Int → bS → Prop} {σ : bS} (hQ : ∀ r σ, Q r σ → Q9 r σ) : vX9_areJumpsGood Q σ → vX9_areJumpsGood Q9 σ := mono_vX9_areJumpsGood hQ
theorem mX9_areJumpsGood (l : Launch) (G : bG) (σ : bS) {Q : Int → bS → Prop} (h : vX9_areJumpsGood Q σ) : bk_Mi l yX9_areJumpsGood (Cond.code yX9_areJumpsGood cX9_areJumpsGood 4 (some .boolean) :: bT) { frames := 1, cells := 0, slots := 0, locals := 24 } G σ [.ref (G.2.2 10)] Q := by
  refine bk_Mi.of (cc := cX9_areJumpsGood) (maxL := 4) (ret := some .boolean) (by decide) rfl (Nat.le_of_ble_eq_true rfl) ?_
  intro p e s m args below meth c S hr hlk hσ
  let K2 : Int → bS → Prop := fun x1 τ => bR x1 → bRG τ → bA p l e { frames := 1, cells := 0, slots := 0, locals := 24 } s m args below meth c 0 0 (bQi below args s G σ Q) G (va_A (bk_w G σ) s.heap.size) 4 2 [(0, .ref (G.2.2 10)), (1, .int (bI x1))] [] τ
  let K12 : Int → Int → bS → Prop := fun x1 x2 τ => bR x1 → bR x2 → bRG τ → bA p l e { frames := 1, cells := 0, slots := 0, locals := 24 } s m args below meth c 0 0 (bQi below args s G σ Q) G (va_A (bk_w G σ) s.heap.size) 4 12 [(0, .ref (G.2.2 10)), (1, .int (bI x1)), (2, .int (bI x2))] [] τ
  let K106 : Int → bS → Prop := fun x1 τ => bR x1 → bRG τ → bA p l e { frames := 1, cells := 0, slots := 0, locals := 24 } s m args below meth c 0 0 (bQi below args s G σ Q) G (va_A (bk_w G σ) s.heap.size) 4 106 [(0, .ref (G.2.2 10)), (1, .int (bI x1))] [] τ
  have C2 : ∀ x1 τ, bX9_areJumpsGood_2 Q K2 K12 K106 x1 τ → K2 x1 τ := fun x1 τ hb hx1 hτ => wX9_areJumpsGood_2 S hr hlk (fun x1 σ hx1 hσ h => h hx1 hσ) (fun x1 x2 σ hx1 hx2 hσ h => h hx1 hx2 hσ) (fun x1 σ hx1 hσ h => h hx1 hσ) hx1 hτ hb
  have C12 : ∀ x1 x2 τ, bX9_areJumpsGood_12 Q K2 K12 K106 x1 x2 τ → K12 x1 x2 τ := fun x1 x2 τ hb hx1 hx2 hτ => wX9_areJumpsGood_12 S hr hlk (fun x1 σ hx1 hσ h => h hx1 hσ) (fun x1 x2 σ hx1 hx2 hσ h => h hx1 hx2 hσ) (fun x1 σ hx1 hσ h => h hx1 hσ) hx1 hx2 hτ hb
  have C106 : ∀ x1 τ, bX9_areJumpsGood_106 Q K2 K12 K106 x1 τ → K106 x1 τ := fun x1 τ hb hx1 hτ => wX9_areJumpsGood_106 S hr hlk (fun x1 σ hx1 hσ h => h hx1 hσ) (fun x1 x2 σ hx1 hx2 hσ h => h hx1 hx2 hσ) (fun x1 σ hx1 hσ h => h hx1 hσ) hx1 hτ hb
  exact wX9_areJumpsGood_e S hr hlk (fun x1 σ hx1 hσ h => h K2 K12 K106 C2 C12 C106 hx1 hσ) (fun x1 x2 σ hx1 hx2 hσ h => h K2 K12 K106 C2 C12 C106 hx1 hx2 hσ) (fun x1 σ hx1 hσ h => h K2 K12 K106 C2 C12 C106 hx1 hσ) hσ h
def vX9_areBanksGood_42 (Q : Int → bS → Prop) (P2 : Int → bS → Prop) (P50 : Int → bS → Prop) (P71 : Int → bS → Prop) (P91 : Int → Int → bS → Prop) (x1 : Int) (σ : bS) : Prop := (bR (x1 + 1) ∧ (P2 (x1 + 1) σ))
theorem mono_vX9_areBanksGood_42 {Q Q9 : Int → bS → Prop} {P2 P29 : Int → bS → Prop} {P50 P509 : Int → bS → Prop} {P71 P719 : Int → bS → Prop} {P91 P919 : Int → Int → bS → Prop} {x1 : Int} {σ : bS} (hQ : ∀ r σ, Q r σ → Q9 r σ) (hP2 : ∀ x1 σ, P2 x1 σ → P29 x1 σ) (hP50 : ∀ x1 σ, P50 x1 σ → P509 x1 σ) (hP71 : ∀ x1 σ, P71 x1 σ → P719 x1 σ) (hP91 : ∀ x1 x2 σ, P91 x1 x2 σ → P919 x1 x2 σ) : vX9_areBanksGood_42 Q P2 P50 P71 P91 x1 σ → vX9_areBanksGood_42 Q9 P29 P509 P719 P919 x1 σ := (bm_r (hP2 _ _))
theorem wX9_areBanksGood_42 {p : Program} {l : Launch} {e : Env} {s : State} {m : MethodId} {args : Array Value} {below : List Frame} {meth : Method} {c : Code} {G : bG} {σ0 : bS} {Q : Int → bS → Prop} {P2 : Int → bS → Prop} {P50 : Int → bS → Prop} {P71 : Int → bS → Prop} {P91 : Int → Int → bS → Prop} {x1 : Int} {σ : bS} (S : CallFix p m c cX9_areBanksGood 3 s args bT "BankLinkerModel") (hr : meth.sig.returnType = some .boolean) (hlk : meth.locks = false) (hP2 : ∀ (x1 : Int) (σ : bS), bR x1 → bRG σ → P2 x1 σ → bA p l e { frames := 4, cells := 0, slots := 0, locals := 88 } s m args below meth c 0 0 (bQi below args s G σ0 Q) G (va_A (bk_w G σ0) s.heap.size) 3 2 [(0, .ref (G.2.2 10)), (1, .int (bI x1))] [] σ) (hP50 : ∀ (x1 : Int) (σ : bS), bR x1 → bRG σ → P50 x1 σ → bA p l e { frames := 4, cells := 0, slots := 0, locals := 88 } s m args below meth c 0 0 (bQi below args s G σ0 Q) G (va_A (bk_w G σ0) s.heap.size) 3 50 [(0, .ref (G.2.2 10)), (1, .int (bI x1))] [] σ) (hP71 : ∀ (x1 : Int) (σ : bS), bR x1 → bRG σ → P71 x1 σ → bA p l e { frames := 4, cells := 0, slots := 0, locals := 88 } s m args below meth c 0 0 (bQi below args s G σ0 Q) G (va_A (bk_w G σ0) s.heap.size) 3 71 [(0, .ref (G.2.2 10)), (1, .int (bI x1))] [] σ) (hP91 : ∀ (x1 : Int) (x2 : Int) (σ : bS), bR x1 → bR x2 → bRG σ → P91 x1 x2 σ → bA p l e { frames := 4, cells := 0, slots := 0, locals := 88 } s m args below meth c 0 0 (bQi below args s G σ0 Q) G (va_A (bk_w G σ0) s.heap.size) 3 91 [(0, .ref (G.2.2 10)), (1, .int (bI x1)), (2, .int (bI x2))] [] σ) (hx1 : bR x1) (hσ : bRG σ) (h : vX9_areBanksGood_42 Q P2 P50 P71 P91 x1 σ) : bA p l e { frames := 4, cells := 0, slots := 0, locals := 88 } s m args below meth c 0 0 (bQi below args s G σ0 Q) G (va_A (bk_w G σ0) s.heap.size) 3 42 [(0, .ref (G.2.2 10)), (1, .int (bI x1))] [] σ := by
  unfold vX9_areBanksGood_42 at h
  refine br_iinc S 1 [(1, .int (bI (x1 + 1))), (0, .ref (G.2.2 10))] dX9_areBanksGood_42 rfl (by decide) rfl ?_
  refine br_goto S 2 dX9_areBanksGood_45 (by decide) ?_
  obtain ⟨g1, h⟩ := h
  exact bA.perm [1, 0] rfl <| hP2 (x1 + 1) σ g1 hσ h
def bX9_areBanksGood_2 (Q : Int → bS → Prop) (P2 : Int → bS → Prop) (P50 : Int → bS → Prop) (P71 : Int → bS → Prop) (P91 : Int → Int → bS → Prop) (x1 : Int) (σ : bS) : Prop := (((σ 10 1) ≤ x1 → (P50 0 σ)) ∧ (¬ (σ 10 1) ≤ x1 → ((0 ≤ x1 ∧ x1 < 12) ∧ ((¬ (σ 49 x1) = 1 → (vX9_areBanksGood_42 Q P2 P50 P71 P91 x1 σ)) ∧ ((σ 49 x1) = 1 → (vX9_sizeOfModule (fun z4 σ5 => ((z4 ≤ (σ5 55 1) → (vX9_areBanksGood_42 Q P2 P50 P71 P91 x1 σ5)) ∧ (¬ z4 ≤ (σ5 55 1) → (vX9_told (fun z7 σ8 => ((z7 = 0 ∨ z7 = 1) ∧ (Q z7 σ8))) 3 x1 (-1) σ5)))) x1 σ))))))
theorem mono_bX9_areBanksGood_2 {Q Q9 : Int → bS → Prop} {P2 P29 : Int → bS → Prop} {P50 P509 : Int → bS → Prop} {P71 P719 : Int → bS → Prop} {P91 P919 : Int → Int → bS → Prop} {x1 : Int} {σ : bS} (hQ : ∀ r σ, Q r σ → Q9 r σ) (hP2 : ∀ x1 σ, P2 x1 σ → P29 x1 σ) (hP50 : ∀ x1 σ, P50 x1 σ → P509 x1 σ) (hP71 : ∀ x1 σ, P71 x1 σ → P719 x1 σ) (hP91 : ∀ x1 x2 σ, P91 x1 x2 σ → P919 x1 x2 σ) : bX9_areBanksGood_2 Q P2 P50 P71 P91 x1 σ → bX9_areBanksGood_2 Q9 P29 P509 P719 P919 x1 σ := (bm_and (bm_imp (hP50 _ _)) (bm_imp (bm_r (bm_and (bm_imp (mono_vX9_areBanksGood_42 hQ hP2 hP50 hP71 hP91)) (bm_imp (mono_X9_sizeOfModule (fun _ _ => (bm_and (bm_imp (mono_vX9_areBanksGood_42 hQ hP2 hP50 hP71 hP91)) (bm_imp (mono_X9_told (fun _ _ => (bm_r (hQ _ _)))))))))))))
theorem wX9_areBanksGood_2 {p : Program} {l : Launch} {e : Env} {s : State} {m : MethodId} {args : Array Value} {below : List Frame} {meth : Method} {c : Code} {G : bG} {σ0 : bS} {Q : Int → bS → Prop} {P2 : Int → bS → Prop} {P50 : Int → bS → Prop} {P71 : Int → bS → Prop} {P91 : Int → Int → bS → Prop} {x1 : Int} {σ : bS} (S : CallFix p m c cX9_areBanksGood 3 s args bT "BankLinkerModel") (hr : meth.sig.returnType = some .boolean) (hlk : meth.locks = false) (hP2 : ∀ (x1 : Int) (σ : bS), bR x1 → bRG σ → P2 x1 σ → bA p l e { frames := 4, cells := 0, slots := 0, locals := 88 } s m args below meth c 0 0 (bQi below args s G σ0 Q) G (va_A (bk_w G σ0) s.heap.size) 3 2 [(0, .ref (G.2.2 10)), (1, .int (bI x1))] [] σ) (hP50 : ∀ (x1 : Int) (σ : bS), bR x1 → bRG σ → P50 x1 σ → bA p l e { frames := 4, cells := 0, slots := 0, locals := 88 } s m args below meth c 0 0 (bQi below args s G σ0 Q) G (va_A (bk_w G σ0) s.heap.size) 3 50 [(0, .ref (G.2.2 10)), (1, .int (bI x1))] [] σ) (hP71 : ∀ (x1 : Int) (σ : bS), bR x1 → bRG σ → P71 x1 σ → bA p l e { frames := 4, cells := 0, slots := 0, locals := 88 } s m args below meth c 0 0 (bQi below args s G σ0 Q) G (va_A (bk_w G σ0) s.heap.size) 3 71 [(0, .ref (G.2.2 10)), (1, .int (bI x1))] [] σ) (hP91 : ∀ (x1 : Int) (x2 : Int) (σ : bS), bR x1 → bR x2 → bRG σ → P91 x1 x2 σ → bA p l e { frames := 4, cells := 0, slots := 0, locals := 88 } s m args below meth c 0 0 (bQi below args s G σ0 Q) G (va_A (bk_w G σ0) s.heap.size) 3 91 [(0, .ref (G.2.2 10)), (1, .int (bI x1)), (2, .int (bI x2))] [] σ) (hx1 : bR x1) (hσ : bRG σ) (h : bX9_areBanksGood_2 Q P2 P50 P71 P91 x1 σ) : bA p l e { frames := 4, cells := 0, slots := 0, locals := 88 } s m args below meth c 0 0 (bQi below args s G σ0 Q) G (va_A (bk_w G σ0) s.heap.size) 3 2 [(0, .ref (G.2.2 10)), (1, .int (bI x1))] [] σ := by
  unfold bX9_areBanksGood_2 at h
  refine br_iload_n S 1 dX9_areBanksGood_2 rfl rfl ?_
  refine br_aload_n S 0 dX9_areBanksGood_3 rfl rfl ?_
  refine br_get (f := 1) (N := 37) (C := RX9) (T := TX9) S inT_X9 wd_3_235 (by decide) rfl rfl (by decide) rfl dX9_areBanksGood_4 ?_
  refine br_ic_ge S 48 hx1 (hσ 10 1) dX9_areBanksGood_7 (by decide) (fun c1 => ?_) (fun c1 => ?_)
  · replace h := h.1 c1
    refine br_iconst S dX9_areBanksGood_48 ?_
    refine br_istore_n S [(1, .int (bI 0)), (0, .ref (G.2.2 10))] dX9_areBanksGood_49 rfl (by decide) rfl ?_
    exact bA.perm [1, 0] rfl <| hP50 0 σ (by decide) hσ h
  · replace h := h.2 c1
    refine br_aload_n S 0 dX9_areBanksGood_10 rfl rfl ?_
    refine br_get (f := 2) (N := 37) (C := RX9) (T := TX9) S inT_X9 wd_3_236 (by decide) rfl rfl (by decide) rfl dX9_areBanksGood_11 ?_
    refine br_iload_n S 1 dX9_areBanksGood_14 rfl rfl ?_
    obtain ⟨g2, h⟩ := h
    refine br_iald (n := 12) S ⟨by decide, by decide, fun _ => rfl⟩ g2.1 g2.2 dX9_areBanksGood_15 ?_
    refine br_iconst S dX9_areBanksGood_16 ?_
    refine br_ic_ne S 42 (hσ 49 x1) (by decide) dX9_areBanksGood_17 (by decide) (fun c3 => ?_) (fun c3 => ?_)
    · replace h := h.1 c3
      exact wX9_areBanksGood_42 S hr hlk hP2 hP50 hP71 hP91 hx1 hσ h
    · replace h := h.2 c3
      refine br_aload_n S 0 dX9_areBanksGood_20 rfl rfl ?_
      refine br_iload_n S 1 dX9_areBanksGood_21 rfl rfl ?_
      refine br_callV (As := [.int (bI x1)]) (rest := []) S (cwV_X9_sizeOfModule S.2.2.2.2 wd_4_169 ⟨by decide, by decide⟩) (mX9_sizeOfModule l G σ x1 hx1 h) (by decide) rfl rfl rfl hσ rfl rfl (Nat.le_of_ble_eq_true rfl) ⟨by decide, by decide⟩ dX9_areBanksGood_22 (fun z4 σ5 hz4 hσ5 h => ?_)
      refine br_aload_n S 0 dX9_areBanksGood_25 rfl rfl ?_
      refine br_get (f := 9) (N := 37) (C := RX9) (T := TX9) S inT_X9 wd_4_3 (by decide) rfl rfl (by decide) rfl dX9_areBanksGood_26 ?_
      refine br_iconst S dX9_areBanksGood_29 ?_
      refine br_iald (n := 5) S ⟨by decide, by decide, fun _ => rfl⟩ (by decide) (by decide) dX9_areBanksGood_30 ?_
      refine br_ic_le S 42 hz4 (hσ5 55 1) dX9_areBanksGood_31 (by decide) (fun c6 => ?_) (fun c6 => ?_)
      · replace h := h.1 c6
        exact wX9_areBanksGood_42 S hr hlk hP2 hP50 hP71 hP91 hx1 hσ5 h
      · replace h := h.2 c6
        refine br_aload_n S 0 dX9_areBanksGood_34 rfl rfl ?_
        refine br_iconst S dX9_areBanksGood_35 ?_
        refine br_iload_n S 1 dX9_areBanksGood_36 rfl rfl ?_
        refine br_iconst S dX9_areBanksGood_37 ?_
        refine br_callV (As := [.int (bI 3), .int (bI x1), .int (bI (-1))]) (rest := []) S (cwV_X9_told S.2.2.2.2 wd_4_161 ⟨by decide, by decide⟩) (mX9_told l G σ5 3 (by decide) x1 hx1 (-1) (by decide) h) (by decide) rfl rfl rfl hσ5 rfl rfl (Nat.le_of_ble_eq_true rfl) ⟨by decide, by decide⟩ dX9_areBanksGood_38 (fun z7 σ8 hz7 hσ8 h => ?_)
        obtain ⟨g9, h⟩ := h
        exact br_zret S hr hlk g9 hσ8 dX9_areBanksGood_41 h
def bX9_areBanksGood_50 (Q : Int → bS → Prop) (P2 : Int → bS → Prop) (P50 : Int → bS → Prop) (P71 : Int → bS → Prop) (P91 : Int → Int → bS → Prop) (x1 : Int) (σ : bS) : Prop := ((8 ≤ x1 → (P71 0 σ)) ∧ (¬ 8 ≤ x1 → ((0 ≤ x1 ∧ x1 < 8) ∧ (∀ σ3 : bS, σ3 = bup σ 57 x1 0 → (bR (x1 + 1) ∧ (P50 (x1 + 1) σ3))))))
theorem mono_bX9_areBanksGood_50 {Q Q9 : Int → bS → Prop} {P2 P29 : Int → bS → Prop} {P50 P509 : Int → bS → Prop} {P71 P719 : Int → bS → Prop} {P91 P919 : Int → Int → bS → Prop} {x1 : Int} {σ : bS} (hQ : ∀ r σ, Q r σ → Q9 r σ) (hP2 : ∀ x1 σ, P2 x1 σ → P29 x1 σ) (hP50 : ∀ x1 σ, P50 x1 σ → P509 x1 σ) (hP71 : ∀ x1 σ, P71 x1 σ → P719 x1 σ) (hP91 : ∀ x1 x2 σ, P91 x1 x2 σ → P919 x1 x2 σ) : bX9_areBanksGood_50 Q P2 P50 P71 P91 x1 σ → bX9_areBanksGood_50 Q9 P29 P509 P719 P919 x1 σ := (bm_and (bm_imp (hP71 _ _)) (bm_imp (bm_r (bm_all fun _ => bm_imp (bm_r (hP50 _ _))))))
theorem wX9_areBanksGood_50 {p : Program} {l : Launch} {e : Env} {s : State} {m : MethodId} {args : Array Value} {below : List Frame} {meth : Method} {c : Code} {G : bG} {σ0 : bS} {Q : Int → bS → Prop} {P2 : Int → bS → Prop} {P50 : Int → bS → Prop} {P71 : Int → bS → Prop} {P91 : Int → Int → bS → Prop} {x1 : Int} {σ : bS} (S : CallFix p m c cX9_areBanksGood 3 s args bT "BankLinkerModel") (hr : meth.sig.returnType = some .boolean) (hlk : meth.locks = false) (hP2 : ∀ (x1 : Int) (σ : bS), bR x1 → bRG σ → P2 x1 σ → bA p l e { frames := 4, cells := 0, slots := 0, locals := 88 } s m args below meth c 0 0 (bQi below args s G σ0 Q) G (va_A (bk_w G σ0) s.heap.size) 3 2 [(0, .ref (G.2.2 10)), (1, .int (bI x1))] [] σ) (hP50 : ∀ (x1 : Int) (σ : bS), bR x1 → bRG σ → P50 x1 σ → bA p l e { frames := 4, cells := 0, slots := 0, locals := 88 } s m args below meth c 0 0 (bQi below args s G σ0 Q) G (va_A (bk_w G σ0) s.heap.size) 3 50 [(0, .ref (G.2.2 10)), (1, .int (bI x1))] [] σ) (hP71 : ∀ (x1 : Int) (σ : bS), bR x1 → bRG σ → P71 x1 σ → bA p l e { frames := 4, cells := 0, slots := 0, locals := 88 } s m args below meth c 0 0 (bQi below args s G σ0 Q) G (va_A (bk_w G σ0) s.heap.size) 3 71 [(0, .ref (G.2.2 10)), (1, .int (bI x1))] [] σ) (hP91 : ∀ (x1 : Int) (x2 : Int) (σ : bS), bR x1 → bR x2 → bRG σ → P91 x1 x2 σ → bA p l e { frames := 4, cells := 0, slots := 0, locals := 88 } s m args below meth c 0 0 (bQi below args s G σ0 Q) G (va_A (bk_w G σ0) s.heap.size) 3 91 [(0, .ref (G.2.2 10)), (1, .int (bI x1)), (2, .int (bI x2))] [] σ) (hx1 : bR x1) (hσ : bRG σ) (h : bX9_areBanksGood_50 Q P2 P50 P71 P91 x1 σ) : bA p l e { frames := 4, cells := 0, slots := 0, locals := 88 } s m args below meth c 0 0 (bQi below args s G σ0 Q) G (va_A (bk_w G σ0) s.heap.size) 3 50 [(0, .ref (G.2.2 10)), (1, .int (bI x1))] [] σ := by
  unfold bX9_areBanksGood_50 at h
  refine br_iload_n S 1 dX9_areBanksGood_50 rfl rfl ?_
  refine br_bipush S dX9_areBanksGood_51 rfl ?_
  refine br_ic_ge S 69 hx1 (by decide) dX9_areBanksGood_53 (by decide) (fun c1 => ?_) (fun c1 => ?_)
  · replace h := h.1 c1
    refine br_iconst S dX9_areBanksGood_69 ?_
    refine br_istore_n S [(1, .int (bI 0)), (0, .ref (G.2.2 10))] dX9_areBanksGood_70 rfl (by decide) rfl ?_
    exact bA.perm [1, 0] rfl <| hP71 0 σ (by decide) hσ h
  · replace h := h.2 c1
    refine br_aload_n S 0 dX9_areBanksGood_56 rfl rfl ?_
    refine br_get (f := 12) (N := 37) (C := RX9) (T := TX9) S inT_X9 wd_4_6 (by decide) rfl rfl (by decide) rfl dX9_areBanksGood_57 ?_
    refine br_iload_n S 1 dX9_areBanksGood_60 rfl rfl ?_
    refine br_iconst S dX9_areBanksGood_61 ?_
    obtain ⟨g2, h⟩ := h
    obtain ⟨σ3, e4⟩ : ∃ τ, τ = bup σ 57 x1 0 := ⟨_, rfl⟩
    replace h := h σ3 e4
    have hσ3 : bRG σ3 := by rw [e4]; exact bup_rg hσ (by decide)
    refine br_iast (n := 8) S ⟨by decide, by decide, fun _ => rfl⟩ g2.1 g2.2 dX9_areBanksGood_62 ?_
    refine bA.to rfl rfl e4.symm ?_
    refine br_iinc S 1 [(1, .int (bI (x1 + 1))), (0, .ref (G.2.2 10))] dX9_areBanksGood_63 rfl (by decide) rfl ?_
    refine br_goto S 50 dX9_areBanksGood_66 (by decide) ?_
    obtain ⟨g5, h⟩ := h
    exact bA.perm [1, 0] rfl <| hP50 (x1 + 1) σ3 g5 hσ3 h
def vX9_areBanksGood_167 (Q : Int → bS → Prop) (P2 : Int → bS → Prop) (P50 : Int → bS → Prop) (P71 : Int → bS → Prop) (P91 : Int → Int → bS → Prop) (x1 : Int) (σ : bS) : Prop := (bR (x1 + 1) ∧ (P71 (x1 + 1) σ))
theorem mono_vX9_areBanksGood_167 {Q Q9 : Int → bS → Prop} {P2 P29 : Int → bS → Prop} {P50 P509 : Int → bS → Prop} {P71 P719 : Int → bS → Prop} {P91 P919 : Int → Int → bS → Prop} {x1 : Int} {σ : bS} (hQ : ∀ r σ, Q r σ → Q9 r σ) (hP2 : ∀ x1 σ, P2 x1 σ → P29 x1 σ) (hP50 : ∀ x1 σ, P50 x1 σ → P509 x1 σ) (hP71 : ∀ x1 σ, P71 x1 σ → P719 x1 σ) (hP91 : ∀ x1 x2 σ, P91 x1 x2 σ → P919 x1 x2 σ) : vX9_areBanksGood_167 Q P2 P50 P71 P91 x1 σ → vX9_areBanksGood_167 Q9 P29 P509 P719 P919 x1 σ := (bm_r (hP71 _ _))
theorem wX9_areBanksGood_167 {p : Program} {l : Launch} {e : Env} {s : State} {m : MethodId} {args : Array Value} {below : List Frame} {meth : Method} {c : Code} {G : bG} {σ0 : bS} {Q : Int → bS → Prop} {P2 : Int → bS → Prop} {P50 : Int → bS → Prop} {P71 : Int → bS → Prop} {P91 : Int → Int → bS → Prop} {x1 : Int} {σ : bS} (S : CallFix p m c cX9_areBanksGood 3 s args bT "BankLinkerModel") (hr : meth.sig.returnType = some .boolean) (hlk : meth.locks = false) (hP2 : ∀ (x1 : Int) (σ : bS), bR x1 → bRG σ → P2 x1 σ → bA p l e { frames := 4, cells := 0, slots := 0, locals := 88 } s m args below meth c 0 0 (bQi below args s G σ0 Q) G (va_A (bk_w G σ0) s.heap.size) 3 2 [(0, .ref (G.2.2 10)), (1, .int (bI x1))] [] σ) (hP50 : ∀ (x1 : Int) (σ : bS), bR x1 → bRG σ → P50 x1 σ → bA p l e { frames := 4, cells := 0, slots := 0, locals := 88 } s m args below meth c 0 0 (bQi below args s G σ0 Q) G (va_A (bk_w G σ0) s.heap.size) 3 50 [(0, .ref (G.2.2 10)), (1, .int (bI x1))] [] σ) (hP71 : ∀ (x1 : Int) (σ : bS), bR x1 → bRG σ → P71 x1 σ → bA p l e { frames := 4, cells := 0, slots := 0, locals := 88 } s m args below meth c 0 0 (bQi below args s G σ0 Q) G (va_A (bk_w G σ0) s.heap.size) 3 71 [(0, .ref (G.2.2 10)), (1, .int (bI x1))] [] σ) (hP91 : ∀ (x1 : Int) (x2 : Int) (σ : bS), bR x1 → bR x2 → bRG σ → P91 x1 x2 σ → bA p l e { frames := 4, cells := 0, slots := 0, locals := 88 } s m args below meth c 0 0 (bQi below args s G σ0 Q) G (va_A (bk_w G σ0) s.heap.size) 3 91 [(0, .ref (G.2.2 10)), (1, .int (bI x1)), (2, .int (bI x2))] [] σ) (hx1 : bR x1) (hσ : bRG σ) (h : vX9_areBanksGood_167 Q P2 P50 P71 P91 x1 σ) : bA p l e { frames := 4, cells := 0, slots := 0, locals := 88 } s m args below meth c 0 0 (bQi below args s G σ0 Q) G (va_A (bk_w G σ0) s.heap.size) 3 167 [(0, .ref (G.2.2 10)), (1, .int (bI x1))] [] σ := by
  unfold vX9_areBanksGood_167 at h
  refine br_iinc S 1 [(1, .int (bI (x1 + 1))), (0, .ref (G.2.2 10))] dX9_areBanksGood_167 rfl (by decide) rfl ?_
  refine br_goto S 71 dX9_areBanksGood_170 (by decide) ?_
  obtain ⟨g1, h⟩ := h
  exact bA.perm [1, 0] rfl <| hP71 (x1 + 1) σ g1 hσ h
def bX9_areBanksGood_71 (Q : Int → bS → Prop) (P2 : Int → bS → Prop) (P50 : Int → bS → Prop) (P71 : Int → bS → Prop) (P91 : Int → Int → bS → Prop) (x1 : Int) (σ : bS) : Prop := (((σ 10 1) ≤ x1 → (Q 1 σ)) ∧ (¬ (σ 10 1) ≤ x1 → ((0 ≤ x1 ∧ x1 < 12) ∧ ((¬ (σ 49 x1) = 1 → (vX9_areBanksGood_167 Q P2 P50 P71 P91 x1 σ)) ∧ ((σ 49 x1) = 1 → (P91 x1 0 σ))))))
theorem mono_bX9_areBanksGood_71 {Q Q9 : Int → bS → Prop} {P2 P29 : Int → bS → Prop} {P50 P509 : Int → bS → Prop} {P71 P719 : Int → bS → Prop} {P91 P919 : Int → Int → bS → Prop} {x1 : Int} {σ : bS} (hQ : ∀ r σ, Q r σ → Q9 r σ) (hP2 : ∀ x1 σ, P2 x1 σ → P29 x1 σ) (hP50 : ∀ x1 σ, P50 x1 σ → P509 x1 σ) (hP71 : ∀ x1 σ, P71 x1 σ → P719 x1 σ) (hP91 : ∀ x1 x2 σ, P91 x1 x2 σ → P919 x1 x2 σ) : bX9_areBanksGood_71 Q P2 P50 P71 P91 x1 σ → bX9_areBanksGood_71 Q9 P29 P509 P719 P919 x1 σ := (bm_and (bm_imp (hQ _ _)) (bm_imp (bm_r (bm_and (bm_imp (mono_vX9_areBanksGood_167 hQ hP2 hP50 hP71 hP91)) (bm_imp (hP91 _ _ _))))))
theorem wX9_areBanksGood_71 {p : Program} {l : Launch} {e : Env} {s : State} {m : MethodId} {args : Array Value} {below : List Frame} {meth : Method} {c : Code} {G : bG} {σ0 : bS} {Q : Int → bS → Prop} {P2 : Int → bS → Prop} {P50 : Int → bS → Prop} {P71 : Int → bS → Prop} {P91 : Int → Int → bS → Prop} {x1 : Int} {σ : bS} (S : CallFix p m c cX9_areBanksGood 3 s args bT "BankLinkerModel") (hr : meth.sig.returnType = some .boolean) (hlk : meth.locks = false) (hP2 : ∀ (x1 : Int) (σ : bS), bR x1 → bRG σ → P2 x1 σ → bA p l e { frames := 4, cells := 0, slots := 0, locals := 88 } s m args below meth c 0 0 (bQi below args s G σ0 Q) G (va_A (bk_w G σ0) s.heap.size) 3 2 [(0, .ref (G.2.2 10)), (1, .int (bI x1))] [] σ) (hP50 : ∀ (x1 : Int) (σ : bS), bR x1 → bRG σ → P50 x1 σ → bA p l e { frames := 4, cells := 0, slots := 0, locals := 88 } s m args below meth c 0 0 (bQi below args s G σ0 Q) G (va_A (bk_w G σ0) s.heap.size) 3 50 [(0, .ref (G.2.2 10)), (1, .int (bI x1))] [] σ) (hP71 : ∀ (x1 : Int) (σ : bS), bR x1 → bRG σ → P71 x1 σ → bA p l e { frames := 4, cells := 0, slots := 0, locals := 88 } s m args below meth c 0 0 (bQi below args s G σ0 Q) G (va_A (bk_w G σ0) s.heap.size) 3 71 [(0, .ref (G.2.2 10)), (1, .int (bI x1))] [] σ) (hP91 : ∀ (x1 : Int) (x2 : Int) (σ : bS), bR x1 → bR x2 → bRG σ → P91 x1 x2 σ → bA p l e { frames := 4, cells := 0, slots := 0, locals := 88 } s m args below meth c 0 0 (bQi below args s G σ0 Q) G (va_A (bk_w G σ0) s.heap.size) 3 91 [(0, .ref (G.2.2 10)), (1, .int (bI x1)), (2, .int (bI x2))] [] σ) (hx1 : bR x1) (hσ : bRG σ) (h : bX9_areBanksGood_71 Q P2 P50 P71 P91 x1 σ) : bA p l e { frames := 4, cells := 0, slots := 0, locals := 88 } s m args below meth c 0 0 (bQi below args s G σ0 Q) G (va_A (bk_w G σ0) s.heap.size) 3 71 [(0, .ref (G.2.2 10)), (1, .int (bI x1))] [] σ := by
  unfold bX9_areBanksGood_71 at h
  refine br_iload_n S 1 dX9_areBanksGood_71 rfl rfl ?_
  refine br_aload_n S 0 dX9_areBanksGood_72 rfl rfl ?_
  refine br_get (f := 1) (N := 37) (C := RX9) (T := TX9) S inT_X9 wd_3_235 (by decide) rfl rfl (by decide) rfl dX9_areBanksGood_73 ?_
  refine br_ic_ge S 173 hx1 (hσ 10 1) dX9_areBanksGood_76 (by decide) (fun c1 => ?_) (fun c1 => ?_)
  · replace h := h.1 c1
    refine br_iconst S dX9_areBanksGood_173 ?_
    exact br_zret S hr hlk (by decide) hσ dX9_areBanksGood_174 h
  · replace h := h.2 c1
    refine br_aload_n S 0 dX9_areBanksGood_79 rfl rfl ?_
    refine br_get (f := 2) (N := 37) (C := RX9) (T := TX9) S inT_X9 wd_3_236 (by decide) rfl rfl (by decide) rfl dX9_areBanksGood_80 ?_
    refine br_iload_n S 1 dX9_areBanksGood_83 rfl rfl ?_
    obtain ⟨g2, h⟩ := h
    refine br_iald (n := 12) S ⟨by decide, by decide, fun _ => rfl⟩ g2.1 g2.2 dX9_areBanksGood_84 ?_
    refine br_iconst S dX9_areBanksGood_85 ?_
    refine br_ic_ne S 167 (hσ 49 x1) (by decide) dX9_areBanksGood_86 (by decide) (fun c3 => ?_) (fun c3 => ?_)
    · replace h := h.1 c3
      exact wX9_areBanksGood_167 S hr hlk hP2 hP50 hP71 hP91 hx1 hσ h
    · replace h := h.2 c3
      refine br_iconst S dX9_areBanksGood_89 ?_
      refine br_istore_n S [(2, .int (bI 0)), (0, .ref (G.2.2 10)), (1, .int (bI x1))] dX9_areBanksGood_90 rfl (by decide) rfl ?_
      exact bA.perm [1, 2, 0] rfl <| hP91 x1 0 σ hx1 (by decide) hσ h
def vX9_areBanksGood_128 (Q : Int → bS → Prop) (P2 : Int → bS → Prop) (P50 : Int → bS → Prop) (P71 : Int → bS → Prop) (P91 : Int → Int → bS → Prop) (x1 : Int) (x2 : Int) (σ : bS) : Prop := ((¬ x2 = (σ 55 0) → ((0 ≤ x1 ∧ x1 < 12) ∧ (∀ σ3 : bS, σ3 = bup σ 56 x1 x2 → ((0 ≤ x2 ∧ x2 < 8) ∧ (vX9_sizeOfModule (fun z6 σ7 => (bR ((σ3 57 x2) + z6) ∧ (∀ σ9 : bS, σ9 = bup σ7 57 x2 ((σ3 57 x2) + z6) → (vX9_areBanksGood_167 Q P2 P50 P71 P91 x1 σ9)))) x1 σ3))))) ∧ (x2 = (σ 55 0) → (vX9_told (fun z11 σ12 => ((z11 = 0 ∨ z11 = 1) ∧ (Q z11 σ12))) 4 x1 (-1) σ)))
theorem mono_vX9_areBanksGood_128 {Q Q9 : Int → bS → Prop} {P2 P29 : Int → bS → Prop} {P50 P509 : Int → bS → Prop} {P71 P719 : Int → bS → Prop} {P91 P919 : Int → Int → bS → Prop} {x1 : Int} {x2 : Int} {σ : bS} (hQ : ∀ r σ, Q r σ → Q9 r σ) (hP2 : ∀ x1 σ, P2 x1 σ → P29 x1 σ) (hP50 : ∀ x1 σ, P50 x1 σ → P509 x1 σ) (hP71 : ∀ x1 σ, P71 x1 σ → P719 x1 σ) (hP91 : ∀ x1 x2 σ, P91 x1 x2 σ → P919 x1 x2 σ) : vX9_areBanksGood_128 Q P2 P50 P71 P91 x1 x2 σ → vX9_areBanksGood_128 Q9 P29 P509 P719 P919 x1 x2 σ := (bm_and (bm_imp (bm_r (bm_all fun _ => bm_imp (bm_r (mono_X9_sizeOfModule (fun _ _ => (bm_r (bm_all fun _ => bm_imp (mono_vX9_areBanksGood_167 hQ hP2 hP50 hP71 hP91))))))))) (bm_imp (mono_X9_told (fun _ _ => (bm_r (hQ _ _))))))
theorem wX9_areBanksGood_128 {p : Program} {l : Launch} {e : Env} {s : State} {m : MethodId} {args : Array Value} {below : List Frame} {meth : Method} {c : Code} {G : bG} {σ0 : bS} {Q : Int → bS → Prop} {P2 : Int → bS → Prop} {P50 : Int → bS → Prop} {P71 : Int → bS → Prop} {P91 : Int → Int → bS → Prop} {x1 : Int} {x2 : Int} {σ : bS} (S : CallFix p m c cX9_areBanksGood 3 s args bT "BankLinkerModel") (hr : meth.sig.returnType = some .boolean) (hlk : meth.locks = false) (hP2 : ∀ (x1 : Int) (σ : bS), bR x1 → bRG σ → P2 x1 σ → bA p l e { frames := 4, cells := 0, slots := 0, locals := 88 } s m args below meth c 0 0 (bQi below args s G σ0 Q) G (va_A (bk_w G σ0) s.heap.size) 3 2 [(0, .ref (G.2.2 10)), (1, .int (bI x1))] [] σ) (hP50 : ∀ (x1 : Int) (σ : bS), bR x1 → bRG σ → P50 x1 σ → bA p l e { frames := 4, cells := 0, slots := 0, locals := 88 } s m args below meth c 0 0 (bQi below args s G σ0 Q) G (va_A (bk_w G σ0) s.heap.size) 3 50 [(0, .ref (G.2.2 10)), (1, .int (bI x1))] [] σ) (hP71 : ∀ (x1 : Int) (σ : bS), bR x1 → bRG σ → P71 x1 σ → bA p l e { frames := 4, cells := 0, slots := 0, locals := 88 } s m args below meth c 0 0 (bQi below args s G σ0 Q) G (va_A (bk_w G σ0) s.heap.size) 3 71 [(0, .ref (G.2.2 10)), (1, .int (bI x1))] [] σ) (hP91 : ∀ (x1 : Int) (x2 : Int) (σ : bS), bR x1 → bR x2 → bRG σ → P91 x1 x2 σ → bA p l e { frames := 4, cells := 0, slots := 0, locals := 88 } s m args below meth c 0 0 (bQi below args s G σ0 Q) G (va_A (bk_w G σ0) s.heap.size) 3 91 [(0, .ref (G.2.2 10)), (1, .int (bI x1)), (2, .int (bI x2))] [] σ) (hx1 : bR x1) (hx2 : bR x2) (hσ : bRG σ) (h : vX9_areBanksGood_128 Q P2 P50 P71 P91 x1 x2 σ) : bA p l e { frames := 4, cells := 0, slots := 0, locals := 88 } s m args below meth c 0 0 (bQi below args s G σ0 Q) G (va_A (bk_w G σ0) s.heap.size) 3 128 [(0, .ref (G.2.2 10)), (1, .int (bI x1)), (2, .int (bI x2))] [] σ := by
  unfold vX9_areBanksGood_128 at h
  refine br_iload_n S 2 dX9_areBanksGood_128 rfl rfl ?_
  refine br_aload_n S 0 dX9_areBanksGood_129 rfl rfl ?_
  refine br_get (f := 9) (N := 37) (C := RX9) (T := TX9) S inT_X9 wd_4_3 (by decide) rfl rfl (by decide) rfl dX9_areBanksGood_130 ?_
  refine br_iconst S dX9_areBanksGood_133 ?_
  refine br_iald (n := 5) S ⟨by decide, by decide, fun _ => rfl⟩ (by decide) (by decide) dX9_areBanksGood_134 ?_
  refine br_ic_ne S 146 hx2 (hσ 55 0) dX9_areBanksGood_135 (by decide) (fun c1 => ?_) (fun c1 => ?_)
  · replace h := h.1 c1
    refine br_aload_n S 0 dX9_areBanksGood_146 rfl rfl ?_
    refine br_get (f := 11) (N := 37) (C := RX9) (T := TX9) S inT_X9 wd_4_5 (by decide) rfl rfl (by decide) rfl dX9_areBanksGood_147 ?_
    refine br_iload_n S 1 dX9_areBanksGood_150 rfl rfl ?_
    refine br_iload_n S 2 dX9_areBanksGood_151 rfl rfl ?_
    obtain ⟨g2, h⟩ := h
    obtain ⟨σ3, e4⟩ : ∃ τ, τ = bup σ 56 x1 x2 := ⟨_, rfl⟩
    replace h := h σ3 e4
    have hσ3 : bRG σ3 := by rw [e4]; exact bup_rg hσ hx2
    refine br_iast (n := 12) S ⟨by decide, by decide, fun _ => rfl⟩ g2.1 g2.2 dX9_areBanksGood_152 ?_
    refine bA.to rfl rfl e4.symm ?_
    refine br_aload_n S 0 dX9_areBanksGood_153 rfl rfl ?_
    refine br_get (f := 12) (N := 37) (C := RX9) (T := TX9) S inT_X9 wd_4_6 (by decide) rfl rfl (by decide) rfl dX9_areBanksGood_154 ?_
    refine br_iload_n S 2 dX9_areBanksGood_157 rfl rfl ?_
    refine br_dup2 S dX9_areBanksGood_158 rfl rfl ?_
    obtain ⟨g5, h⟩ := h
    refine br_iald (n := 8) S ⟨by decide, by decide, fun _ => rfl⟩ g5.1 g5.2 dX9_areBanksGood_159 ?_
    refine br_aload_n S 0 dX9_areBanksGood_160 rfl rfl ?_
    refine br_iload_n S 1 dX9_areBanksGood_161 rfl rfl ?_
    refine br_callV (As := [.int (bI x1)]) (rest := [.int (bI (σ3 57 x2)), .int (bI x2), .ref (G.2.2 57)]) S (cwV_X9_sizeOfModule S.2.2.2.2 wd_4_169 ⟨by decide, by decide⟩) (mX9_sizeOfModule l G σ3 x1 hx1 h) (by decide) rfl rfl rfl hσ3 rfl rfl (Nat.le_of_ble_eq_true rfl) ⟨by decide, by decide⟩ dX9_areBanksGood_162 (fun z6 σ7 hz6 hσ7 h => ?_)
    refine br_iadd S dX9_areBanksGood_165 ?_
    obtain ⟨g8, h⟩ := h
    obtain ⟨σ9, e10⟩ : ∃ τ, τ = bup σ7 57 x2 ((σ3 57 x2) + z6) := ⟨_, rfl⟩
    replace h := h σ9 e10
    have hσ9 : bRG σ9 := by rw [e10]; exact bup_rg hσ7 g8
    refine br_iast (n := 8) S ⟨by decide, by decide, fun _ => rfl⟩ g5.1 g5.2 dX9_areBanksGood_166 ?_
    refine bA.to rfl rfl e10.symm ?_
    exact bA.perm [0, 1] rfl <| wX9_areBanksGood_167 S hr hlk hP2 hP50 hP71 hP91 hx1 hσ9 h
  · replace h := h.2 c1
    refine br_aload_n S 0 dX9_areBanksGood_138 rfl rfl ?_
    refine br_iconst S dX9_areBanksGood_139 ?_
    refine br_iload_n S 1 dX9_areBanksGood_140 rfl rfl ?_
    refine br_iconst S dX9_areBanksGood_141 ?_
    refine br_callV (As := [.int (bI 4), .int (bI x1), .int (bI (-1))]) (rest := []) S (cwV_X9_told S.2.2.2.2 wd_4_161 ⟨by decide, by decide⟩) (mX9_told l G σ 4 (by decide) x1 hx1 (-1) (by decide) h) (by decide) rfl rfl rfl hσ rfl rfl (Nat.le_of_ble_eq_true rfl) ⟨by decide, by decide⟩ dX9_areBanksGood_142 (fun z11 σ12 hz11 hσ12 h => ?_)
    obtain ⟨g13, h⟩ := h
    exact br_zret S hr hlk g13 hσ12 dX9_areBanksGood_145 h
def bX9_areBanksGood_91 (Q : Int → bS → Prop) (P2 : Int → bS → Prop) (P50 : Int → bS → Prop) (P71 : Int → bS → Prop) (P91 : Int → Int → bS → Prop) (x1 : Int) (x2 : Int) (σ : bS) : Prop := (((σ 55 0) ≤ x2 → (vX9_areBanksGood_128 Q P2 P50 P71 P91 x1 x2 σ)) ∧ (¬ (σ 55 0) ≤ x2 → ((0 ≤ x2 ∧ x2 < 8) ∧ (vX9_sizeOfModule (fun z3 σ4 => (bR ((σ 57 x2) + z3) ∧ ((((σ 57 x2) + z3) ≤ (σ4 55 1) → (vX9_areBanksGood_128 Q P2 P50 P71 P91 x1 x2 σ4)) ∧ (¬ ((σ 57 x2) + z3) ≤ (σ4 55 1) → (bR (x2 + 1) ∧ (P91 x1 (x2 + 1) σ4)))))) x1 σ))))
theorem mono_bX9_areBanksGood_91 {Q Q9 : Int → bS → Prop} {P2 P29 : Int → bS → Prop} {P50 P509 : Int → bS → Prop} {P71 P719 : Int → bS → Prop} {P91 P919 : Int → Int → bS → Prop} {x1 : Int} {x2 : Int} {σ : bS} (hQ : ∀ r σ, Q r σ → Q9 r σ) (hP2 : ∀ x1 σ, P2 x1 σ → P29 x1 σ) (hP50 : ∀ x1 σ, P50 x1 σ → P509 x1 σ) (hP71 : ∀ x1 σ, P71 x1 σ → P719 x1 σ) (hP91 : ∀ x1 x2 σ, P91 x1 x2 σ → P919 x1 x2 σ) : bX9_areBanksGood_91 Q P2 P50 P71 P91 x1 x2 σ → bX9_areBanksGood_91 Q9 P29 P509 P719 P919 x1 x2 σ := (bm_and (bm_imp (mono_vX9_areBanksGood_128 hQ hP2 hP50 hP71 hP91)) (bm_imp (bm_r (mono_X9_sizeOfModule (fun _ _ => (bm_r (bm_and (bm_imp (mono_vX9_areBanksGood_128 hQ hP2 hP50 hP71 hP91)) (bm_imp (bm_r (hP91 _ _ _))))))))))
theorem wX9_areBanksGood_91 {p : Program} {l : Launch} {e : Env} {s : State} {m : MethodId} {args : Array Value} {below : List Frame} {meth : Method} {c : Code} {G : bG} {σ0 : bS} {Q : Int → bS → Prop} {P2 : Int → bS → Prop} {P50 : Int → bS → Prop} {P71 : Int → bS → Prop} {P91 : Int → Int → bS → Prop} {x1 : Int} {x2 : Int} {σ : bS} (S : CallFix p m c cX9_areBanksGood 3 s args bT "BankLinkerModel") (hr : meth.sig.returnType = some .boolean) (hlk : meth.locks = false) (hP2 : ∀ (x1 : Int) (σ : bS), bR x1 → bRG σ → P2 x1 σ → bA p l e { frames := 4, cells := 0, slots := 0, locals := 88 } s m args below meth c 0 0 (bQi below args s G σ0 Q) G (va_A (bk_w G σ0) s.heap.size) 3 2 [(0, .ref (G.2.2 10)), (1, .int (bI x1))] [] σ) (hP50 : ∀ (x1 : Int) (σ : bS), bR x1 → bRG σ → P50 x1 σ → bA p l e { frames := 4, cells := 0, slots := 0, locals := 88 } s m args below meth c 0 0 (bQi below args s G σ0 Q) G (va_A (bk_w G σ0) s.heap.size) 3 50 [(0, .ref (G.2.2 10)), (1, .int (bI x1))] [] σ) (hP71 : ∀ (x1 : Int) (σ : bS), bR x1 → bRG σ → P71 x1 σ → bA p l e { frames := 4, cells := 0, slots := 0, locals := 88 } s m args below meth c 0 0 (bQi below args s G σ0 Q) G (va_A (bk_w G σ0) s.heap.size) 3 71 [(0, .ref (G.2.2 10)), (1, .int (bI x1))] [] σ) (hP91 : ∀ (x1 : Int) (x2 : Int) (σ : bS), bR x1 → bR x2 → bRG σ → P91 x1 x2 σ → bA p l e { frames := 4, cells := 0, slots := 0, locals := 88 } s m args below meth c 0 0 (bQi below args s G σ0 Q) G (va_A (bk_w G σ0) s.heap.size) 3 91 [(0, .ref (G.2.2 10)), (1, .int (bI x1)), (2, .int (bI x2))] [] σ) (hx1 : bR x1) (hx2 : bR x2) (hσ : bRG σ) (h : bX9_areBanksGood_91 Q P2 P50 P71 P91 x1 x2 σ) : bA p l e { frames := 4, cells := 0, slots := 0, locals := 88 } s m args below meth c 0 0 (bQi below args s G σ0 Q) G (va_A (bk_w G σ0) s.heap.size) 3 91 [(0, .ref (G.2.2 10)), (1, .int (bI x1)), (2, .int (bI x2))] [] σ := by
  unfold bX9_areBanksGood_91 at h
  refine br_iload_n S 2 dX9_areBanksGood_91 rfl rfl ?_
  refine br_aload_n S 0 dX9_areBanksGood_92 rfl rfl ?_
  refine br_get (f := 9) (N := 37) (C := RX9) (T := TX9) S inT_X9 wd_4_3 (by decide) rfl rfl (by decide) rfl dX9_areBanksGood_93 ?_
  refine br_iconst S dX9_areBanksGood_96 ?_
  refine br_iald (n := 5) S ⟨by decide, by decide, fun _ => rfl⟩ (by decide) (by decide) dX9_areBanksGood_97 ?_
  refine br_ic_ge S 128 hx2 (hσ 55 0) dX9_areBanksGood_98 (by decide) (fun c1 => ?_) (fun c1 => ?_)
  · replace h := h.1 c1
    exact wX9_areBanksGood_128 S hr hlk hP2 hP50 hP71 hP91 hx1 hx2 hσ h
  · replace h := h.2 c1
    refine br_aload_n S 0 dX9_areBanksGood_101 rfl rfl ?_
    refine br_get (f := 12) (N := 37) (C := RX9) (T := TX9) S inT_X9 wd_4_6 (by decide) rfl rfl (by decide) rfl dX9_areBanksGood_102 ?_
    refine br_iload_n S 2 dX9_areBanksGood_105 rfl rfl ?_
    obtain ⟨g2, h⟩ := h
    refine br_iald (n := 8) S ⟨by decide, by decide, fun _ => rfl⟩ g2.1 g2.2 dX9_areBanksGood_106 ?_
    refine br_aload_n S 0 dX9_areBanksGood_107 rfl rfl ?_
    refine br_iload_n S 1 dX9_areBanksGood_108 rfl rfl ?_
    refine br_callV (As := [.int (bI x1)]) (rest := [.int (bI (σ 57 x2))]) S (cwV_X9_sizeOfModule S.2.2.2.2 wd_4_169 ⟨by decide, by decide⟩) (mX9_sizeOfModule l G σ x1 hx1 h) (by decide) rfl rfl rfl hσ rfl rfl (Nat.le_of_ble_eq_true rfl) ⟨by decide, by decide⟩ dX9_areBanksGood_109 (fun z3 σ4 hz3 hσ4 h => ?_)
    refine br_iadd S dX9_areBanksGood_112 ?_
    refine br_aload_n S 0 dX9_areBanksGood_113 rfl rfl ?_
    refine br_get (f := 9) (N := 37) (C := RX9) (T := TX9) S inT_X9 wd_4_3 (by decide) rfl rfl (by decide) rfl dX9_areBanksGood_114 ?_
    refine br_iconst S dX9_areBanksGood_117 ?_
    refine br_iald (n := 5) S ⟨by decide, by decide, fun _ => rfl⟩ (by decide) (by decide) dX9_areBanksGood_118 ?_
    obtain ⟨g5, h⟩ := h
    refine br_ic_le S 128 g5 (hσ4 55 1) dX9_areBanksGood_119 (by decide) (fun c6 => ?_) (fun c6 => ?_)
    · replace h := h.1 c6
      exact wX9_areBanksGood_128 S hr hlk hP2 hP50 hP71 hP91 hx1 hx2 hσ4 h
    · replace h := h.2 c6
      refine br_iinc S 2 [(2, .int (bI (x2 + 1))), (0, .ref (G.2.2 10)), (1, .int (bI x1))] dX9_areBanksGood_122 rfl (by decide) rfl ?_
      refine br_goto S 91 dX9_areBanksGood_125 (by decide) ?_
      obtain ⟨g7, h⟩ := h
      exact bA.perm [1, 2, 0] rfl <| hP91 x1 (x2 + 1) σ4 hx1 g7 hσ4 h
def eX9_areBanksGood (Q : Int → bS → Prop) (P2 : Int → bS → Prop) (P50 : Int → bS → Prop) (P71 : Int → bS → Prop) (P91 : Int → Int → bS → Prop) (σ : bS) : Prop := (P2 0 σ)
theorem mono_eX9_areBanksGood {Q Q9 : Int → bS → Prop} {P2 P29 : Int → bS → Prop} {P50 P509 : Int → bS → Prop} {P71 P719 : Int → bS → Prop} {P91 P919 : Int → Int → bS → Prop} {σ : bS} (hQ : ∀ r σ, Q r σ → Q9 r σ) (hP2 : ∀ x1 σ, P2 x1 σ → P29 x1 σ) (hP50 : ∀ x1 σ, P50 x1 σ → P509 x1 σ) (hP71 : ∀ x1 σ, P71 x1 σ → P719 x1 σ) (hP91 : ∀ x1 x2 σ, P91 x1 x2 σ → P919 x1 x2 σ) : eX9_areBanksGood Q P2 P50 P71 P91 σ → eX9_areBanksGood Q9 P29 P509 P719 P919 σ := (hP2 _ _)
theorem wX9_areBanksGood_e {p : Program} {l : Launch} {e : Env} {s : State} {m : MethodId} {args : Array Value} {below : List Frame} {meth : Method} {c : Code} {G : bG} {σ0 : bS} {Q : Int → bS → Prop} {P2 : Int → bS → Prop} {P50 : Int → bS → Prop} {P71 : Int → bS → Prop} {P91 : Int → Int → bS → Prop} {σ : bS} (S : CallFix p m c cX9_areBanksGood 3 s args bT "BankLinkerModel") (hr : meth.sig.returnType = some .boolean) (hlk : meth.locks = false) (hP2 : ∀ (x1 : Int) (σ : bS), bR x1 → bRG σ → P2 x1 σ → bA p l e { frames := 4, cells := 0, slots := 0, locals := 88 } s m args below meth c 0 0 (bQi below args s G σ0 Q) G (va_A (bk_w G σ0) s.heap.size) 3 2 [(0, .ref (G.2.2 10)), (1, .int (bI x1))] [] σ) (hP50 : ∀ (x1 : Int) (σ : bS), bR x1 → bRG σ → P50 x1 σ → bA p l e { frames := 4, cells := 0, slots := 0, locals := 88 } s m args below meth c 0 0 (bQi below args s G σ0 Q) G (va_A (bk_w G σ0) s.heap.size) 3 50 [(0, .ref (G.2.2 10)), (1, .int (bI x1))] [] σ) (hP71 : ∀ (x1 : Int) (σ : bS), bR x1 → bRG σ → P71 x1 σ → bA p l e { frames := 4, cells := 0, slots := 0, locals := 88 } s m args below meth c 0 0 (bQi below args s G σ0 Q) G (va_A (bk_w G σ0) s.heap.size) 3 71 [(0, .ref (G.2.2 10)), (1, .int (bI x1))] [] σ) (hP91 : ∀ (x1 : Int) (x2 : Int) (σ : bS), bR x1 → bR x2 → bRG σ → P91 x1 x2 σ → bA p l e { frames := 4, cells := 0, slots := 0, locals := 88 } s m args below meth c 0 0 (bQi below args s G σ0 Q) G (va_A (bk_w G σ0) s.heap.size) 3 91 [(0, .ref (G.2.2 10)), (1, .int (bI x1)), (2, .int (bI x2))] [] σ) (hσ : bRG σ) (h : eX9_areBanksGood Q P2 P50 P71 P91 σ) : bA p l e { frames := 4, cells := 0, slots := 0, locals := 88 } s m args below meth c 0 0 (bQi below args s G σ0 Q) G (va_A (bk_w G σ0) s.heap.size) 3 0 [(0, .ref (G.2.2 10))] [] σ := by
  unfold eX9_areBanksGood at h
  refine br_iconst S dX9_areBanksGood_0 ?_
  refine br_istore_n S [(1, .int (bI 0)), (0, .ref (G.2.2 10))] dX9_areBanksGood_1 rfl (by decide) rfl ?_
  exact bA.perm [1, 0] rfl <| hP2 0 σ (by decide) hσ h
def LX9_areBanksGood_2 (Q : Int → bS → Prop) (x1 : Int) (σ : bS) : Prop := ∀ (P2 : Int → bS → Prop) (P50 : Int → bS → Prop) (P71 : Int → bS → Prop) (P91 : Int → Int → bS → Prop), (∀ x1 σ, bX9_areBanksGood_2 Q P2 P50 P71 P91 x1 σ → P2 x1 σ) → (∀ x1 σ, bX9_areBanksGood_50 Q P2 P50 P71 P91 x1 σ → P50 x1 σ) → (∀ x1 σ, bX9_areBanksGood_71 Q P2 P50 P71 P91 x1 σ → P71 x1 σ) → (∀ x1 x2 σ, bX9_areBanksGood_91 Q P2 P50 P71 P91 x1 x2 σ → P91 x1 x2 σ) → P2 x1 σ
def LX9_areBanksGood_50 (Q : Int → bS → Prop) (x1 : Int) (σ : bS) : Prop := ∀ (P2 : Int → bS → Prop) (P50 : Int → bS → Prop) (P71 : Int → bS → Prop) (P91 : Int → Int → bS → Prop), (∀ x1 σ, bX9_areBanksGood_2 Q P2 P50 P71 P91 x1 σ → P2 x1 σ) → (∀ x1 σ, bX9_areBanksGood_50 Q P2 P50 P71 P91 x1 σ → P50 x1 σ) → (∀ x1 σ, bX9_areBanksGood_71 Q P2 P50 P71 P91 x1 σ → P71 x1 σ) → (∀ x1 x2 σ, bX9_areBanksGood_91 Q P2 P50 P71 P91 x1 x2 σ → P91 x1 x2 σ) → P50 x1 σ
def LX9_areBanksGood_71 (Q : Int → bS → Prop) (x1 : Int) (σ : bS) : Prop := ∀ (P2 : Int → bS → Prop) (P50 : Int → bS → Prop) (P71 : Int → bS → Prop) (P91 : Int → Int → bS → Prop), (∀ x1 σ, bX9_areBanksGood_2 Q P2 P50 P71 P91 x1 σ → P2 x1 σ) → (∀ x1 σ, bX9_areBanksGood_50 Q P2 P50 P71 P91 x1 σ → P50 x1 σ) → (∀ x1 σ, bX9_areBanksGood_71 Q P2 P50 P71 P91 x1 σ → P71 x1 σ) → (∀ x1 x2 σ, bX9_areBanksGood_91 Q P2 P50 P71 P91 x1 x2 σ → P91 x1 x2 σ) → P71 x1 σ
def LX9_areBanksGood_91 (Q : Int → bS → Prop) (x1 : Int) (x2 : Int) (σ : bS) : Prop := ∀ (P2 : Int → bS → Prop) (P50 : Int → bS → Prop) (P71 : Int → bS → Prop) (P91 : Int → Int → bS → Prop), (∀ x1 σ, bX9_areBanksGood_2 Q P2 P50 P71 P91 x1 σ → P2 x1 σ) → (∀ x1 σ, bX9_areBanksGood_50 Q P2 P50 P71 P91 x1 σ → P50 x1 σ) → (∀ x1 σ, bX9_areBanksGood_71 Q P2 P50 P71 P91 x1 σ → P71 x1 σ) → (∀ x1 x2 σ, bX9_areBanksGood_91 Q P2 P50 P71 P91 x1 x2 σ → P91 x1 x2 σ) → P91 x1 x2 σ
theorem LX9_areBanksGood_2_in {Q : Int → bS → Prop} {x1 : Int} {σ : bS} (h : bX9_areBanksGood_2 Q (LX9_areBanksGood_2 Q) (LX9_areBanksGood_50 Q) (LX9_areBanksGood_71 Q) (LX9_areBanksGood_91 Q) x1 σ) : LX9_areBanksGood_2 Q x1 σ := fun P2 P50 P71 P91 H2 H50 H71 H91 => H2 _ _ (mono_bX9_areBanksGood_2 (fun _ _ h => h) (fun _ _ h => h P2 P50 P71 P91 H2 H50 H71 H91) (fun _ _ h => h P2 P50 P71 P91 H2 H50 H71 H91) (fun _ _ h => h P2 P50 P71 P91 H2 H50 H71 H91) (fun _ _ _ h => h P2 P50 P71 P91 H2 H50 H71 H91) h)
theorem mono_LX9_areBanksGood_2 {Q Q9 : Int → bS → Prop} {x1 : Int} {σ : bS} (hQ : ∀ r σ, Q r σ → Q9 r σ) (h : LX9_areBanksGood_2 Q x1 σ) : LX9_areBanksGood_2 Q9 x1 σ := fun P2 P50 P71 P91 H2 H50 H71 H91 => h P2 P50 P71 P91 (fun _ _ hb => H2 _ _ (mono_bX9_areBanksGood_2 hQ (fun _ _ h => h) (fun _ _ h => h) (fun _ _ h => h) (fun _ _ _ h => h) hb)) (fun _ _ hb => H50 _ _ (mono_bX9_areBanksGood_50 hQ (fun _ _ h => h) (fun _ _ h => h) (fun _ _ h => h) (fun _ _ _ h => h) hb)) (fun _ _ hb => H71 _ _ (mono_bX9_areBanksGood_71 hQ (fun _ _ h => h) (fun _ _ h => h) (fun _ _ h => h) (fun _ _ _ h => h) hb)) (fun _ _ _ hb => H91 _ _ _ (mono_bX9_areBanksGood_91 hQ (fun _ _ h => h) (fun _ _ h => h) (fun _ _ h => h) (fun _ _ _ h => h) hb))
theorem LX9_areBanksGood_50_in {Q : Int → bS → Prop} {x1 : Int} {σ : bS} (h : bX9_areBanksGood_50 Q (LX9_areBanksGood_2 Q) (LX9_areBanksGood_50 Q) (LX9_areBanksGood_71 Q) (LX9_areBanksGood_91 Q) x1 σ) : LX9_areBanksGood_50 Q x1 σ := fun P2 P50 P71 P91 H2 H50 H71 H91 => H50 _ _ (mono_bX9_areBanksGood_50 (fun _ _ h => h) (fun _ _ h => h P2 P50 P71 P91 H2 H50 H71 H91) (fun _ _ h => h P2 P50 P71 P91 H2 H50 H71 H91) (fun _ _ h => h P2 P50 P71 P91 H2 H50 H71 H91) (fun _ _ _ h => h P2 P50 P71 P91 H2 H50 H71 H91) h)
theorem mono_LX9_areBanksGood_50 {Q Q9 : Int → bS → Prop} {x1 : Int} {σ : bS} (hQ : ∀ r σ, Q r σ → Q9 r σ) (h : LX9_areBanksGood_50 Q x1 σ) : LX9_areBanksGood_50 Q9 x1 σ := fun P2 P50 P71 P91 H2 H50 H71 H91 => h P2 P50 P71 P91 (fun _ _ hb => H2 _ _ (mono_bX9_areBanksGood_2 hQ (fun _ _ h => h) (fun _ _ h => h) (fun _ _ h => h) (fun _ _ _ h => h) hb)) (fun _ _ hb => H50 _ _ (mono_bX9_areBanksGood_50 hQ (fun _ _ h => h) (fun _ _ h => h) (fun _ _ h => h) (fun _ _ _ h => h) hb)) (fun _ _ hb => H71 _ _ (mono_bX9_areBanksGood_71 hQ (fun _ _ h => h) (fun _ _ h => h) (fun _ _ h => h) (fun _ _ _ h => h) hb)) (fun _ _ _ hb => H91 _ _ _ (mono_bX9_areBanksGood_91 hQ (fun _ _ h => h) (fun _ _ h => h) (fun _ _ h => h) (fun _ _ _ h => h) hb))
theorem LX9_areBanksGood_71_in {Q : Int → bS → Prop} {x1 : Int} {σ : bS} (h : bX9_areBanksGood_71 Q (LX9_areBanksGood_2 Q) (LX9_areBanksGood_50 Q) (LX9_areBanksGood_71 Q) (LX9_areBanksGood_91 Q) x1 σ) : LX9_areBanksGood_71 Q x1 σ := fun P2 P50 P71 P91 H2 H50 H71 H91 => H71 _ _ (mono_bX9_areBanksGood_71 (fun _ _ h => h) (fun _ _ h => h P2 P50 P71 P91 H2 H50 H71 H91) (fun _ _ h => h P2 P50 P71 P91 H2 H50 H71 H91) (fun _ _ h => h P2 P50 P71 P91 H2 H50 H71 H91) (fun _ _ _ h => h P2 P50 P71 P91 H2 H50 H71 H91) h)
theorem mono_LX9_areBanksGood_71 {Q Q9 : Int → bS → Prop} {x1 : Int} {σ : bS} (hQ : ∀ r σ, Q r σ → Q9 r σ) (h : LX9_areBanksGood_71 Q x1 σ) : LX9_areBanksGood_71 Q9 x1 σ := fun P2 P50 P71 P91 H2 H50 H71 H91 => h P2 P50 P71 P91 (fun _ _ hb => H2 _ _ (mono_bX9_areBanksGood_2 hQ (fun _ _ h => h) (fun _ _ h => h) (fun _ _ h => h) (fun _ _ _ h => h) hb)) (fun _ _ hb => H50 _ _ (mono_bX9_areBanksGood_50 hQ (fun _ _ h => h) (fun _ _ h => h) (fun _ _ h => h) (fun _ _ _ h => h) hb)) (fun _ _ hb => H71 _ _ (mono_bX9_areBanksGood_71 hQ (fun _ _ h => h) (fun _ _ h => h) (fun _ _ h => h) (fun _ _ _ h => h) hb)) (fun _ _ _ hb => H91 _ _ _ (mono_bX9_areBanksGood_91 hQ (fun _ _ h => h) (fun _ _ h => h) (fun _ _ h => h) (fun _ _ _ h => h) hb))
theorem LX9_areBanksGood_91_in {Q : Int → bS → Prop} {x1 : Int} {x2 : Int} {σ : bS} (h : bX9_areBanksGood_91 Q (LX9_areBanksGood_2 Q) (LX9_areBanksGood_50 Q) (LX9_areBanksGood_71 Q) (LX9_areBanksGood_91 Q) x1 x2 σ) : LX9_areBanksGood_91 Q x1 x2 σ := fun P2 P50 P71 P91 H2 H50 H71 H91 => H91 _ _ _ (mono_bX9_areBanksGood_91 (fun _ _ h => h) (fun _ _ h => h P2 P50 P71 P91 H2 H50 H71 H91) (fun _ _ h => h P2 P50 P71 P91 H2 H50 H71 H91) (fun _ _ h => h P2 P50 P71 P91 H2 H50 H71 H91) (fun _ _ _ h => h P2 P50 P71 P91 H2 H50 H71 H91) h)
theorem mono_LX9_areBanksGood_91 {Q Q9 : Int → bS → Prop} {x1 : Int} {x2 : Int} {σ : bS} (hQ : ∀ r σ, Q r σ → Q9 r σ) (h : LX9_areBanksGood_91 Q x1 x2 σ) : LX9_areBanksGood_91 Q9 x1 x2 σ := fun P2 P50 P71 P91 H2 H50 H71 H91 => h P2 P50 P71 P91 (fun _ _ hb => H2 _ _ (mono_bX9_areBanksGood_2 hQ (fun _ _ h => h) (fun _ _ h => h) (fun _ _ h => h) (fun _ _ _ h => h) hb)) (fun _ _ hb => H50 _ _ (mono_bX9_areBanksGood_50 hQ (fun _ _ h => h) (fun _ _ h => h) (fun _ _ h => h) (fun _ _ _ h => h) hb)) (fun _ _ hb => H71 _ _ (mono_bX9_areBanksGood_71 hQ (fun _ _ h => h) (fun _ _ h => h) (fun _ _ h => h) (fun _ _ _ h => h) hb)) (fun _ _ _ hb => H91 _ _ _ (mono_bX9_areBanksGood_91 hQ (fun _ _ h => h) (fun _ _ h => h) (fun _ _ h => h) (fun _ _ _ h => h) hb))
def vX9_areBanksGood (Q : Int → bS → Prop) (σ : bS) : Prop := eX9_areBanksGood Q (LX9_areBanksGood_2 Q) (LX9_areBanksGood_50 Q) (LX9_areBanksGood_71 Q) (LX9_areBanksGood_91 Q) σ
theorem mono_vX9_areBanksGood {Q Q9 : Int → bS → Prop} {σ : bS} (hQ : ∀ r σ, Q r σ → Q9 r σ) : vX9_areBanksGood Q σ → vX9_areBanksGood Q9 σ := mono_eX9_areBanksGood hQ (fun _ _ h => mono_LX9_areBanksGood_2 hQ h) (fun _ _ h => mono_LX9_areBanksGood_50 hQ h) (fun _ _ h => mono_LX9_areBanksGood_71 hQ h) (fun _ _ _ h => mono_LX9_areBanksGood_91 hQ h)
theorem mono_X9_areBanksGood {Q Q9 : Int → bS → Prop} {σ : bS} (hQ : ∀ r σ, Q r σ → Q9 r σ) : vX9_areBanksGood Q σ → vX9_areBanksGood Q9 σ := mono_vX9_areBanksGood hQ
theorem mX9_areBanksGood (l : Launch) (G : bG) (σ : bS) {Q : Int → bS → Prop} (h : vX9_areBanksGood Q σ) : bk_Mi l yX9_areBanksGood (Cond.code yX9_areBanksGood cX9_areBanksGood 3 (some .boolean) :: bT) { frames := 4, cells := 0, slots := 0, locals := 88 } G σ [.ref (G.2.2 10)] Q := by
  refine bk_Mi.of (cc := cX9_areBanksGood) (maxL := 3) (ret := some .boolean) (by decide) rfl (Nat.le_of_ble_eq_true rfl) ?_
  intro p e s m args below meth c S hr hlk hσ
  let K2 : Int → bS → Prop := fun x1 τ => bR x1 → bRG τ → bA p l e { frames := 4, cells := 0, slots := 0, locals := 88 } s m args below meth c 0 0 (bQi below args s G σ Q) G (va_A (bk_w G σ) s.heap.size) 3 2 [(0, .ref (G.2.2 10)), (1, .int (bI x1))] [] τ
  let K50 : Int → bS → Prop := fun x1 τ => bR x1 → bRG τ → bA p l e { frames := 4, cells := 0, slots := 0, locals := 88 } s m args below meth c 0 0 (bQi below args s G σ Q) G (va_A (bk_w G σ) s.heap.size) 3 50 [(0, .ref (G.2.2 10)), (1, .int (bI x1))] [] τ
  let K71 : Int → bS → Prop := fun x1 τ => bR x1 → bRG τ → bA p l e { frames := 4, cells := 0, slots := 0, locals := 88 } s m args below meth c 0 0 (bQi below args s G σ Q) G (va_A (bk_w G σ) s.heap.size) 3 71 [(0, .ref (G.2.2 10)), (1, .int (bI x1))] [] τ
  let K91 : Int → Int → bS → Prop := fun x1 x2 τ => bR x1 → bR x2 → bRG τ → bA p l e { frames := 4, cells := 0, slots := 0, locals := 88 } s m args below meth c 0 0 (bQi below args s G σ Q) G (va_A (bk_w G σ) s.heap.size) 3 91 [(0, .ref (G.2.2 10)), (1, .int (bI x1)), (2, .int (bI x2))] [] τ
  have C2 : ∀ x1 τ, bX9_areBanksGood_2 Q K2 K50 K71 K91 x1 τ → K2 x1 τ := fun x1 τ hb hx1 hτ => wX9_areBanksGood_2 S hr hlk (fun x1 σ hx1 hσ h => h hx1 hσ) (fun x1 σ hx1 hσ h => h hx1 hσ) (fun x1 σ hx1 hσ h => h hx1 hσ) (fun x1 x2 σ hx1 hx2 hσ h => h hx1 hx2 hσ) hx1 hτ hb
  have C50 : ∀ x1 τ, bX9_areBanksGood_50 Q K2 K50 K71 K91 x1 τ → K50 x1 τ := fun x1 τ hb hx1 hτ => wX9_areBanksGood_50 S hr hlk (fun x1 σ hx1 hσ h => h hx1 hσ) (fun x1 σ hx1 hσ h => h hx1 hσ) (fun x1 σ hx1 hσ h => h hx1 hσ) (fun x1 x2 σ hx1 hx2 hσ h => h hx1 hx2 hσ) hx1 hτ hb
  have C71 : ∀ x1 τ, bX9_areBanksGood_71 Q K2 K50 K71 K91 x1 τ → K71 x1 τ := fun x1 τ hb hx1 hτ => wX9_areBanksGood_71 S hr hlk (fun x1 σ hx1 hσ h => h hx1 hσ) (fun x1 σ hx1 hσ h => h hx1 hσ) (fun x1 σ hx1 hσ h => h hx1 hσ) (fun x1 x2 σ hx1 hx2 hσ h => h hx1 hx2 hσ) hx1 hτ hb
  have C91 : ∀ x1 x2 τ, bX9_areBanksGood_91 Q K2 K50 K71 K91 x1 x2 τ → K91 x1 x2 τ := fun x1 x2 τ hb hx1 hx2 hτ => wX9_areBanksGood_91 S hr hlk (fun x1 σ hx1 hσ h => h hx1 hσ) (fun x1 σ hx1 hσ h => h hx1 hσ) (fun x1 σ hx1 hσ h => h hx1 hσ) (fun x1 x2 σ hx1 hx2 hσ h => h hx1 hx2 hσ) hx1 hx2 hτ hb
  exact wX9_areBanksGood_e S hr hlk (fun x1 σ hx1 hσ h => h K2 K50 K71 K91 C2 C50 C71 C91 hx1 hσ) (fun x1 σ hx1 hσ h => h K2 K50 K71 K91 C2 C50 C71 C91 hx1 hσ) (fun x1 σ hx1 hσ h => h K2 K50 K71 K91 C2 C50 C71 C91 hx1 hσ) (fun x1 x2 σ hx1 hx2 hσ h => h K2 K50 K71 K91 C2 C50 C71 C91 hx1 hx2 hσ) hσ h
def bX9_isCommonGood_7 (Q : Int → bS → Prop) (P7 : Int → bS → Prop) (P28 : Int → bS → Prop) (P38 : Int → Int → bS → Prop) (P176 : Int → bS → Prop) (P188 : Int → Int → Int → bS → Prop) (P199 : Int → Int → Int → Int → bS → Prop) (x1 : Int) (σ : bS) : Prop := ((8 ≤ x1 → (P28 0 σ)) ∧ (¬ 8 ≤ x1 → ((0 ≤ x1 ∧ x1 < 8) ∧ (∀ σ3 : bS, σ3 = bup σ 57 x1 0 → (bR (x1 + 1) ∧ (P7 (x1 + 1) σ3))))))
theorem mono_bX9_isCommonGood_7 {Q Q9 : Int → bS → Prop} {P7 P79 : Int → bS → Prop} {P28 P289 : Int → bS → Prop} {P38 P389 : Int → Int → bS → Prop} {P176 P1769 : Int → bS → Prop} {P188 P1889 : Int → Int → Int → bS → Prop} {P199 P1999 : Int → Int → Int → Int → bS → Prop} {x1 : Int} {σ : bS} (hQ : ∀ r σ, Q r σ → Q9 r σ) (hP7 : ∀ x1 σ, P7 x1 σ → P79 x1 σ) (hP28 : ∀ x1 σ, P28 x1 σ → P289 x1 σ) (hP38 : ∀ x1 x2 σ, P38 x1 x2 σ → P389 x1 x2 σ) (hP176 : ∀ x1 σ, P176 x1 σ → P1769 x1 σ) (hP188 : ∀ x1 x2 x3 σ, P188 x1 x2 x3 σ → P1889 x1 x2 x3 σ) (hP199 : ∀ x1 x2 x3 x4 σ, P199 x1 x2 x3 x4 σ → P1999 x1 x2 x3 x4 σ) : bX9_isCommonGood_7 Q P7 P28 P38 P176 P188 P199 x1 σ → bX9_isCommonGood_7 Q9 P79 P289 P389 P1769 P1889 P1999 x1 σ := (bm_and (bm_imp (hP28 _ _)) (bm_imp (bm_r (bm_all fun _ => bm_imp (bm_r (hP7 _ _))))))
theorem wX9_isCommonGood_7 {p : Program} {l : Launch} {e : Env} {s : State} {m : MethodId} {args : Array Value} {below : List Frame} {meth : Method} {c : Code} {G : bG} {σ0 : bS} {Q : Int → bS → Prop} {P7 : Int → bS → Prop} {P28 : Int → bS → Prop} {P38 : Int → Int → bS → Prop} {P176 : Int → bS → Prop} {P188 : Int → Int → Int → bS → Prop} {P199 : Int → Int → Int → Int → bS → Prop} {x1 : Int} {σ : bS} (S : CallFix p m c cX9_isCommonGood 5 s args bT "BankLinkerModel") (hr : meth.sig.returnType = some .boolean) (hlk : meth.locks = false) (hP7 : ∀ (x1 : Int) (σ : bS), bR x1 → bRG σ → P7 x1 σ → bA p l e { frames := 3, cells := 0, slots := 0, locals := 65 } s m args below meth c 0 0 (bQi below args s G σ0 Q) G (va_A (bk_w G σ0) s.heap.size) 5 7 [(0, .ref (G.2.2 10)), (1, .int (bI x1))] [] σ) (hP28 : ∀ (x1 : Int) (σ : bS), bR x1 → bRG σ → P28 x1 σ → bA p l e { frames := 3, cells := 0, slots := 0, locals := 65 } s m args below meth c 0 0 (bQi below args s G σ0 Q) G (va_A (bk_w G σ0) s.heap.size) 5 28 [(0, .ref (G.2.2 10)), (1, .int (bI x1))] [] σ) (hP38 : ∀ (x1 : Int) (x2 : Int) (σ : bS), bR x1 → bR x2 → bRG σ → P38 x1 x2 σ → bA p l e { frames := 3, cells := 0, slots := 0, locals := 65 } s m args below meth c 0 0 (bQi below args s G σ0 Q) G (va_A (bk_w G σ0) s.heap.size) 5 38 [(0, .ref (G.2.2 10)), (1, .int (bI x1)), (2, .int (bI x2))] [] σ) (hP176 : ∀ (x1 : Int) (σ : bS), bR x1 → bRG σ → P176 x1 σ → bA p l e { frames := 3, cells := 0, slots := 0, locals := 65 } s m args below meth c 0 0 (bQi below args s G σ0 Q) G (va_A (bk_w G σ0) s.heap.size) 5 176 [(0, .ref (G.2.2 10)), (1, .int (bI x1))] [] σ) (hP188 : ∀ (x1 : Int) (x2 : Int) (x3 : Int) (σ : bS), bR x1 → bR x2 → bR x3 → bRG σ → P188 x1 x2 x3 σ → bA p l e { frames := 3, cells := 0, slots := 0, locals := 65 } s m args below meth c 0 0 (bQi below args s G σ0 Q) G (va_A (bk_w G σ0) s.heap.size) 5 188 [(0, .ref (G.2.2 10)), (1, .int (bI x1)), (2, .int (bI x2)), (3, .int (bI x3))] [] σ) (hP199 : ∀ (x1 : Int) (x2 : Int) (x3 : Int) (x4 : Int) (σ : bS), bR x1 → bR x2 → bR x3 → bR x4 → bRG σ → P199 x1 x2 x3 x4 σ → bA p l e { frames := 3, cells := 0, slots := 0, locals := 65 } s m args below meth c 0 0 (bQi below args s G σ0 Q) G (va_A (bk_w G σ0) s.heap.size) 5 199 [(0, .ref (G.2.2 10)), (1, .int (bI x1)), (2, .int (bI x2)), (3, .int (bI x3)), (4, .int (bI x4))] [] σ) (hx1 : bR x1) (hσ : bRG σ) (h : bX9_isCommonGood_7 Q P7 P28 P38 P176 P188 P199 x1 σ) : bA p l e { frames := 3, cells := 0, slots := 0, locals := 65 } s m args below meth c 0 0 (bQi below args s G σ0 Q) G (va_A (bk_w G σ0) s.heap.size) 5 7 [(0, .ref (G.2.2 10)), (1, .int (bI x1))] [] σ := by
  unfold bX9_isCommonGood_7 at h
  refine br_iload_n S 1 dX9_isCommonGood_7 rfl rfl ?_
  refine br_bipush S dX9_isCommonGood_8 rfl ?_
  refine br_ic_ge S 26 hx1 (by decide) dX9_isCommonGood_10 (by decide) (fun c1 => ?_) (fun c1 => ?_)
  · replace h := h.1 c1
    refine br_iconst S dX9_isCommonGood_26 ?_
    refine br_istore_n S [(1, .int (bI 0)), (0, .ref (G.2.2 10))] dX9_isCommonGood_27 rfl (by decide) rfl ?_
    exact bA.perm [1, 0] rfl <| hP28 0 σ (by decide) hσ h
  · replace h := h.2 c1
    refine br_aload_n S 0 dX9_isCommonGood_13 rfl rfl ?_
    refine br_get (f := 12) (N := 37) (C := RX9) (T := TX9) S inT_X9 wd_4_6 (by decide) rfl rfl (by decide) rfl dX9_isCommonGood_14 ?_
    refine br_iload_n S 1 dX9_isCommonGood_17 rfl rfl ?_
    refine br_iconst S dX9_isCommonGood_18 ?_
    obtain ⟨g2, h⟩ := h
    obtain ⟨σ3, e4⟩ : ∃ τ, τ = bup σ 57 x1 0 := ⟨_, rfl⟩
    replace h := h σ3 e4
    have hσ3 : bRG σ3 := by rw [e4]; exact bup_rg hσ (by decide)
    refine br_iast (n := 8) S ⟨by decide, by decide, fun _ => rfl⟩ g2.1 g2.2 dX9_isCommonGood_19 ?_
    refine bA.to rfl rfl e4.symm ?_
    refine br_iinc S 1 [(1, .int (bI (x1 + 1))), (0, .ref (G.2.2 10))] dX9_isCommonGood_20 rfl (by decide) rfl ?_
    refine br_goto S 7 dX9_isCommonGood_23 (by decide) ?_
    obtain ⟨g5, h⟩ := h
    exact bA.perm [1, 0] rfl <| hP7 (x1 + 1) σ3 g5 hσ3 h
def bX9_isCommonGood_28 (Q : Int → bS → Prop) (P7 : Int → bS → Prop) (P28 : Int → bS → Prop) (P38 : Int → Int → bS → Prop) (P176 : Int → bS → Prop) (P188 : Int → Int → Int → bS → Prop) (P199 : Int → Int → Int → Int → bS → Prop) (x1 : Int) (σ : bS) : Prop := (((σ 10 1) ≤ x1 → (∀ σ2 : bS, σ2 = bup σ 10 20 0 → (∀ σ4 : bS, σ4 = bup σ2 10 21 0 → (P176 0 σ4)))) ∧ (¬ (σ 10 1) ≤ x1 → (P38 x1 0 σ)))
theorem mono_bX9_isCommonGood_28 {Q Q9 : Int → bS → Prop} {P7 P79 : Int → bS → Prop} {P28 P289 : Int → bS → Prop} {P38 P389 : Int → Int → bS → Prop} {P176 P1769 : Int → bS → Prop} {P188 P1889 : Int → Int → Int → bS → Prop} {P199 P1999 : Int → Int → Int → Int → bS → Prop} {x1 : Int} {σ : bS} (hQ : ∀ r σ, Q r σ → Q9 r σ) (hP7 : ∀ x1 σ, P7 x1 σ → P79 x1 σ) (hP28 : ∀ x1 σ, P28 x1 σ → P289 x1 σ) (hP38 : ∀ x1 x2 σ, P38 x1 x2 σ → P389 x1 x2 σ) (hP176 : ∀ x1 σ, P176 x1 σ → P1769 x1 σ) (hP188 : ∀ x1 x2 x3 σ, P188 x1 x2 x3 σ → P1889 x1 x2 x3 σ) (hP199 : ∀ x1 x2 x3 x4 σ, P199 x1 x2 x3 x4 σ → P1999 x1 x2 x3 x4 σ) : bX9_isCommonGood_28 Q P7 P28 P38 P176 P188 P199 x1 σ → bX9_isCommonGood_28 Q9 P79 P289 P389 P1769 P1889 P1999 x1 σ := (bm_and (bm_imp (bm_all fun _ => bm_imp (bm_all fun _ => bm_imp (hP176 _ _)))) (bm_imp (hP38 _ _ _)))
theorem wX9_isCommonGood_28 {p : Program} {l : Launch} {e : Env} {s : State} {m : MethodId} {args : Array Value} {below : List Frame} {meth : Method} {c : Code} {G : bG} {σ0 : bS} {Q : Int → bS → Prop} {P7 : Int → bS → Prop} {P28 : Int → bS → Prop} {P38 : Int → Int → bS → Prop} {P176 : Int → bS → Prop} {P188 : Int → Int → Int → bS → Prop} {P199 : Int → Int → Int → Int → bS → Prop} {x1 : Int} {σ : bS} (S : CallFix p m c cX9_isCommonGood 5 s args bT "BankLinkerModel") (hr : meth.sig.returnType = some .boolean) (hlk : meth.locks = false) (hP7 : ∀ (x1 : Int) (σ : bS), bR x1 → bRG σ → P7 x1 σ → bA p l e { frames := 3, cells := 0, slots := 0, locals := 65 } s m args below meth c 0 0 (bQi below args s G σ0 Q) G (va_A (bk_w G σ0) s.heap.size) 5 7 [(0, .ref (G.2.2 10)), (1, .int (bI x1))] [] σ) (hP28 : ∀ (x1 : Int) (σ : bS), bR x1 → bRG σ → P28 x1 σ → bA p l e { frames := 3, cells := 0, slots := 0, locals := 65 } s m args below meth c 0 0 (bQi below args s G σ0 Q) G (va_A (bk_w G σ0) s.heap.size) 5 28 [(0, .ref (G.2.2 10)), (1, .int (bI x1))] [] σ) (hP38 : ∀ (x1 : Int) (x2 : Int) (σ : bS), bR x1 → bR x2 → bRG σ → P38 x1 x2 σ → bA p l e { frames := 3, cells := 0, slots := 0, locals := 65 } s m args below meth c 0 0 (bQi below args s G σ0 Q) G (va_A (bk_w G σ0) s.heap.size) 5 38 [(0, .ref (G.2.2 10)), (1, .int (bI x1)), (2, .int (bI x2))] [] σ) (hP176 : ∀ (x1 : Int) (σ : bS), bR x1 → bRG σ → P176 x1 σ → bA p l e { frames := 3, cells := 0, slots := 0, locals := 65 } s m args below meth c 0 0 (bQi below args s G σ0 Q) G (va_A (bk_w G σ0) s.heap.size) 5 176 [(0, .ref (G.2.2 10)), (1, .int (bI x1))] [] σ) (hP188 : ∀ (x1 : Int) (x2 : Int) (x3 : Int) (σ : bS), bR x1 → bR x2 → bR x3 → bRG σ → P188 x1 x2 x3 σ → bA p l e { frames := 3, cells := 0, slots := 0, locals := 65 } s m args below meth c 0 0 (bQi below args s G σ0 Q) G (va_A (bk_w G σ0) s.heap.size) 5 188 [(0, .ref (G.2.2 10)), (1, .int (bI x1)), (2, .int (bI x2)), (3, .int (bI x3))] [] σ) (hP199 : ∀ (x1 : Int) (x2 : Int) (x3 : Int) (x4 : Int) (σ : bS), bR x1 → bR x2 → bR x3 → bR x4 → bRG σ → P199 x1 x2 x3 x4 σ → bA p l e { frames := 3, cells := 0, slots := 0, locals := 65 } s m args below meth c 0 0 (bQi below args s G σ0 Q) G (va_A (bk_w G σ0) s.heap.size) 5 199 [(0, .ref (G.2.2 10)), (1, .int (bI x1)), (2, .int (bI x2)), (3, .int (bI x3)), (4, .int (bI x4))] [] σ) (hx1 : bR x1) (hσ : bRG σ) (h : bX9_isCommonGood_28 Q P7 P28 P38 P176 P188 P199 x1 σ) : bA p l e { frames := 3, cells := 0, slots := 0, locals := 65 } s m args below meth c 0 0 (bQi below args s G σ0 Q) G (va_A (bk_w G σ0) s.heap.size) 5 28 [(0, .ref (G.2.2 10)), (1, .int (bI x1))] [] σ := by
  unfold bX9_isCommonGood_28 at h
  refine br_iload_n S 1 dX9_isCommonGood_28 rfl rfl ?_
  refine br_aload_n S 0 dX9_isCommonGood_29 rfl rfl ?_
  refine br_get (f := 1) (N := 37) (C := RX9) (T := TX9) S inT_X9 wd_3_235 (by decide) rfl rfl (by decide) rfl dX9_isCommonGood_30 ?_
  refine br_ic_ge S 164 hx1 (hσ 10 1) dX9_isCommonGood_33 (by decide) (fun c1 => ?_) (fun c1 => ?_)
  · replace h := h.1 c1
    refine br_aload_n S 0 dX9_isCommonGood_164 rfl rfl ?_
    refine br_iconst S dX9_isCommonGood_165 ?_
    obtain ⟨σ2, e3⟩ : ∃ τ, τ = bup σ 10 20 0 := ⟨_, rfl⟩
    replace h := h σ2 e3
    have hσ2 : bRG σ2 := by rw [e3]; exact bup_rg hσ (by decide)
    refine br_put (f := 20) (N := 37) (C := RX9) (T := TX9) S tyX9 tyX9_ok nmX9 inT_X9 wd_4_14 (by decide) rfl (pf_10_20 _ _ _) rfl (by decide) (Nat.le_of_ble_eq_true rfl) rfl rfl rfl rfl dX9_isCommonGood_166 ?_
    refine bA.to rfl rfl e3.symm ?_
    refine br_aload_n S 0 dX9_isCommonGood_169 rfl rfl ?_
    refine br_iconst S dX9_isCommonGood_170 ?_
    obtain ⟨σ4, e5⟩ : ∃ τ, τ = bup σ2 10 21 0 := ⟨_, rfl⟩
    replace h := h σ4 e5
    have hσ4 : bRG σ4 := by rw [e5]; exact bup_rg hσ2 (by decide)
    refine br_put (f := 21) (N := 37) (C := RX9) (T := TX9) S tyX9 tyX9_ok nmX9 inT_X9 wd_4_15 (by decide) rfl (pf_10_21 _ _ _) rfl (by decide) (Nat.le_of_ble_eq_true rfl) rfl rfl rfl rfl dX9_isCommonGood_171 ?_
    refine bA.to rfl rfl e5.symm ?_
    refine br_iconst S dX9_isCommonGood_174 ?_
    refine br_istore_n S [(1, .int (bI 0)), (0, .ref (G.2.2 10))] dX9_isCommonGood_175 rfl (by decide) rfl ?_
    exact bA.perm [1, 0] rfl <| hP176 0 σ4 (by decide) hσ4 h
  · replace h := h.2 c1
    refine br_iconst S dX9_isCommonGood_36 ?_
    refine br_istore_n S [(2, .int (bI 0)), (0, .ref (G.2.2 10)), (1, .int (bI x1))] dX9_isCommonGood_37 rfl (by decide) rfl ?_
    exact bA.perm [1, 2, 0] rfl <| hP38 x1 0 σ hx1 (by decide) hσ h
def vX9_isCommonGood_152 (Q : Int → bS → Prop) (P7 : Int → bS → Prop) (P28 : Int → bS → Prop) (P38 : Int → Int → bS → Prop) (P176 : Int → bS → Prop) (P188 : Int → Int → Int → bS → Prop) (P199 : Int → Int → Int → Int → bS → Prop) (x1 : Int) (x2 : Int) (σ : bS) : Prop := (bR (x2 + 1) ∧ (P38 x1 (x2 + 1) σ))
theorem mono_vX9_isCommonGood_152 {Q Q9 : Int → bS → Prop} {P7 P79 : Int → bS → Prop} {P28 P289 : Int → bS → Prop} {P38 P389 : Int → Int → bS → Prop} {P176 P1769 : Int → bS → Prop} {P188 P1889 : Int → Int → Int → bS → Prop} {P199 P1999 : Int → Int → Int → Int → bS → Prop} {x1 : Int} {x2 : Int} {σ : bS} (hQ : ∀ r σ, Q r σ → Q9 r σ) (hP7 : ∀ x1 σ, P7 x1 σ → P79 x1 σ) (hP28 : ∀ x1 σ, P28 x1 σ → P289 x1 σ) (hP38 : ∀ x1 x2 σ, P38 x1 x2 σ → P389 x1 x2 σ) (hP176 : ∀ x1 σ, P176 x1 σ → P1769 x1 σ) (hP188 : ∀ x1 x2 x3 σ, P188 x1 x2 x3 σ → P1889 x1 x2 x3 σ) (hP199 : ∀ x1 x2 x3 x4 σ, P199 x1 x2 x3 x4 σ → P1999 x1 x2 x3 x4 σ) : vX9_isCommonGood_152 Q P7 P28 P38 P176 P188 P199 x1 x2 σ → vX9_isCommonGood_152 Q9 P79 P289 P389 P1769 P1889 P1999 x1 x2 σ := (bm_r (hP38 _ _ _))
theorem wX9_isCommonGood_152 {p : Program} {l : Launch} {e : Env} {s : State} {m : MethodId} {args : Array Value} {below : List Frame} {meth : Method} {c : Code} {G : bG} {σ0 : bS} {Q : Int → bS → Prop} {P7 : Int → bS → Prop} {P28 : Int → bS → Prop} {P38 : Int → Int → bS → Prop} {P176 : Int → bS → Prop} {P188 : Int → Int → Int → bS → Prop} {P199 : Int → Int → Int → Int → bS → Prop} {x1 : Int} {x2 : Int} {σ : bS} (S : CallFix p m c cX9_isCommonGood 5 s args bT "BankLinkerModel") (hr : meth.sig.returnType = some .boolean) (hlk : meth.locks = false) (hP7 : ∀ (x1 : Int) (σ : bS), bR x1 → bRG σ → P7 x1 σ → bA p l e { frames := 3, cells := 0, slots := 0, locals := 65 } s m args below meth c 0 0 (bQi below args s G σ0 Q) G (va_A (bk_w G σ0) s.heap.size) 5 7 [(0, .ref (G.2.2 10)), (1, .int (bI x1))] [] σ) (hP28 : ∀ (x1 : Int) (σ : bS), bR x1 → bRG σ → P28 x1 σ → bA p l e { frames := 3, cells := 0, slots := 0, locals := 65 } s m args below meth c 0 0 (bQi below args s G σ0 Q) G (va_A (bk_w G σ0) s.heap.size) 5 28 [(0, .ref (G.2.2 10)), (1, .int (bI x1))] [] σ) (hP38 : ∀ (x1 : Int) (x2 : Int) (σ : bS), bR x1 → bR x2 → bRG σ → P38 x1 x2 σ → bA p l e { frames := 3, cells := 0, slots := 0, locals := 65 } s m args below meth c 0 0 (bQi below args s G σ0 Q) G (va_A (bk_w G σ0) s.heap.size) 5 38 [(0, .ref (G.2.2 10)), (1, .int (bI x1)), (2, .int (bI x2))] [] σ) (hP176 : ∀ (x1 : Int) (σ : bS), bR x1 → bRG σ → P176 x1 σ → bA p l e { frames := 3, cells := 0, slots := 0, locals := 65 } s m args below meth c 0 0 (bQi below args s G σ0 Q) G (va_A (bk_w G σ0) s.heap.size) 5 176 [(0, .ref (G.2.2 10)), (1, .int (bI x1))] [] σ) (hP188 : ∀ (x1 : Int) (x2 : Int) (x3 : Int) (σ : bS), bR x1 → bR x2 → bR x3 → bRG σ → P188 x1 x2 x3 σ → bA p l e { frames := 3, cells := 0, slots := 0, locals := 65 } s m args below meth c 0 0 (bQi below args s G σ0 Q) G (va_A (bk_w G σ0) s.heap.size) 5 188 [(0, .ref (G.2.2 10)), (1, .int (bI x1)), (2, .int (bI x2)), (3, .int (bI x3))] [] σ) (hP199 : ∀ (x1 : Int) (x2 : Int) (x3 : Int) (x4 : Int) (σ : bS), bR x1 → bR x2 → bR x3 → bR x4 → bRG σ → P199 x1 x2 x3 x4 σ → bA p l e { frames := 3, cells := 0, slots := 0, locals := 65 } s m args below meth c 0 0 (bQi below args s G σ0 Q) G (va_A (bk_w G σ0) s.heap.size) 5 199 [(0, .ref (G.2.2 10)), (1, .int (bI x1)), (2, .int (bI x2)), (3, .int (bI x3)), (4, .int (bI x4))] [] σ) (hx1 : bR x1) (hx2 : bR x2) (hσ : bRG σ) (h : vX9_isCommonGood_152 Q P7 P28 P38 P176 P188 P199 x1 x2 σ) : bA p l e { frames := 3, cells := 0, slots := 0, locals := 65 } s m args below meth c 0 0 (bQi below args s G σ0 Q) G (va_A (bk_w G σ0) s.heap.size) 5 152 [(0, .ref (G.2.2 10)), (1, .int (bI x1)), (2, .int (bI x2))] [] σ := by
  unfold vX9_isCommonGood_152 at h
  refine br_iinc S 2 [(2, .int (bI (x2 + 1))), (0, .ref (G.2.2 10)), (1, .int (bI x1))] dX9_isCommonGood_152 rfl (by decide) rfl ?_
  refine br_goto S 38 dX9_isCommonGood_155 (by decide) ?_
  obtain ⟨g1, h⟩ := h
  exact bA.perm [1, 2, 0] rfl <| hP38 x1 (x2 + 1) σ hx1 g1 hσ h
def vX9_isCommonGood_150 (Q : Int → bS → Prop) (P7 : Int → bS → Prop) (P28 : Int → bS → Prop) (P38 : Int → Int → bS → Prop) (P176 : Int → bS → Prop) (P188 : Int → Int → Int → bS → Prop) (P199 : Int → Int → Int → Int → bS → Prop) (x1 : Int) (x2 : Int) (s0 : Int) (s1 : Int) (s2 : Int) (σ : bS) : Prop := ((0 ≤ s2 ∧ s2 < 8) ∧ (bR (s1 + s0) ∧ (∀ σ3 : bS, σ3 = bup σ 57 s2 (s1 + s0) → (vX9_isCommonGood_152 Q P7 P28 P38 P176 P188 P199 x1 x2 σ3))))
theorem mono_vX9_isCommonGood_150 {Q Q9 : Int → bS → Prop} {P7 P79 : Int → bS → Prop} {P28 P289 : Int → bS → Prop} {P38 P389 : Int → Int → bS → Prop} {P176 P1769 : Int → bS → Prop} {P188 P1889 : Int → Int → Int → bS → Prop} {P199 P1999 : Int → Int → Int → Int → bS → Prop} {x1 : Int} {x2 : Int} {s0 : Int} {s1 : Int} {s2 : Int} {σ : bS} (hQ : ∀ r σ, Q r σ → Q9 r σ) (hP7 : ∀ x1 σ, P7 x1 σ → P79 x1 σ) (hP28 : ∀ x1 σ, P28 x1 σ → P289 x1 σ) (hP38 : ∀ x1 x2 σ, P38 x1 x2 σ → P389 x1 x2 σ) (hP176 : ∀ x1 σ, P176 x1 σ → P1769 x1 σ) (hP188 : ∀ x1 x2 x3 σ, P188 x1 x2 x3 σ → P1889 x1 x2 x3 σ) (hP199 : ∀ x1 x2 x3 x4 σ, P199 x1 x2 x3 x4 σ → P1999 x1 x2 x3 x4 σ) : vX9_isCommonGood_150 Q P7 P28 P38 P176 P188 P199 x1 x2 s0 s1 s2 σ → vX9_isCommonGood_150 Q9 P79 P289 P389 P1769 P1889 P1999 x1 x2 s0 s1 s2 σ := (bm_r (bm_r (bm_all fun _ => bm_imp (mono_vX9_isCommonGood_152 hQ hP7 hP28 hP38 hP176 hP188 hP199))))
theorem wX9_isCommonGood_150 {p : Program} {l : Launch} {e : Env} {s : State} {m : MethodId} {args : Array Value} {below : List Frame} {meth : Method} {c : Code} {G : bG} {σ0 : bS} {Q : Int → bS → Prop} {P7 : Int → bS → Prop} {P28 : Int → bS → Prop} {P38 : Int → Int → bS → Prop} {P176 : Int → bS → Prop} {P188 : Int → Int → Int → bS → Prop} {P199 : Int → Int → Int → Int → bS → Prop} {x1 : Int} {x2 : Int} {s0 : Int} {s1 : Int} {s2 : Int} {σ : bS} (S : CallFix p m c cX9_isCommonGood 5 s args bT "BankLinkerModel") (hr : meth.sig.returnType = some .boolean) (hlk : meth.locks = false) (hP7 : ∀ (x1 : Int) (σ : bS), bR x1 → bRG σ → P7 x1 σ → bA p l e { frames := 3, cells := 0, slots := 0, locals := 65 } s m args below meth c 0 0 (bQi below args s G σ0 Q) G (va_A (bk_w G σ0) s.heap.size) 5 7 [(0, .ref (G.2.2 10)), (1, .int (bI x1))] [] σ) (hP28 : ∀ (x1 : Int) (σ : bS), bR x1 → bRG σ → P28 x1 σ → bA p l e { frames := 3, cells := 0, slots := 0, locals := 65 } s m args below meth c 0 0 (bQi below args s G σ0 Q) G (va_A (bk_w G σ0) s.heap.size) 5 28 [(0, .ref (G.2.2 10)), (1, .int (bI x1))] [] σ) (hP38 : ∀ (x1 : Int) (x2 : Int) (σ : bS), bR x1 → bR x2 → bRG σ → P38 x1 x2 σ → bA p l e { frames := 3, cells := 0, slots := 0, locals := 65 } s m args below meth c 0 0 (bQi below args s G σ0 Q) G (va_A (bk_w G σ0) s.heap.size) 5 38 [(0, .ref (G.2.2 10)), (1, .int (bI x1)), (2, .int (bI x2))] [] σ) (hP176 : ∀ (x1 : Int) (σ : bS), bR x1 → bRG σ → P176 x1 σ → bA p l e { frames := 3, cells := 0, slots := 0, locals := 65 } s m args below meth c 0 0 (bQi below args s G σ0 Q) G (va_A (bk_w G σ0) s.heap.size) 5 176 [(0, .ref (G.2.2 10)), (1, .int (bI x1))] [] σ) (hP188 : ∀ (x1 : Int) (x2 : Int) (x3 : Int) (σ : bS), bR x1 → bR x2 → bR x3 → bRG σ → P188 x1 x2 x3 σ → bA p l e { frames := 3, cells := 0, slots := 0, locals := 65 } s m args below meth c 0 0 (bQi below args s G σ0 Q) G (va_A (bk_w G σ0) s.heap.size) 5 188 [(0, .ref (G.2.2 10)), (1, .int (bI x1)), (2, .int (bI x2)), (3, .int (bI x3))] [] σ) (hP199 : ∀ (x1 : Int) (x2 : Int) (x3 : Int) (x4 : Int) (σ : bS), bR x1 → bR x2 → bR x3 → bR x4 → bRG σ → P199 x1 x2 x3 x4 σ → bA p l e { frames := 3, cells := 0, slots := 0, locals := 65 } s m args below meth c 0 0 (bQi below args s G σ0 Q) G (va_A (bk_w G σ0) s.heap.size) 5 199 [(0, .ref (G.2.2 10)), (1, .int (bI x1)), (2, .int (bI x2)), (3, .int (bI x3)), (4, .int (bI x4))] [] σ) (hx1 : bR x1) (hx2 : bR x2) (hs0 : bR s0) (hs1 : bR s1) (hs2 : bR s2) (hσ : bRG σ) (h : vX9_isCommonGood_150 Q P7 P28 P38 P176 P188 P199 x1 x2 s0 s1 s2 σ) : bA p l e { frames := 3, cells := 0, slots := 0, locals := 65 } s m args below meth c 0 0 (bQi below args s G σ0 Q) G (va_A (bk_w G σ0) s.heap.size) 5 150 [(0, .ref (G.2.2 10)), (1, .int (bI x1)), (2, .int (bI x2))] [.int (bI s0), .int (bI s1), .int (bI s2), .ref (G.2.2 57)] σ := by
  unfold vX9_isCommonGood_150 at h
  refine br_iadd S dX9_isCommonGood_150 ?_
  obtain ⟨g1, h⟩ := h
  obtain ⟨g2, h⟩ := h
  obtain ⟨σ3, e4⟩ : ∃ τ, τ = bup σ 57 s2 (s1 + s0) := ⟨_, rfl⟩
  replace h := h σ3 e4
  have hσ3 : bRG σ3 := by rw [e4]; exact bup_rg hσ g2
  refine br_iast (n := 8) S ⟨by decide, by decide, fun _ => rfl⟩ g1.1 g1.2 dX9_isCommonGood_151 ?_
  refine bA.to rfl rfl e4.symm ?_
  exact wX9_isCommonGood_152 S hr hlk hP7 hP28 hP38 hP176 hP188 hP199 hx1 hx2 hσ3 h
def vX9_isCommonGood_116 (Q : Int → bS → Prop) (P7 : Int → bS → Prop) (P28 : Int → bS → Prop) (P38 : Int → Int → bS → Prop) (P176 : Int → bS → Prop) (P188 : Int → Int → Int → bS → Prop) (P199 : Int → Int → Int → Int → bS → Prop) (x1 : Int) (x2 : Int) (s0 : Int) (s1 : Int) (σ : bS) : Prop := (bR (s1 + s0) ∧ (∀ σ2 : bS, σ2 = bup σ 10 19 (s1 + s0) → ((0 ≤ x1 ∧ x1 < 12) ∧ ((0 ≤ (σ2 56 x1) ∧ (σ2 56 x1) < 8) ∧ ((¬ (σ2 49 x1) = 0 → (vX9_sizeOf (fun z7 σ8 => (vX9_isCommonGood_150 Q P7 P28 P38 P176 P188 P199 x1 x2 z7 (σ2 57 (σ2 56 x1)) (σ2 56 x1) σ8)) x2 σ2)) ∧ ((σ2 49 x1) = 0 → (vX9_isCommonGood_150 Q P7 P28 P38 P176 P188 P199 x1 x2 0 (σ2 57 (σ2 56 x1)) (σ2 56 x1) σ2)))))))
theorem mono_vX9_isCommonGood_116 {Q Q9 : Int → bS → Prop} {P7 P79 : Int → bS → Prop} {P28 P289 : Int → bS → Prop} {P38 P389 : Int → Int → bS → Prop} {P176 P1769 : Int → bS → Prop} {P188 P1889 : Int → Int → Int → bS → Prop} {P199 P1999 : Int → Int → Int → Int → bS → Prop} {x1 : Int} {x2 : Int} {s0 : Int} {s1 : Int} {σ : bS} (hQ : ∀ r σ, Q r σ → Q9 r σ) (hP7 : ∀ x1 σ, P7 x1 σ → P79 x1 σ) (hP28 : ∀ x1 σ, P28 x1 σ → P289 x1 σ) (hP38 : ∀ x1 x2 σ, P38 x1 x2 σ → P389 x1 x2 σ) (hP176 : ∀ x1 σ, P176 x1 σ → P1769 x1 σ) (hP188 : ∀ x1 x2 x3 σ, P188 x1 x2 x3 σ → P1889 x1 x2 x3 σ) (hP199 : ∀ x1 x2 x3 x4 σ, P199 x1 x2 x3 x4 σ → P1999 x1 x2 x3 x4 σ) : vX9_isCommonGood_116 Q P7 P28 P38 P176 P188 P199 x1 x2 s0 s1 σ → vX9_isCommonGood_116 Q9 P79 P289 P389 P1769 P1889 P1999 x1 x2 s0 s1 σ := (bm_r (bm_all fun _ => bm_imp (bm_r (bm_r (bm_and (bm_imp (mono_X9_sizeOf (fun _ _ => (mono_vX9_isCommonGood_150 hQ hP7 hP28 hP38 hP176 hP188 hP199)))) (bm_imp (mono_vX9_isCommonGood_150 hQ hP7 hP28 hP38 hP176 hP188 hP199)))))))
theorem wX9_isCommonGood_116 {p : Program} {l : Launch} {e : Env} {s : State} {m : MethodId} {args : Array Value} {below : List Frame} {meth : Method} {c : Code} {G : bG} {σ0 : bS} {Q : Int → bS → Prop} {P7 : Int → bS → Prop} {P28 : Int → bS → Prop} {P38 : Int → Int → bS → Prop} {P176 : Int → bS → Prop} {P188 : Int → Int → Int → bS → Prop} {P199 : Int → Int → Int → Int → bS → Prop} {x1 : Int} {x2 : Int} {s0 : Int} {s1 : Int} {σ : bS} (S : CallFix p m c cX9_isCommonGood 5 s args bT "BankLinkerModel") (hr : meth.sig.returnType = some .boolean) (hlk : meth.locks = false) (hP7 : ∀ (x1 : Int) (σ : bS), bR x1 → bRG σ → P7 x1 σ → bA p l e { frames := 3, cells := 0, slots := 0, locals := 65 } s m args below meth c 0 0 (bQi below args s G σ0 Q) G (va_A (bk_w G σ0) s.heap.size) 5 7 [(0, .ref (G.2.2 10)), (1, .int (bI x1))] [] σ) (hP28 : ∀ (x1 : Int) (σ : bS), bR x1 → bRG σ → P28 x1 σ → bA p l e { frames := 3, cells := 0, slots := 0, locals := 65 } s m args below meth c 0 0 (bQi below args s G σ0 Q) G (va_A (bk_w G σ0) s.heap.size) 5 28 [(0, .ref (G.2.2 10)), (1, .int (bI x1))] [] σ) (hP38 : ∀ (x1 : Int) (x2 : Int) (σ : bS), bR x1 → bR x2 → bRG σ → P38 x1 x2 σ → bA p l e { frames := 3, cells := 0, slots := 0, locals := 65 } s m args below meth c 0 0 (bQi below args s G σ0 Q) G (va_A (bk_w G σ0) s.heap.size) 5 38 [(0, .ref (G.2.2 10)), (1, .int (bI x1)), (2, .int (bI x2))] [] σ) (hP176 : ∀ (x1 : Int) (σ : bS), bR x1 → bRG σ → P176 x1 σ → bA p l e { frames := 3, cells := 0, slots := 0, locals := 65 } s m args below meth c 0 0 (bQi below args s G σ0 Q) G (va_A (bk_w G σ0) s.heap.size) 5 176 [(0, .ref (G.2.2 10)), (1, .int (bI x1))] [] σ) (hP188 : ∀ (x1 : Int) (x2 : Int) (x3 : Int) (σ : bS), bR x1 → bR x2 → bR x3 → bRG σ → P188 x1 x2 x3 σ → bA p l e { frames := 3, cells := 0, slots := 0, locals := 65 } s m args below meth c 0 0 (bQi below args s G σ0 Q) G (va_A (bk_w G σ0) s.heap.size) 5 188 [(0, .ref (G.2.2 10)), (1, .int (bI x1)), (2, .int (bI x2)), (3, .int (bI x3))] [] σ) (hP199 : ∀ (x1 : Int) (x2 : Int) (x3 : Int) (x4 : Int) (σ : bS), bR x1 → bR x2 → bR x3 → bR x4 → bRG σ → P199 x1 x2 x3 x4 σ → bA p l e { frames := 3, cells := 0, slots := 0, locals := 65 } s m args below meth c 0 0 (bQi below args s G σ0 Q) G (va_A (bk_w G σ0) s.heap.size) 5 199 [(0, .ref (G.2.2 10)), (1, .int (bI x1)), (2, .int (bI x2)), (3, .int (bI x3)), (4, .int (bI x4))] [] σ) (hx1 : bR x1) (hx2 : bR x2) (hs0 : bR s0) (hs1 : bR s1) (hσ : bRG σ) (h : vX9_isCommonGood_116 Q P7 P28 P38 P176 P188 P199 x1 x2 s0 s1 σ) : bA p l e { frames := 3, cells := 0, slots := 0, locals := 65 } s m args below meth c 0 0 (bQi below args s G σ0 Q) G (va_A (bk_w G σ0) s.heap.size) 5 116 [(0, .ref (G.2.2 10)), (1, .int (bI x1)), (2, .int (bI x2))] [.int (bI s0), .int (bI s1), .ref (G.2.2 10)] σ := by
  unfold vX9_isCommonGood_116 at h
  refine br_iadd S dX9_isCommonGood_116 ?_
  obtain ⟨g1, h⟩ := h
  obtain ⟨σ2, e3⟩ : ∃ τ, τ = bup σ 10 19 (s1 + s0) := ⟨_, rfl⟩
  replace h := h σ2 e3
  have hσ2 : bRG σ2 := by rw [e3]; exact bup_rg hσ g1
  refine br_put (f := 19) (N := 37) (C := RX9) (T := TX9) S tyX9 tyX9_ok nmX9 inT_X9 wd_4_13 (by decide) rfl (pf_10_19 _ _ _) rfl (by decide) (Nat.le_of_ble_eq_true rfl) rfl rfl rfl rfl dX9_isCommonGood_117 ?_
  refine bA.to rfl rfl e3.symm ?_
  refine br_aload_n S 0 dX9_isCommonGood_120 rfl rfl ?_
  refine br_get (f := 12) (N := 37) (C := RX9) (T := TX9) S inT_X9 wd_4_6 (by decide) rfl rfl (by decide) rfl dX9_isCommonGood_121 ?_
  refine br_aload_n S 0 dX9_isCommonGood_124 rfl rfl ?_
  refine br_get (f := 11) (N := 37) (C := RX9) (T := TX9) S inT_X9 wd_4_5 (by decide) rfl rfl (by decide) rfl dX9_isCommonGood_125 ?_
  refine br_iload_n S 1 dX9_isCommonGood_128 rfl rfl ?_
  obtain ⟨g4, h⟩ := h
  refine br_iald (n := 12) S ⟨by decide, by decide, fun _ => rfl⟩ g4.1 g4.2 dX9_isCommonGood_129 ?_
  refine br_dup2 S dX9_isCommonGood_130 rfl rfl ?_
  obtain ⟨g5, h⟩ := h
  refine br_iald (n := 8) S ⟨by decide, by decide, fun _ => rfl⟩ g5.1 g5.2 dX9_isCommonGood_131 ?_
  refine br_aload_n S 0 dX9_isCommonGood_132 rfl rfl ?_
  refine br_get (f := 2) (N := 37) (C := RX9) (T := TX9) S inT_X9 wd_3_236 (by decide) rfl rfl (by decide) rfl dX9_isCommonGood_133 ?_
  refine br_iload_n S 1 dX9_isCommonGood_136 rfl rfl ?_
  refine br_iald (n := 12) S ⟨by decide, by decide, fun _ => rfl⟩ g4.1 g4.2 dX9_isCommonGood_137 ?_
  refine br_if_ne S 145 (hσ2 49 x1) dX9_isCommonGood_138 (by decide) (fun c6 => ?_) (fun c6 => ?_)
  · replace h := h.1 c6
    refine br_aload_n S 0 dX9_isCommonGood_145 rfl rfl ?_
    refine br_iload_n S 2 dX9_isCommonGood_146 rfl rfl ?_
    refine br_callV (As := [.int (bI x2)]) (rest := [.int (bI (σ2 57 (σ2 56 x1))), .int (bI (σ2 56 x1)), .ref (G.2.2 57)]) S (cwV_X9_sizeOf S.2.2.2.2 wd_4_173 ⟨by decide, by decide⟩) (mX9_sizeOf l G σ2 x2 hx2 h) (by decide) rfl rfl rfl hσ2 rfl rfl (Nat.le_of_ble_eq_true rfl) ⟨by decide, by decide⟩ dX9_isCommonGood_147 (fun z7 σ8 hz7 hσ8 h => ?_)
    exact wX9_isCommonGood_150 S hr hlk hP7 hP28 hP38 hP176 hP188 hP199 hx1 hx2 hz7 (hσ2 57 (σ2 56 x1)) (hσ2 56 x1) hσ8 h
  · replace h := h.2 c6
    refine br_iconst S dX9_isCommonGood_141 ?_
    refine br_goto S 150 dX9_isCommonGood_142 (by decide) ?_
    exact wX9_isCommonGood_150 S hr hlk hP7 hP28 hP38 hP176 hP188 hP199 hx1 hx2 (by decide) (hσ2 57 (σ2 56 x1)) (hσ2 56 x1) hσ2 h
def vX9_isCommonGood_92 (Q : Int → bS → Prop) (P7 : Int → bS → Prop) (P28 : Int → bS → Prop) (P38 : Int → Int → bS → Prop) (P176 : Int → bS → Prop) (P188 : Int → Int → Int → bS → Prop) (P199 : Int → Int → Int → Int → bS → Prop) (x1 : Int) (x2 : Int) (s0 : Int) (s1 : Int) (σ : bS) : Prop := ((0 ≤ s1 ∧ s1 < 30) ∧ (∀ σ2 : bS, σ2 = bup σ 58 s1 s0 → ((0 ≤ x1 ∧ x1 < 12) ∧ ((¬ (σ2 49 x1) = 0 → (vX9_isCommonGood_116 Q P7 P28 P38 P176 P188 P199 x1 x2 0 (σ2 10 19) σ2)) ∧ ((σ2 49 x1) = 0 → (vX9_sizeOf (fun z6 σ7 => (vX9_isCommonGood_116 Q P7 P28 P38 P176 P188 P199 x1 x2 z6 (σ2 10 19) σ7)) x2 σ2))))))
theorem mono_vX9_isCommonGood_92 {Q Q9 : Int → bS → Prop} {P7 P79 : Int → bS → Prop} {P28 P289 : Int → bS → Prop} {P38 P389 : Int → Int → bS → Prop} {P176 P1769 : Int → bS → Prop} {P188 P1889 : Int → Int → Int → bS → Prop} {P199 P1999 : Int → Int → Int → Int → bS → Prop} {x1 : Int} {x2 : Int} {s0 : Int} {s1 : Int} {σ : bS} (hQ : ∀ r σ, Q r σ → Q9 r σ) (hP7 : ∀ x1 σ, P7 x1 σ → P79 x1 σ) (hP28 : ∀ x1 σ, P28 x1 σ → P289 x1 σ) (hP38 : ∀ x1 x2 σ, P38 x1 x2 σ → P389 x1 x2 σ) (hP176 : ∀ x1 σ, P176 x1 σ → P1769 x1 σ) (hP188 : ∀ x1 x2 x3 σ, P188 x1 x2 x3 σ → P1889 x1 x2 x3 σ) (hP199 : ∀ x1 x2 x3 x4 σ, P199 x1 x2 x3 x4 σ → P1999 x1 x2 x3 x4 σ) : vX9_isCommonGood_92 Q P7 P28 P38 P176 P188 P199 x1 x2 s0 s1 σ → vX9_isCommonGood_92 Q9 P79 P289 P389 P1769 P1889 P1999 x1 x2 s0 s1 σ := (bm_r (bm_all fun _ => bm_imp (bm_r (bm_and (bm_imp (mono_vX9_isCommonGood_116 hQ hP7 hP28 hP38 hP176 hP188 hP199)) (bm_imp (mono_X9_sizeOf (fun _ _ => (mono_vX9_isCommonGood_116 hQ hP7 hP28 hP38 hP176 hP188 hP199))))))))
theorem wX9_isCommonGood_92 {p : Program} {l : Launch} {e : Env} {s : State} {m : MethodId} {args : Array Value} {below : List Frame} {meth : Method} {c : Code} {G : bG} {σ0 : bS} {Q : Int → bS → Prop} {P7 : Int → bS → Prop} {P28 : Int → bS → Prop} {P38 : Int → Int → bS → Prop} {P176 : Int → bS → Prop} {P188 : Int → Int → Int → bS → Prop} {P199 : Int → Int → Int → Int → bS → Prop} {x1 : Int} {x2 : Int} {s0 : Int} {s1 : Int} {σ : bS} (S : CallFix p m c cX9_isCommonGood 5 s args bT "BankLinkerModel") (hr : meth.sig.returnType = some .boolean) (hlk : meth.locks = false) (hP7 : ∀ (x1 : Int) (σ : bS), bR x1 → bRG σ → P7 x1 σ → bA p l e { frames := 3, cells := 0, slots := 0, locals := 65 } s m args below meth c 0 0 (bQi below args s G σ0 Q) G (va_A (bk_w G σ0) s.heap.size) 5 7 [(0, .ref (G.2.2 10)), (1, .int (bI x1))] [] σ) (hP28 : ∀ (x1 : Int) (σ : bS), bR x1 → bRG σ → P28 x1 σ → bA p l e { frames := 3, cells := 0, slots := 0, locals := 65 } s m args below meth c 0 0 (bQi below args s G σ0 Q) G (va_A (bk_w G σ0) s.heap.size) 5 28 [(0, .ref (G.2.2 10)), (1, .int (bI x1))] [] σ) (hP38 : ∀ (x1 : Int) (x2 : Int) (σ : bS), bR x1 → bR x2 → bRG σ → P38 x1 x2 σ → bA p l e { frames := 3, cells := 0, slots := 0, locals := 65 } s m args below meth c 0 0 (bQi below args s G σ0 Q) G (va_A (bk_w G σ0) s.heap.size) 5 38 [(0, .ref (G.2.2 10)), (1, .int (bI x1)), (2, .int (bI x2))] [] σ) (hP176 : ∀ (x1 : Int) (σ : bS), bR x1 → bRG σ → P176 x1 σ → bA p l e { frames := 3, cells := 0, slots := 0, locals := 65 } s m args below meth c 0 0 (bQi below args s G σ0 Q) G (va_A (bk_w G σ0) s.heap.size) 5 176 [(0, .ref (G.2.2 10)), (1, .int (bI x1))] [] σ) (hP188 : ∀ (x1 : Int) (x2 : Int) (x3 : Int) (σ : bS), bR x1 → bR x2 → bR x3 → bRG σ → P188 x1 x2 x3 σ → bA p l e { frames := 3, cells := 0, slots := 0, locals := 65 } s m args below meth c 0 0 (bQi below args s G σ0 Q) G (va_A (bk_w G σ0) s.heap.size) 5 188 [(0, .ref (G.2.2 10)), (1, .int (bI x1)), (2, .int (bI x2)), (3, .int (bI x3))] [] σ) (hP199 : ∀ (x1 : Int) (x2 : Int) (x3 : Int) (x4 : Int) (σ : bS), bR x1 → bR x2 → bR x3 → bR x4 → bRG σ → P199 x1 x2 x3 x4 σ → bA p l e { frames := 3, cells := 0, slots := 0, locals := 65 } s m args below meth c 0 0 (bQi below args s G σ0 Q) G (va_A (bk_w G σ0) s.heap.size) 5 199 [(0, .ref (G.2.2 10)), (1, .int (bI x1)), (2, .int (bI x2)), (3, .int (bI x3)), (4, .int (bI x4))] [] σ) (hx1 : bR x1) (hx2 : bR x2) (hs0 : bR s0) (hs1 : bR s1) (hσ : bRG σ) (h : vX9_isCommonGood_92 Q P7 P28 P38 P176 P188 P199 x1 x2 s0 s1 σ) : bA p l e { frames := 3, cells := 0, slots := 0, locals := 65 } s m args below meth c 0 0 (bQi below args s G σ0 Q) G (va_A (bk_w G σ0) s.heap.size) 5 92 [(0, .ref (G.2.2 10)), (1, .int (bI x1)), (2, .int (bI x2))] [.int (bI s0), .int (bI s1), .ref (G.2.2 58)] σ := by
  unfold vX9_isCommonGood_92 at h
  obtain ⟨g1, h⟩ := h
  obtain ⟨σ2, e3⟩ : ∃ τ, τ = bup σ 58 s1 s0 := ⟨_, rfl⟩
  replace h := h σ2 e3
  have hσ2 : bRG σ2 := by rw [e3]; exact bup_rg hσ hs0
  refine br_iast (n := 30) S ⟨by decide, by decide, fun _ => rfl⟩ g1.1 g1.2 dX9_isCommonGood_92 ?_
  refine bA.to rfl rfl e3.symm ?_
  refine br_aload_n S 0 dX9_isCommonGood_93 rfl rfl ?_
  refine br_dup S dX9_isCommonGood_94 rfl ?_
  refine br_get (f := 19) (N := 37) (C := RX9) (T := TX9) S inT_X9 wd_4_13 (by decide) rfl rfl (by decide) rfl dX9_isCommonGood_95 ?_
  refine br_aload_n S 0 dX9_isCommonGood_98 rfl rfl ?_
  refine br_get (f := 2) (N := 37) (C := RX9) (T := TX9) S inT_X9 wd_3_236 (by decide) rfl rfl (by decide) rfl dX9_isCommonGood_99 ?_
  refine br_iload_n S 1 dX9_isCommonGood_102 rfl rfl ?_
  obtain ⟨g4, h⟩ := h
  refine br_iald (n := 12) S ⟨by decide, by decide, fun _ => rfl⟩ g4.1 g4.2 dX9_isCommonGood_103 ?_
  refine br_if_ne S 115 (hσ2 49 x1) dX9_isCommonGood_104 (by decide) (fun c5 => ?_) (fun c5 => ?_)
  · replace h := h.1 c5
    refine br_iconst S dX9_isCommonGood_115 ?_
    exact wX9_isCommonGood_116 S hr hlk hP7 hP28 hP38 hP176 hP188 hP199 hx1 hx2 (by decide) (hσ2 10 19) hσ2 h
  · replace h := h.2 c5
    refine br_aload_n S 0 dX9_isCommonGood_107 rfl rfl ?_
    refine br_iload_n S 2 dX9_isCommonGood_108 rfl rfl ?_
    refine br_callV (As := [.int (bI x2)]) (rest := [.int (bI (σ2 10 19)), .ref (G.2.2 10)]) S (cwV_X9_sizeOf S.2.2.2.2 wd_4_173 ⟨by decide, by decide⟩) (mX9_sizeOf l G σ2 x2 hx2 h) (by decide) rfl rfl rfl hσ2 rfl rfl (Nat.le_of_ble_eq_true rfl) ⟨by decide, by decide⟩ dX9_isCommonGood_109 (fun z6 σ7 hz6 hσ7 h => ?_)
    refine br_goto S 116 dX9_isCommonGood_112 (by decide) ?_
    exact wX9_isCommonGood_116 S hr hlk hP7 hP28 hP38 hP176 hP188 hP199 hx1 hx2 hz6 (hσ2 10 19) hσ7 h
def bX9_isCommonGood_38 (Q : Int → bS → Prop) (P7 : Int → bS → Prop) (P28 : Int → bS → Prop) (P38 : Int → Int → bS → Prop) (P176 : Int → bS → Prop) (P188 : Int → Int → Int → bS → Prop) (P199 : Int → Int → Int → Int → bS → Prop) (x1 : Int) (x2 : Int) (σ : bS) : Prop := (((σ 10 3) ≤ x2 → (bR (x1 + 1) ∧ (P28 (x1 + 1) σ))) ∧ (¬ (σ 10 3) ≤ x2 → ((0 ≤ x2 ∧ x2 < 30) ∧ ((¬ (σ 50 x2) = x1 → (vX9_isCommonGood_152 Q P7 P28 P38 P176 P188 P199 x1 x2 σ)) ∧ ((σ 50 x2) = x1 → ((0 ≤ x1 ∧ x1 < 12) ∧ ((¬ (σ 49 x1) = 0 → ((0 ≤ (σ 56 x1) ∧ (σ 56 x1) < 8) ∧ (bR (256 + (σ 57 (σ 56 x1))) ∧ (vX9_isCommonGood_92 Q P7 P28 P38 P176 P188 P199 x1 x2 (256 + (σ 57 (σ 56 x1))) x2 σ)))) ∧ ((σ 49 x1) = 0 → (vX9_isCommonGood_92 Q P7 P28 P38 P176 P188 P199 x1 x2 (σ 10 19) x2 σ)))))))))
theorem mono_bX9_isCommonGood_38 {Q Q9 : Int → bS → Prop} {P7 P79 : Int → bS → Prop} {P28 P289 : Int → bS → Prop} {P38 P389 : Int → Int → bS → Prop} {P176 P1769 : Int → bS → Prop} {P188 P1889 : Int → Int → Int → bS → Prop} {P199 P1999 : Int → Int → Int → Int → bS → Prop} {x1 : Int} {x2 : Int} {σ : bS} (hQ : ∀ r σ, Q r σ → Q9 r σ) (hP7 : ∀ x1 σ, P7 x1 σ → P79 x1 σ) (hP28 : ∀ x1 σ, P28 x1 σ → P289 x1 σ) (hP38 : ∀ x1 x2 σ, P38 x1 x2 σ → P389 x1 x2 σ) (hP176 : ∀ x1 σ, P176 x1 σ → P1769 x1 σ) (hP188 : ∀ x1 x2 x3 σ, P188 x1 x2 x3 σ → P1889 x1 x2 x3 σ) (hP199 : ∀ x1 x2 x3 x4 σ, P199 x1 x2 x3 x4 σ → P1999 x1 x2 x3 x4 σ) : bX9_isCommonGood_38 Q P7 P28 P38 P176 P188 P199 x1 x2 σ → bX9_isCommonGood_38 Q9 P79 P289 P389 P1769 P1889 P1999 x1 x2 σ := (bm_and (bm_imp (bm_r (hP28 _ _))) (bm_imp (bm_r (bm_and (bm_imp (mono_vX9_isCommonGood_152 hQ hP7 hP28 hP38 hP176 hP188 hP199)) (bm_imp (bm_r (bm_and (bm_imp (bm_r (bm_r (mono_vX9_isCommonGood_92 hQ hP7 hP28 hP38 hP176 hP188 hP199)))) (bm_imp (mono_vX9_isCommonGood_92 hQ hP7 hP28 hP38 hP176 hP188 hP199)))))))))
theorem wX9_isCommonGood_38 {p : Program} {l : Launch} {e : Env} {s : State} {m : MethodId} {args : Array Value} {below : List Frame} {meth : Method} {c : Code} {G : bG} {σ0 : bS} {Q : Int → bS → Prop} {P7 : Int → bS → Prop} {P28 : Int → bS → Prop} {P38 : Int → Int → bS → Prop} {P176 : Int → bS → Prop} {P188 : Int → Int → Int → bS → Prop} {P199 : Int → Int → Int → Int → bS → Prop} {x1 : Int} {x2 : Int} {σ : bS} (S : CallFix p m c cX9_isCommonGood 5 s args bT "BankLinkerModel") (hr : meth.sig.returnType = some .boolean) (hlk : meth.locks = false) (hP7 : ∀ (x1 : Int) (σ : bS), bR x1 → bRG σ → P7 x1 σ → bA p l e { frames := 3, cells := 0, slots := 0, locals := 65 } s m args below meth c 0 0 (bQi below args s G σ0 Q) G (va_A (bk_w G σ0) s.heap.size) 5 7 [(0, .ref (G.2.2 10)), (1, .int (bI x1))] [] σ) (hP28 : ∀ (x1 : Int) (σ : bS), bR x1 → bRG σ → P28 x1 σ → bA p l e { frames := 3, cells := 0, slots := 0, locals := 65 } s m args below meth c 0 0 (bQi below args s G σ0 Q) G (va_A (bk_w G σ0) s.heap.size) 5 28 [(0, .ref (G.2.2 10)), (1, .int (bI x1))] [] σ) (hP38 : ∀ (x1 : Int) (x2 : Int) (σ : bS), bR x1 → bR x2 → bRG σ → P38 x1 x2 σ → bA p l e { frames := 3, cells := 0, slots := 0, locals := 65 } s m args below meth c 0 0 (bQi below args s G σ0 Q) G (va_A (bk_w G σ0) s.heap.size) 5 38 [(0, .ref (G.2.2 10)), (1, .int (bI x1)), (2, .int (bI x2))] [] σ) (hP176 : ∀ (x1 : Int) (σ : bS), bR x1 → bRG σ → P176 x1 σ → bA p l e { frames := 3, cells := 0, slots := 0, locals := 65 } s m args below meth c 0 0 (bQi below args s G σ0 Q) G (va_A (bk_w G σ0) s.heap.size) 5 176 [(0, .ref (G.2.2 10)), (1, .int (bI x1))] [] σ) (hP188 : ∀ (x1 : Int) (x2 : Int) (x3 : Int) (σ : bS), bR x1 → bR x2 → bR x3 → bRG σ → P188 x1 x2 x3 σ → bA p l e { frames := 3, cells := 0, slots := 0, locals := 65 } s m args below meth c 0 0 (bQi below args s G σ0 Q) G (va_A (bk_w G σ0) s.heap.size) 5 188 [(0, .ref (G.2.2 10)), (1, .int (bI x1)), (2, .int (bI x2)), (3, .int (bI x3))] [] σ) (hP199 : ∀ (x1 : Int) (x2 : Int) (x3 : Int) (x4 : Int) (σ : bS), bR x1 → bR x2 → bR x3 → bR x4 → bRG σ → P199 x1 x2 x3 x4 σ → bA p l e { frames := 3, cells := 0, slots := 0, locals := 65 } s m args below meth c 0 0 (bQi below args s G σ0 Q) G (va_A (bk_w G σ0) s.heap.size) 5 199 [(0, .ref (G.2.2 10)), (1, .int (bI x1)), (2, .int (bI x2)), (3, .int (bI x3)), (4, .int (bI x4))] [] σ) (hx1 : bR x1) (hx2 : bR x2) (hσ : bRG σ) (h : bX9_isCommonGood_38 Q P7 P28 P38 P176 P188 P199 x1 x2 σ) : bA p l e { frames := 3, cells := 0, slots := 0, locals := 65 } s m args below meth c 0 0 (bQi below args s G σ0 Q) G (va_A (bk_w G σ0) s.heap.size) 5 38 [(0, .ref (G.2.2 10)), (1, .int (bI x1)), (2, .int (bI x2))] [] σ := by
  unfold bX9_isCommonGood_38 at h
  refine br_iload_n S 2 dX9_isCommonGood_38 rfl rfl ?_
  refine br_aload_n S 0 dX9_isCommonGood_39 rfl rfl ?_
  refine br_get (f := 3) (N := 37) (C := RX9) (T := TX9) S inT_X9 wd_3_237 (by decide) rfl rfl (by decide) rfl dX9_isCommonGood_40 ?_
  refine br_ic_ge S 158 hx2 (hσ 10 3) dX9_isCommonGood_43 (by decide) (fun c1 => ?_) (fun c1 => ?_)
  · replace h := h.1 c1
    refine br_iinc S 1 [(1, .int (bI (x1 + 1))), (0, .ref (G.2.2 10)), (2, .int (bI x2))] dX9_isCommonGood_158 rfl (by decide) rfl ?_
    refine br_goto S 28 dX9_isCommonGood_161 (by decide) ?_
    obtain ⟨g2, h⟩ := h
    exact bA.perm [1, 0] rfl <| hP28 (x1 + 1) σ g2 hσ h
  · replace h := h.2 c1
    refine br_aload_n S 0 dX9_isCommonGood_46 rfl rfl ?_
    refine br_get (f := 4) (N := 37) (C := RX9) (T := TX9) S inT_X9 wd_3_238 (by decide) rfl rfl (by decide) rfl dX9_isCommonGood_47 ?_
    refine br_iload_n S 2 dX9_isCommonGood_50 rfl rfl ?_
    obtain ⟨g3, h⟩ := h
    refine br_iald (n := 30) S ⟨by decide, by decide, fun _ => rfl⟩ g3.1 g3.2 dX9_isCommonGood_51 ?_
    refine br_iload_n S 1 dX9_isCommonGood_52 rfl rfl ?_
    refine br_ic_ne S 152 (hσ 50 x2) hx1 dX9_isCommonGood_53 (by decide) (fun c4 => ?_) (fun c4 => ?_)
    · replace h := h.1 c4
      exact wX9_isCommonGood_152 S hr hlk hP7 hP28 hP38 hP176 hP188 hP199 hx1 hx2 hσ h
    · replace h := h.2 c4
      refine br_aload_n S 0 dX9_isCommonGood_56 rfl rfl ?_
      refine br_get (f := 13) (N := 37) (C := RX9) (T := TX9) S inT_X9 wd_4_7 (by decide) rfl rfl (by decide) rfl dX9_isCommonGood_57 ?_
      refine br_iload_n S 2 dX9_isCommonGood_60 rfl rfl ?_
      refine br_aload_n S 0 dX9_isCommonGood_61 rfl rfl ?_
      refine br_get (f := 2) (N := 37) (C := RX9) (T := TX9) S inT_X9 wd_3_236 (by decide) rfl rfl (by decide) rfl dX9_isCommonGood_62 ?_
      refine br_iload_n S 1 dX9_isCommonGood_65 rfl rfl ?_
      obtain ⟨g5, h⟩ := h
      refine br_iald (n := 12) S ⟨by decide, by decide, fun _ => rfl⟩ g5.1 g5.2 dX9_isCommonGood_66 ?_
      refine br_if_ne S 77 (hσ 49 x1) dX9_isCommonGood_67 (by decide) (fun c6 => ?_) (fun c6 => ?_)
      · replace h := h.1 c6
        refine br_sipush S dX9_isCommonGood_77 rfl ?_
        refine br_aload_n S 0 dX9_isCommonGood_80 rfl rfl ?_
        refine br_get (f := 12) (N := 37) (C := RX9) (T := TX9) S inT_X9 wd_4_6 (by decide) rfl rfl (by decide) rfl dX9_isCommonGood_81 ?_
        refine br_aload_n S 0 dX9_isCommonGood_84 rfl rfl ?_
        refine br_get (f := 11) (N := 37) (C := RX9) (T := TX9) S inT_X9 wd_4_5 (by decide) rfl rfl (by decide) rfl dX9_isCommonGood_85 ?_
        refine br_iload_n S 1 dX9_isCommonGood_88 rfl rfl ?_
        refine br_iald (n := 12) S ⟨by decide, by decide, fun _ => rfl⟩ g5.1 g5.2 dX9_isCommonGood_89 ?_
        obtain ⟨g7, h⟩ := h
        refine br_iald (n := 8) S ⟨by decide, by decide, fun _ => rfl⟩ g7.1 g7.2 dX9_isCommonGood_90 ?_
        refine br_iadd S dX9_isCommonGood_91 ?_
        obtain ⟨g8, h⟩ := h
        exact wX9_isCommonGood_92 S hr hlk hP7 hP28 hP38 hP176 hP188 hP199 hx1 hx2 g8 hx2 hσ h
      · replace h := h.2 c6
        refine br_aload_n S 0 dX9_isCommonGood_70 rfl rfl ?_
        refine br_get (f := 19) (N := 37) (C := RX9) (T := TX9) S inT_X9 wd_4_13 (by decide) rfl rfl (by decide) rfl dX9_isCommonGood_71 ?_
        refine br_goto S 92 dX9_isCommonGood_74 (by decide) ?_
        exact wX9_isCommonGood_92 S hr hlk hP7 hP28 hP38 hP176 hP188 hP199 hx1 hx2 (hσ 10 19) hx2 hσ h
def bX9_isCommonGood_176 (Q : Int → bS → Prop) (P7 : Int → bS → Prop) (P28 : Int → bS → Prop) (P38 : Int → Int → bS → Prop) (P176 : Int → bS → Prop) (P188 : Int → Int → Int → bS → Prop) (P199 : Int → Int → Int → Int → bS → Prop) (x1 : Int) (σ : bS) : Prop := (((σ 10 3) ≤ x1 → (((σ 10 19) ≤ (σ 55 2) → (Q 1 σ)) ∧ (¬ (σ 10 19) ≤ (σ 55 2) → (vX9_told (fun z3 σ4 => ((z3 = 0 → (Q 0 σ4)) ∧ (¬ z3 = 0 → (Q 1 σ4)))) 5 (-1) (-1) σ)))) ∧ (¬ (σ 10 3) ≤ x1 → (P188 x1 0 0 σ)))
theorem mono_bX9_isCommonGood_176 {Q Q9 : Int → bS → Prop} {P7 P79 : Int → bS → Prop} {P28 P289 : Int → bS → Prop} {P38 P389 : Int → Int → bS → Prop} {P176 P1769 : Int → bS → Prop} {P188 P1889 : Int → Int → Int → bS → Prop} {P199 P1999 : Int → Int → Int → Int → bS → Prop} {x1 : Int} {σ : bS} (hQ : ∀ r σ, Q r σ → Q9 r σ) (hP7 : ∀ x1 σ, P7 x1 σ → P79 x1 σ) (hP28 : ∀ x1 σ, P28 x1 σ → P289 x1 σ) (hP38 : ∀ x1 x2 σ, P38 x1 x2 σ → P389 x1 x2 σ) (hP176 : ∀ x1 σ, P176 x1 σ → P1769 x1 σ) (hP188 : ∀ x1 x2 x3 σ, P188 x1 x2 x3 σ → P1889 x1 x2 x3 σ) (hP199 : ∀ x1 x2 x3 x4 σ, P199 x1 x2 x3 x4 σ → P1999 x1 x2 x3 x4 σ) : bX9_isCommonGood_176 Q P7 P28 P38 P176 P188 P199 x1 σ → bX9_isCommonGood_176 Q9 P79 P289 P389 P1769 P1889 P1999 x1 σ := (bm_and (bm_imp (bm_and (bm_imp (hQ _ _)) (bm_imp (mono_X9_told (fun _ _ => (bm_and (bm_imp (hQ _ _)) (bm_imp (hQ _ _)))))))) (bm_imp (hP188 _ _ _ _)))
theorem wX9_isCommonGood_176 {p : Program} {l : Launch} {e : Env} {s : State} {m : MethodId} {args : Array Value} {below : List Frame} {meth : Method} {c : Code} {G : bG} {σ0 : bS} {Q : Int → bS → Prop} {P7 : Int → bS → Prop} {P28 : Int → bS → Prop} {P38 : Int → Int → bS → Prop} {P176 : Int → bS → Prop} {P188 : Int → Int → Int → bS → Prop} {P199 : Int → Int → Int → Int → bS → Prop} {x1 : Int} {σ : bS} (S : CallFix p m c cX9_isCommonGood 5 s args bT "BankLinkerModel") (hr : meth.sig.returnType = some .boolean) (hlk : meth.locks = false) (hP7 : ∀ (x1 : Int) (σ : bS), bR x1 → bRG σ → P7 x1 σ → bA p l e { frames := 3, cells := 0, slots := 0, locals := 65 } s m args below meth c 0 0 (bQi below args s G σ0 Q) G (va_A (bk_w G σ0) s.heap.size) 5 7 [(0, .ref (G.2.2 10)), (1, .int (bI x1))] [] σ) (hP28 : ∀ (x1 : Int) (σ : bS), bR x1 → bRG σ → P28 x1 σ → bA p l e { frames := 3, cells := 0, slots := 0, locals := 65 } s m args below meth c 0 0 (bQi below args s G σ0 Q) G (va_A (bk_w G σ0) s.heap.size) 5 28 [(0, .ref (G.2.2 10)), (1, .int (bI x1))] [] σ) (hP38 : ∀ (x1 : Int) (x2 : Int) (σ : bS), bR x1 → bR x2 → bRG σ → P38 x1 x2 σ → bA p l e { frames := 3, cells := 0, slots := 0, locals := 65 } s m args below meth c 0 0 (bQi below args s G σ0 Q) G (va_A (bk_w G σ0) s.heap.size) 5 38 [(0, .ref (G.2.2 10)), (1, .int (bI x1)), (2, .int (bI x2))] [] σ) (hP176 : ∀ (x1 : Int) (σ : bS), bR x1 → bRG σ → P176 x1 σ → bA p l e { frames := 3, cells := 0, slots := 0, locals := 65 } s m args below meth c 0 0 (bQi below args s G σ0 Q) G (va_A (bk_w G σ0) s.heap.size) 5 176 [(0, .ref (G.2.2 10)), (1, .int (bI x1))] [] σ) (hP188 : ∀ (x1 : Int) (x2 : Int) (x3 : Int) (σ : bS), bR x1 → bR x2 → bR x3 → bRG σ → P188 x1 x2 x3 σ → bA p l e { frames := 3, cells := 0, slots := 0, locals := 65 } s m args below meth c 0 0 (bQi below args s G σ0 Q) G (va_A (bk_w G σ0) s.heap.size) 5 188 [(0, .ref (G.2.2 10)), (1, .int (bI x1)), (2, .int (bI x2)), (3, .int (bI x3))] [] σ) (hP199 : ∀ (x1 : Int) (x2 : Int) (x3 : Int) (x4 : Int) (σ : bS), bR x1 → bR x2 → bR x3 → bR x4 → bRG σ → P199 x1 x2 x3 x4 σ → bA p l e { frames := 3, cells := 0, slots := 0, locals := 65 } s m args below meth c 0 0 (bQi below args s G σ0 Q) G (va_A (bk_w G σ0) s.heap.size) 5 199 [(0, .ref (G.2.2 10)), (1, .int (bI x1)), (2, .int (bI x2)), (3, .int (bI x3)), (4, .int (bI x4))] [] σ) (hx1 : bR x1) (hσ : bRG σ) (h : bX9_isCommonGood_176 Q P7 P28 P38 P176 P188 P199 x1 σ) : bA p l e { frames := 3, cells := 0, slots := 0, locals := 65 } s m args below meth c 0 0 (bQi below args s G σ0 Q) G (va_A (bk_w G σ0) s.heap.size) 5 176 [(0, .ref (G.2.2 10)), (1, .int (bI x1))] [] σ := by
  unfold bX9_isCommonGood_176 at h
  refine br_iload_n S 1 dX9_isCommonGood_176 rfl rfl ?_
  refine br_aload_n S 0 dX9_isCommonGood_177 rfl rfl ?_
  refine br_get (f := 3) (N := 37) (C := RX9) (T := TX9) S inT_X9 wd_3_237 (by decide) rfl rfl (by decide) rfl dX9_isCommonGood_178 ?_
  refine br_ic_ge S 342 hx1 (hσ 10 3) dX9_isCommonGood_181 (by decide) (fun c1 => ?_) (fun c1 => ?_)
  · replace h := h.1 c1
    refine br_aload_n S 0 dX9_isCommonGood_342 rfl rfl ?_
    refine br_get (f := 19) (N := 37) (C := RX9) (T := TX9) S inT_X9 wd_4_13 (by decide) rfl rfl (by decide) rfl dX9_isCommonGood_343 ?_
    refine br_aload_n S 0 dX9_isCommonGood_346 rfl rfl ?_
    refine br_get (f := 9) (N := 37) (C := RX9) (T := TX9) S inT_X9 wd_4_3 (by decide) rfl rfl (by decide) rfl dX9_isCommonGood_347 ?_
    refine br_iconst S dX9_isCommonGood_350 ?_
    refine br_iald (n := 5) S ⟨by decide, by decide, fun _ => rfl⟩ (by decide) (by decide) dX9_isCommonGood_351 ?_
    refine br_ic_le S 365 (hσ 10 19) (hσ 55 2) dX9_isCommonGood_352 (by decide) (fun c2 => ?_) (fun c2 => ?_)
    · replace h := h.1 c2
      refine br_iconst S dX9_isCommonGood_365 ?_
      refine br_goto S 370 dX9_isCommonGood_366 (by decide) ?_
      exact br_zret S hr hlk (by decide) hσ dX9_isCommonGood_370 h
    · replace h := h.2 c2
      refine br_aload_n S 0 dX9_isCommonGood_355 rfl rfl ?_
      refine br_iconst S dX9_isCommonGood_356 ?_
      refine br_iconst S dX9_isCommonGood_357 ?_
      refine br_iconst S dX9_isCommonGood_358 ?_
      refine br_callV (As := [.int (bI 5), .int (bI (-1)), .int (bI (-1))]) (rest := []) S (cwV_X9_told S.2.2.2.2 wd_4_161 ⟨by decide, by decide⟩) (mX9_told l G σ 5 (by decide) (-1) (by decide) (-1) (by decide) h) (by decide) rfl rfl rfl hσ rfl rfl (Nat.le_of_ble_eq_true rfl) ⟨by decide, by decide⟩ dX9_isCommonGood_359 (fun z3 σ4 hz3 hσ4 h => ?_)
      refine br_if_eq S 369 hz3 dX9_isCommonGood_362 (by decide) (fun c5 => ?_) (fun c5 => ?_)
      · replace h := h.1 c5
        refine br_iconst S dX9_isCommonGood_369 ?_
        exact br_zret S hr hlk (by decide) hσ4 dX9_isCommonGood_370 h
      · replace h := h.2 c5
        refine br_iconst S dX9_isCommonGood_365 ?_
        refine br_goto S 370 dX9_isCommonGood_366 (by decide) ?_
        exact br_zret S hr hlk (by decide) hσ4 dX9_isCommonGood_370 h
  · replace h := h.2 c1
    refine br_iconst S dX9_isCommonGood_184 ?_
    refine br_istore_n S [(2, .int (bI 0)), (0, .ref (G.2.2 10)), (1, .int (bI x1))] dX9_isCommonGood_185 rfl (by decide) rfl ?_
    refine br_iconst S dX9_isCommonGood_186 ?_
    refine br_istore_n S [(3, .int (bI 0)), (2, .int (bI 0)), (0, .ref (G.2.2 10)), (1, .int (bI x1))] dX9_isCommonGood_187 rfl (by decide) rfl ?_
    exact bA.perm [2, 3, 1, 0] rfl <| hP188 x1 0 0 σ hx1 (by decide) (by decide) hσ h
def vX9_isCommonGood_322 (Q : Int → bS → Prop) (P7 : Int → bS → Prop) (P28 : Int → bS → Prop) (P38 : Int → Int → bS → Prop) (P176 : Int → bS → Prop) (P188 : Int → Int → Int → bS → Prop) (P199 : Int → Int → Int → Int → bS → Prop) (x1 : Int) (x2 : Int) (s0 : Int) (s1 : Int) (σ : bS) : Prop := (bR (s1 + s0) ∧ (∀ σ2 : bS, σ2 = bup σ 10 19 (s1 + s0) → (bR ((σ2 10 21) + x2) ∧ (∀ σ5 : bS, σ5 = bup σ2 10 21 ((σ2 10 21) + x2) → (bR (x1 + 1) ∧ (P176 (x1 + 1) σ5))))))
theorem mono_vX9_isCommonGood_322 {Q Q9 : Int → bS → Prop} {P7 P79 : Int → bS → Prop} {P28 P289 : Int → bS → Prop} {P38 P389 : Int → Int → bS → Prop} {P176 P1769 : Int → bS → Prop} {P188 P1889 : Int → Int → Int → bS → Prop} {P199 P1999 : Int → Int → Int → Int → bS → Prop} {x1 : Int} {x2 : Int} {s0 : Int} {s1 : Int} {σ : bS} (hQ : ∀ r σ, Q r σ → Q9 r σ) (hP7 : ∀ x1 σ, P7 x1 σ → P79 x1 σ) (hP28 : ∀ x1 σ, P28 x1 σ → P289 x1 σ) (hP38 : ∀ x1 x2 σ, P38 x1 x2 σ → P389 x1 x2 σ) (hP176 : ∀ x1 σ, P176 x1 σ → P1769 x1 σ) (hP188 : ∀ x1 x2 x3 σ, P188 x1 x2 x3 σ → P1889 x1 x2 x3 σ) (hP199 : ∀ x1 x2 x3 x4 σ, P199 x1 x2 x3 x4 σ → P1999 x1 x2 x3 x4 σ) : vX9_isCommonGood_322 Q P7 P28 P38 P176 P188 P199 x1 x2 s0 s1 σ → vX9_isCommonGood_322 Q9 P79 P289 P389 P1769 P1889 P1999 x1 x2 s0 s1 σ := (bm_r (bm_all fun _ => bm_imp (bm_r (bm_all fun _ => bm_imp (bm_r (hP176 _ _))))))
theorem wX9_isCommonGood_322 {p : Program} {l : Launch} {e : Env} {s : State} {m : MethodId} {args : Array Value} {below : List Frame} {meth : Method} {c : Code} {G : bG} {σ0 : bS} {Q : Int → bS → Prop} {P7 : Int → bS → Prop} {P28 : Int → bS → Prop} {P38 : Int → Int → bS → Prop} {P176 : Int → bS → Prop} {P188 : Int → Int → Int → bS → Prop} {P199 : Int → Int → Int → Int → bS → Prop} {x1 : Int} {x2 : Int} {s0 : Int} {s1 : Int} {σ : bS} (S : CallFix p m c cX9_isCommonGood 5 s args bT "BankLinkerModel") (hr : meth.sig.returnType = some .boolean) (hlk : meth.locks = false) (hP7 : ∀ (x1 : Int) (σ : bS), bR x1 → bRG σ → P7 x1 σ → bA p l e { frames := 3, cells := 0, slots := 0, locals := 65 } s m args below meth c 0 0 (bQi below args s G σ0 Q) G (va_A (bk_w G σ0) s.heap.size) 5 7 [(0, .ref (G.2.2 10)), (1, .int (bI x1))] [] σ) (hP28 : ∀ (x1 : Int) (σ : bS), bR x1 → bRG σ → P28 x1 σ → bA p l e { frames := 3, cells := 0, slots := 0, locals := 65 } s m args below meth c 0 0 (bQi below args s G σ0 Q) G (va_A (bk_w G σ0) s.heap.size) 5 28 [(0, .ref (G.2.2 10)), (1, .int (bI x1))] [] σ) (hP38 : ∀ (x1 : Int) (x2 : Int) (σ : bS), bR x1 → bR x2 → bRG σ → P38 x1 x2 σ → bA p l e { frames := 3, cells := 0, slots := 0, locals := 65 } s m args below meth c 0 0 (bQi below args s G σ0 Q) G (va_A (bk_w G σ0) s.heap.size) 5 38 [(0, .ref (G.2.2 10)), (1, .int (bI x1)), (2, .int (bI x2))] [] σ) (hP176 : ∀ (x1 : Int) (σ : bS), bR x1 → bRG σ → P176 x1 σ → bA p l e { frames := 3, cells := 0, slots := 0, locals := 65 } s m args below meth c 0 0 (bQi below args s G σ0 Q) G (va_A (bk_w G σ0) s.heap.size) 5 176 [(0, .ref (G.2.2 10)), (1, .int (bI x1))] [] σ) (hP188 : ∀ (x1 : Int) (x2 : Int) (x3 : Int) (σ : bS), bR x1 → bR x2 → bR x3 → bRG σ → P188 x1 x2 x3 σ → bA p l e { frames := 3, cells := 0, slots := 0, locals := 65 } s m args below meth c 0 0 (bQi below args s G σ0 Q) G (va_A (bk_w G σ0) s.heap.size) 5 188 [(0, .ref (G.2.2 10)), (1, .int (bI x1)), (2, .int (bI x2)), (3, .int (bI x3))] [] σ) (hP199 : ∀ (x1 : Int) (x2 : Int) (x3 : Int) (x4 : Int) (σ : bS), bR x1 → bR x2 → bR x3 → bR x4 → bRG σ → P199 x1 x2 x3 x4 σ → bA p l e { frames := 3, cells := 0, slots := 0, locals := 65 } s m args below meth c 0 0 (bQi below args s G σ0 Q) G (va_A (bk_w G σ0) s.heap.size) 5 199 [(0, .ref (G.2.2 10)), (1, .int (bI x1)), (2, .int (bI x2)), (3, .int (bI x3)), (4, .int (bI x4))] [] σ) (hx1 : bR x1) (hx2 : bR x2) (hs0 : bR s0) (hs1 : bR s1) (hσ : bRG σ) (h : vX9_isCommonGood_322 Q P7 P28 P38 P176 P188 P199 x1 x2 s0 s1 σ) : bA p l e { frames := 3, cells := 0, slots := 0, locals := 65 } s m args below meth c 0 0 (bQi below args s G σ0 Q) G (va_A (bk_w G σ0) s.heap.size) 5 322 [(0, .ref (G.2.2 10)), (1, .int (bI x1)), (2, .int (bI x2))] [.int (bI s0), .int (bI s1), .ref (G.2.2 10)] σ := by
  unfold vX9_isCommonGood_322 at h
  refine br_iadd S dX9_isCommonGood_322 ?_
  obtain ⟨g1, h⟩ := h
  obtain ⟨σ2, e3⟩ : ∃ τ, τ = bup σ 10 19 (s1 + s0) := ⟨_, rfl⟩
  replace h := h σ2 e3
  have hσ2 : bRG σ2 := by rw [e3]; exact bup_rg hσ g1
  refine br_put (f := 19) (N := 37) (C := RX9) (T := TX9) S tyX9 tyX9_ok nmX9 inT_X9 wd_4_13 (by decide) rfl (pf_10_19 _ _ _) rfl (by decide) (Nat.le_of_ble_eq_true rfl) rfl rfl rfl rfl dX9_isCommonGood_323 ?_
  refine bA.to rfl rfl e3.symm ?_
  refine br_aload_n S 0 dX9_isCommonGood_326 rfl rfl ?_
  refine br_dup S dX9_isCommonGood_327 rfl ?_
  refine br_get (f := 21) (N := 37) (C := RX9) (T := TX9) S inT_X9 wd_4_15 (by decide) rfl rfl (by decide) rfl dX9_isCommonGood_328 ?_
  refine br_iload_n S 2 dX9_isCommonGood_331 rfl rfl ?_
  refine br_iadd S dX9_isCommonGood_332 ?_
  obtain ⟨g4, h⟩ := h
  obtain ⟨σ5, e6⟩ : ∃ τ, τ = bup σ2 10 21 ((σ2 10 21) + x2) := ⟨_, rfl⟩
  replace h := h σ5 e6
  have hσ5 : bRG σ5 := by rw [e6]; exact bup_rg hσ2 g4
  refine br_put (f := 21) (N := 37) (C := RX9) (T := TX9) S tyX9 tyX9_ok nmX9 inT_X9 wd_4_15 (by decide) rfl (pf_10_21 _ _ _) rfl (by decide) (Nat.le_of_ble_eq_true rfl) rfl rfl rfl rfl dX9_isCommonGood_333 ?_
  refine bA.to rfl rfl e6.symm ?_
  refine br_iinc S 1 [(1, .int (bI (x1 + 1))), (0, .ref (G.2.2 10)), (2, .int (bI x2))] dX9_isCommonGood_336 rfl (by decide) rfl ?_
  refine br_goto S 176 dX9_isCommonGood_339 (by decide) ?_
  obtain ⟨g7, h⟩ := h
  exact bA.perm [1, 0] rfl <| hP176 (x1 + 1) σ5 g7 hσ5 h
def vX9_isCommonGood_303 (Q : Int → bS → Prop) (P7 : Int → bS → Prop) (P28 : Int → bS → Prop) (P38 : Int → Int → bS → Prop) (P176 : Int → bS → Prop) (P188 : Int → Int → Int → bS → Prop) (P199 : Int → Int → Int → Int → bS → Prop) (x1 : Int) (x2 : Int) (s0 : Int) (s1 : Int) (σ : bS) : Prop := (bR (s1 + s0) ∧ (∀ σ2 : bS, σ2 = bup σ 10 20 (s1 + s0) → ((x2 ≤ 0 → (vX9_isCommonGood_322 Q P7 P28 P38 P176 P188 P199 x1 x2 0 (σ2 10 19) σ2)) ∧ (¬ x2 ≤ 0 → (vX9_isCommonGood_322 Q P7 P28 P38 P176 P188 P199 x1 x2 8 (σ2 10 19) σ2)))))
theorem mono_vX9_isCommonGood_303 {Q Q9 : Int → bS → Prop} {P7 P79 : Int → bS → Prop} {P28 P289 : Int → bS → Prop} {P38 P389 : Int → Int → bS → Prop} {P176 P1769 : Int → bS → Prop} {P188 P1889 : Int → Int → Int → bS → Prop} {P199 P1999 : Int → Int → Int → Int → bS → Prop} {x1 : Int} {x2 : Int} {s0 : Int} {s1 : Int} {σ : bS} (hQ : ∀ r σ, Q r σ → Q9 r σ) (hP7 : ∀ x1 σ, P7 x1 σ → P79 x1 σ) (hP28 : ∀ x1 σ, P28 x1 σ → P289 x1 σ) (hP38 : ∀ x1 x2 σ, P38 x1 x2 σ → P389 x1 x2 σ) (hP176 : ∀ x1 σ, P176 x1 σ → P1769 x1 σ) (hP188 : ∀ x1 x2 x3 σ, P188 x1 x2 x3 σ → P1889 x1 x2 x3 σ) (hP199 : ∀ x1 x2 x3 x4 σ, P199 x1 x2 x3 x4 σ → P1999 x1 x2 x3 x4 σ) : vX9_isCommonGood_303 Q P7 P28 P38 P176 P188 P199 x1 x2 s0 s1 σ → vX9_isCommonGood_303 Q9 P79 P289 P389 P1769 P1889 P1999 x1 x2 s0 s1 σ := (bm_r (bm_all fun _ => bm_imp (bm_and (bm_imp (mono_vX9_isCommonGood_322 hQ hP7 hP28 hP38 hP176 hP188 hP199)) (bm_imp (mono_vX9_isCommonGood_322 hQ hP7 hP28 hP38 hP176 hP188 hP199)))))
theorem wX9_isCommonGood_303 {p : Program} {l : Launch} {e : Env} {s : State} {m : MethodId} {args : Array Value} {below : List Frame} {meth : Method} {c : Code} {G : bG} {σ0 : bS} {Q : Int → bS → Prop} {P7 : Int → bS → Prop} {P28 : Int → bS → Prop} {P38 : Int → Int → bS → Prop} {P176 : Int → bS → Prop} {P188 : Int → Int → Int → bS → Prop} {P199 : Int → Int → Int → Int → bS → Prop} {x1 : Int} {x2 : Int} {s0 : Int} {s1 : Int} {σ : bS} (S : CallFix p m c cX9_isCommonGood 5 s args bT "BankLinkerModel") (hr : meth.sig.returnType = some .boolean) (hlk : meth.locks = false) (hP7 : ∀ (x1 : Int) (σ : bS), bR x1 → bRG σ → P7 x1 σ → bA p l e { frames := 3, cells := 0, slots := 0, locals := 65 } s m args below meth c 0 0 (bQi below args s G σ0 Q) G (va_A (bk_w G σ0) s.heap.size) 5 7 [(0, .ref (G.2.2 10)), (1, .int (bI x1))] [] σ) (hP28 : ∀ (x1 : Int) (σ : bS), bR x1 → bRG σ → P28 x1 σ → bA p l e { frames := 3, cells := 0, slots := 0, locals := 65 } s m args below meth c 0 0 (bQi below args s G σ0 Q) G (va_A (bk_w G σ0) s.heap.size) 5 28 [(0, .ref (G.2.2 10)), (1, .int (bI x1))] [] σ) (hP38 : ∀ (x1 : Int) (x2 : Int) (σ : bS), bR x1 → bR x2 → bRG σ → P38 x1 x2 σ → bA p l e { frames := 3, cells := 0, slots := 0, locals := 65 } s m args below meth c 0 0 (bQi below args s G σ0 Q) G (va_A (bk_w G σ0) s.heap.size) 5 38 [(0, .ref (G.2.2 10)), (1, .int (bI x1)), (2, .int (bI x2))] [] σ) (hP176 : ∀ (x1 : Int) (σ : bS), bR x1 → bRG σ → P176 x1 σ → bA p l e { frames := 3, cells := 0, slots := 0, locals := 65 } s m args below meth c 0 0 (bQi below args s G σ0 Q) G (va_A (bk_w G σ0) s.heap.size) 5 176 [(0, .ref (G.2.2 10)), (1, .int (bI x1))] [] σ) (hP188 : ∀ (x1 : Int) (x2 : Int) (x3 : Int) (σ : bS), bR x1 → bR x2 → bR x3 → bRG σ → P188 x1 x2 x3 σ → bA p l e { frames := 3, cells := 0, slots := 0, locals := 65 } s m args below meth c 0 0 (bQi below args s G σ0 Q) G (va_A (bk_w G σ0) s.heap.size) 5 188 [(0, .ref (G.2.2 10)), (1, .int (bI x1)), (2, .int (bI x2)), (3, .int (bI x3))] [] σ) (hP199 : ∀ (x1 : Int) (x2 : Int) (x3 : Int) (x4 : Int) (σ : bS), bR x1 → bR x2 → bR x3 → bR x4 → bRG σ → P199 x1 x2 x3 x4 σ → bA p l e { frames := 3, cells := 0, slots := 0, locals := 65 } s m args below meth c 0 0 (bQi below args s G σ0 Q) G (va_A (bk_w G σ0) s.heap.size) 5 199 [(0, .ref (G.2.2 10)), (1, .int (bI x1)), (2, .int (bI x2)), (3, .int (bI x3)), (4, .int (bI x4))] [] σ) (hx1 : bR x1) (hx2 : bR x2) (hs0 : bR s0) (hs1 : bR s1) (hσ : bRG σ) (h : vX9_isCommonGood_303 Q P7 P28 P38 P176 P188 P199 x1 x2 s0 s1 σ) : bA p l e { frames := 3, cells := 0, slots := 0, locals := 65 } s m args below meth c 0 0 (bQi below args s G σ0 Q) G (va_A (bk_w G σ0) s.heap.size) 5 303 [(0, .ref (G.2.2 10)), (1, .int (bI x1)), (2, .int (bI x2))] [.int (bI s0), .int (bI s1), .ref (G.2.2 10)] σ := by
  unfold vX9_isCommonGood_303 at h
  refine br_iadd S dX9_isCommonGood_303 ?_
  obtain ⟨g1, h⟩ := h
  obtain ⟨σ2, e3⟩ : ∃ τ, τ = bup σ 10 20 (s1 + s0) := ⟨_, rfl⟩
  replace h := h σ2 e3
  have hσ2 : bRG σ2 := by rw [e3]; exact bup_rg hσ g1
  refine br_put (f := 20) (N := 37) (C := RX9) (T := TX9) S tyX9 tyX9_ok nmX9 inT_X9 wd_4_14 (by decide) rfl (pf_10_20 _ _ _) rfl (by decide) (Nat.le_of_ble_eq_true rfl) rfl rfl rfl rfl dX9_isCommonGood_304 ?_
  refine bA.to rfl rfl e3.symm ?_
  refine br_aload_n S 0 dX9_isCommonGood_307 rfl rfl ?_
  refine br_dup S dX9_isCommonGood_308 rfl ?_
  refine br_get (f := 19) (N := 37) (C := RX9) (T := TX9) S inT_X9 wd_4_13 (by decide) rfl rfl (by decide) rfl dX9_isCommonGood_309 ?_
  refine br_iload_n S 2 dX9_isCommonGood_312 rfl rfl ?_
  refine br_if_le S 321 hx2 dX9_isCommonGood_313 (by decide) (fun c4 => ?_) (fun c4 => ?_)
  · replace h := h.1 c4
    refine br_iconst S dX9_isCommonGood_321 ?_
    exact wX9_isCommonGood_322 S hr hlk hP7 hP28 hP38 hP176 hP188 hP199 hx1 hx2 (by decide) (hσ2 10 19) hσ2 h
  · replace h := h.2 c4
    refine br_bipush S dX9_isCommonGood_316 rfl ?_
    refine br_goto S 322 dX9_isCommonGood_318 (by decide) ?_
    exact wX9_isCommonGood_322 S hr hlk hP7 hP28 hP38 hP176 hP188 hP199 hx1 hx2 (by decide) (hσ2 10 19) hσ2 h
def vX9_isCommonGood_288 (Q : Int → bS → Prop) (P7 : Int → bS → Prop) (P28 : Int → bS → Prop) (P38 : Int → Int → bS → Prop) (P176 : Int → bS → Prop) (P188 : Int → Int → Int → bS → Prop) (P199 : Int → Int → Int → Int → bS → Prop) (x1 : Int) (x2 : Int) (s0 : Int) (s1 : Int) (σ : bS) : Prop := ((0 ≤ s1 ∧ s1 < 30) ∧ (∀ σ2 : bS, σ2 = bup σ 59 s1 s0 → ((x2 ≤ 0 → (vX9_isCommonGood_303 Q P7 P28 P38 P176 P188 P199 x1 x2 0 (σ2 10 20) σ2)) ∧ (¬ x2 ≤ 0 → (vX9_isCommonGood_303 Q P7 P28 P38 P176 P188 P199 x1 x2 1 (σ2 10 20) σ2)))))
theorem mono_vX9_isCommonGood_288 {Q Q9 : Int → bS → Prop} {P7 P79 : Int → bS → Prop} {P28 P289 : Int → bS → Prop} {P38 P389 : Int → Int → bS → Prop} {P176 P1769 : Int → bS → Prop} {P188 P1889 : Int → Int → Int → bS → Prop} {P199 P1999 : Int → Int → Int → Int → bS → Prop} {x1 : Int} {x2 : Int} {s0 : Int} {s1 : Int} {σ : bS} (hQ : ∀ r σ, Q r σ → Q9 r σ) (hP7 : ∀ x1 σ, P7 x1 σ → P79 x1 σ) (hP28 : ∀ x1 σ, P28 x1 σ → P289 x1 σ) (hP38 : ∀ x1 x2 σ, P38 x1 x2 σ → P389 x1 x2 σ) (hP176 : ∀ x1 σ, P176 x1 σ → P1769 x1 σ) (hP188 : ∀ x1 x2 x3 σ, P188 x1 x2 x3 σ → P1889 x1 x2 x3 σ) (hP199 : ∀ x1 x2 x3 x4 σ, P199 x1 x2 x3 x4 σ → P1999 x1 x2 x3 x4 σ) : vX9_isCommonGood_288 Q P7 P28 P38 P176 P188 P199 x1 x2 s0 s1 σ → vX9_isCommonGood_288 Q9 P79 P289 P389 P1769 P1889 P1999 x1 x2 s0 s1 σ := (bm_r (bm_all fun _ => bm_imp (bm_and (bm_imp (mono_vX9_isCommonGood_303 hQ hP7 hP28 hP38 hP176 hP188 hP199)) (bm_imp (mono_vX9_isCommonGood_303 hQ hP7 hP28 hP38 hP176 hP188 hP199)))))
theorem wX9_isCommonGood_288 {p : Program} {l : Launch} {e : Env} {s : State} {m : MethodId} {args : Array Value} {below : List Frame} {meth : Method} {c : Code} {G : bG} {σ0 : bS} {Q : Int → bS → Prop} {P7 : Int → bS → Prop} {P28 : Int → bS → Prop} {P38 : Int → Int → bS → Prop} {P176 : Int → bS → Prop} {P188 : Int → Int → Int → bS → Prop} {P199 : Int → Int → Int → Int → bS → Prop} {x1 : Int} {x2 : Int} {s0 : Int} {s1 : Int} {σ : bS} (S : CallFix p m c cX9_isCommonGood 5 s args bT "BankLinkerModel") (hr : meth.sig.returnType = some .boolean) (hlk : meth.locks = false) (hP7 : ∀ (x1 : Int) (σ : bS), bR x1 → bRG σ → P7 x1 σ → bA p l e { frames := 3, cells := 0, slots := 0, locals := 65 } s m args below meth c 0 0 (bQi below args s G σ0 Q) G (va_A (bk_w G σ0) s.heap.size) 5 7 [(0, .ref (G.2.2 10)), (1, .int (bI x1))] [] σ) (hP28 : ∀ (x1 : Int) (σ : bS), bR x1 → bRG σ → P28 x1 σ → bA p l e { frames := 3, cells := 0, slots := 0, locals := 65 } s m args below meth c 0 0 (bQi below args s G σ0 Q) G (va_A (bk_w G σ0) s.heap.size) 5 28 [(0, .ref (G.2.2 10)), (1, .int (bI x1))] [] σ) (hP38 : ∀ (x1 : Int) (x2 : Int) (σ : bS), bR x1 → bR x2 → bRG σ → P38 x1 x2 σ → bA p l e { frames := 3, cells := 0, slots := 0, locals := 65 } s m args below meth c 0 0 (bQi below args s G σ0 Q) G (va_A (bk_w G σ0) s.heap.size) 5 38 [(0, .ref (G.2.2 10)), (1, .int (bI x1)), (2, .int (bI x2))] [] σ) (hP176 : ∀ (x1 : Int) (σ : bS), bR x1 → bRG σ → P176 x1 σ → bA p l e { frames := 3, cells := 0, slots := 0, locals := 65 } s m args below meth c 0 0 (bQi below args s G σ0 Q) G (va_A (bk_w G σ0) s.heap.size) 5 176 [(0, .ref (G.2.2 10)), (1, .int (bI x1))] [] σ) (hP188 : ∀ (x1 : Int) (x2 : Int) (x3 : Int) (σ : bS), bR x1 → bR x2 → bR x3 → bRG σ → P188 x1 x2 x3 σ → bA p l e { frames := 3, cells := 0, slots := 0, locals := 65 } s m args below meth c 0 0 (bQi below args s G σ0 Q) G (va_A (bk_w G σ0) s.heap.size) 5 188 [(0, .ref (G.2.2 10)), (1, .int (bI x1)), (2, .int (bI x2)), (3, .int (bI x3))] [] σ) (hP199 : ∀ (x1 : Int) (x2 : Int) (x3 : Int) (x4 : Int) (σ : bS), bR x1 → bR x2 → bR x3 → bR x4 → bRG σ → P199 x1 x2 x3 x4 σ → bA p l e { frames := 3, cells := 0, slots := 0, locals := 65 } s m args below meth c 0 0 (bQi below args s G σ0 Q) G (va_A (bk_w G σ0) s.heap.size) 5 199 [(0, .ref (G.2.2 10)), (1, .int (bI x1)), (2, .int (bI x2)), (3, .int (bI x3)), (4, .int (bI x4))] [] σ) (hx1 : bR x1) (hx2 : bR x2) (hs0 : bR s0) (hs1 : bR s1) (hσ : bRG σ) (h : vX9_isCommonGood_288 Q P7 P28 P38 P176 P188 P199 x1 x2 s0 s1 σ) : bA p l e { frames := 3, cells := 0, slots := 0, locals := 65 } s m args below meth c 0 0 (bQi below args s G σ0 Q) G (va_A (bk_w G σ0) s.heap.size) 5 288 [(0, .ref (G.2.2 10)), (1, .int (bI x1)), (2, .int (bI x2))] [.int (bI s0), .int (bI s1), .ref (G.2.2 59)] σ := by
  unfold vX9_isCommonGood_288 at h
  obtain ⟨g1, h⟩ := h
  obtain ⟨σ2, e3⟩ : ∃ τ, τ = bup σ 59 s1 s0 := ⟨_, rfl⟩
  replace h := h σ2 e3
  have hσ2 : bRG σ2 := by rw [e3]; exact bup_rg hσ hs0
  refine br_iast (n := 30) S ⟨by decide, by decide, fun _ => rfl⟩ g1.1 g1.2 dX9_isCommonGood_288 ?_
  refine bA.to rfl rfl e3.symm ?_
  refine br_aload_n S 0 dX9_isCommonGood_289 rfl rfl ?_
  refine br_dup S dX9_isCommonGood_290 rfl ?_
  refine br_get (f := 20) (N := 37) (C := RX9) (T := TX9) S inT_X9 wd_4_14 (by decide) rfl rfl (by decide) rfl dX9_isCommonGood_291 ?_
  refine br_iload_n S 2 dX9_isCommonGood_294 rfl rfl ?_
  refine br_if_le S 302 hx2 dX9_isCommonGood_295 (by decide) (fun c4 => ?_) (fun c4 => ?_)
  · replace h := h.1 c4
    refine br_iconst S dX9_isCommonGood_302 ?_
    exact wX9_isCommonGood_303 S hr hlk hP7 hP28 hP38 hP176 hP188 hP199 hx1 hx2 (by decide) (hσ2 10 20) hσ2 h
  · replace h := h.2 c4
    refine br_iconst S dX9_isCommonGood_298 ?_
    refine br_goto S 303 dX9_isCommonGood_299 (by decide) ?_
    exact wX9_isCommonGood_303 S hr hlk hP7 hP28 hP38 hP176 hP188 hP199 hx1 hx2 (by decide) (hσ2 10 20) hσ2 h
def bX9_isCommonGood_188 (Q : Int → bS → Prop) (P7 : Int → bS → Prop) (P28 : Int → bS → Prop) (P38 : Int → Int → bS → Prop) (P176 : Int → bS → Prop) (P188 : Int → Int → Int → bS → Prop) (P199 : Int → Int → Int → Int → bS → Prop) (x1 : Int) (x2 : Int) (x3 : Int) (σ : bS) : Prop := (((σ 10 3) ≤ x3 → ((x2 ≤ 0 → (vX9_isCommonGood_288 Q P7 P28 P38 P176 P188 P199 x1 x2 (-1) x1 σ)) ∧ (¬ x2 ≤ 0 → (vX9_isCommonGood_288 Q P7 P28 P38 P176 P188 P199 x1 x2 (σ 10 19) x1 σ)))) ∧ (¬ (σ 10 3) ≤ x3 → (P199 x1 x2 x3 0 σ)))
theorem mono_bX9_isCommonGood_188 {Q Q9 : Int → bS → Prop} {P7 P79 : Int → bS → Prop} {P28 P289 : Int → bS → Prop} {P38 P389 : Int → Int → bS → Prop} {P176 P1769 : Int → bS → Prop} {P188 P1889 : Int → Int → Int → bS → Prop} {P199 P1999 : Int → Int → Int → Int → bS → Prop} {x1 : Int} {x2 : Int} {x3 : Int} {σ : bS} (hQ : ∀ r σ, Q r σ → Q9 r σ) (hP7 : ∀ x1 σ, P7 x1 σ → P79 x1 σ) (hP28 : ∀ x1 σ, P28 x1 σ → P289 x1 σ) (hP38 : ∀ x1 x2 σ, P38 x1 x2 σ → P389 x1 x2 σ) (hP176 : ∀ x1 σ, P176 x1 σ → P1769 x1 σ) (hP188 : ∀ x1 x2 x3 σ, P188 x1 x2 x3 σ → P1889 x1 x2 x3 σ) (hP199 : ∀ x1 x2 x3 x4 σ, P199 x1 x2 x3 x4 σ → P1999 x1 x2 x3 x4 σ) : bX9_isCommonGood_188 Q P7 P28 P38 P176 P188 P199 x1 x2 x3 σ → bX9_isCommonGood_188 Q9 P79 P289 P389 P1769 P1889 P1999 x1 x2 x3 σ := (bm_and (bm_imp (bm_and (bm_imp (mono_vX9_isCommonGood_288 hQ hP7 hP28 hP38 hP176 hP188 hP199)) (bm_imp (mono_vX9_isCommonGood_288 hQ hP7 hP28 hP38 hP176 hP188 hP199)))) (bm_imp (hP199 _ _ _ _ _)))
theorem wX9_isCommonGood_188 {p : Program} {l : Launch} {e : Env} {s : State} {m : MethodId} {args : Array Value} {below : List Frame} {meth : Method} {c : Code} {G : bG} {σ0 : bS} {Q : Int → bS → Prop} {P7 : Int → bS → Prop} {P28 : Int → bS → Prop} {P38 : Int → Int → bS → Prop} {P176 : Int → bS → Prop} {P188 : Int → Int → Int → bS → Prop} {P199 : Int → Int → Int → Int → bS → Prop} {x1 : Int} {x2 : Int} {x3 : Int} {σ : bS} (S : CallFix p m c cX9_isCommonGood 5 s args bT "BankLinkerModel") (hr : meth.sig.returnType = some .boolean) (hlk : meth.locks = false) (hP7 : ∀ (x1 : Int) (σ : bS), bR x1 → bRG σ → P7 x1 σ → bA p l e { frames := 3, cells := 0, slots := 0, locals := 65 } s m args below meth c 0 0 (bQi below args s G σ0 Q) G (va_A (bk_w G σ0) s.heap.size) 5 7 [(0, .ref (G.2.2 10)), (1, .int (bI x1))] [] σ) (hP28 : ∀ (x1 : Int) (σ : bS), bR x1 → bRG σ → P28 x1 σ → bA p l e { frames := 3, cells := 0, slots := 0, locals := 65 } s m args below meth c 0 0 (bQi below args s G σ0 Q) G (va_A (bk_w G σ0) s.heap.size) 5 28 [(0, .ref (G.2.2 10)), (1, .int (bI x1))] [] σ) (hP38 : ∀ (x1 : Int) (x2 : Int) (σ : bS), bR x1 → bR x2 → bRG σ → P38 x1 x2 σ → bA p l e { frames := 3, cells := 0, slots := 0, locals := 65 } s m args below meth c 0 0 (bQi below args s G σ0 Q) G (va_A (bk_w G σ0) s.heap.size) 5 38 [(0, .ref (G.2.2 10)), (1, .int (bI x1)), (2, .int (bI x2))] [] σ) (hP176 : ∀ (x1 : Int) (σ : bS), bR x1 → bRG σ → P176 x1 σ → bA p l e { frames := 3, cells := 0, slots := 0, locals := 65 } s m args below meth c 0 0 (bQi below args s G σ0 Q) G (va_A (bk_w G σ0) s.heap.size) 5 176 [(0, .ref (G.2.2 10)), (1, .int (bI x1))] [] σ) (hP188 : ∀ (x1 : Int) (x2 : Int) (x3 : Int) (σ : bS), bR x1 → bR x2 → bR x3 → bRG σ → P188 x1 x2 x3 σ → bA p l e { frames := 3, cells := 0, slots := 0, locals := 65 } s m args below meth c 0 0 (bQi below args s G σ0 Q) G (va_A (bk_w G σ0) s.heap.size) 5 188 [(0, .ref (G.2.2 10)), (1, .int (bI x1)), (2, .int (bI x2)), (3, .int (bI x3))] [] σ) (hP199 : ∀ (x1 : Int) (x2 : Int) (x3 : Int) (x4 : Int) (σ : bS), bR x1 → bR x2 → bR x3 → bR x4 → bRG σ → P199 x1 x2 x3 x4 σ → bA p l e { frames := 3, cells := 0, slots := 0, locals := 65 } s m args below meth c 0 0 (bQi below args s G σ0 Q) G (va_A (bk_w G σ0) s.heap.size) 5 199 [(0, .ref (G.2.2 10)), (1, .int (bI x1)), (2, .int (bI x2)), (3, .int (bI x3)), (4, .int (bI x4))] [] σ) (hx1 : bR x1) (hx2 : bR x2) (hx3 : bR x3) (hσ : bRG σ) (h : bX9_isCommonGood_188 Q P7 P28 P38 P176 P188 P199 x1 x2 x3 σ) : bA p l e { frames := 3, cells := 0, slots := 0, locals := 65 } s m args below meth c 0 0 (bQi below args s G σ0 Q) G (va_A (bk_w G σ0) s.heap.size) 5 188 [(0, .ref (G.2.2 10)), (1, .int (bI x1)), (2, .int (bI x2)), (3, .int (bI x3))] [] σ := by
  unfold bX9_isCommonGood_188 at h
  refine br_iload_n S 3 dX9_isCommonGood_188 rfl rfl ?_
  refine br_aload_n S 0 dX9_isCommonGood_189 rfl rfl ?_
  refine br_get (f := 3) (N := 37) (C := RX9) (T := TX9) S inT_X9 wd_3_237 (by decide) rfl rfl (by decide) rfl dX9_isCommonGood_190 ?_
  refine br_ic_ge S 271 hx3 (hσ 10 3) dX9_isCommonGood_193 (by decide) (fun c1 => ?_) (fun c1 => ?_)
  · replace h := h.1 c1
    refine br_aload_n S 0 dX9_isCommonGood_271 rfl rfl ?_
    refine br_get (f := 14) (N := 37) (C := RX9) (T := TX9) S inT_X9 wd_4_8 (by decide) rfl rfl (by decide) rfl dX9_isCommonGood_272 ?_
    refine br_iload_n S 1 dX9_isCommonGood_275 rfl rfl ?_
    refine br_iload_n S 2 dX9_isCommonGood_276 rfl rfl ?_
    refine br_if_le S 287 hx2 dX9_isCommonGood_277 (by decide) (fun c2 => ?_) (fun c2 => ?_)
    · replace h := h.1 c2
      refine br_iconst S dX9_isCommonGood_287 ?_
      exact bA.perm [0, 1, 2] rfl <| wX9_isCommonGood_288 S hr hlk hP7 hP28 hP38 hP176 hP188 hP199 hx1 hx2 (by decide) hx1 hσ h
    · replace h := h.2 c2
      refine br_aload_n S 0 dX9_isCommonGood_280 rfl rfl ?_
      refine br_get (f := 19) (N := 37) (C := RX9) (T := TX9) S inT_X9 wd_4_13 (by decide) rfl rfl (by decide) rfl dX9_isCommonGood_281 ?_
      refine br_goto S 288 dX9_isCommonGood_284 (by decide) ?_
      exact bA.perm [0, 1, 2] rfl <| wX9_isCommonGood_288 S hr hlk hP7 hP28 hP38 hP176 hP188 hP199 hx1 hx2 (hσ 10 19) hx1 hσ h
  · replace h := h.2 c1
    refine br_iconst S dX9_isCommonGood_196 ?_
    refine br_istore S [(4, .int (bI 0)), (0, .ref (G.2.2 10)), (1, .int (bI x1)), (2, .int (bI x2)), (3, .int (bI x3))] dX9_isCommonGood_197 (by decide) rfl ?_
    exact bA.perm [1, 2, 3, 4, 0] rfl <| hP199 x1 x2 x3 0 σ hx1 hx2 hx3 (by decide) hσ h
def vX9_isCommonGood_257 (Q : Int → bS → Prop) (P7 : Int → bS → Prop) (P28 : Int → bS → Prop) (P38 : Int → Int → bS → Prop) (P176 : Int → bS → Prop) (P188 : Int → Int → Int → bS → Prop) (P199 : Int → Int → Int → Int → bS → Prop) (x1 : Int) (x3 : Int) (x4 : Int) (s0 : Int) (s1 : Int) (σ : bS) : Prop := (bR (s1 + s0) ∧ (bR (x4 + 1) ∧ (P199 x1 (s1 + s0) x3 (x4 + 1) σ)))
theorem mono_vX9_isCommonGood_257 {Q Q9 : Int → bS → Prop} {P7 P79 : Int → bS → Prop} {P28 P289 : Int → bS → Prop} {P38 P389 : Int → Int → bS → Prop} {P176 P1769 : Int → bS → Prop} {P188 P1889 : Int → Int → Int → bS → Prop} {P199 P1999 : Int → Int → Int → Int → bS → Prop} {x1 : Int} {x3 : Int} {x4 : Int} {s0 : Int} {s1 : Int} {σ : bS} (hQ : ∀ r σ, Q r σ → Q9 r σ) (hP7 : ∀ x1 σ, P7 x1 σ → P79 x1 σ) (hP28 : ∀ x1 σ, P28 x1 σ → P289 x1 σ) (hP38 : ∀ x1 x2 σ, P38 x1 x2 σ → P389 x1 x2 σ) (hP176 : ∀ x1 σ, P176 x1 σ → P1769 x1 σ) (hP188 : ∀ x1 x2 x3 σ, P188 x1 x2 x3 σ → P1889 x1 x2 x3 σ) (hP199 : ∀ x1 x2 x3 x4 σ, P199 x1 x2 x3 x4 σ → P1999 x1 x2 x3 x4 σ) : vX9_isCommonGood_257 Q P7 P28 P38 P176 P188 P199 x1 x3 x4 s0 s1 σ → vX9_isCommonGood_257 Q9 P79 P289 P389 P1769 P1889 P1999 x1 x3 x4 s0 s1 σ := (bm_r (bm_r (hP199 _ _ _ _ _)))
theorem wX9_isCommonGood_257 {p : Program} {l : Launch} {e : Env} {s : State} {m : MethodId} {args : Array Value} {below : List Frame} {meth : Method} {c : Code} {G : bG} {σ0 : bS} {Q : Int → bS → Prop} {P7 : Int → bS → Prop} {P28 : Int → bS → Prop} {P38 : Int → Int → bS → Prop} {P176 : Int → bS → Prop} {P188 : Int → Int → Int → bS → Prop} {P199 : Int → Int → Int → Int → bS → Prop} {x1 : Int} {x3 : Int} {x4 : Int} {s0 : Int} {s1 : Int} {σ : bS} (S : CallFix p m c cX9_isCommonGood 5 s args bT "BankLinkerModel") (hr : meth.sig.returnType = some .boolean) (hlk : meth.locks = false) (hP7 : ∀ (x1 : Int) (σ : bS), bR x1 → bRG σ → P7 x1 σ → bA p l e { frames := 3, cells := 0, slots := 0, locals := 65 } s m args below meth c 0 0 (bQi below args s G σ0 Q) G (va_A (bk_w G σ0) s.heap.size) 5 7 [(0, .ref (G.2.2 10)), (1, .int (bI x1))] [] σ) (hP28 : ∀ (x1 : Int) (σ : bS), bR x1 → bRG σ → P28 x1 σ → bA p l e { frames := 3, cells := 0, slots := 0, locals := 65 } s m args below meth c 0 0 (bQi below args s G σ0 Q) G (va_A (bk_w G σ0) s.heap.size) 5 28 [(0, .ref (G.2.2 10)), (1, .int (bI x1))] [] σ) (hP38 : ∀ (x1 : Int) (x2 : Int) (σ : bS), bR x1 → bR x2 → bRG σ → P38 x1 x2 σ → bA p l e { frames := 3, cells := 0, slots := 0, locals := 65 } s m args below meth c 0 0 (bQi below args s G σ0 Q) G (va_A (bk_w G σ0) s.heap.size) 5 38 [(0, .ref (G.2.2 10)), (1, .int (bI x1)), (2, .int (bI x2))] [] σ) (hP176 : ∀ (x1 : Int) (σ : bS), bR x1 → bRG σ → P176 x1 σ → bA p l e { frames := 3, cells := 0, slots := 0, locals := 65 } s m args below meth c 0 0 (bQi below args s G σ0 Q) G (va_A (bk_w G σ0) s.heap.size) 5 176 [(0, .ref (G.2.2 10)), (1, .int (bI x1))] [] σ) (hP188 : ∀ (x1 : Int) (x2 : Int) (x3 : Int) (σ : bS), bR x1 → bR x2 → bR x3 → bRG σ → P188 x1 x2 x3 σ → bA p l e { frames := 3, cells := 0, slots := 0, locals := 65 } s m args below meth c 0 0 (bQi below args s G σ0 Q) G (va_A (bk_w G σ0) s.heap.size) 5 188 [(0, .ref (G.2.2 10)), (1, .int (bI x1)), (2, .int (bI x2)), (3, .int (bI x3))] [] σ) (hP199 : ∀ (x1 : Int) (x2 : Int) (x3 : Int) (x4 : Int) (σ : bS), bR x1 → bR x2 → bR x3 → bR x4 → bRG σ → P199 x1 x2 x3 x4 σ → bA p l e { frames := 3, cells := 0, slots := 0, locals := 65 } s m args below meth c 0 0 (bQi below args s G σ0 Q) G (va_A (bk_w G σ0) s.heap.size) 5 199 [(0, .ref (G.2.2 10)), (1, .int (bI x1)), (2, .int (bI x2)), (3, .int (bI x3)), (4, .int (bI x4))] [] σ) (hx1 : bR x1) (hx3 : bR x3) (hx4 : bR x4) (hs0 : bR s0) (hs1 : bR s1) (hσ : bRG σ) (h : vX9_isCommonGood_257 Q P7 P28 P38 P176 P188 P199 x1 x3 x4 s0 s1 σ) : bA p l e { frames := 3, cells := 0, slots := 0, locals := 65 } s m args below meth c 0 0 (bQi below args s G σ0 Q) G (va_A (bk_w G σ0) s.heap.size) 5 257 [(0, .ref (G.2.2 10)), (1, .int (bI x1)), (3, .int (bI x3)), (4, .int (bI x4))] [.int (bI s0), .int (bI s1)] σ := by
  unfold vX9_isCommonGood_257 at h
  refine br_iadd S dX9_isCommonGood_257 ?_
  refine br_istore_n S [(2, .int (bI (s1 + s0))), (0, .ref (G.2.2 10)), (1, .int (bI x1)), (3, .int (bI x3)), (4, .int (bI x4))] dX9_isCommonGood_258 rfl (by decide) rfl ?_
  refine br_iinc S 4 [(4, .int (bI (x4 + 1))), (2, .int (bI (s1 + s0))), (0, .ref (G.2.2 10)), (1, .int (bI x1)), (3, .int (bI x3))] dX9_isCommonGood_259 rfl (by decide) rfl ?_
  refine br_goto S 199 dX9_isCommonGood_262 (by decide) ?_
  obtain ⟨g1, h⟩ := h
  obtain ⟨g2, h⟩ := h
  exact bA.perm [2, 3, 1, 4, 0] rfl <| hP199 x1 (s1 + s0) x3 (x4 + 1) σ hx1 g1 hx3 g2 hσ h
def vX9_isCommonGood_256 (Q : Int → bS → Prop) (P7 : Int → bS → Prop) (P28 : Int → bS → Prop) (P38 : Int → Int → bS → Prop) (P176 : Int → bS → Prop) (P188 : Int → Int → Int → bS → Prop) (P199 : Int → Int → Int → Int → bS → Prop) (x1 : Int) (x3 : Int) (x4 : Int) (s0 : Int) (σ : bS) : Prop := (vX9_isCommonGood_257 Q P7 P28 P38 P176 P188 P199 x1 x3 x4 0 s0 σ)
theorem mono_vX9_isCommonGood_256 {Q Q9 : Int → bS → Prop} {P7 P79 : Int → bS → Prop} {P28 P289 : Int → bS → Prop} {P38 P389 : Int → Int → bS → Prop} {P176 P1769 : Int → bS → Prop} {P188 P1889 : Int → Int → Int → bS → Prop} {P199 P1999 : Int → Int → Int → Int → bS → Prop} {x1 : Int} {x3 : Int} {x4 : Int} {s0 : Int} {σ : bS} (hQ : ∀ r σ, Q r σ → Q9 r σ) (hP7 : ∀ x1 σ, P7 x1 σ → P79 x1 σ) (hP28 : ∀ x1 σ, P28 x1 σ → P289 x1 σ) (hP38 : ∀ x1 x2 σ, P38 x1 x2 σ → P389 x1 x2 σ) (hP176 : ∀ x1 σ, P176 x1 σ → P1769 x1 σ) (hP188 : ∀ x1 x2 x3 σ, P188 x1 x2 x3 σ → P1889 x1 x2 x3 σ) (hP199 : ∀ x1 x2 x3 x4 σ, P199 x1 x2 x3 x4 σ → P1999 x1 x2 x3 x4 σ) : vX9_isCommonGood_256 Q P7 P28 P38 P176 P188 P199 x1 x3 x4 s0 σ → vX9_isCommonGood_256 Q9 P79 P289 P389 P1769 P1889 P1999 x1 x3 x4 s0 σ := (mono_vX9_isCommonGood_257 hQ hP7 hP28 hP38 hP176 hP188 hP199)
theorem wX9_isCommonGood_256 {p : Program} {l : Launch} {e : Env} {s : State} {m : MethodId} {args : Array Value} {below : List Frame} {meth : Method} {c : Code} {G : bG} {σ0 : bS} {Q : Int → bS → Prop} {P7 : Int → bS → Prop} {P28 : Int → bS → Prop} {P38 : Int → Int → bS → Prop} {P176 : Int → bS → Prop} {P188 : Int → Int → Int → bS → Prop} {P199 : Int → Int → Int → Int → bS → Prop} {x1 : Int} {x3 : Int} {x4 : Int} {s0 : Int} {σ : bS} (S : CallFix p m c cX9_isCommonGood 5 s args bT "BankLinkerModel") (hr : meth.sig.returnType = some .boolean) (hlk : meth.locks = false) (hP7 : ∀ (x1 : Int) (σ : bS), bR x1 → bRG σ → P7 x1 σ → bA p l e { frames := 3, cells := 0, slots := 0, locals := 65 } s m args below meth c 0 0 (bQi below args s G σ0 Q) G (va_A (bk_w G σ0) s.heap.size) 5 7 [(0, .ref (G.2.2 10)), (1, .int (bI x1))] [] σ) (hP28 : ∀ (x1 : Int) (σ : bS), bR x1 → bRG σ → P28 x1 σ → bA p l e { frames := 3, cells := 0, slots := 0, locals := 65 } s m args below meth c 0 0 (bQi below args s G σ0 Q) G (va_A (bk_w G σ0) s.heap.size) 5 28 [(0, .ref (G.2.2 10)), (1, .int (bI x1))] [] σ) (hP38 : ∀ (x1 : Int) (x2 : Int) (σ : bS), bR x1 → bR x2 → bRG σ → P38 x1 x2 σ → bA p l e { frames := 3, cells := 0, slots := 0, locals := 65 } s m args below meth c 0 0 (bQi below args s G σ0 Q) G (va_A (bk_w G σ0) s.heap.size) 5 38 [(0, .ref (G.2.2 10)), (1, .int (bI x1)), (2, .int (bI x2))] [] σ) (hP176 : ∀ (x1 : Int) (σ : bS), bR x1 → bRG σ → P176 x1 σ → bA p l e { frames := 3, cells := 0, slots := 0, locals := 65 } s m args below meth c 0 0 (bQi below args s G σ0 Q) G (va_A (bk_w G σ0) s.heap.size) 5 176 [(0, .ref (G.2.2 10)), (1, .int (bI x1))] [] σ) (hP188 : ∀ (x1 : Int) (x2 : Int) (x3 : Int) (σ : bS), bR x1 → bR x2 → bR x3 → bRG σ → P188 x1 x2 x3 σ → bA p l e { frames := 3, cells := 0, slots := 0, locals := 65 } s m args below meth c 0 0 (bQi below args s G σ0 Q) G (va_A (bk_w G σ0) s.heap.size) 5 188 [(0, .ref (G.2.2 10)), (1, .int (bI x1)), (2, .int (bI x2)), (3, .int (bI x3))] [] σ) (hP199 : ∀ (x1 : Int) (x2 : Int) (x3 : Int) (x4 : Int) (σ : bS), bR x1 → bR x2 → bR x3 → bR x4 → bRG σ → P199 x1 x2 x3 x4 σ → bA p l e { frames := 3, cells := 0, slots := 0, locals := 65 } s m args below meth c 0 0 (bQi below args s G σ0 Q) G (va_A (bk_w G σ0) s.heap.size) 5 199 [(0, .ref (G.2.2 10)), (1, .int (bI x1)), (2, .int (bI x2)), (3, .int (bI x3)), (4, .int (bI x4))] [] σ) (hx1 : bR x1) (hx3 : bR x3) (hx4 : bR x4) (hs0 : bR s0) (hσ : bRG σ) (h : vX9_isCommonGood_256 Q P7 P28 P38 P176 P188 P199 x1 x3 x4 s0 σ) : bA p l e { frames := 3, cells := 0, slots := 0, locals := 65 } s m args below meth c 0 0 (bQi below args s G σ0 Q) G (va_A (bk_w G σ0) s.heap.size) 5 256 [(0, .ref (G.2.2 10)), (1, .int (bI x1)), (3, .int (bI x3)), (4, .int (bI x4))] [.int (bI s0)] σ := by
  unfold vX9_isCommonGood_256 at h
  refine br_iconst S dX9_isCommonGood_256 ?_
  exact wX9_isCommonGood_257 S hr hlk hP7 hP28 hP38 hP176 hP188 hP199 hx1 hx3 hx4 (by decide) hs0 hσ h
def bX9_isCommonGood_199 (Q : Int → bS → Prop) (P7 : Int → bS → Prop) (P28 : Int → bS → Prop) (P38 : Int → Int → bS → Prop) (P176 : Int → bS → Prop) (P188 : Int → Int → Int → bS → Prop) (P199 : Int → Int → Int → Int → bS → Prop) (x1 : Int) (x2 : Int) (x3 : Int) (x4 : Int) (σ : bS) : Prop := ((0 ≤ x3 ∧ x3 < 30) ∧ (((σ 52 x3) ≤ x4 → (bR (x3 + 1) ∧ (P188 x1 x2 (x3 + 1) σ))) ∧ (¬ (σ 52 x3) ≤ x4 → ((0 ≤ ((40 * x3) + x4) ∧ ((40 * x3) + x4) < 1200) ∧ ((¬ (σ 53 ((40 * x3) + x4)) = 5 → (vX9_isCommonGood_256 Q P7 P28 P38 P176 P188 P199 x1 x3 x4 x2 σ)) ∧ ((σ 53 ((40 * x3) + x4)) = 5 → ((¬ (σ 54 ((40 * x3) + x4)) = x1 → (vX9_isCommonGood_256 Q P7 P28 P38 P176 P188 P199 x1 x3 x4 x2 σ)) ∧ ((σ 54 ((40 * x3) + x4)) = x1 → (vX9_isFar (fun z7 σ8 => ((z7 = 0 → (vX9_isCommonGood_256 Q P7 P28 P38 P176 P188 P199 x1 x3 x4 x2 σ8)) ∧ (¬ z7 = 0 → (vX9_isCommonGood_257 Q P7 P28 P38 P176 P188 P199 x1 x3 x4 1 x2 σ8)))) x3 x1 σ)))))))))
theorem mono_bX9_isCommonGood_199 {Q Q9 : Int → bS → Prop} {P7 P79 : Int → bS → Prop} {P28 P289 : Int → bS → Prop} {P38 P389 : Int → Int → bS → Prop} {P176 P1769 : Int → bS → Prop} {P188 P1889 : Int → Int → Int → bS → Prop} {P199 P1999 : Int → Int → Int → Int → bS → Prop} {x1 : Int} {x2 : Int} {x3 : Int} {x4 : Int} {σ : bS} (hQ : ∀ r σ, Q r σ → Q9 r σ) (hP7 : ∀ x1 σ, P7 x1 σ → P79 x1 σ) (hP28 : ∀ x1 σ, P28 x1 σ → P289 x1 σ) (hP38 : ∀ x1 x2 σ, P38 x1 x2 σ → P389 x1 x2 σ) (hP176 : ∀ x1 σ, P176 x1 σ → P1769 x1 σ) (hP188 : ∀ x1 x2 x3 σ, P188 x1 x2 x3 σ → P1889 x1 x2 x3 σ) (hP199 : ∀ x1 x2 x3 x4 σ, P199 x1 x2 x3 x4 σ → P1999 x1 x2 x3 x4 σ) : bX9_isCommonGood_199 Q P7 P28 P38 P176 P188 P199 x1 x2 x3 x4 σ → bX9_isCommonGood_199 Q9 P79 P289 P389 P1769 P1889 P1999 x1 x2 x3 x4 σ := (bm_r (bm_and (bm_imp (bm_r (hP188 _ _ _ _))) (bm_imp (bm_r (bm_and (bm_imp (mono_vX9_isCommonGood_256 hQ hP7 hP28 hP38 hP176 hP188 hP199)) (bm_imp (bm_and (bm_imp (mono_vX9_isCommonGood_256 hQ hP7 hP28 hP38 hP176 hP188 hP199)) (bm_imp (mono_X9_isFar (fun _ _ => (bm_and (bm_imp (mono_vX9_isCommonGood_256 hQ hP7 hP28 hP38 hP176 hP188 hP199)) (bm_imp (mono_vX9_isCommonGood_257 hQ hP7 hP28 hP38 hP176 hP188 hP199)))))))))))))
theorem wX9_isCommonGood_199 {p : Program} {l : Launch} {e : Env} {s : State} {m : MethodId} {args : Array Value} {below : List Frame} {meth : Method} {c : Code} {G : bG} {σ0 : bS} {Q : Int → bS → Prop} {P7 : Int → bS → Prop} {P28 : Int → bS → Prop} {P38 : Int → Int → bS → Prop} {P176 : Int → bS → Prop} {P188 : Int → Int → Int → bS → Prop} {P199 : Int → Int → Int → Int → bS → Prop} {x1 : Int} {x2 : Int} {x3 : Int} {x4 : Int} {σ : bS} (S : CallFix p m c cX9_isCommonGood 5 s args bT "BankLinkerModel") (hr : meth.sig.returnType = some .boolean) (hlk : meth.locks = false) (hP7 : ∀ (x1 : Int) (σ : bS), bR x1 → bRG σ → P7 x1 σ → bA p l e { frames := 3, cells := 0, slots := 0, locals := 65 } s m args below meth c 0 0 (bQi below args s G σ0 Q) G (va_A (bk_w G σ0) s.heap.size) 5 7 [(0, .ref (G.2.2 10)), (1, .int (bI x1))] [] σ) (hP28 : ∀ (x1 : Int) (σ : bS), bR x1 → bRG σ → P28 x1 σ → bA p l e { frames := 3, cells := 0, slots := 0, locals := 65 } s m args below meth c 0 0 (bQi below args s G σ0 Q) G (va_A (bk_w G σ0) s.heap.size) 5 28 [(0, .ref (G.2.2 10)), (1, .int (bI x1))] [] σ) (hP38 : ∀ (x1 : Int) (x2 : Int) (σ : bS), bR x1 → bR x2 → bRG σ → P38 x1 x2 σ → bA p l e { frames := 3, cells := 0, slots := 0, locals := 65 } s m args below meth c 0 0 (bQi below args s G σ0 Q) G (va_A (bk_w G σ0) s.heap.size) 5 38 [(0, .ref (G.2.2 10)), (1, .int (bI x1)), (2, .int (bI x2))] [] σ) (hP176 : ∀ (x1 : Int) (σ : bS), bR x1 → bRG σ → P176 x1 σ → bA p l e { frames := 3, cells := 0, slots := 0, locals := 65 } s m args below meth c 0 0 (bQi below args s G σ0 Q) G (va_A (bk_w G σ0) s.heap.size) 5 176 [(0, .ref (G.2.2 10)), (1, .int (bI x1))] [] σ) (hP188 : ∀ (x1 : Int) (x2 : Int) (x3 : Int) (σ : bS), bR x1 → bR x2 → bR x3 → bRG σ → P188 x1 x2 x3 σ → bA p l e { frames := 3, cells := 0, slots := 0, locals := 65 } s m args below meth c 0 0 (bQi below args s G σ0 Q) G (va_A (bk_w G σ0) s.heap.size) 5 188 [(0, .ref (G.2.2 10)), (1, .int (bI x1)), (2, .int (bI x2)), (3, .int (bI x3))] [] σ) (hP199 : ∀ (x1 : Int) (x2 : Int) (x3 : Int) (x4 : Int) (σ : bS), bR x1 → bR x2 → bR x3 → bR x4 → bRG σ → P199 x1 x2 x3 x4 σ → bA p l e { frames := 3, cells := 0, slots := 0, locals := 65 } s m args below meth c 0 0 (bQi below args s G σ0 Q) G (va_A (bk_w G σ0) s.heap.size) 5 199 [(0, .ref (G.2.2 10)), (1, .int (bI x1)), (2, .int (bI x2)), (3, .int (bI x3)), (4, .int (bI x4))] [] σ) (hx1 : bR x1) (hx2 : bR x2) (hx3 : bR x3) (hx4 : bR x4) (hσ : bRG σ) (h : bX9_isCommonGood_199 Q P7 P28 P38 P176 P188 P199 x1 x2 x3 x4 σ) : bA p l e { frames := 3, cells := 0, slots := 0, locals := 65 } s m args below meth c 0 0 (bQi below args s G σ0 Q) G (va_A (bk_w G σ0) s.heap.size) 5 199 [(0, .ref (G.2.2 10)), (1, .int (bI x1)), (2, .int (bI x2)), (3, .int (bI x3)), (4, .int (bI x4))] [] σ := by
  unfold bX9_isCommonGood_199 at h
  refine br_iload S 4 dX9_isCommonGood_199 rfl ?_
  refine br_aload_n S 0 dX9_isCommonGood_201 rfl rfl ?_
  refine br_get (f := 6) (N := 37) (C := RX9) (T := TX9) S inT_X9 wd_4_0 (by decide) rfl rfl (by decide) rfl dX9_isCommonGood_202 ?_
  refine br_iload_n S 3 dX9_isCommonGood_205 rfl rfl ?_
  obtain ⟨g1, h⟩ := h
  refine br_iald (n := 30) S ⟨by decide, by decide, fun _ => rfl⟩ g1.1 g1.2 dX9_isCommonGood_206 ?_
  refine br_ic_ge S 265 hx4 (hσ 52 x3) dX9_isCommonGood_207 (by decide) (fun c2 => ?_) (fun c2 => ?_)
  · replace h := h.1 c2
    refine br_iinc S 3 [(3, .int (bI (x3 + 1))), (0, .ref (G.2.2 10)), (1, .int (bI x1)), (2, .int (bI x2)), (4, .int (bI x4))] dX9_isCommonGood_265 rfl (by decide) rfl ?_
    refine br_goto S 188 dX9_isCommonGood_268 (by decide) ?_
    obtain ⟨g3, h⟩ := h
    exact bA.perm [1, 2, 3, 0] rfl <| hP188 x1 x2 (x3 + 1) σ hx1 hx2 g3 hσ h
  · replace h := h.2 c2
    refine br_iload_n S 2 dX9_isCommonGood_210 rfl rfl ?_
    refine br_aload_n S 0 dX9_isCommonGood_211 rfl rfl ?_
    refine br_get (f := 7) (N := 37) (C := RX9) (T := TX9) S inT_X9 wd_4_1 (by decide) rfl rfl (by decide) rfl dX9_isCommonGood_212 ?_
    refine br_bipush S dX9_isCommonGood_215 rfl ?_
    refine br_iload_n S 3 dX9_isCommonGood_217 rfl rfl ?_
    refine br_imul S dX9_isCommonGood_218 ?_
    refine br_iload S 4 dX9_isCommonGood_219 rfl ?_
    refine br_iadd S dX9_isCommonGood_221 ?_
    obtain ⟨g4, h⟩ := h
    refine br_iald (n := 1200) S ⟨by decide, by decide, fun _ => rfl⟩ g4.1 g4.2 dX9_isCommonGood_222 ?_
    refine br_iconst S dX9_isCommonGood_223 ?_
    refine br_ic_ne S 256 (hσ 53 ((40 * x3) + x4)) (by decide) dX9_isCommonGood_224 (by decide) (fun c5 => ?_) (fun c5 => ?_)
    · replace h := h.1 c5
      exact bA.perm [0, 1, 3, 4] rfl <| wX9_isCommonGood_256 S hr hlk hP7 hP28 hP38 hP176 hP188 hP199 hx1 hx3 hx4 hx2 hσ h
    · replace h := h.2 c5
      refine br_aload_n S 0 dX9_isCommonGood_227 rfl rfl ?_
      refine br_get (f := 8) (N := 37) (C := RX9) (T := TX9) S inT_X9 wd_4_2 (by decide) rfl rfl (by decide) rfl dX9_isCommonGood_228 ?_
      refine br_bipush S dX9_isCommonGood_231 rfl ?_
      refine br_iload_n S 3 dX9_isCommonGood_233 rfl rfl ?_
      refine br_imul S dX9_isCommonGood_234 ?_
      refine br_iload S 4 dX9_isCommonGood_235 rfl ?_
      refine br_iadd S dX9_isCommonGood_237 ?_
      refine br_iald (n := 1200) S ⟨by decide, by decide, fun _ => rfl⟩ g4.1 g4.2 dX9_isCommonGood_238 ?_
      refine br_iload_n S 1 dX9_isCommonGood_239 rfl rfl ?_
      refine br_ic_ne S 256 (hσ 54 ((40 * x3) + x4)) hx1 dX9_isCommonGood_240 (by decide) (fun c6 => ?_) (fun c6 => ?_)
      · replace h := h.1 c6
        exact bA.perm [0, 1, 3, 4] rfl <| wX9_isCommonGood_256 S hr hlk hP7 hP28 hP38 hP176 hP188 hP199 hx1 hx3 hx4 hx2 hσ h
      · replace h := h.2 c6
        refine br_aload_n S 0 dX9_isCommonGood_243 rfl rfl ?_
        refine br_iload_n S 3 dX9_isCommonGood_244 rfl rfl ?_
        refine br_iload_n S 1 dX9_isCommonGood_245 rfl rfl ?_
        refine br_callV (As := [.int (bI x3), .int (bI x1)]) (rest := [.int (bI x2)]) S (cwV_X9_isFar S.2.2.2.2 wd_4_188 ⟨by decide, by decide⟩) (mX9_isFar l G σ x3 hx3 x1 hx1 h) (by decide) rfl rfl rfl hσ rfl rfl (Nat.le_of_ble_eq_true rfl) ⟨by decide, by decide⟩ dX9_isCommonGood_246 (fun z7 σ8 hz7 hσ8 h => ?_)
        refine br_if_eq S 256 hz7 dX9_isCommonGood_249 (by decide) (fun c9 => ?_) (fun c9 => ?_)
        · replace h := h.1 c9
          exact bA.perm [0, 1, 3, 4] rfl <| wX9_isCommonGood_256 S hr hlk hP7 hP28 hP38 hP176 hP188 hP199 hx1 hx3 hx4 hx2 hσ8 h
        · replace h := h.2 c9
          refine br_iconst S dX9_isCommonGood_252 ?_
          refine br_goto S 257 dX9_isCommonGood_253 (by decide) ?_
          exact bA.perm [0, 1, 3, 4] rfl <| wX9_isCommonGood_257 S hr hlk hP7 hP28 hP38 hP176 hP188 hP199 hx1 hx3 hx4 (by decide) hx2 hσ8 h
def eX9_isCommonGood (Q : Int → bS → Prop) (P7 : Int → bS → Prop) (P28 : Int → bS → Prop) (P38 : Int → Int → bS → Prop) (P176 : Int → bS → Prop) (P188 : Int → Int → Int → bS → Prop) (P199 : Int → Int → Int → Int → bS → Prop) (σ : bS) : Prop := (∀ σ1 : bS, σ1 = bup σ 10 19 0 → (P7 0 σ1))
theorem mono_eX9_isCommonGood {Q Q9 : Int → bS → Prop} {P7 P79 : Int → bS → Prop} {P28 P289 : Int → bS → Prop} {P38 P389 : Int → Int → bS → Prop} {P176 P1769 : Int → bS → Prop} {P188 P1889 : Int → Int → Int → bS → Prop} {P199 P1999 : Int → Int → Int → Int → bS → Prop} {σ : bS} (hQ : ∀ r σ, Q r σ → Q9 r σ) (hP7 : ∀ x1 σ, P7 x1 σ → P79 x1 σ) (hP28 : ∀ x1 σ, P28 x1 σ → P289 x1 σ) (hP38 : ∀ x1 x2 σ, P38 x1 x2 σ → P389 x1 x2 σ) (hP176 : ∀ x1 σ, P176 x1 σ → P1769 x1 σ) (hP188 : ∀ x1 x2 x3 σ, P188 x1 x2 x3 σ → P1889 x1 x2 x3 σ) (hP199 : ∀ x1 x2 x3 x4 σ, P199 x1 x2 x3 x4 σ → P1999 x1 x2 x3 x4 σ) : eX9_isCommonGood Q P7 P28 P38 P176 P188 P199 σ → eX9_isCommonGood Q9 P79 P289 P389 P1769 P1889 P1999 σ := (bm_all fun _ => bm_imp (hP7 _ _))
theorem wX9_isCommonGood_e {p : Program} {l : Launch} {e : Env} {s : State} {m : MethodId} {args : Array Value} {below : List Frame} {meth : Method} {c : Code} {G : bG} {σ0 : bS} {Q : Int → bS → Prop} {P7 : Int → bS → Prop} {P28 : Int → bS → Prop} {P38 : Int → Int → bS → Prop} {P176 : Int → bS → Prop} {P188 : Int → Int → Int → bS → Prop} {P199 : Int → Int → Int → Int → bS → Prop} {σ : bS} (S : CallFix p m c cX9_isCommonGood 5 s args bT "BankLinkerModel") (hr : meth.sig.returnType = some .boolean) (hlk : meth.locks = false) (hP7 : ∀ (x1 : Int) (σ : bS), bR x1 → bRG σ → P7 x1 σ → bA p l e { frames := 3, cells := 0, slots := 0, locals := 65 } s m args below meth c 0 0 (bQi below args s G σ0 Q) G (va_A (bk_w G σ0) s.heap.size) 5 7 [(0, .ref (G.2.2 10)), (1, .int (bI x1))] [] σ) (hP28 : ∀ (x1 : Int) (σ : bS), bR x1 → bRG σ → P28 x1 σ → bA p l e { frames := 3, cells := 0, slots := 0, locals := 65 } s m args below meth c 0 0 (bQi below args s G σ0 Q) G (va_A (bk_w G σ0) s.heap.size) 5 28 [(0, .ref (G.2.2 10)), (1, .int (bI x1))] [] σ) (hP38 : ∀ (x1 : Int) (x2 : Int) (σ : bS), bR x1 → bR x2 → bRG σ → P38 x1 x2 σ → bA p l e { frames := 3, cells := 0, slots := 0, locals := 65 } s m args below meth c 0 0 (bQi below args s G σ0 Q) G (va_A (bk_w G σ0) s.heap.size) 5 38 [(0, .ref (G.2.2 10)), (1, .int (bI x1)), (2, .int (bI x2))] [] σ) (hP176 : ∀ (x1 : Int) (σ : bS), bR x1 → bRG σ → P176 x1 σ → bA p l e { frames := 3, cells := 0, slots := 0, locals := 65 } s m args below meth c 0 0 (bQi below args s G σ0 Q) G (va_A (bk_w G σ0) s.heap.size) 5 176 [(0, .ref (G.2.2 10)), (1, .int (bI x1))] [] σ) (hP188 : ∀ (x1 : Int) (x2 : Int) (x3 : Int) (σ : bS), bR x1 → bR x2 → bR x3 → bRG σ → P188 x1 x2 x3 σ → bA p l e { frames := 3, cells := 0, slots := 0, locals := 65 } s m args below meth c 0 0 (bQi below args s G σ0 Q) G (va_A (bk_w G σ0) s.heap.size) 5 188 [(0, .ref (G.2.2 10)), (1, .int (bI x1)), (2, .int (bI x2)), (3, .int (bI x3))] [] σ) (hP199 : ∀ (x1 : Int) (x2 : Int) (x3 : Int) (x4 : Int) (σ : bS), bR x1 → bR x2 → bR x3 → bR x4 → bRG σ → P199 x1 x2 x3 x4 σ → bA p l e { frames := 3, cells := 0, slots := 0, locals := 65 } s m args below meth c 0 0 (bQi below args s G σ0 Q) G (va_A (bk_w G σ0) s.heap.size) 5 199 [(0, .ref (G.2.2 10)), (1, .int (bI x1)), (2, .int (bI x2)), (3, .int (bI x3)), (4, .int (bI x4))] [] σ) (hσ : bRG σ) (h : eX9_isCommonGood Q P7 P28 P38 P176 P188 P199 σ) : bA p l e { frames := 3, cells := 0, slots := 0, locals := 65 } s m args below meth c 0 0 (bQi below args s G σ0 Q) G (va_A (bk_w G σ0) s.heap.size) 5 0 [(0, .ref (G.2.2 10))] [] σ := by
  unfold eX9_isCommonGood at h
  refine br_aload_n S 0 dX9_isCommonGood_0 rfl rfl ?_
  refine br_iconst S dX9_isCommonGood_1 ?_
  obtain ⟨σ1, e2⟩ : ∃ τ, τ = bup σ 10 19 0 := ⟨_, rfl⟩
  replace h := h σ1 e2
  have hσ1 : bRG σ1 := by rw [e2]; exact bup_rg hσ (by decide)
  refine br_put (f := 19) (N := 37) (C := RX9) (T := TX9) S tyX9 tyX9_ok nmX9 inT_X9 wd_4_13 (by decide) rfl (pf_10_19 _ _ _) rfl (by decide) (Nat.le_of_ble_eq_true rfl) rfl rfl rfl rfl dX9_isCommonGood_2 ?_
  refine bA.to rfl rfl e2.symm ?_
  refine br_iconst S dX9_isCommonGood_5 ?_
  refine br_istore_n S [(1, .int (bI 0)), (0, .ref (G.2.2 10))] dX9_isCommonGood_6 rfl (by decide) rfl ?_
  exact bA.perm [1, 0] rfl <| hP7 0 σ1 (by decide) hσ1 h
def LX9_isCommonGood_7 (Q : Int → bS → Prop) (x1 : Int) (σ : bS) : Prop := ∀ (P7 : Int → bS → Prop) (P28 : Int → bS → Prop) (P38 : Int → Int → bS → Prop) (P176 : Int → bS → Prop) (P188 : Int → Int → Int → bS → Prop) (P199 : Int → Int → Int → Int → bS → Prop), (∀ x1 σ, bX9_isCommonGood_7 Q P7 P28 P38 P176 P188 P199 x1 σ → P7 x1 σ) → (∀ x1 σ, bX9_isCommonGood_28 Q P7 P28 P38 P176 P188 P199 x1 σ → P28 x1 σ) → (∀ x1 x2 σ, bX9_isCommonGood_38 Q P7 P28 P38 P176 P188 P199 x1 x2 σ → P38 x1 x2 σ) → (∀ x1 σ, bX9_isCommonGood_176 Q P7 P28 P38 P176 P188 P199 x1 σ → P176 x1 σ) → (∀ x1 x2 x3 σ, bX9_isCommonGood_188 Q P7 P28 P38 P176 P188 P199 x1 x2 x3 σ → P188 x1 x2 x3 σ) → (∀ x1 x2 x3 x4 σ, bX9_isCommonGood_199 Q P7 P28 P38 P176 P188 P199 x1 x2 x3 x4 σ → P199 x1 x2 x3 x4 σ) → P7 x1 σ
def LX9_isCommonGood_28 (Q : Int → bS → Prop) (x1 : Int) (σ : bS) : Prop := ∀ (P7 : Int → bS → Prop) (P28 : Int → bS → Prop) (P38 : Int → Int → bS → Prop) (P176 : Int → bS → Prop) (P188 : Int → Int → Int → bS → Prop) (P199 : Int → Int → Int → Int → bS → Prop), (∀ x1 σ, bX9_isCommonGood_7 Q P7 P28 P38 P176 P188 P199 x1 σ → P7 x1 σ) → (∀ x1 σ, bX9_isCommonGood_28 Q P7 P28 P38 P176 P188 P199 x1 σ → P28 x1 σ) → (∀ x1 x2 σ, bX9_isCommonGood_38 Q P7 P28 P38 P176 P188 P199 x1 x2 σ → P38 x1 x2 σ) → (∀ x1 σ, bX9_isCommonGood_176 Q P7 P28 P38 P176 P188 P199 x1 σ → P176 x1 σ) → (∀ x1 x2 x3 σ, bX9_isCommonGood_188 Q P7 P28 P38 P176 P188 P199 x1 x2 x3 σ → P188 x1 x2 x3 σ) → (∀ x1 x2 x3 x4 σ, bX9_isCommonGood_199 Q P7 P28 P38 P176 P188 P199 x1 x2 x3 x4 σ → P199 x1 x2 x3 x4 σ) → P28 x1 σ
def LX9_isCommonGood_38 (Q : Int → bS → Prop) (x1 : Int) (x2 : Int) (σ : bS) : Prop := ∀ (P7 : Int → bS → Prop) (P28 : Int → bS → Prop) (P38 : Int → Int → bS → Prop) (P176 : Int → bS → Prop) (P188 : Int → Int → Int → bS → Prop) (P199 : Int → Int → Int → Int → bS → Prop), (∀ x1 σ, bX9_isCommonGood_7 Q P7 P28 P38 P176 P188 P199 x1 σ → P7 x1 σ) → (∀ x1 σ, bX9_isCommonGood_28 Q P7 P28 P38 P176 P188 P199 x1 σ → P28 x1 σ) → (∀ x1 x2 σ, bX9_isCommonGood_38 Q P7 P28 P38 P176 P188 P199 x1 x2 σ → P38 x1 x2 σ) → (∀ x1 σ, bX9_isCommonGood_176 Q P7 P28 P38 P176 P188 P199 x1 σ → P176 x1 σ) → (∀ x1 x2 x3 σ, bX9_isCommonGood_188 Q P7 P28 P38 P176 P188 P199 x1 x2 x3 σ → P188 x1 x2 x3 σ) → (∀ x1 x2 x3 x4 σ, bX9_isCommonGood_199 Q P7 P28 P38 P176 P188 P199 x1 x2 x3 x4 σ → P199 x1 x2 x3 x4 σ) → P38 x1 x2 σ
def LX9_isCommonGood_176 (Q : Int → bS → Prop) (x1 : Int) (σ : bS) : Prop := ∀ (P7 : Int → bS → Prop) (P28 : Int → bS → Prop) (P38 : Int → Int → bS → Prop) (P176 : Int → bS → Prop) (P188 : Int → Int → Int → bS → Prop) (P199 : Int → Int → Int → Int → bS → Prop), (∀ x1 σ, bX9_isCommonGood_7 Q P7 P28 P38 P176 P188 P199 x1 σ → P7 x1 σ) → (∀ x1 σ, bX9_isCommonGood_28 Q P7 P28 P38 P176 P188 P199 x1 σ → P28 x1 σ) → (∀ x1 x2 σ, bX9_isCommonGood_38 Q P7 P28 P38 P176 P188 P199 x1 x2 σ → P38 x1 x2 σ) → (∀ x1 σ, bX9_isCommonGood_176 Q P7 P28 P38 P176 P188 P199 x1 σ → P176 x1 σ) → (∀ x1 x2 x3 σ, bX9_isCommonGood_188 Q P7 P28 P38 P176 P188 P199 x1 x2 x3 σ → P188 x1 x2 x3 σ) → (∀ x1 x2 x3 x4 σ, bX9_isCommonGood_199 Q P7 P28 P38 P176 P188 P199 x1 x2 x3 x4 σ → P199 x1 x2 x3 x4 σ) → P176 x1 σ
def LX9_isCommonGood_188 (Q : Int → bS → Prop) (x1 : Int) (x2 : Int) (x3 : Int) (σ : bS) : Prop := ∀ (P7 : Int → bS → Prop) (P28 : Int → bS → Prop) (P38 : Int → Int → bS → Prop) (P176 : Int → bS → Prop) (P188 : Int → Int → Int → bS → Prop) (P199 : Int → Int → Int → Int → bS → Prop), (∀ x1 σ, bX9_isCommonGood_7 Q P7 P28 P38 P176 P188 P199 x1 σ → P7 x1 σ) → (∀ x1 σ, bX9_isCommonGood_28 Q P7 P28 P38 P176 P188 P199 x1 σ → P28 x1 σ) → (∀ x1 x2 σ, bX9_isCommonGood_38 Q P7 P28 P38 P176 P188 P199 x1 x2 σ → P38 x1 x2 σ) → (∀ x1 σ, bX9_isCommonGood_176 Q P7 P28 P38 P176 P188 P199 x1 σ → P176 x1 σ) → (∀ x1 x2 x3 σ, bX9_isCommonGood_188 Q P7 P28 P38 P176 P188 P199 x1 x2 x3 σ → P188 x1 x2 x3 σ) → (∀ x1 x2 x3 x4 σ, bX9_isCommonGood_199 Q P7 P28 P38 P176 P188 P199 x1 x2 x3 x4 σ → P199 x1 x2 x3 x4 σ) → P188 x1 x2 x3 σ
def LX9_isCommonGood_199 (Q : Int → bS → Prop) (x1 : Int) (x2 : Int) (x3 : Int) (x4 : Int) (σ : bS) : Prop := ∀ (P7 : Int → bS → Prop) (P28 : Int → bS → Prop) (P38 : Int → Int → bS → Prop) (P176 : Int → bS → Prop) (P188 : Int → Int → Int → bS → Prop) (P199 : Int → Int → Int → Int → bS → Prop), (∀ x1 σ, bX9_isCommonGood_7 Q P7 P28 P38 P176 P188 P199 x1 σ → P7 x1 σ) → (∀ x1 σ, bX9_isCommonGood_28 Q P7 P28 P38 P176 P188 P199 x1 σ → P28 x1 σ) → (∀ x1 x2 σ, bX9_isCommonGood_38 Q P7 P28 P38 P176 P188 P199 x1 x2 σ → P38 x1 x2 σ) → (∀ x1 σ, bX9_isCommonGood_176 Q P7 P28 P38 P176 P188 P199 x1 σ → P176 x1 σ) → (∀ x1 x2 x3 σ, bX9_isCommonGood_188 Q P7 P28 P38 P176 P188 P199 x1 x2 x3 σ → P188 x1 x2 x3 σ) → (∀ x1 x2 x3 x4 σ, bX9_isCommonGood_199 Q P7 P28 P38 P176 P188 P199 x1 x2 x3 x4 σ → P199 x1 x2 x3 x4 σ) → P199 x1 x2 x3 x4 σ
theorem LX9_isCommonGood_7_in {Q : Int → bS → Prop} {x1 : Int} {σ : bS} (h : bX9_isCommonGood_7 Q (LX9_isCommonGood_7 Q) (LX9_isCommonGood_28 Q) (LX9_isCommonGood_38 Q) (LX9_isCommonGood_176 Q) (LX9_isCommonGood_188 Q) (LX9_isCommonGood_199 Q) x1 σ) : LX9_isCommonGood_7 Q x1 σ := fun P7 P28 P38 P176 P188 P199 H7 H28 H38 H176 H188 H199 => H7 _ _ (mono_bX9_isCommonGood_7 (fun _ _ h => h) (fun _ _ h => h P7 P28 P38 P176 P188 P199 H7 H28 H38 H176 H188 H199) (fun _ _ h => h P7 P28 P38 P176 P188 P199 H7 H28 H38 H176 H188 H199) (fun _ _ _ h => h P7 P28 P38 P176 P188 P199 H7 H28 H38 H176 H188 H199) (fun _ _ h => h P7 P28 P38 P176 P188 P199 H7 H28 H38 H176 H188 H199) (fun _ _ _ _ h => h P7 P28 P38 P176 P188 P199 H7 H28 H38 H176 H188 H199) (fun _ _ _ _ _ h => h P7 P28 P38 P176 P188 P199 H7 H28 H38 H176 H188 H199) h)
theorem mono_LX9_isCommonGood_7 {Q Q9 : Int → bS → Prop} {x1 : Int} {σ : bS} (hQ : ∀ r σ, Q r σ → Q9 r σ) (h : LX9_isCommonGood_7 Q x1 σ) : LX9_isCommonGood_7 Q9 x1 σ := fun P7 P28 P38 P176 P188 P199 H7 H28 H38 H176 H188 H199 => h P7 P28 P38 P176 P188 P199 (fun _ _ hb => H7 _ _ (mono_bX9_isCommonGood_7 hQ (fun _ _ h => h) (fun _ _ h => h) (fun _ _ _ h => h) (fun _ _ h => h) (fun _ _ _ _ h => h) (fun _ _ _ _ _ h => h) hb)) (fun _ _ hb => H28 _ _ (mono_bX9_isCommonGood_28 hQ (fun _ _ h => h) (fun _ _ h => h) (fun _ _ _ h => h) (fun _ _ h => h) (fun _ _ _ _ h => h) (fun _ _ _ _ _ h => h) hb)) (fun _ _ _ hb => H38 _ _ _ (mono_bX9_isCommonGood_38 hQ (fun _ _ h => h) (fun _ _ h => h) (fun _ _ _ h => h) (fun _ _ h => h) (fun _ _ _ _ h => h) (fun _ _ _ _ _ h => h) hb)) (fun _ _ hb => H176 _ _ (mono_bX9_isCommonGood_176 hQ (fun _ _ h => h) (fun _ _ h => h) (fun _ _ _ h => h) (fun _ _ h => h) (fun _ _ _ _ h => h) (fun _ _ _ _ _ h => h) hb)) (fun _ _ _ _ hb => H188 _ _ _ _ (mono_bX9_isCommonGood_188 hQ (fun _ _ h => h) (fun _ _ h => h) (fun _ _ _ h => h) (fun _ _ h => h) (fun _ _ _ _ h => h) (fun _ _ _ _ _ h => h) hb)) (fun _ _ _ _ _ hb => H199 _ _ _ _ _ (mono_bX9_isCommonGood_199 hQ (fun _ _ h => h) (fun _ _ h => h) (fun _ _ _ h => h) (fun _ _ h => h) (fun _ _ _ _ h => h) (fun _ _ _ _ _ h => h) hb))
theorem LX9_isCommonGood_28_in {Q : Int → bS → Prop} {x1 : Int} {σ : bS} (h : bX9_isCommonGood_28 Q (LX9_isCommonGood_7 Q) (LX9_isCommonGood_28 Q) (LX9_isCommonGood_38 Q) (LX9_isCommonGood_176 Q) (LX9_isCommonGood_188 Q) (LX9_isCommonGood_199 Q) x1 σ) : LX9_isCommonGood_28 Q x1 σ := fun P7 P28 P38 P176 P188 P199 H7 H28 H38 H176 H188 H199 => H28 _ _ (mono_bX9_isCommonGood_28 (fun _ _ h => h) (fun _ _ h => h P7 P28 P38 P176 P188 P199 H7 H28 H38 H176 H188 H199) (fun _ _ h => h P7 P28 P38 P176 P188 P199 H7 H28 H38 H176 H188 H199) (fun _ _ _ h => h P7 P28 P38 P176 P188 P199 H7 H28 H38 H176 H188 H199) (fun _ _ h => h P7 P28 P38 P176 P188 P199 H7 H28 H38 H176 H188 H199) (fun _ _ _ _ h => h P7 P28 P38 P176 P188 P199 H7 H28 H38 H176 H188 H199) (fun _ _ _ _ _ h => h P7 P28 P38 P176 P188 P199 H7 H28 H38 H176 H188 H199) h)
theorem mono_LX9_isCommonGood_28 {Q Q9 : Int → bS → Prop} {x1 : Int} {σ : bS} (hQ : ∀ r σ, Q r σ → Q9 r σ) (h : LX9_isCommonGood_28 Q x1 σ) : LX9_isCommonGood_28 Q9 x1 σ := fun P7 P28 P38 P176 P188 P199 H7 H28 H38 H176 H188 H199 => h P7 P28 P38 P176 P188 P199 (fun _ _ hb => H7 _ _ (mono_bX9_isCommonGood_7 hQ (fun _ _ h => h) (fun _ _ h => h) (fun _ _ _ h => h) (fun _ _ h => h) (fun _ _ _ _ h => h) (fun _ _ _ _ _ h => h) hb)) (fun _ _ hb => H28 _ _ (mono_bX9_isCommonGood_28 hQ (fun _ _ h => h) (fun _ _ h => h) (fun _ _ _ h => h) (fun _ _ h => h) (fun _ _ _ _ h => h) (fun _ _ _ _ _ h => h) hb)) (fun _ _ _ hb => H38 _ _ _ (mono_bX9_isCommonGood_38 hQ (fun _ _ h => h) (fun _ _ h => h) (fun _ _ _ h => h) (fun _ _ h => h) (fun _ _ _ _ h => h) (fun _ _ _ _ _ h => h) hb)) (fun _ _ hb => H176 _ _ (mono_bX9_isCommonGood_176 hQ (fun _ _ h => h) (fun _ _ h => h) (fun _ _ _ h => h) (fun _ _ h => h) (fun _ _ _ _ h => h) (fun _ _ _ _ _ h => h) hb)) (fun _ _ _ _ hb => H188 _ _ _ _ (mono_bX9_isCommonGood_188 hQ (fun _ _ h => h) (fun _ _ h => h) (fun _ _ _ h => h) (fun _ _ h => h) (fun _ _ _ _ h => h) (fun _ _ _ _ _ h => h) hb)) (fun _ _ _ _ _ hb => H199 _ _ _ _ _ (mono_bX9_isCommonGood_199 hQ (fun _ _ h => h) (fun _ _ h => h) (fun _ _ _ h => h) (fun _ _ h => h) (fun _ _ _ _ h => h) (fun _ _ _ _ _ h => h) hb))
theorem LX9_isCommonGood_38_in {Q : Int → bS → Prop} {x1 : Int} {x2 : Int} {σ : bS} (h : bX9_isCommonGood_38 Q (LX9_isCommonGood_7 Q) (LX9_isCommonGood_28 Q) (LX9_isCommonGood_38 Q) (LX9_isCommonGood_176 Q) (LX9_isCommonGood_188 Q) (LX9_isCommonGood_199 Q) x1 x2 σ) : LX9_isCommonGood_38 Q x1 x2 σ := fun P7 P28 P38 P176 P188 P199 H7 H28 H38 H176 H188 H199 => H38 _ _ _ (mono_bX9_isCommonGood_38 (fun _ _ h => h) (fun _ _ h => h P7 P28 P38 P176 P188 P199 H7 H28 H38 H176 H188 H199) (fun _ _ h => h P7 P28 P38 P176 P188 P199 H7 H28 H38 H176 H188 H199) (fun _ _ _ h => h P7 P28 P38 P176 P188 P199 H7 H28 H38 H176 H188 H199) (fun _ _ h => h P7 P28 P38 P176 P188 P199 H7 H28 H38 H176 H188 H199) (fun _ _ _ _ h => h P7 P28 P38 P176 P188 P199 H7 H28 H38 H176 H188 H199) (fun _ _ _ _ _ h => h P7 P28 P38 P176 P188 P199 H7 H28 H38 H176 H188 H199) h)
theorem mono_LX9_isCommonGood_38 {Q Q9 : Int → bS → Prop} {x1 : Int} {x2 : Int} {σ : bS} (hQ : ∀ r σ, Q r σ → Q9 r σ) (h : LX9_isCommonGood_38 Q x1 x2 σ) : LX9_isCommonGood_38 Q9 x1 x2 σ := fun P7 P28 P38 P176 P188 P199 H7 H28 H38 H176 H188 H199 => h P7 P28 P38 P176 P188 P199 (fun _ _ hb => H7 _ _ (mono_bX9_isCommonGood_7 hQ (fun _ _ h => h) (fun _ _ h => h) (fun _ _ _ h => h) (fun _ _ h => h) (fun _ _ _ _ h => h) (fun _ _ _ _ _ h => h) hb)) (fun _ _ hb => H28 _ _ (mono_bX9_isCommonGood_28 hQ (fun _ _ h => h) (fun _ _ h => h) (fun _ _ _ h => h) (fun _ _ h => h) (fun _ _ _ _ h => h) (fun _ _ _ _ _ h => h) hb)) (fun _ _ _ hb => H38 _ _ _ (mono_bX9_isCommonGood_38 hQ (fun _ _ h => h) (fun _ _ h => h) (fun _ _ _ h => h) (fun _ _ h => h) (fun _ _ _ _ h => h) (fun _ _ _ _ _ h => h) hb)) (fun _ _ hb => H176 _ _ (mono_bX9_isCommonGood_176 hQ (fun _ _ h => h) (fun _ _ h => h) (fun _ _ _ h => h) (fun _ _ h => h) (fun _ _ _ _ h => h) (fun _ _ _ _ _ h => h) hb)) (fun _ _ _ _ hb => H188 _ _ _ _ (mono_bX9_isCommonGood_188 hQ (fun _ _ h => h) (fun _ _ h => h) (fun _ _ _ h => h) (fun _ _ h => h) (fun _ _ _ _ h => h) (fun _ _ _ _ _ h => h) hb)) (fun _ _ _ _ _ hb => H199 _ _ _ _ _ (mono_bX9_isCommonGood_199 hQ (fun _ _ h => h) (fun _ _ h => h) (fun _ _ _ h => h) (fun _ _ h => h) (fun _ _ _ _ h => h) (fun _ _ _ _ _ h => h) hb))
theorem LX9_isCommonGood_176_in {Q : Int → bS → Prop} {x1 : Int} {σ : bS} (h : bX9_isCommonGood_176 Q (LX9_isCommonGood_7 Q) (LX9_isCommonGood_28 Q) (LX9_isCommonGood_38 Q) (LX9_isCommonGood_176 Q) (LX9_isCommonGood_188 Q) (LX9_isCommonGood_199 Q) x1 σ) : LX9_isCommonGood_176 Q x1 σ := fun P7 P28 P38 P176 P188 P199 H7 H28 H38 H176 H188 H199 => H176 _ _ (mono_bX9_isCommonGood_176 (fun _ _ h => h) (fun _ _ h => h P7 P28 P38 P176 P188 P199 H7 H28 H38 H176 H188 H199) (fun _ _ h => h P7 P28 P38 P176 P188 P199 H7 H28 H38 H176 H188 H199) (fun _ _ _ h => h P7 P28 P38 P176 P188 P199 H7 H28 H38 H176 H188 H199) (fun _ _ h => h P7 P28 P38 P176 P188 P199 H7 H28 H38 H176 H188 H199) (fun _ _ _ _ h => h P7 P28 P38 P176 P188 P199 H7 H28 H38 H176 H188 H199) (fun _ _ _ _ _ h => h P7 P28 P38 P176 P188 P199 H7 H28 H38 H176 H188 H199) h)
theorem mono_LX9_isCommonGood_176 {Q Q9 : Int → bS → Prop} {x1 : Int} {σ : bS} (hQ : ∀ r σ, Q r σ → Q9 r σ) (h : LX9_isCommonGood_176 Q x1 σ) : LX9_isCommonGood_176 Q9 x1 σ := fun P7 P28 P38 P176 P188 P199 H7 H28 H38 H176 H188 H199 => h P7 P28 P38 P176 P188 P199 (fun _ _ hb => H7 _ _ (mono_bX9_isCommonGood_7 hQ (fun _ _ h => h) (fun _ _ h => h) (fun _ _ _ h => h) (fun _ _ h => h) (fun _ _ _ _ h => h) (fun _ _ _ _ _ h => h) hb)) (fun _ _ hb => H28 _ _ (mono_bX9_isCommonGood_28 hQ (fun _ _ h => h) (fun _ _ h => h) (fun _ _ _ h => h) (fun _ _ h => h) (fun _ _ _ _ h => h) (fun _ _ _ _ _ h => h) hb)) (fun _ _ _ hb => H38 _ _ _ (mono_bX9_isCommonGood_38 hQ (fun _ _ h => h) (fun _ _ h => h) (fun _ _ _ h => h) (fun _ _ h => h) (fun _ _ _ _ h => h) (fun _ _ _ _ _ h => h) hb)) (fun _ _ hb => H176 _ _ (mono_bX9_isCommonGood_176 hQ (fun _ _ h => h) (fun _ _ h => h) (fun _ _ _ h => h) (fun _ _ h => h) (fun _ _ _ _ h => h) (fun _ _ _ _ _ h => h) hb)) (fun _ _ _ _ hb => H188 _ _ _ _ (mono_bX9_isCommonGood_188 hQ (fun _ _ h => h) (fun _ _ h => h) (fun _ _ _ h => h) (fun _ _ h => h) (fun _ _ _ _ h => h) (fun _ _ _ _ _ h => h) hb)) (fun _ _ _ _ _ hb => H199 _ _ _ _ _ (mono_bX9_isCommonGood_199 hQ (fun _ _ h => h) (fun _ _ h => h) (fun _ _ _ h => h) (fun _ _ h => h) (fun _ _ _ _ h => h) (fun _ _ _ _ _ h => h) hb))
theorem LX9_isCommonGood_188_in {Q : Int → bS → Prop} {x1 : Int} {x2 : Int} {x3 : Int} {σ : bS} (h : bX9_isCommonGood_188 Q (LX9_isCommonGood_7 Q) (LX9_isCommonGood_28 Q) (LX9_isCommonGood_38 Q) (LX9_isCommonGood_176 Q) (LX9_isCommonGood_188 Q) (LX9_isCommonGood_199 Q) x1 x2 x3 σ) : LX9_isCommonGood_188 Q x1 x2 x3 σ := fun P7 P28 P38 P176 P188 P199 H7 H28 H38 H176 H188 H199 => H188 _ _ _ _ (mono_bX9_isCommonGood_188 (fun _ _ h => h) (fun _ _ h => h P7 P28 P38 P176 P188 P199 H7 H28 H38 H176 H188 H199) (fun _ _ h => h P7 P28 P38 P176 P188 P199 H7 H28 H38 H176 H188 H199) (fun _ _ _ h => h P7 P28 P38 P176 P188 P199 H7 H28 H38 H176 H188 H199) (fun _ _ h => h P7 P28 P38 P176 P188 P199 H7 H28 H38 H176 H188 H199) (fun _ _ _ _ h => h P7 P28 P38 P176 P188 P199 H7 H28 H38 H176 H188 H199) (fun _ _ _ _ _ h => h P7 P28 P38 P176 P188 P199 H7 H28 H38 H176 H188 H199) h)
theorem mono_LX9_isCommonGood_188 {Q Q9 : Int → bS → Prop} {x1 : Int} {x2 : Int} {x3 : Int} {σ : bS} (hQ : ∀ r σ, Q r σ → Q9 r σ) (h : LX9_isCommonGood_188 Q x1 x2 x3 σ) : LX9_isCommonGood_188 Q9 x1 x2 x3 σ := fun P7 P28 P38 P176 P188 P199 H7 H28 H38 H176 H188 H199 => h P7 P28 P38 P176 P188 P199 (fun _ _ hb => H7 _ _ (mono_bX9_isCommonGood_7 hQ (fun _ _ h => h) (fun _ _ h => h) (fun _ _ _ h => h) (fun _ _ h => h) (fun _ _ _ _ h => h) (fun _ _ _ _ _ h => h) hb)) (fun _ _ hb => H28 _ _ (mono_bX9_isCommonGood_28 hQ (fun _ _ h => h) (fun _ _ h => h) (fun _ _ _ h => h) (fun _ _ h => h) (fun _ _ _ _ h => h) (fun _ _ _ _ _ h => h) hb)) (fun _ _ _ hb => H38 _ _ _ (mono_bX9_isCommonGood_38 hQ (fun _ _ h => h) (fun _ _ h => h) (fun _ _ _ h => h) (fun _ _ h => h) (fun _ _ _ _ h => h) (fun _ _ _ _ _ h => h) hb)) (fun _ _ hb => H176 _ _ (mono_bX9_isCommonGood_176 hQ (fun _ _ h => h) (fun _ _ h => h) (fun _ _ _ h => h) (fun _ _ h => h) (fun _ _ _ _ h => h) (fun _ _ _ _ _ h => h) hb)) (fun _ _ _ _ hb => H188 _ _ _ _ (mono_bX9_isCommonGood_188 hQ (fun _ _ h => h) (fun _ _ h => h) (fun _ _ _ h => h) (fun _ _ h => h) (fun _ _ _ _ h => h) (fun _ _ _ _ _ h => h) hb)) (fun _ _ _ _ _ hb => H199 _ _ _ _ _ (mono_bX9_isCommonGood_199 hQ (fun _ _ h => h) (fun _ _ h => h) (fun _ _ _ h => h) (fun _ _ h => h) (fun _ _ _ _ h => h) (fun _ _ _ _ _ h => h) hb))
theorem LX9_isCommonGood_199_in {Q : Int → bS → Prop} {x1 : Int} {x2 : Int} {x3 : Int} {x4 : Int} {σ : bS} (h : bX9_isCommonGood_199 Q (LX9_isCommonGood_7 Q) (LX9_isCommonGood_28 Q) (LX9_isCommonGood_38 Q) (LX9_isCommonGood_176 Q) (LX9_isCommonGood_188 Q) (LX9_isCommonGood_199 Q) x1 x2 x3 x4 σ) : LX9_isCommonGood_199 Q x1 x2 x3 x4 σ := fun P7 P28 P38 P176 P188 P199 H7 H28 H38 H176 H188 H199 => H199 _ _ _ _ _ (mono_bX9_isCommonGood_199 (fun _ _ h => h) (fun _ _ h => h P7 P28 P38 P176 P188 P199 H7 H28 H38 H176 H188 H199) (fun _ _ h => h P7 P28 P38 P176 P188 P199 H7 H28 H38 H176 H188 H199) (fun _ _ _ h => h P7 P28 P38 P176 P188 P199 H7 H28 H38 H176 H188 H199) (fun _ _ h => h P7 P28 P38 P176 P188 P199 H7 H28 H38 H176 H188 H199) (fun _ _ _ _ h => h P7 P28 P38 P176 P188 P199 H7 H28 H38 H176 H188 H199) (fun _ _ _ _ _ h => h P7 P28 P38 P176 P188 P199 H7 H28 H38 H176 H188 H199) h)
theorem mono_LX9_isCommonGood_199 {Q Q9 : Int → bS → Prop} {x1 : Int} {x2 : Int} {x3 : Int} {x4 : Int} {σ : bS} (hQ : ∀ r σ, Q r σ → Q9 r σ) (h : LX9_isCommonGood_199 Q x1 x2 x3 x4 σ) : LX9_isCommonGood_199 Q9 x1 x2 x3 x4 σ := fun P7 P28 P38 P176 P188 P199 H7 H28 H38 H176 H188 H199 => h P7 P28 P38 P176 P188 P199 (fun _ _ hb => H7 _ _ (mono_bX9_isCommonGood_7 hQ (fun _ _ h => h) (fun _ _ h => h) (fun _ _ _ h => h) (fun _ _ h => h) (fun _ _ _ _ h => h) (fun _ _ _ _ _ h => h) hb)) (fun _ _ hb => H28 _ _ (mono_bX9_isCommonGood_28 hQ (fun _ _ h => h) (fun _ _ h => h) (fun _ _ _ h => h) (fun _ _ h => h) (fun _ _ _ _ h => h) (fun _ _ _ _ _ h => h) hb)) (fun _ _ _ hb => H38 _ _ _ (mono_bX9_isCommonGood_38 hQ (fun _ _ h => h) (fun _ _ h => h) (fun _ _ _ h => h) (fun _ _ h => h) (fun _ _ _ _ h => h) (fun _ _ _ _ _ h => h) hb)) (fun _ _ hb => H176 _ _ (mono_bX9_isCommonGood_176 hQ (fun _ _ h => h) (fun _ _ h => h) (fun _ _ _ h => h) (fun _ _ h => h) (fun _ _ _ _ h => h) (fun _ _ _ _ _ h => h) hb)) (fun _ _ _ _ hb => H188 _ _ _ _ (mono_bX9_isCommonGood_188 hQ (fun _ _ h => h) (fun _ _ h => h) (fun _ _ _ h => h) (fun _ _ h => h) (fun _ _ _ _ h => h) (fun _ _ _ _ _ h => h) hb)) (fun _ _ _ _ _ hb => H199 _ _ _ _ _ (mono_bX9_isCommonGood_199 hQ (fun _ _ h => h) (fun _ _ h => h) (fun _ _ _ h => h) (fun _ _ h => h) (fun _ _ _ _ h => h) (fun _ _ _ _ _ h => h) hb))
def vX9_isCommonGood (Q : Int → bS → Prop) (σ : bS) : Prop := eX9_isCommonGood Q (LX9_isCommonGood_7 Q) (LX9_isCommonGood_28 Q) (LX9_isCommonGood_38 Q) (LX9_isCommonGood_176 Q) (LX9_isCommonGood_188 Q) (LX9_isCommonGood_199 Q) σ
theorem mono_vX9_isCommonGood {Q Q9 : Int → bS → Prop} {σ : bS} (hQ : ∀ r σ, Q r σ → Q9 r σ) : vX9_isCommonGood Q σ → vX9_isCommonGood Q9 σ := mono_eX9_isCommonGood hQ (fun _ _ h => mono_LX9_isCommonGood_7 hQ h) (fun _ _ h => mono_LX9_isCommonGood_28 hQ h) (fun _ _ _ h => mono_LX9_isCommonGood_38 hQ h) (fun _ _ h => mono_LX9_isCommonGood_176 hQ h) (fun _ _ _ _ h => mono_LX9_isCommonGood_188 hQ h) (fun _ _ _ _ _ h => mono_LX9_isCommonGood_199 hQ h)
theorem mono_X9_isCommonGood {Q Q9 : Int → bS → Prop} {σ : bS} (hQ : ∀ r σ, Q r σ → Q9 r σ) : vX9_isCommonGood Q σ → vX9_isCommonGood Q9 σ := mono_vX9_isCommonGood hQ
theorem mX9_isCommonGood (l : Launch) (G : bG) (σ : bS) {Q : Int → bS → Prop} (h : vX9_isCommonGood Q σ) : bk_Mi l yX9_isCommonGood (Cond.code yX9_isCommonGood cX9_isCommonGood 5 (some .boolean) :: bT) { frames := 3, cells := 0, slots := 0, locals := 65 } G σ [.ref (G.2.2 10)] Q := by
  refine bk_Mi.of (cc := cX9_isCommonGood) (maxL := 5) (ret := some .boolean) (by decide) rfl (Nat.le_of_ble_eq_true rfl) ?_
  intro p e s m args below meth c S hr hlk hσ
  let K7 : Int → bS → Prop := fun x1 τ => bR x1 → bRG τ → bA p l e { frames := 3, cells := 0, slots := 0, locals := 65 } s m args below meth c 0 0 (bQi below args s G σ Q) G (va_A (bk_w G σ) s.heap.size) 5 7 [(0, .ref (G.2.2 10)), (1, .int (bI x1))] [] τ
  let K28 : Int → bS → Prop := fun x1 τ => bR x1 → bRG τ → bA p l e { frames := 3, cells := 0, slots := 0, locals := 65 } s m args below meth c 0 0 (bQi below args s G σ Q) G (va_A (bk_w G σ) s.heap.size) 5 28 [(0, .ref (G.2.2 10)), (1, .int (bI x1))] [] τ
  let K38 : Int → Int → bS → Prop := fun x1 x2 τ => bR x1 → bR x2 → bRG τ → bA p l e { frames := 3, cells := 0, slots := 0, locals := 65 } s m args below meth c 0 0 (bQi below args s G σ Q) G (va_A (bk_w G σ) s.heap.size) 5 38 [(0, .ref (G.2.2 10)), (1, .int (bI x1)), (2, .int (bI x2))] [] τ
  let K176 : Int → bS → Prop := fun x1 τ => bR x1 → bRG τ → bA p l e { frames := 3, cells := 0, slots := 0, locals := 65 } s m args below meth c 0 0 (bQi below args s G σ Q) G (va_A (bk_w G σ) s.heap.size) 5 176 [(0, .ref (G.2.2 10)), (1, .int (bI x1))] [] τ
  let K188 : Int → Int → Int → bS → Prop := fun x1 x2 x3 τ => bR x1 → bR x2 → bR x3 → bRG τ → bA p l e { frames := 3, cells := 0, slots := 0, locals := 65 } s m args below meth c 0 0 (bQi below args s G σ Q) G (va_A (bk_w G σ) s.heap.size) 5 188 [(0, .ref (G.2.2 10)), (1, .int (bI x1)), (2, .int (bI x2)), (3, .int (bI x3))] [] τ
  let K199 : Int → Int → Int → Int → bS → Prop := fun x1 x2 x3 x4 τ => bR x1 → bR x2 → bR x3 → bR x4 → bRG τ → bA p l e { frames := 3, cells := 0, slots := 0, locals := 65 } s m args below meth c 0 0 (bQi below args s G σ Q) G (va_A (bk_w G σ) s.heap.size) 5 199 [(0, .ref (G.2.2 10)), (1, .int (bI x1)), (2, .int (bI x2)), (3, .int (bI x3)), (4, .int (bI x4))] [] τ
  have C7 : ∀ x1 τ, bX9_isCommonGood_7 Q K7 K28 K38 K176 K188 K199 x1 τ → K7 x1 τ := fun x1 τ hb hx1 hτ => wX9_isCommonGood_7 S hr hlk (fun x1 σ hx1 hσ h => h hx1 hσ) (fun x1 σ hx1 hσ h => h hx1 hσ) (fun x1 x2 σ hx1 hx2 hσ h => h hx1 hx2 hσ) (fun x1 σ hx1 hσ h => h hx1 hσ) (fun x1 x2 x3 σ hx1 hx2 hx3 hσ h => h hx1 hx2 hx3 hσ) (fun x1 x2 x3 x4 σ hx1 hx2 hx3 hx4 hσ h => h hx1 hx2 hx3 hx4 hσ) hx1 hτ hb
  have C28 : ∀ x1 τ, bX9_isCommonGood_28 Q K7 K28 K38 K176 K188 K199 x1 τ → K28 x1 τ := fun x1 τ hb hx1 hτ => wX9_isCommonGood_28 S hr hlk (fun x1 σ hx1 hσ h => h hx1 hσ) (fun x1 σ hx1 hσ h => h hx1 hσ) (fun x1 x2 σ hx1 hx2 hσ h => h hx1 hx2 hσ) (fun x1 σ hx1 hσ h => h hx1 hσ) (fun x1 x2 x3 σ hx1 hx2 hx3 hσ h => h hx1 hx2 hx3 hσ) (fun x1 x2 x3 x4 σ hx1 hx2 hx3 hx4 hσ h => h hx1 hx2 hx3 hx4 hσ) hx1 hτ hb
  have C38 : ∀ x1 x2 τ, bX9_isCommonGood_38 Q K7 K28 K38 K176 K188 K199 x1 x2 τ → K38 x1 x2 τ := fun x1 x2 τ hb hx1 hx2 hτ => wX9_isCommonGood_38 S hr hlk (fun x1 σ hx1 hσ h => h hx1 hσ) (fun x1 σ hx1 hσ h => h hx1 hσ) (fun x1 x2 σ hx1 hx2 hσ h => h hx1 hx2 hσ) (fun x1 σ hx1 hσ h => h hx1 hσ) (fun x1 x2 x3 σ hx1 hx2 hx3 hσ h => h hx1 hx2 hx3 hσ) (fun x1 x2 x3 x4 σ hx1 hx2 hx3 hx4 hσ h => h hx1 hx2 hx3 hx4 hσ) hx1 hx2 hτ hb
  have C176 : ∀ x1 τ, bX9_isCommonGood_176 Q K7 K28 K38 K176 K188 K199 x1 τ → K176 x1 τ := fun x1 τ hb hx1 hτ => wX9_isCommonGood_176 S hr hlk (fun x1 σ hx1 hσ h => h hx1 hσ) (fun x1 σ hx1 hσ h => h hx1 hσ) (fun x1 x2 σ hx1 hx2 hσ h => h hx1 hx2 hσ) (fun x1 σ hx1 hσ h => h hx1 hσ) (fun x1 x2 x3 σ hx1 hx2 hx3 hσ h => h hx1 hx2 hx3 hσ) (fun x1 x2 x3 x4 σ hx1 hx2 hx3 hx4 hσ h => h hx1 hx2 hx3 hx4 hσ) hx1 hτ hb
  have C188 : ∀ x1 x2 x3 τ, bX9_isCommonGood_188 Q K7 K28 K38 K176 K188 K199 x1 x2 x3 τ → K188 x1 x2 x3 τ := fun x1 x2 x3 τ hb hx1 hx2 hx3 hτ => wX9_isCommonGood_188 S hr hlk (fun x1 σ hx1 hσ h => h hx1 hσ) (fun x1 σ hx1 hσ h => h hx1 hσ) (fun x1 x2 σ hx1 hx2 hσ h => h hx1 hx2 hσ) (fun x1 σ hx1 hσ h => h hx1 hσ) (fun x1 x2 x3 σ hx1 hx2 hx3 hσ h => h hx1 hx2 hx3 hσ) (fun x1 x2 x3 x4 σ hx1 hx2 hx3 hx4 hσ h => h hx1 hx2 hx3 hx4 hσ) hx1 hx2 hx3 hτ hb
  have C199 : ∀ x1 x2 x3 x4 τ, bX9_isCommonGood_199 Q K7 K28 K38 K176 K188 K199 x1 x2 x3 x4 τ → K199 x1 x2 x3 x4 τ := fun x1 x2 x3 x4 τ hb hx1 hx2 hx3 hx4 hτ => wX9_isCommonGood_199 S hr hlk (fun x1 σ hx1 hσ h => h hx1 hσ) (fun x1 σ hx1 hσ h => h hx1 hσ) (fun x1 x2 σ hx1 hx2 hσ h => h hx1 hx2 hσ) (fun x1 σ hx1 hσ h => h hx1 hσ) (fun x1 x2 x3 σ hx1 hx2 hx3 hσ h => h hx1 hx2 hx3 hσ) (fun x1 x2 x3 x4 σ hx1 hx2 hx3 hx4 hσ h => h hx1 hx2 hx3 hx4 hσ) hx1 hx2 hx3 hx4 hτ hb
  exact wX9_isCommonGood_e S hr hlk (fun x1 σ hx1 hσ h => h K7 K28 K38 K176 K188 K199 C7 C28 C38 C176 C188 C199 hx1 hσ) (fun x1 σ hx1 hσ h => h K7 K28 K38 K176 K188 K199 C7 C28 C38 C176 C188 C199 hx1 hσ) (fun x1 x2 σ hx1 hx2 hσ h => h K7 K28 K38 K176 K188 K199 C7 C28 C38 C176 C188 C199 hx1 hx2 hσ) (fun x1 σ hx1 hσ h => h K7 K28 K38 K176 K188 K199 C7 C28 C38 C176 C188 C199 hx1 hσ) (fun x1 x2 x3 σ hx1 hx2 hx3 hσ h => h K7 K28 K38 K176 K188 K199 C7 C28 C38 C176 C188 C199 hx1 hx2 hx3 hσ) (fun x1 x2 x3 x4 σ hx1 hx2 hx3 hx4 hσ h => h K7 K28 K38 K176 K188 K199 C7 C28 C38 C176 C188 C199 hx1 hx2 hx3 hx4 hσ) hσ h
def bX9_areCellsGood_2 (Q : Int → bS → Prop) (P2 : Int → bS → Prop) (P32 : Int → bS → Prop) (P42 : Int → Int → bS → Prop) (P52 : Int → Int → Int → bS → Prop) (P216 : Int → bS → Prop) (P263 : Int → bS → Prop) (x1 : Int) (σ : bS) : Prop := (((σ 10 3) ≤ x1 → (P32 0 σ)) ∧ (¬ (σ 10 3) ≤ x1 → ((0 ≤ x1 ∧ x1 < 30) ∧ (∀ σ3 : bS, σ3 = bup σ 60 x1 0 → (∀ σ5 : bS, σ5 = bup σ3 61 x1 0 → (bR (x1 + 1) ∧ (P2 (x1 + 1) σ5)))))))
theorem mono_bX9_areCellsGood_2 {Q Q9 : Int → bS → Prop} {P2 P29 : Int → bS → Prop} {P32 P329 : Int → bS → Prop} {P42 P429 : Int → Int → bS → Prop} {P52 P529 : Int → Int → Int → bS → Prop} {P216 P2169 : Int → bS → Prop} {P263 P2639 : Int → bS → Prop} {x1 : Int} {σ : bS} (hQ : ∀ r σ, Q r σ → Q9 r σ) (hP2 : ∀ x1 σ, P2 x1 σ → P29 x1 σ) (hP32 : ∀ x1 σ, P32 x1 σ → P329 x1 σ) (hP42 : ∀ x1 x2 σ, P42 x1 x2 σ → P429 x1 x2 σ) (hP52 : ∀ x1 x2 x3 σ, P52 x1 x2 x3 σ → P529 x1 x2 x3 σ) (hP216 : ∀ x1 σ, P216 x1 σ → P2169 x1 σ) (hP263 : ∀ x1 σ, P263 x1 σ → P2639 x1 σ) : bX9_areCellsGood_2 Q P2 P32 P42 P52 P216 P263 x1 σ → bX9_areCellsGood_2 Q9 P29 P329 P429 P529 P2169 P2639 x1 σ := (bm_and (bm_imp (hP32 _ _)) (bm_imp (bm_r (bm_all fun _ => bm_imp (bm_all fun _ => bm_imp (bm_r (hP2 _ _)))))))
theorem wX9_areCellsGood_2 {p : Program} {l : Launch} {e : Env} {s : State} {m : MethodId} {args : Array Value} {below : List Frame} {meth : Method} {c : Code} {G : bG} {σ0 : bS} {Q : Int → bS → Prop} {P2 : Int → bS → Prop} {P32 : Int → bS → Prop} {P42 : Int → Int → bS → Prop} {P52 : Int → Int → Int → bS → Prop} {P216 : Int → bS → Prop} {P263 : Int → bS → Prop} {x1 : Int} {σ : bS} (S : CallFix p m c cX9_areCellsGood 6 s args bT "BankLinkerModel") (hr : meth.sig.returnType = some .boolean) (hlk : meth.locks = false) (hP2 : ∀ (x1 : Int) (σ : bS), bR x1 → bRG σ → P2 x1 σ → bA p l e { frames := 2, cells := 0, slots := 0, locals := 43 } s m args below meth c 0 0 (bQi below args s G σ0 Q) G (va_A (bk_w G σ0) s.heap.size) 6 2 [(0, .ref (G.2.2 10)), (1, .int (bI x1))] [] σ) (hP32 : ∀ (x1 : Int) (σ : bS), bR x1 → bRG σ → P32 x1 σ → bA p l e { frames := 2, cells := 0, slots := 0, locals := 43 } s m args below meth c 0 0 (bQi below args s G σ0 Q) G (va_A (bk_w G σ0) s.heap.size) 6 32 [(0, .ref (G.2.2 10)), (1, .int (bI x1))] [] σ) (hP42 : ∀ (x1 : Int) (x2 : Int) (σ : bS), bR x1 → bR x2 → bRG σ → P42 x1 x2 σ → bA p l e { frames := 2, cells := 0, slots := 0, locals := 43 } s m args below meth c 0 0 (bQi below args s G σ0 Q) G (va_A (bk_w G σ0) s.heap.size) 6 42 [(0, .ref (G.2.2 10)), (1, .int (bI x1)), (2, .int (bI x2))] [] σ) (hP52 : ∀ (x1 : Int) (x2 : Int) (x3 : Int) (σ : bS), bR x1 → bR x2 → bR x3 → bRG σ → P52 x1 x2 x3 σ → bA p l e { frames := 2, cells := 0, slots := 0, locals := 43 } s m args below meth c 0 0 (bQi below args s G σ0 Q) G (va_A (bk_w G σ0) s.heap.size) 6 52 [(0, .ref (G.2.2 10)), (1, .int (bI x1)), (2, .int (bI x2)), (3, .int (bI x3))] [] σ) (hP216 : ∀ (x1 : Int) (σ : bS), bR x1 → bRG σ → P216 x1 σ → bA p l e { frames := 2, cells := 0, slots := 0, locals := 43 } s m args below meth c 0 0 (bQi below args s G σ0 Q) G (va_A (bk_w G σ0) s.heap.size) 6 216 [(0, .ref (G.2.2 10)), (1, .int (bI x1))] [] σ) (hP263 : ∀ (x1 : Int) (σ : bS), bR x1 → bRG σ → P263 x1 σ → bA p l e { frames := 2, cells := 0, slots := 0, locals := 43 } s m args below meth c 0 0 (bQi below args s G σ0 Q) G (va_A (bk_w G σ0) s.heap.size) 6 263 [(0, .ref (G.2.2 10)), (1, .int (bI x1))] [] σ) (hx1 : bR x1) (hσ : bRG σ) (h : bX9_areCellsGood_2 Q P2 P32 P42 P52 P216 P263 x1 σ) : bA p l e { frames := 2, cells := 0, slots := 0, locals := 43 } s m args below meth c 0 0 (bQi below args s G σ0 Q) G (va_A (bk_w G σ0) s.heap.size) 6 2 [(0, .ref (G.2.2 10)), (1, .int (bI x1))] [] σ := by
  unfold bX9_areCellsGood_2 at h
  refine br_iload_n S 1 dX9_areCellsGood_2 rfl rfl ?_
  refine br_aload_n S 0 dX9_areCellsGood_3 rfl rfl ?_
  refine br_get (f := 3) (N := 37) (C := RX9) (T := TX9) S inT_X9 wd_3_237 (by decide) rfl rfl (by decide) rfl dX9_areCellsGood_4 ?_
  refine br_ic_ge S 30 hx1 (hσ 10 3) dX9_areCellsGood_7 (by decide) (fun c1 => ?_) (fun c1 => ?_)
  · replace h := h.1 c1
    refine br_iconst S dX9_areCellsGood_30 ?_
    refine br_istore_n S [(1, .int (bI 0)), (0, .ref (G.2.2 10))] dX9_areCellsGood_31 rfl (by decide) rfl ?_
    exact bA.perm [1, 0] rfl <| hP32 0 σ (by decide) hσ h
  · replace h := h.2 c1
    refine br_aload_n S 0 dX9_areCellsGood_10 rfl rfl ?_
    refine br_get (f := 15) (N := 37) (C := RX9) (T := TX9) S inT_X9 wd_4_9 (by decide) rfl rfl (by decide) rfl dX9_areCellsGood_11 ?_
    refine br_iload_n S 1 dX9_areCellsGood_14 rfl rfl ?_
    refine br_iconst S dX9_areCellsGood_15 ?_
    obtain ⟨g2, h⟩ := h
    obtain ⟨σ3, e4⟩ : ∃ τ, τ = bup σ 60 x1 0 := ⟨_, rfl⟩
    replace h := h σ3 e4
    have hσ3 : bRG σ3 := by rw [e4]; exact bup_rg hσ (by decide)
    refine br_iast (n := 30) S ⟨by decide, by decide, fun _ => rfl⟩ g2.1 g2.2 dX9_areCellsGood_16 ?_
    refine bA.to rfl rfl e4.symm ?_
    refine br_aload_n S 0 dX9_areCellsGood_17 rfl rfl ?_
    refine br_get (f := 16) (N := 37) (C := RX9) (T := TX9) S inT_X9 wd_4_10 (by decide) rfl rfl (by decide) rfl dX9_areCellsGood_18 ?_
    refine br_iload_n S 1 dX9_areCellsGood_21 rfl rfl ?_
    refine br_iconst S dX9_areCellsGood_22 ?_
    obtain ⟨σ5, e6⟩ : ∃ τ, τ = bup σ3 61 x1 0 := ⟨_, rfl⟩
    replace h := h σ5 e6
    have hσ5 : bRG σ5 := by rw [e6]; exact bup_rg hσ3 (by decide)
    refine br_iast (n := 30) S ⟨by decide, by decide, fun _ => rfl⟩ g2.1 g2.2 dX9_areCellsGood_23 ?_
    refine bA.to rfl rfl e6.symm ?_
    refine br_iinc S 1 [(1, .int (bI (x1 + 1))), (0, .ref (G.2.2 10))] dX9_areCellsGood_24 rfl (by decide) rfl ?_
    refine br_goto S 2 dX9_areCellsGood_27 (by decide) ?_
    obtain ⟨g7, h⟩ := h
    exact bA.perm [1, 0] rfl <| hP2 (x1 + 1) σ5 g7 hσ5 h
def bX9_areCellsGood_32 (Q : Int → bS → Prop) (P2 : Int → bS → Prop) (P32 : Int → bS → Prop) (P42 : Int → Int → bS → Prop) (P52 : Int → Int → Int → bS → Prop) (P216 : Int → bS → Prop) (P263 : Int → bS → Prop) (x1 : Int) (σ : bS) : Prop := (((σ 10 3) ≤ x1 → (P216 0 σ)) ∧ (¬ (σ 10 3) ≤ x1 → (P42 x1 0 σ)))
theorem mono_bX9_areCellsGood_32 {Q Q9 : Int → bS → Prop} {P2 P29 : Int → bS → Prop} {P32 P329 : Int → bS → Prop} {P42 P429 : Int → Int → bS → Prop} {P52 P529 : Int → Int → Int → bS → Prop} {P216 P2169 : Int → bS → Prop} {P263 P2639 : Int → bS → Prop} {x1 : Int} {σ : bS} (hQ : ∀ r σ, Q r σ → Q9 r σ) (hP2 : ∀ x1 σ, P2 x1 σ → P29 x1 σ) (hP32 : ∀ x1 σ, P32 x1 σ → P329 x1 σ) (hP42 : ∀ x1 x2 σ, P42 x1 x2 σ → P429 x1 x2 σ) (hP52 : ∀ x1 x2 x3 σ, P52 x1 x2 x3 σ → P529 x1 x2 x3 σ) (hP216 : ∀ x1 σ, P216 x1 σ → P2169 x1 σ) (hP263 : ∀ x1 σ, P263 x1 σ → P2639 x1 σ) : bX9_areCellsGood_32 Q P2 P32 P42 P52 P216 P263 x1 σ → bX9_areCellsGood_32 Q9 P29 P329 P429 P529 P2169 P2639 x1 σ := (bm_and (bm_imp (hP216 _ _)) (bm_imp (hP42 _ _ _)))
theorem wX9_areCellsGood_32 {p : Program} {l : Launch} {e : Env} {s : State} {m : MethodId} {args : Array Value} {below : List Frame} {meth : Method} {c : Code} {G : bG} {σ0 : bS} {Q : Int → bS → Prop} {P2 : Int → bS → Prop} {P32 : Int → bS → Prop} {P42 : Int → Int → bS → Prop} {P52 : Int → Int → Int → bS → Prop} {P216 : Int → bS → Prop} {P263 : Int → bS → Prop} {x1 : Int} {σ : bS} (S : CallFix p m c cX9_areCellsGood 6 s args bT "BankLinkerModel") (hr : meth.sig.returnType = some .boolean) (hlk : meth.locks = false) (hP2 : ∀ (x1 : Int) (σ : bS), bR x1 → bRG σ → P2 x1 σ → bA p l e { frames := 2, cells := 0, slots := 0, locals := 43 } s m args below meth c 0 0 (bQi below args s G σ0 Q) G (va_A (bk_w G σ0) s.heap.size) 6 2 [(0, .ref (G.2.2 10)), (1, .int (bI x1))] [] σ) (hP32 : ∀ (x1 : Int) (σ : bS), bR x1 → bRG σ → P32 x1 σ → bA p l e { frames := 2, cells := 0, slots := 0, locals := 43 } s m args below meth c 0 0 (bQi below args s G σ0 Q) G (va_A (bk_w G σ0) s.heap.size) 6 32 [(0, .ref (G.2.2 10)), (1, .int (bI x1))] [] σ) (hP42 : ∀ (x1 : Int) (x2 : Int) (σ : bS), bR x1 → bR x2 → bRG σ → P42 x1 x2 σ → bA p l e { frames := 2, cells := 0, slots := 0, locals := 43 } s m args below meth c 0 0 (bQi below args s G σ0 Q) G (va_A (bk_w G σ0) s.heap.size) 6 42 [(0, .ref (G.2.2 10)), (1, .int (bI x1)), (2, .int (bI x2))] [] σ) (hP52 : ∀ (x1 : Int) (x2 : Int) (x3 : Int) (σ : bS), bR x1 → bR x2 → bR x3 → bRG σ → P52 x1 x2 x3 σ → bA p l e { frames := 2, cells := 0, slots := 0, locals := 43 } s m args below meth c 0 0 (bQi below args s G σ0 Q) G (va_A (bk_w G σ0) s.heap.size) 6 52 [(0, .ref (G.2.2 10)), (1, .int (bI x1)), (2, .int (bI x2)), (3, .int (bI x3))] [] σ) (hP216 : ∀ (x1 : Int) (σ : bS), bR x1 → bRG σ → P216 x1 σ → bA p l e { frames := 2, cells := 0, slots := 0, locals := 43 } s m args below meth c 0 0 (bQi below args s G σ0 Q) G (va_A (bk_w G σ0) s.heap.size) 6 216 [(0, .ref (G.2.2 10)), (1, .int (bI x1))] [] σ) (hP263 : ∀ (x1 : Int) (σ : bS), bR x1 → bRG σ → P263 x1 σ → bA p l e { frames := 2, cells := 0, slots := 0, locals := 43 } s m args below meth c 0 0 (bQi below args s G σ0 Q) G (va_A (bk_w G σ0) s.heap.size) 6 263 [(0, .ref (G.2.2 10)), (1, .int (bI x1))] [] σ) (hx1 : bR x1) (hσ : bRG σ) (h : bX9_areCellsGood_32 Q P2 P32 P42 P52 P216 P263 x1 σ) : bA p l e { frames := 2, cells := 0, slots := 0, locals := 43 } s m args below meth c 0 0 (bQi below args s G σ0 Q) G (va_A (bk_w G σ0) s.heap.size) 6 32 [(0, .ref (G.2.2 10)), (1, .int (bI x1))] [] σ := by
  unfold bX9_areCellsGood_32 at h
  refine br_iload_n S 1 dX9_areCellsGood_32 rfl rfl ?_
  refine br_aload_n S 0 dX9_areCellsGood_33 rfl rfl ?_
  refine br_get (f := 3) (N := 37) (C := RX9) (T := TX9) S inT_X9 wd_3_237 (by decide) rfl rfl (by decide) rfl dX9_areCellsGood_34 ?_
  refine br_ic_ge S 214 hx1 (hσ 10 3) dX9_areCellsGood_37 (by decide) (fun c1 => ?_) (fun c1 => ?_)
  · replace h := h.1 c1
    refine br_iconst S dX9_areCellsGood_214 ?_
    refine br_istore_n S [(1, .int (bI 0)), (0, .ref (G.2.2 10))] dX9_areCellsGood_215 rfl (by decide) rfl ?_
    exact bA.perm [1, 0] rfl <| hP216 0 σ (by decide) hσ h
  · replace h := h.2 c1
    refine br_iconst S dX9_areCellsGood_40 ?_
    refine br_istore_n S [(2, .int (bI 0)), (0, .ref (G.2.2 10)), (1, .int (bI x1))] dX9_areCellsGood_41 rfl (by decide) rfl ?_
    exact bA.perm [1, 2, 0] rfl <| hP42 x1 0 σ hx1 (by decide) hσ h
def bX9_areCellsGood_42 (Q : Int → bS → Prop) (P2 : Int → bS → Prop) (P32 : Int → bS → Prop) (P42 : Int → Int → bS → Prop) (P52 : Int → Int → Int → bS → Prop) (P216 : Int → bS → Prop) (P263 : Int → bS → Prop) (x1 : Int) (x2 : Int) (σ : bS) : Prop := (((σ 10 3) ≤ x2 → (bR (x1 + 1) ∧ (P32 (x1 + 1) σ))) ∧ (¬ (σ 10 3) ≤ x2 → (P52 x1 x2 0 σ)))
theorem mono_bX9_areCellsGood_42 {Q Q9 : Int → bS → Prop} {P2 P29 : Int → bS → Prop} {P32 P329 : Int → bS → Prop} {P42 P429 : Int → Int → bS → Prop} {P52 P529 : Int → Int → Int → bS → Prop} {P216 P2169 : Int → bS → Prop} {P263 P2639 : Int → bS → Prop} {x1 : Int} {x2 : Int} {σ : bS} (hQ : ∀ r σ, Q r σ → Q9 r σ) (hP2 : ∀ x1 σ, P2 x1 σ → P29 x1 σ) (hP32 : ∀ x1 σ, P32 x1 σ → P329 x1 σ) (hP42 : ∀ x1 x2 σ, P42 x1 x2 σ → P429 x1 x2 σ) (hP52 : ∀ x1 x2 x3 σ, P52 x1 x2 x3 σ → P529 x1 x2 x3 σ) (hP216 : ∀ x1 σ, P216 x1 σ → P2169 x1 σ) (hP263 : ∀ x1 σ, P263 x1 σ → P2639 x1 σ) : bX9_areCellsGood_42 Q P2 P32 P42 P52 P216 P263 x1 x2 σ → bX9_areCellsGood_42 Q9 P29 P329 P429 P529 P2169 P2639 x1 x2 σ := (bm_and (bm_imp (bm_r (hP32 _ _))) (bm_imp (hP52 _ _ _ _)))
theorem wX9_areCellsGood_42 {p : Program} {l : Launch} {e : Env} {s : State} {m : MethodId} {args : Array Value} {below : List Frame} {meth : Method} {c : Code} {G : bG} {σ0 : bS} {Q : Int → bS → Prop} {P2 : Int → bS → Prop} {P32 : Int → bS → Prop} {P42 : Int → Int → bS → Prop} {P52 : Int → Int → Int → bS → Prop} {P216 : Int → bS → Prop} {P263 : Int → bS → Prop} {x1 : Int} {x2 : Int} {σ : bS} (S : CallFix p m c cX9_areCellsGood 6 s args bT "BankLinkerModel") (hr : meth.sig.returnType = some .boolean) (hlk : meth.locks = false) (hP2 : ∀ (x1 : Int) (σ : bS), bR x1 → bRG σ → P2 x1 σ → bA p l e { frames := 2, cells := 0, slots := 0, locals := 43 } s m args below meth c 0 0 (bQi below args s G σ0 Q) G (va_A (bk_w G σ0) s.heap.size) 6 2 [(0, .ref (G.2.2 10)), (1, .int (bI x1))] [] σ) (hP32 : ∀ (x1 : Int) (σ : bS), bR x1 → bRG σ → P32 x1 σ → bA p l e { frames := 2, cells := 0, slots := 0, locals := 43 } s m args below meth c 0 0 (bQi below args s G σ0 Q) G (va_A (bk_w G σ0) s.heap.size) 6 32 [(0, .ref (G.2.2 10)), (1, .int (bI x1))] [] σ) (hP42 : ∀ (x1 : Int) (x2 : Int) (σ : bS), bR x1 → bR x2 → bRG σ → P42 x1 x2 σ → bA p l e { frames := 2, cells := 0, slots := 0, locals := 43 } s m args below meth c 0 0 (bQi below args s G σ0 Q) G (va_A (bk_w G σ0) s.heap.size) 6 42 [(0, .ref (G.2.2 10)), (1, .int (bI x1)), (2, .int (bI x2))] [] σ) (hP52 : ∀ (x1 : Int) (x2 : Int) (x3 : Int) (σ : bS), bR x1 → bR x2 → bR x3 → bRG σ → P52 x1 x2 x3 σ → bA p l e { frames := 2, cells := 0, slots := 0, locals := 43 } s m args below meth c 0 0 (bQi below args s G σ0 Q) G (va_A (bk_w G σ0) s.heap.size) 6 52 [(0, .ref (G.2.2 10)), (1, .int (bI x1)), (2, .int (bI x2)), (3, .int (bI x3))] [] σ) (hP216 : ∀ (x1 : Int) (σ : bS), bR x1 → bRG σ → P216 x1 σ → bA p l e { frames := 2, cells := 0, slots := 0, locals := 43 } s m args below meth c 0 0 (bQi below args s G σ0 Q) G (va_A (bk_w G σ0) s.heap.size) 6 216 [(0, .ref (G.2.2 10)), (1, .int (bI x1))] [] σ) (hP263 : ∀ (x1 : Int) (σ : bS), bR x1 → bRG σ → P263 x1 σ → bA p l e { frames := 2, cells := 0, slots := 0, locals := 43 } s m args below meth c 0 0 (bQi below args s G σ0 Q) G (va_A (bk_w G σ0) s.heap.size) 6 263 [(0, .ref (G.2.2 10)), (1, .int (bI x1))] [] σ) (hx1 : bR x1) (hx2 : bR x2) (hσ : bRG σ) (h : bX9_areCellsGood_42 Q P2 P32 P42 P52 P216 P263 x1 x2 σ) : bA p l e { frames := 2, cells := 0, slots := 0, locals := 43 } s m args below meth c 0 0 (bQi below args s G σ0 Q) G (va_A (bk_w G σ0) s.heap.size) 6 42 [(0, .ref (G.2.2 10)), (1, .int (bI x1)), (2, .int (bI x2))] [] σ := by
  unfold bX9_areCellsGood_42 at h
  refine br_iload_n S 2 dX9_areCellsGood_42 rfl rfl ?_
  refine br_aload_n S 0 dX9_areCellsGood_43 rfl rfl ?_
  refine br_get (f := 3) (N := 37) (C := RX9) (T := TX9) S inT_X9 wd_3_237 (by decide) rfl rfl (by decide) rfl dX9_areCellsGood_44 ?_
  refine br_ic_ge S 208 hx2 (hσ 10 3) dX9_areCellsGood_47 (by decide) (fun c1 => ?_) (fun c1 => ?_)
  · replace h := h.1 c1
    refine br_iinc S 1 [(1, .int (bI (x1 + 1))), (0, .ref (G.2.2 10)), (2, .int (bI x2))] dX9_areCellsGood_208 rfl (by decide) rfl ?_
    refine br_goto S 32 dX9_areCellsGood_211 (by decide) ?_
    obtain ⟨g2, h⟩ := h
    exact bA.perm [1, 0] rfl <| hP32 (x1 + 1) σ g2 hσ h
  · replace h := h.2 c1
    refine br_iconst S dX9_areCellsGood_50 ?_
    refine br_istore_n S [(3, .int (bI 0)), (0, .ref (G.2.2 10)), (1, .int (bI x1)), (2, .int (bI x2))] dX9_areCellsGood_51 rfl (by decide) rfl ?_
    exact bA.perm [1, 2, 3, 0] rfl <| hP52 x1 x2 0 σ hx1 hx2 (by decide) hσ h
def vX9_areCellsGood_196 (Q : Int → bS → Prop) (P2 : Int → bS → Prop) (P32 : Int → bS → Prop) (P42 : Int → Int → bS → Prop) (P52 : Int → Int → Int → bS → Prop) (P216 : Int → bS → Prop) (P263 : Int → bS → Prop) (x1 : Int) (x2 : Int) (x3 : Int) (σ : bS) : Prop := (bR (x3 + 1) ∧ (P52 x1 x2 (x3 + 1) σ))
theorem mono_vX9_areCellsGood_196 {Q Q9 : Int → bS → Prop} {P2 P29 : Int → bS → Prop} {P32 P329 : Int → bS → Prop} {P42 P429 : Int → Int → bS → Prop} {P52 P529 : Int → Int → Int → bS → Prop} {P216 P2169 : Int → bS → Prop} {P263 P2639 : Int → bS → Prop} {x1 : Int} {x2 : Int} {x3 : Int} {σ : bS} (hQ : ∀ r σ, Q r σ → Q9 r σ) (hP2 : ∀ x1 σ, P2 x1 σ → P29 x1 σ) (hP32 : ∀ x1 σ, P32 x1 σ → P329 x1 σ) (hP42 : ∀ x1 x2 σ, P42 x1 x2 σ → P429 x1 x2 σ) (hP52 : ∀ x1 x2 x3 σ, P52 x1 x2 x3 σ → P529 x1 x2 x3 σ) (hP216 : ∀ x1 σ, P216 x1 σ → P2169 x1 σ) (hP263 : ∀ x1 σ, P263 x1 σ → P2639 x1 σ) : vX9_areCellsGood_196 Q P2 P32 P42 P52 P216 P263 x1 x2 x3 σ → vX9_areCellsGood_196 Q9 P29 P329 P429 P529 P2169 P2639 x1 x2 x3 σ := (bm_r (hP52 _ _ _ _))
theorem wX9_areCellsGood_196 {p : Program} {l : Launch} {e : Env} {s : State} {m : MethodId} {args : Array Value} {below : List Frame} {meth : Method} {c : Code} {G : bG} {σ0 : bS} {Q : Int → bS → Prop} {P2 : Int → bS → Prop} {P32 : Int → bS → Prop} {P42 : Int → Int → bS → Prop} {P52 : Int → Int → Int → bS → Prop} {P216 : Int → bS → Prop} {P263 : Int → bS → Prop} {x1 : Int} {x2 : Int} {x3 : Int} {σ : bS} (S : CallFix p m c cX9_areCellsGood 6 s args bT "BankLinkerModel") (hr : meth.sig.returnType = some .boolean) (hlk : meth.locks = false) (hP2 : ∀ (x1 : Int) (σ : bS), bR x1 → bRG σ → P2 x1 σ → bA p l e { frames := 2, cells := 0, slots := 0, locals := 43 } s m args below meth c 0 0 (bQi below args s G σ0 Q) G (va_A (bk_w G σ0) s.heap.size) 6 2 [(0, .ref (G.2.2 10)), (1, .int (bI x1))] [] σ) (hP32 : ∀ (x1 : Int) (σ : bS), bR x1 → bRG σ → P32 x1 σ → bA p l e { frames := 2, cells := 0, slots := 0, locals := 43 } s m args below meth c 0 0 (bQi below args s G σ0 Q) G (va_A (bk_w G σ0) s.heap.size) 6 32 [(0, .ref (G.2.2 10)), (1, .int (bI x1))] [] σ) (hP42 : ∀ (x1 : Int) (x2 : Int) (σ : bS), bR x1 → bR x2 → bRG σ → P42 x1 x2 σ → bA p l e { frames := 2, cells := 0, slots := 0, locals := 43 } s m args below meth c 0 0 (bQi below args s G σ0 Q) G (va_A (bk_w G σ0) s.heap.size) 6 42 [(0, .ref (G.2.2 10)), (1, .int (bI x1)), (2, .int (bI x2))] [] σ) (hP52 : ∀ (x1 : Int) (x2 : Int) (x3 : Int) (σ : bS), bR x1 → bR x2 → bR x3 → bRG σ → P52 x1 x2 x3 σ → bA p l e { frames := 2, cells := 0, slots := 0, locals := 43 } s m args below meth c 0 0 (bQi below args s G σ0 Q) G (va_A (bk_w G σ0) s.heap.size) 6 52 [(0, .ref (G.2.2 10)), (1, .int (bI x1)), (2, .int (bI x2)), (3, .int (bI x3))] [] σ) (hP216 : ∀ (x1 : Int) (σ : bS), bR x1 → bRG σ → P216 x1 σ → bA p l e { frames := 2, cells := 0, slots := 0, locals := 43 } s m args below meth c 0 0 (bQi below args s G σ0 Q) G (va_A (bk_w G σ0) s.heap.size) 6 216 [(0, .ref (G.2.2 10)), (1, .int (bI x1))] [] σ) (hP263 : ∀ (x1 : Int) (σ : bS), bR x1 → bRG σ → P263 x1 σ → bA p l e { frames := 2, cells := 0, slots := 0, locals := 43 } s m args below meth c 0 0 (bQi below args s G σ0 Q) G (va_A (bk_w G σ0) s.heap.size) 6 263 [(0, .ref (G.2.2 10)), (1, .int (bI x1))] [] σ) (hx1 : bR x1) (hx2 : bR x2) (hx3 : bR x3) (hσ : bRG σ) (h : vX9_areCellsGood_196 Q P2 P32 P42 P52 P216 P263 x1 x2 x3 σ) : bA p l e { frames := 2, cells := 0, slots := 0, locals := 43 } s m args below meth c 0 0 (bQi below args s G σ0 Q) G (va_A (bk_w G σ0) s.heap.size) 6 196 [(0, .ref (G.2.2 10)), (1, .int (bI x1)), (2, .int (bI x2)), (3, .int (bI x3))] [] σ := by
  unfold vX9_areCellsGood_196 at h
  refine br_iinc S 3 [(3, .int (bI (x3 + 1))), (0, .ref (G.2.2 10)), (1, .int (bI x1)), (2, .int (bI x2))] dX9_areCellsGood_196 rfl (by decide) rfl ?_
  refine br_goto S 52 dX9_areCellsGood_199 (by decide) ?_
  obtain ⟨g1, h⟩ := h
  exact bA.perm [1, 2, 3, 0] rfl <| hP52 x1 x2 (x3 + 1) σ hx1 hx2 g1 hσ h
def vX9_areCellsGood_195 (Q : Int → bS → Prop) (P2 : Int → bS → Prop) (P32 : Int → bS → Prop) (P42 : Int → Int → bS → Prop) (P52 : Int → Int → Int → bS → Prop) (P216 : Int → bS → Prop) (P263 : Int → bS → Prop) (x1 : Int) (x2 : Int) (x3 : Int) (s0 : Int) (s1 : Int) (σ : bS) : Prop := ((0 ≤ s1 ∧ s1 < 30) ∧ (∀ σ2 : bS, σ2 = bup σ 61 s1 s0 → (vX9_areCellsGood_196 Q P2 P32 P42 P52 P216 P263 x1 x2 x3 σ2)))
theorem mono_vX9_areCellsGood_195 {Q Q9 : Int → bS → Prop} {P2 P29 : Int → bS → Prop} {P32 P329 : Int → bS → Prop} {P42 P429 : Int → Int → bS → Prop} {P52 P529 : Int → Int → Int → bS → Prop} {P216 P2169 : Int → bS → Prop} {P263 P2639 : Int → bS → Prop} {x1 : Int} {x2 : Int} {x3 : Int} {s0 : Int} {s1 : Int} {σ : bS} (hQ : ∀ r σ, Q r σ → Q9 r σ) (hP2 : ∀ x1 σ, P2 x1 σ → P29 x1 σ) (hP32 : ∀ x1 σ, P32 x1 σ → P329 x1 σ) (hP42 : ∀ x1 x2 σ, P42 x1 x2 σ → P429 x1 x2 σ) (hP52 : ∀ x1 x2 x3 σ, P52 x1 x2 x3 σ → P529 x1 x2 x3 σ) (hP216 : ∀ x1 σ, P216 x1 σ → P2169 x1 σ) (hP263 : ∀ x1 σ, P263 x1 σ → P2639 x1 σ) : vX9_areCellsGood_195 Q P2 P32 P42 P52 P216 P263 x1 x2 x3 s0 s1 σ → vX9_areCellsGood_195 Q9 P29 P329 P429 P529 P2169 P2639 x1 x2 x3 s0 s1 σ := (bm_r (bm_all fun _ => bm_imp (mono_vX9_areCellsGood_196 hQ hP2 hP32 hP42 hP52 hP216 hP263)))
theorem wX9_areCellsGood_195 {p : Program} {l : Launch} {e : Env} {s : State} {m : MethodId} {args : Array Value} {below : List Frame} {meth : Method} {c : Code} {G : bG} {σ0 : bS} {Q : Int → bS → Prop} {P2 : Int → bS → Prop} {P32 : Int → bS → Prop} {P42 : Int → Int → bS → Prop} {P52 : Int → Int → Int → bS → Prop} {P216 : Int → bS → Prop} {P263 : Int → bS → Prop} {x1 : Int} {x2 : Int} {x3 : Int} {s0 : Int} {s1 : Int} {σ : bS} (S : CallFix p m c cX9_areCellsGood 6 s args bT "BankLinkerModel") (hr : meth.sig.returnType = some .boolean) (hlk : meth.locks = false) (hP2 : ∀ (x1 : Int) (σ : bS), bR x1 → bRG σ → P2 x1 σ → bA p l e { frames := 2, cells := 0, slots := 0, locals := 43 } s m args below meth c 0 0 (bQi below args s G σ0 Q) G (va_A (bk_w G σ0) s.heap.size) 6 2 [(0, .ref (G.2.2 10)), (1, .int (bI x1))] [] σ) (hP32 : ∀ (x1 : Int) (σ : bS), bR x1 → bRG σ → P32 x1 σ → bA p l e { frames := 2, cells := 0, slots := 0, locals := 43 } s m args below meth c 0 0 (bQi below args s G σ0 Q) G (va_A (bk_w G σ0) s.heap.size) 6 32 [(0, .ref (G.2.2 10)), (1, .int (bI x1))] [] σ) (hP42 : ∀ (x1 : Int) (x2 : Int) (σ : bS), bR x1 → bR x2 → bRG σ → P42 x1 x2 σ → bA p l e { frames := 2, cells := 0, slots := 0, locals := 43 } s m args below meth c 0 0 (bQi below args s G σ0 Q) G (va_A (bk_w G σ0) s.heap.size) 6 42 [(0, .ref (G.2.2 10)), (1, .int (bI x1)), (2, .int (bI x2))] [] σ) (hP52 : ∀ (x1 : Int) (x2 : Int) (x3 : Int) (σ : bS), bR x1 → bR x2 → bR x3 → bRG σ → P52 x1 x2 x3 σ → bA p l e { frames := 2, cells := 0, slots := 0, locals := 43 } s m args below meth c 0 0 (bQi below args s G σ0 Q) G (va_A (bk_w G σ0) s.heap.size) 6 52 [(0, .ref (G.2.2 10)), (1, .int (bI x1)), (2, .int (bI x2)), (3, .int (bI x3))] [] σ) (hP216 : ∀ (x1 : Int) (σ : bS), bR x1 → bRG σ → P216 x1 σ → bA p l e { frames := 2, cells := 0, slots := 0, locals := 43 } s m args below meth c 0 0 (bQi below args s G σ0 Q) G (va_A (bk_w G σ0) s.heap.size) 6 216 [(0, .ref (G.2.2 10)), (1, .int (bI x1))] [] σ) (hP263 : ∀ (x1 : Int) (σ : bS), bR x1 → bRG σ → P263 x1 σ → bA p l e { frames := 2, cells := 0, slots := 0, locals := 43 } s m args below meth c 0 0 (bQi below args s G σ0 Q) G (va_A (bk_w G σ0) s.heap.size) 6 263 [(0, .ref (G.2.2 10)), (1, .int (bI x1))] [] σ) (hx1 : bR x1) (hx2 : bR x2) (hx3 : bR x3) (hs0 : bR s0) (hs1 : bR s1) (hσ : bRG σ) (h : vX9_areCellsGood_195 Q P2 P32 P42 P52 P216 P263 x1 x2 x3 s0 s1 σ) : bA p l e { frames := 2, cells := 0, slots := 0, locals := 43 } s m args below meth c 0 0 (bQi below args s G σ0 Q) G (va_A (bk_w G σ0) s.heap.size) 6 195 [(0, .ref (G.2.2 10)), (1, .int (bI x1)), (2, .int (bI x2)), (3, .int (bI x3))] [.int (bI s0), .int (bI s1), .ref (G.2.2 61)] σ := by
  unfold vX9_areCellsGood_195 at h
  obtain ⟨g1, h⟩ := h
  obtain ⟨σ2, e3⟩ : ∃ τ, τ = bup σ 61 s1 s0 := ⟨_, rfl⟩
  replace h := h σ2 e3
  have hσ2 : bRG σ2 := by rw [e3]; exact bup_rg hσ hs0
  refine br_iast (n := 30) S ⟨by decide, by decide, fun _ => rfl⟩ g1.1 g1.2 dX9_areCellsGood_195 ?_
  refine bA.to rfl rfl e3.symm ?_
  exact wX9_areCellsGood_196 S hr hlk hP2 hP32 hP42 hP52 hP216 hP263 hx1 hx2 hx3 hσ2 h
def vX9_areCellsGood_167 (Q : Int → bS → Prop) (P2 : Int → bS → Prop) (P32 : Int → bS → Prop) (P42 : Int → Int → bS → Prop) (P52 : Int → Int → Int → bS → Prop) (P216 : Int → bS → Prop) (P263 : Int → bS → Prop) (x1 : Int) (x2 : Int) (x3 : Int) (x5 : Int) (s0 : Int) (s1 : Int) (σ : bS) : Prop := ((0 ≤ s1 ∧ s1 < 30) ∧ (∀ σ2 : bS, σ2 = bup σ 60 s1 s0 → ((0 ≤ x2 ∧ x2 < 30) ∧ ((x5 ≤ (σ2 61 x2) → (vX9_areCellsGood_195 Q P2 P32 P42 P52 P216 P263 x1 x2 x3 (σ2 61 x2) x2 σ2)) ∧ (¬ x5 ≤ (σ2 61 x2) → (vX9_areCellsGood_195 Q P2 P32 P42 P52 P216 P263 x1 x2 x3 x5 x2 σ2))))))
theorem mono_vX9_areCellsGood_167 {Q Q9 : Int → bS → Prop} {P2 P29 : Int → bS → Prop} {P32 P329 : Int → bS → Prop} {P42 P429 : Int → Int → bS → Prop} {P52 P529 : Int → Int → Int → bS → Prop} {P216 P2169 : Int → bS → Prop} {P263 P2639 : Int → bS → Prop} {x1 : Int} {x2 : Int} {x3 : Int} {x5 : Int} {s0 : Int} {s1 : Int} {σ : bS} (hQ : ∀ r σ, Q r σ → Q9 r σ) (hP2 : ∀ x1 σ, P2 x1 σ → P29 x1 σ) (hP32 : ∀ x1 σ, P32 x1 σ → P329 x1 σ) (hP42 : ∀ x1 x2 σ, P42 x1 x2 σ → P429 x1 x2 σ) (hP52 : ∀ x1 x2 x3 σ, P52 x1 x2 x3 σ → P529 x1 x2 x3 σ) (hP216 : ∀ x1 σ, P216 x1 σ → P2169 x1 σ) (hP263 : ∀ x1 σ, P263 x1 σ → P2639 x1 σ) : vX9_areCellsGood_167 Q P2 P32 P42 P52 P216 P263 x1 x2 x3 x5 s0 s1 σ → vX9_areCellsGood_167 Q9 P29 P329 P429 P529 P2169 P2639 x1 x2 x3 x5 s0 s1 σ := (bm_r (bm_all fun _ => bm_imp (bm_r (bm_and (bm_imp (mono_vX9_areCellsGood_195 hQ hP2 hP32 hP42 hP52 hP216 hP263)) (bm_imp (mono_vX9_areCellsGood_195 hQ hP2 hP32 hP42 hP52 hP216 hP263))))))
theorem wX9_areCellsGood_167 {p : Program} {l : Launch} {e : Env} {s : State} {m : MethodId} {args : Array Value} {below : List Frame} {meth : Method} {c : Code} {G : bG} {σ0 : bS} {Q : Int → bS → Prop} {P2 : Int → bS → Prop} {P32 : Int → bS → Prop} {P42 : Int → Int → bS → Prop} {P52 : Int → Int → Int → bS → Prop} {P216 : Int → bS → Prop} {P263 : Int → bS → Prop} {x1 : Int} {x2 : Int} {x3 : Int} {x5 : Int} {s0 : Int} {s1 : Int} {σ : bS} (S : CallFix p m c cX9_areCellsGood 6 s args bT "BankLinkerModel") (hr : meth.sig.returnType = some .boolean) (hlk : meth.locks = false) (hP2 : ∀ (x1 : Int) (σ : bS), bR x1 → bRG σ → P2 x1 σ → bA p l e { frames := 2, cells := 0, slots := 0, locals := 43 } s m args below meth c 0 0 (bQi below args s G σ0 Q) G (va_A (bk_w G σ0) s.heap.size) 6 2 [(0, .ref (G.2.2 10)), (1, .int (bI x1))] [] σ) (hP32 : ∀ (x1 : Int) (σ : bS), bR x1 → bRG σ → P32 x1 σ → bA p l e { frames := 2, cells := 0, slots := 0, locals := 43 } s m args below meth c 0 0 (bQi below args s G σ0 Q) G (va_A (bk_w G σ0) s.heap.size) 6 32 [(0, .ref (G.2.2 10)), (1, .int (bI x1))] [] σ) (hP42 : ∀ (x1 : Int) (x2 : Int) (σ : bS), bR x1 → bR x2 → bRG σ → P42 x1 x2 σ → bA p l e { frames := 2, cells := 0, slots := 0, locals := 43 } s m args below meth c 0 0 (bQi below args s G σ0 Q) G (va_A (bk_w G σ0) s.heap.size) 6 42 [(0, .ref (G.2.2 10)), (1, .int (bI x1)), (2, .int (bI x2))] [] σ) (hP52 : ∀ (x1 : Int) (x2 : Int) (x3 : Int) (σ : bS), bR x1 → bR x2 → bR x3 → bRG σ → P52 x1 x2 x3 σ → bA p l e { frames := 2, cells := 0, slots := 0, locals := 43 } s m args below meth c 0 0 (bQi below args s G σ0 Q) G (va_A (bk_w G σ0) s.heap.size) 6 52 [(0, .ref (G.2.2 10)), (1, .int (bI x1)), (2, .int (bI x2)), (3, .int (bI x3))] [] σ) (hP216 : ∀ (x1 : Int) (σ : bS), bR x1 → bRG σ → P216 x1 σ → bA p l e { frames := 2, cells := 0, slots := 0, locals := 43 } s m args below meth c 0 0 (bQi below args s G σ0 Q) G (va_A (bk_w G σ0) s.heap.size) 6 216 [(0, .ref (G.2.2 10)), (1, .int (bI x1))] [] σ) (hP263 : ∀ (x1 : Int) (σ : bS), bR x1 → bRG σ → P263 x1 σ → bA p l e { frames := 2, cells := 0, slots := 0, locals := 43 } s m args below meth c 0 0 (bQi below args s G σ0 Q) G (va_A (bk_w G σ0) s.heap.size) 6 263 [(0, .ref (G.2.2 10)), (1, .int (bI x1))] [] σ) (hx1 : bR x1) (hx2 : bR x2) (hx3 : bR x3) (hx5 : bR x5) (hs0 : bR s0) (hs1 : bR s1) (hσ : bRG σ) (h : vX9_areCellsGood_167 Q P2 P32 P42 P52 P216 P263 x1 x2 x3 x5 s0 s1 σ) : bA p l e { frames := 2, cells := 0, slots := 0, locals := 43 } s m args below meth c 0 0 (bQi below args s G σ0 Q) G (va_A (bk_w G σ0) s.heap.size) 6 167 [(0, .ref (G.2.2 10)), (1, .int (bI x1)), (2, .int (bI x2)), (3, .int (bI x3)), (5, .int (bI x5))] [.int (bI s0), .int (bI s1), .ref (G.2.2 60)] σ := by
  unfold vX9_areCellsGood_167 at h
  obtain ⟨g1, h⟩ := h
  obtain ⟨σ2, e3⟩ : ∃ τ, τ = bup σ 60 s1 s0 := ⟨_, rfl⟩
  replace h := h σ2 e3
  have hσ2 : bRG σ2 := by rw [e3]; exact bup_rg hσ hs0
  refine br_iast (n := 30) S ⟨by decide, by decide, fun _ => rfl⟩ g1.1 g1.2 dX9_areCellsGood_167 ?_
  refine bA.to rfl rfl e3.symm ?_
  refine br_aload_n S 0 dX9_areCellsGood_168 rfl rfl ?_
  refine br_get (f := 16) (N := 37) (C := RX9) (T := TX9) S inT_X9 wd_4_10 (by decide) rfl rfl (by decide) rfl dX9_areCellsGood_169 ?_
  refine br_iload_n S 2 dX9_areCellsGood_172 rfl rfl ?_
  refine br_iload S 4 dX9_areCellsGood_173 rfl ?_
  refine br_aload_n S 0 dX9_areCellsGood_175 rfl rfl ?_
  refine br_get (f := 16) (N := 37) (C := RX9) (T := TX9) S inT_X9 wd_4_10 (by decide) rfl rfl (by decide) rfl dX9_areCellsGood_176 ?_
  refine br_iload_n S 2 dX9_areCellsGood_179 rfl rfl ?_
  obtain ⟨g4, h⟩ := h
  refine br_iald (n := 30) S ⟨by decide, by decide, fun _ => rfl⟩ g4.1 g4.2 dX9_areCellsGood_180 ?_
  refine br_ic_le S 189 hx5 (hσ2 61 x2) dX9_areCellsGood_181 (by decide) (fun c5 => ?_) (fun c5 => ?_)
  · replace h := h.1 c5
    refine br_aload_n S 0 dX9_areCellsGood_189 rfl rfl ?_
    refine br_get (f := 16) (N := 37) (C := RX9) (T := TX9) S inT_X9 wd_4_10 (by decide) rfl rfl (by decide) rfl dX9_areCellsGood_190 ?_
    refine br_iload_n S 2 dX9_areCellsGood_193 rfl rfl ?_
    refine br_iald (n := 30) S ⟨by decide, by decide, fun _ => rfl⟩ g4.1 g4.2 dX9_areCellsGood_194 ?_
    exact bA.perm [0, 1, 2, 3] rfl <| wX9_areCellsGood_195 S hr hlk hP2 hP32 hP42 hP52 hP216 hP263 hx1 hx2 hx3 (hσ2 61 x2) hx2 hσ2 h
  · replace h := h.2 c5
    refine br_iload S 4 dX9_areCellsGood_184 rfl ?_
    refine br_goto S 195 dX9_areCellsGood_186 (by decide) ?_
    exact bA.perm [0, 1, 2, 3] rfl <| wX9_areCellsGood_195 S hr hlk hP2 hP32 hP42 hP52 hP216 hP263 hx1 hx2 hx3 hx5 hx2 hσ2 h
def vX9_areCellsGood_112 (Q : Int → bS → Prop) (P2 : Int → bS → Prop) (P32 : Int → bS → Prop) (P42 : Int → Int → bS → Prop) (P52 : Int → Int → Int → bS → Prop) (P216 : Int → bS → Prop) (P263 : Int → bS → Prop) (x1 : Int) (x2 : Int) (x3 : Int) (x4 : Int) (s0 : Int) (s1 : Int) (σ : bS) : Prop := ((0 ≤ x2 ∧ x2 < 30) ∧ ((0 ≤ x4 ∧ x4 < 30) ∧ (bR ((σ 60 x2) + (σ 51 x2)) ∧ ((((σ 60 x2) + (σ 51 x2)) ≤ (σ 60 x4) → (bR (s1 + s0) ∧ (vX9_areCellsGood_167 Q P2 P32 P42 P52 P216 P263 x1 x2 x3 (s1 + s0) (σ 60 x4) x4 σ))) ∧ (¬ ((σ 60 x2) + (σ 51 x2)) ≤ (σ 60 x4) → (bR (s1 + s0) ∧ (vX9_areCellsGood_167 Q P2 P32 P42 P52 P216 P263 x1 x2 x3 (s1 + s0) ((σ 60 x2) + (σ 51 x2)) x4 σ)))))))
theorem mono_vX9_areCellsGood_112 {Q Q9 : Int → bS → Prop} {P2 P29 : Int → bS → Prop} {P32 P329 : Int → bS → Prop} {P42 P429 : Int → Int → bS → Prop} {P52 P529 : Int → Int → Int → bS → Prop} {P216 P2169 : Int → bS → Prop} {P263 P2639 : Int → bS → Prop} {x1 : Int} {x2 : Int} {x3 : Int} {x4 : Int} {s0 : Int} {s1 : Int} {σ : bS} (hQ : ∀ r σ, Q r σ → Q9 r σ) (hP2 : ∀ x1 σ, P2 x1 σ → P29 x1 σ) (hP32 : ∀ x1 σ, P32 x1 σ → P329 x1 σ) (hP42 : ∀ x1 x2 σ, P42 x1 x2 σ → P429 x1 x2 σ) (hP52 : ∀ x1 x2 x3 σ, P52 x1 x2 x3 σ → P529 x1 x2 x3 σ) (hP216 : ∀ x1 σ, P216 x1 σ → P2169 x1 σ) (hP263 : ∀ x1 σ, P263 x1 σ → P2639 x1 σ) : vX9_areCellsGood_112 Q P2 P32 P42 P52 P216 P263 x1 x2 x3 x4 s0 s1 σ → vX9_areCellsGood_112 Q9 P29 P329 P429 P529 P2169 P2639 x1 x2 x3 x4 s0 s1 σ := (bm_r (bm_r (bm_r (bm_and (bm_imp (bm_r (mono_vX9_areCellsGood_167 hQ hP2 hP32 hP42 hP52 hP216 hP263))) (bm_imp (bm_r (mono_vX9_areCellsGood_167 hQ hP2 hP32 hP42 hP52 hP216 hP263)))))))
theorem wX9_areCellsGood_112 {p : Program} {l : Launch} {e : Env} {s : State} {m : MethodId} {args : Array Value} {below : List Frame} {meth : Method} {c : Code} {G : bG} {σ0 : bS} {Q : Int → bS → Prop} {P2 : Int → bS → Prop} {P32 : Int → bS → Prop} {P42 : Int → Int → bS → Prop} {P52 : Int → Int → Int → bS → Prop} {P216 : Int → bS → Prop} {P263 : Int → bS → Prop} {x1 : Int} {x2 : Int} {x3 : Int} {x4 : Int} {s0 : Int} {s1 : Int} {σ : bS} (S : CallFix p m c cX9_areCellsGood 6 s args bT "BankLinkerModel") (hr : meth.sig.returnType = some .boolean) (hlk : meth.locks = false) (hP2 : ∀ (x1 : Int) (σ : bS), bR x1 → bRG σ → P2 x1 σ → bA p l e { frames := 2, cells := 0, slots := 0, locals := 43 } s m args below meth c 0 0 (bQi below args s G σ0 Q) G (va_A (bk_w G σ0) s.heap.size) 6 2 [(0, .ref (G.2.2 10)), (1, .int (bI x1))] [] σ) (hP32 : ∀ (x1 : Int) (σ : bS), bR x1 → bRG σ → P32 x1 σ → bA p l e { frames := 2, cells := 0, slots := 0, locals := 43 } s m args below meth c 0 0 (bQi below args s G σ0 Q) G (va_A (bk_w G σ0) s.heap.size) 6 32 [(0, .ref (G.2.2 10)), (1, .int (bI x1))] [] σ) (hP42 : ∀ (x1 : Int) (x2 : Int) (σ : bS), bR x1 → bR x2 → bRG σ → P42 x1 x2 σ → bA p l e { frames := 2, cells := 0, slots := 0, locals := 43 } s m args below meth c 0 0 (bQi below args s G σ0 Q) G (va_A (bk_w G σ0) s.heap.size) 6 42 [(0, .ref (G.2.2 10)), (1, .int (bI x1)), (2, .int (bI x2))] [] σ) (hP52 : ∀ (x1 : Int) (x2 : Int) (x3 : Int) (σ : bS), bR x1 → bR x2 → bR x3 → bRG σ → P52 x1 x2 x3 σ → bA p l e { frames := 2, cells := 0, slots := 0, locals := 43 } s m args below meth c 0 0 (bQi below args s G σ0 Q) G (va_A (bk_w G σ0) s.heap.size) 6 52 [(0, .ref (G.2.2 10)), (1, .int (bI x1)), (2, .int (bI x2)), (3, .int (bI x3))] [] σ) (hP216 : ∀ (x1 : Int) (σ : bS), bR x1 → bRG σ → P216 x1 σ → bA p l e { frames := 2, cells := 0, slots := 0, locals := 43 } s m args below meth c 0 0 (bQi below args s G σ0 Q) G (va_A (bk_w G σ0) s.heap.size) 6 216 [(0, .ref (G.2.2 10)), (1, .int (bI x1))] [] σ) (hP263 : ∀ (x1 : Int) (σ : bS), bR x1 → bRG σ → P263 x1 σ → bA p l e { frames := 2, cells := 0, slots := 0, locals := 43 } s m args below meth c 0 0 (bQi below args s G σ0 Q) G (va_A (bk_w G σ0) s.heap.size) 6 263 [(0, .ref (G.2.2 10)), (1, .int (bI x1))] [] σ) (hx1 : bR x1) (hx2 : bR x2) (hx3 : bR x3) (hx4 : bR x4) (hs0 : bR s0) (hs1 : bR s1) (hσ : bRG σ) (h : vX9_areCellsGood_112 Q P2 P32 P42 P52 P216 P263 x1 x2 x3 x4 s0 s1 σ) : bA p l e { frames := 2, cells := 0, slots := 0, locals := 43 } s m args below meth c 0 0 (bQi below args s G σ0 Q) G (va_A (bk_w G σ0) s.heap.size) 6 112 [(0, .ref (G.2.2 10)), (1, .int (bI x1)), (2, .int (bI x2)), (3, .int (bI x3)), (4, .int (bI x4))] [.int (bI s0), .int (bI s1)] σ := by
  unfold vX9_areCellsGood_112 at h
  refine br_iadd S dX9_areCellsGood_112 ?_
  refine br_istore S [(5, .int (bI (s1 + s0))), (0, .ref (G.2.2 10)), (1, .int (bI x1)), (2, .int (bI x2)), (3, .int (bI x3)), (4, .int (bI x4))] dX9_areCellsGood_113 (by decide) rfl ?_
  refine br_aload_n S 1 dX9_areCellsGood_115 rfl rfl ?_
  refine br_get (f := 15) (N := 37) (C := RX9) (T := TX9) S inT_X9 wd_4_9 (by decide) rfl rfl (by decide) rfl dX9_areCellsGood_116 ?_
  refine br_iload S 5 dX9_areCellsGood_119 rfl ?_
  refine br_aload_n S 1 dX9_areCellsGood_121 rfl rfl ?_
  refine br_get (f := 15) (N := 37) (C := RX9) (T := TX9) S inT_X9 wd_4_9 (by decide) rfl rfl (by decide) rfl dX9_areCellsGood_122 ?_
  refine br_iload_n S 3 dX9_areCellsGood_125 rfl rfl ?_
  obtain ⟨g1, h⟩ := h
  refine br_iald (n := 30) S ⟨by decide, by decide, fun _ => rfl⟩ g1.1 g1.2 dX9_areCellsGood_126 ?_
  refine br_aload_n S 1 dX9_areCellsGood_127 rfl rfl ?_
  refine br_get (f := 5) (N := 37) (C := RX9) (T := TX9) S inT_X9 wd_3_239 (by decide) rfl rfl (by decide) rfl dX9_areCellsGood_128 ?_
  refine br_iload_n S 3 dX9_areCellsGood_131 rfl rfl ?_
  refine br_iald (n := 30) S ⟨by decide, by decide, fun _ => rfl⟩ g1.1 g1.2 dX9_areCellsGood_132 ?_
  refine br_iadd S dX9_areCellsGood_133 ?_
  refine br_aload_n S 1 dX9_areCellsGood_134 rfl rfl ?_
  refine br_get (f := 15) (N := 37) (C := RX9) (T := TX9) S inT_X9 wd_4_9 (by decide) rfl rfl (by decide) rfl dX9_areCellsGood_135 ?_
  refine br_iload S 5 dX9_areCellsGood_138 rfl ?_
  obtain ⟨g2, h⟩ := h
  refine br_iald (n := 30) S ⟨by decide, by decide, fun _ => rfl⟩ g2.1 g2.2 dX9_areCellsGood_140 ?_
  obtain ⟨g3, h⟩ := h
  refine br_ic_le S 160 g3 (hσ 60 x4) dX9_areCellsGood_141 (by decide) (fun c4 => ?_) (fun c4 => ?_)
  · replace h := h.1 c4
    refine br_aload_n S 1 dX9_areCellsGood_160 rfl rfl ?_
    refine br_get (f := 15) (N := 37) (C := RX9) (T := TX9) S inT_X9 wd_4_9 (by decide) rfl rfl (by decide) rfl dX9_areCellsGood_161 ?_
    refine br_iload S 5 dX9_areCellsGood_164 rfl ?_
    refine br_iald (n := 30) S ⟨by decide, by decide, fun _ => rfl⟩ g2.1 g2.2 dX9_areCellsGood_166 ?_
    obtain ⟨g5, h⟩ := h
    exact bA.perm [1, 2, 3, 4, 0] rfl <| wX9_areCellsGood_167 S hr hlk hP2 hP32 hP42 hP52 hP216 hP263 hx1 hx2 hx3 g5 (hσ 60 x4) hx4 hσ h
  · replace h := h.2 c4
    refine br_aload_n S 1 dX9_areCellsGood_144 rfl rfl ?_
    refine br_get (f := 15) (N := 37) (C := RX9) (T := TX9) S inT_X9 wd_4_9 (by decide) rfl rfl (by decide) rfl dX9_areCellsGood_145 ?_
    refine br_iload_n S 3 dX9_areCellsGood_148 rfl rfl ?_
    refine br_iald (n := 30) S ⟨by decide, by decide, fun _ => rfl⟩ g1.1 g1.2 dX9_areCellsGood_149 ?_
    refine br_aload_n S 1 dX9_areCellsGood_150 rfl rfl ?_
    refine br_get (f := 5) (N := 37) (C := RX9) (T := TX9) S inT_X9 wd_3_239 (by decide) rfl rfl (by decide) rfl dX9_areCellsGood_151 ?_
    refine br_iload_n S 3 dX9_areCellsGood_154 rfl rfl ?_
    refine br_iald (n := 30) S ⟨by decide, by decide, fun _ => rfl⟩ g1.1 g1.2 dX9_areCellsGood_155 ?_
    refine br_iadd S dX9_areCellsGood_156 ?_
    refine br_goto S 167 dX9_areCellsGood_157 (by decide) ?_
    obtain ⟨g6, h⟩ := h
    exact bA.perm [1, 2, 3, 4, 0] rfl <| wX9_areCellsGood_167 S hr hlk hP2 hP32 hP42 hP52 hP216 hP263 hx1 hx2 hx3 g6 g3 hx4 hσ h
def bX9_areCellsGood_52 (Q : Int → bS → Prop) (P2 : Int → bS → Prop) (P32 : Int → bS → Prop) (P42 : Int → Int → bS → Prop) (P52 : Int → Int → Int → bS → Prop) (P216 : Int → bS → Prop) (P263 : Int → bS → Prop) (x1 : Int) (x2 : Int) (x3 : Int) (σ : bS) : Prop := ((0 ≤ x2 ∧ x2 < 30) ∧ (((σ 52 x2) ≤ x3 → (bR (x2 + 1) ∧ (P42 x1 (x2 + 1) σ))) ∧ (¬ (σ 52 x2) ≤ x3 → ((0 ≤ ((40 * x2) + x3) ∧ ((40 * x2) + x3) < 1200) ∧ ((¬ (σ 53 ((40 * x2) + x3)) = 5 → (vX9_areCellsGood_196 Q P2 P32 P42 P52 P216 P263 x1 x2 x3 σ)) ∧ ((σ 53 ((40 * x2) + x3)) = 5 → ((0 ≤ (σ 54 ((40 * x2) + x3)) ∧ (σ 54 ((40 * x2) + x3)) < 30) ∧ (vX9_isFar (fun z7 σ8 => ((z7 = 0 → (vX9_areCellsGood_112 Q P2 P32 P42 P52 P216 P263 x1 x2 x3 (σ 54 ((40 * x2) + x3)) 1 (σ 61 (σ 54 ((40 * x2) + x3))) σ8)) ∧ (¬ z7 = 0 → (vX9_areCellsGood_112 Q P2 P32 P42 P52 P216 P263 x1 x2 x3 (σ 54 ((40 * x2) + x3)) 3 (σ 61 (σ 54 ((40 * x2) + x3))) σ8)))) x2 (σ 54 ((40 * x2) + x3)) σ))))))))
theorem mono_bX9_areCellsGood_52 {Q Q9 : Int → bS → Prop} {P2 P29 : Int → bS → Prop} {P32 P329 : Int → bS → Prop} {P42 P429 : Int → Int → bS → Prop} {P52 P529 : Int → Int → Int → bS → Prop} {P216 P2169 : Int → bS → Prop} {P263 P2639 : Int → bS → Prop} {x1 : Int} {x2 : Int} {x3 : Int} {σ : bS} (hQ : ∀ r σ, Q r σ → Q9 r σ) (hP2 : ∀ x1 σ, P2 x1 σ → P29 x1 σ) (hP32 : ∀ x1 σ, P32 x1 σ → P329 x1 σ) (hP42 : ∀ x1 x2 σ, P42 x1 x2 σ → P429 x1 x2 σ) (hP52 : ∀ x1 x2 x3 σ, P52 x1 x2 x3 σ → P529 x1 x2 x3 σ) (hP216 : ∀ x1 σ, P216 x1 σ → P2169 x1 σ) (hP263 : ∀ x1 σ, P263 x1 σ → P2639 x1 σ) : bX9_areCellsGood_52 Q P2 P32 P42 P52 P216 P263 x1 x2 x3 σ → bX9_areCellsGood_52 Q9 P29 P329 P429 P529 P2169 P2639 x1 x2 x3 σ := (bm_r (bm_and (bm_imp (bm_r (hP42 _ _ _))) (bm_imp (bm_r (bm_and (bm_imp (mono_vX9_areCellsGood_196 hQ hP2 hP32 hP42 hP52 hP216 hP263)) (bm_imp (bm_r (mono_X9_isFar (fun _ _ => (bm_and (bm_imp (mono_vX9_areCellsGood_112 hQ hP2 hP32 hP42 hP52 hP216 hP263)) (bm_imp (mono_vX9_areCellsGood_112 hQ hP2 hP32 hP42 hP52 hP216 hP263))))))))))))
theorem wX9_areCellsGood_52 {p : Program} {l : Launch} {e : Env} {s : State} {m : MethodId} {args : Array Value} {below : List Frame} {meth : Method} {c : Code} {G : bG} {σ0 : bS} {Q : Int → bS → Prop} {P2 : Int → bS → Prop} {P32 : Int → bS → Prop} {P42 : Int → Int → bS → Prop} {P52 : Int → Int → Int → bS → Prop} {P216 : Int → bS → Prop} {P263 : Int → bS → Prop} {x1 : Int} {x2 : Int} {x3 : Int} {σ : bS} (S : CallFix p m c cX9_areCellsGood 6 s args bT "BankLinkerModel") (hr : meth.sig.returnType = some .boolean) (hlk : meth.locks = false) (hP2 : ∀ (x1 : Int) (σ : bS), bR x1 → bRG σ → P2 x1 σ → bA p l e { frames := 2, cells := 0, slots := 0, locals := 43 } s m args below meth c 0 0 (bQi below args s G σ0 Q) G (va_A (bk_w G σ0) s.heap.size) 6 2 [(0, .ref (G.2.2 10)), (1, .int (bI x1))] [] σ) (hP32 : ∀ (x1 : Int) (σ : bS), bR x1 → bRG σ → P32 x1 σ → bA p l e { frames := 2, cells := 0, slots := 0, locals := 43 } s m args below meth c 0 0 (bQi below args s G σ0 Q) G (va_A (bk_w G σ0) s.heap.size) 6 32 [(0, .ref (G.2.2 10)), (1, .int (bI x1))] [] σ) (hP42 : ∀ (x1 : Int) (x2 : Int) (σ : bS), bR x1 → bR x2 → bRG σ → P42 x1 x2 σ → bA p l e { frames := 2, cells := 0, slots := 0, locals := 43 } s m args below meth c 0 0 (bQi below args s G σ0 Q) G (va_A (bk_w G σ0) s.heap.size) 6 42 [(0, .ref (G.2.2 10)), (1, .int (bI x1)), (2, .int (bI x2))] [] σ) (hP52 : ∀ (x1 : Int) (x2 : Int) (x3 : Int) (σ : bS), bR x1 → bR x2 → bR x3 → bRG σ → P52 x1 x2 x3 σ → bA p l e { frames := 2, cells := 0, slots := 0, locals := 43 } s m args below meth c 0 0 (bQi below args s G σ0 Q) G (va_A (bk_w G σ0) s.heap.size) 6 52 [(0, .ref (G.2.2 10)), (1, .int (bI x1)), (2, .int (bI x2)), (3, .int (bI x3))] [] σ) (hP216 : ∀ (x1 : Int) (σ : bS), bR x1 → bRG σ → P216 x1 σ → bA p l e { frames := 2, cells := 0, slots := 0, locals := 43 } s m args below meth c 0 0 (bQi below args s G σ0 Q) G (va_A (bk_w G σ0) s.heap.size) 6 216 [(0, .ref (G.2.2 10)), (1, .int (bI x1))] [] σ) (hP263 : ∀ (x1 : Int) (σ : bS), bR x1 → bRG σ → P263 x1 σ → bA p l e { frames := 2, cells := 0, slots := 0, locals := 43 } s m args below meth c 0 0 (bQi below args s G σ0 Q) G (va_A (bk_w G σ0) s.heap.size) 6 263 [(0, .ref (G.2.2 10)), (1, .int (bI x1))] [] σ) (hx1 : bR x1) (hx2 : bR x2) (hx3 : bR x3) (hσ : bRG σ) (h : bX9_areCellsGood_52 Q P2 P32 P42 P52 P216 P263 x1 x2 x3 σ) : bA p l e { frames := 2, cells := 0, slots := 0, locals := 43 } s m args below meth c 0 0 (bQi below args s G σ0 Q) G (va_A (bk_w G σ0) s.heap.size) 6 52 [(0, .ref (G.2.2 10)), (1, .int (bI x1)), (2, .int (bI x2)), (3, .int (bI x3))] [] σ := by
  unfold bX9_areCellsGood_52 at h
  refine br_iload_n S 3 dX9_areCellsGood_52 rfl rfl ?_
  refine br_aload_n S 0 dX9_areCellsGood_53 rfl rfl ?_
  refine br_get (f := 6) (N := 37) (C := RX9) (T := TX9) S inT_X9 wd_4_0 (by decide) rfl rfl (by decide) rfl dX9_areCellsGood_54 ?_
  refine br_iload_n S 2 dX9_areCellsGood_57 rfl rfl ?_
  obtain ⟨g1, h⟩ := h
  refine br_iald (n := 30) S ⟨by decide, by decide, fun _ => rfl⟩ g1.1 g1.2 dX9_areCellsGood_58 ?_
  refine br_ic_ge S 202 hx3 (hσ 52 x2) dX9_areCellsGood_59 (by decide) (fun c2 => ?_) (fun c2 => ?_)
  · replace h := h.1 c2
    refine br_iinc S 2 [(2, .int (bI (x2 + 1))), (0, .ref (G.2.2 10)), (1, .int (bI x1)), (3, .int (bI x3))] dX9_areCellsGood_202 rfl (by decide) rfl ?_
    refine br_goto S 42 dX9_areCellsGood_205 (by decide) ?_
    obtain ⟨g3, h⟩ := h
    exact bA.perm [1, 2, 0] rfl <| hP42 x1 (x2 + 1) σ hx1 g3 hσ h
  · replace h := h.2 c2
    refine br_aload_n S 0 dX9_areCellsGood_62 rfl rfl ?_
    refine br_get (f := 7) (N := 37) (C := RX9) (T := TX9) S inT_X9 wd_4_1 (by decide) rfl rfl (by decide) rfl dX9_areCellsGood_63 ?_
    refine br_bipush S dX9_areCellsGood_66 rfl ?_
    refine br_iload_n S 2 dX9_areCellsGood_68 rfl rfl ?_
    refine br_imul S dX9_areCellsGood_69 ?_
    refine br_iload_n S 3 dX9_areCellsGood_70 rfl rfl ?_
    refine br_iadd S dX9_areCellsGood_71 ?_
    obtain ⟨g4, h⟩ := h
    refine br_iald (n := 1200) S ⟨by decide, by decide, fun _ => rfl⟩ g4.1 g4.2 dX9_areCellsGood_72 ?_
    refine br_iconst S dX9_areCellsGood_73 ?_
    refine br_ic_ne S 196 (hσ 53 ((40 * x2) + x3)) (by decide) dX9_areCellsGood_74 (by decide) (fun c5 => ?_) (fun c5 => ?_)
    · replace h := h.1 c5
      exact wX9_areCellsGood_196 S hr hlk hP2 hP32 hP42 hP52 hP216 hP263 hx1 hx2 hx3 hσ h
    · replace h := h.2 c5
      refine br_aload_n S 0 dX9_areCellsGood_77 rfl rfl ?_
      refine br_get (f := 8) (N := 37) (C := RX9) (T := TX9) S inT_X9 wd_4_2 (by decide) rfl rfl (by decide) rfl dX9_areCellsGood_78 ?_
      refine br_bipush S dX9_areCellsGood_81 rfl ?_
      refine br_iload_n S 2 dX9_areCellsGood_83 rfl rfl ?_
      refine br_imul S dX9_areCellsGood_84 ?_
      refine br_iload_n S 3 dX9_areCellsGood_85 rfl rfl ?_
      refine br_iadd S dX9_areCellsGood_86 ?_
      refine br_iald (n := 1200) S ⟨by decide, by decide, fun _ => rfl⟩ g4.1 g4.2 dX9_areCellsGood_87 ?_
      refine br_istore S [(4, .int (bI (σ 54 ((40 * x2) + x3)))), (0, .ref (G.2.2 10)), (1, .int (bI x1)), (2, .int (bI x2)), (3, .int (bI x3))] dX9_areCellsGood_88 (by decide) rfl ?_
      refine br_aload_n S 1 dX9_areCellsGood_90 rfl rfl ?_
      refine br_get (f := 16) (N := 37) (C := RX9) (T := TX9) S inT_X9 wd_4_10 (by decide) rfl rfl (by decide) rfl dX9_areCellsGood_91 ?_
      refine br_iload S 0 dX9_areCellsGood_94 rfl ?_
      obtain ⟨g6, h⟩ := h
      refine br_iald (n := 30) S ⟨by decide, by decide, fun _ => rfl⟩ g6.1 g6.2 dX9_areCellsGood_96 ?_
      refine br_aload_n S 1 dX9_areCellsGood_97 rfl rfl ?_
      refine br_iload_n S 3 dX9_areCellsGood_98 rfl rfl ?_
      refine br_iload S 0 dX9_areCellsGood_99 rfl ?_
      refine br_callV (As := [.int (bI x2), .int (bI (σ 54 ((40 * x2) + x3)))]) (rest := [.int (bI (σ 61 (σ 54 ((40 * x2) + x3))))]) S (cwV_X9_isFar S.2.2.2.2 wd_4_188 ⟨by decide, by decide⟩) (mX9_isFar l G σ x2 hx2 (σ 54 ((40 * x2) + x3)) (hσ 54 ((40 * x2) + x3)) h) (by decide) rfl rfl rfl hσ rfl rfl (Nat.le_of_ble_eq_true rfl) ⟨by decide, by decide⟩ dX9_areCellsGood_101 (fun z7 σ8 hz7 hσ8 h => ?_)
      refine br_if_eq S 111 hz7 dX9_areCellsGood_104 (by decide) (fun c9 => ?_) (fun c9 => ?_)
      · replace h := h.1 c9
        refine br_iconst S dX9_areCellsGood_111 ?_
        exact bA.perm [1, 2, 3, 4, 0] rfl <| wX9_areCellsGood_112 S hr hlk hP2 hP32 hP42 hP52 hP216 hP263 hx1 hx2 hx3 (hσ 54 ((40 * x2) + x3)) (by decide) (hσ 61 (σ 54 ((40 * x2) + x3))) hσ8 h
      · replace h := h.2 c9
        refine br_iconst S dX9_areCellsGood_107 ?_
        refine br_goto S 112 dX9_areCellsGood_108 (by decide) ?_
        exact bA.perm [1, 2, 3, 4, 0] rfl <| wX9_areCellsGood_112 S hr hlk hP2 hP32 hP42 hP52 hP216 hP263 hx1 hx2 hx3 (hσ 54 ((40 * x2) + x3)) (by decide) (hσ 61 (σ 54 ((40 * x2) + x3))) hσ8 h
def bX9_areCellsGood_216 (Q : Int → bS → Prop) (P2 : Int → bS → Prop) (P32 : Int → bS → Prop) (P42 : Int → Int → bS → Prop) (P52 : Int → Int → Int → bS → Prop) (P216 : Int → bS → Prop) (P263 : Int → bS → Prop) (x1 : Int) (σ : bS) : Prop := (((σ 10 3) ≤ x1 → (P263 0 σ)) ∧ (¬ (σ 10 3) ≤ x1 → ((0 ≤ x1 ∧ x1 < 30) ∧ (bR ((σ 60 x1) + (σ 51 x1)) ∧ ((((σ 60 x1) + (σ 51 x1)) ≤ (σ 55 4) → (bR (x1 + 1) ∧ (P216 (x1 + 1) σ))) ∧ (¬ ((σ 60 x1) + (σ 51 x1)) ≤ (σ 55 4) → (vX9_told (fun z6 σ7 => ((z6 = 0 ∨ z6 = 1) ∧ (Q z6 σ7))) 6 x1 (-1) σ)))))))
theorem mono_bX9_areCellsGood_216 {Q Q9 : Int → bS → Prop} {P2 P29 : Int → bS → Prop} {P32 P329 : Int → bS → Prop} {P42 P429 : Int → Int → bS → Prop} {P52 P529 : Int → Int → Int → bS → Prop} {P216 P2169 : Int → bS → Prop} {P263 P2639 : Int → bS → Prop} {x1 : Int} {σ : bS} (hQ : ∀ r σ, Q r σ → Q9 r σ) (hP2 : ∀ x1 σ, P2 x1 σ → P29 x1 σ) (hP32 : ∀ x1 σ, P32 x1 σ → P329 x1 σ) (hP42 : ∀ x1 x2 σ, P42 x1 x2 σ → P429 x1 x2 σ) (hP52 : ∀ x1 x2 x3 σ, P52 x1 x2 x3 σ → P529 x1 x2 x3 σ) (hP216 : ∀ x1 σ, P216 x1 σ → P2169 x1 σ) (hP263 : ∀ x1 σ, P263 x1 σ → P2639 x1 σ) : bX9_areCellsGood_216 Q P2 P32 P42 P52 P216 P263 x1 σ → bX9_areCellsGood_216 Q9 P29 P329 P429 P529 P2169 P2639 x1 σ := (bm_and (bm_imp (hP263 _ _)) (bm_imp (bm_r (bm_r (bm_and (bm_imp (bm_r (hP216 _ _))) (bm_imp (mono_X9_told (fun _ _ => (bm_r (hQ _ _))))))))))
theorem wX9_areCellsGood_216 {p : Program} {l : Launch} {e : Env} {s : State} {m : MethodId} {args : Array Value} {below : List Frame} {meth : Method} {c : Code} {G : bG} {σ0 : bS} {Q : Int → bS → Prop} {P2 : Int → bS → Prop} {P32 : Int → bS → Prop} {P42 : Int → Int → bS → Prop} {P52 : Int → Int → Int → bS → Prop} {P216 : Int → bS → Prop} {P263 : Int → bS → Prop} {x1 : Int} {σ : bS} (S : CallFix p m c cX9_areCellsGood 6 s args bT "BankLinkerModel") (hr : meth.sig.returnType = some .boolean) (hlk : meth.locks = false) (hP2 : ∀ (x1 : Int) (σ : bS), bR x1 → bRG σ → P2 x1 σ → bA p l e { frames := 2, cells := 0, slots := 0, locals := 43 } s m args below meth c 0 0 (bQi below args s G σ0 Q) G (va_A (bk_w G σ0) s.heap.size) 6 2 [(0, .ref (G.2.2 10)), (1, .int (bI x1))] [] σ) (hP32 : ∀ (x1 : Int) (σ : bS), bR x1 → bRG σ → P32 x1 σ → bA p l e { frames := 2, cells := 0, slots := 0, locals := 43 } s m args below meth c 0 0 (bQi below args s G σ0 Q) G (va_A (bk_w G σ0) s.heap.size) 6 32 [(0, .ref (G.2.2 10)), (1, .int (bI x1))] [] σ) (hP42 : ∀ (x1 : Int) (x2 : Int) (σ : bS), bR x1 → bR x2 → bRG σ → P42 x1 x2 σ → bA p l e { frames := 2, cells := 0, slots := 0, locals := 43 } s m args below meth c 0 0 (bQi below args s G σ0 Q) G (va_A (bk_w G σ0) s.heap.size) 6 42 [(0, .ref (G.2.2 10)), (1, .int (bI x1)), (2, .int (bI x2))] [] σ) (hP52 : ∀ (x1 : Int) (x2 : Int) (x3 : Int) (σ : bS), bR x1 → bR x2 → bR x3 → bRG σ → P52 x1 x2 x3 σ → bA p l e { frames := 2, cells := 0, slots := 0, locals := 43 } s m args below meth c 0 0 (bQi below args s G σ0 Q) G (va_A (bk_w G σ0) s.heap.size) 6 52 [(0, .ref (G.2.2 10)), (1, .int (bI x1)), (2, .int (bI x2)), (3, .int (bI x3))] [] σ) (hP216 : ∀ (x1 : Int) (σ : bS), bR x1 → bRG σ → P216 x1 σ → bA p l e { frames := 2, cells := 0, slots := 0, locals := 43 } s m args below meth c 0 0 (bQi below args s G σ0 Q) G (va_A (bk_w G σ0) s.heap.size) 6 216 [(0, .ref (G.2.2 10)), (1, .int (bI x1))] [] σ) (hP263 : ∀ (x1 : Int) (σ : bS), bR x1 → bRG σ → P263 x1 σ → bA p l e { frames := 2, cells := 0, slots := 0, locals := 43 } s m args below meth c 0 0 (bQi below args s G σ0 Q) G (va_A (bk_w G σ0) s.heap.size) 6 263 [(0, .ref (G.2.2 10)), (1, .int (bI x1))] [] σ) (hx1 : bR x1) (hσ : bRG σ) (h : bX9_areCellsGood_216 Q P2 P32 P42 P52 P216 P263 x1 σ) : bA p l e { frames := 2, cells := 0, slots := 0, locals := 43 } s m args below meth c 0 0 (bQi below args s G σ0 Q) G (va_A (bk_w G σ0) s.heap.size) 6 216 [(0, .ref (G.2.2 10)), (1, .int (bI x1))] [] σ := by
  unfold bX9_areCellsGood_216 at h
  refine br_iload_n S 1 dX9_areCellsGood_216 rfl rfl ?_
  refine br_aload_n S 0 dX9_areCellsGood_217 rfl rfl ?_
  refine br_get (f := 3) (N := 37) (C := RX9) (T := TX9) S inT_X9 wd_3_237 (by decide) rfl rfl (by decide) rfl dX9_areCellsGood_218 ?_
  refine br_ic_ge S 261 hx1 (hσ 10 3) dX9_areCellsGood_221 (by decide) (fun c1 => ?_) (fun c1 => ?_)
  · replace h := h.1 c1
    refine br_iconst S dX9_areCellsGood_261 ?_
    refine br_istore_n S [(1, .int (bI 0)), (0, .ref (G.2.2 10))] dX9_areCellsGood_262 rfl (by decide) rfl ?_
    exact bA.perm [1, 0] rfl <| hP263 0 σ (by decide) hσ h
  · replace h := h.2 c1
    refine br_aload_n S 0 dX9_areCellsGood_224 rfl rfl ?_
    refine br_get (f := 15) (N := 37) (C := RX9) (T := TX9) S inT_X9 wd_4_9 (by decide) rfl rfl (by decide) rfl dX9_areCellsGood_225 ?_
    refine br_iload_n S 1 dX9_areCellsGood_228 rfl rfl ?_
    obtain ⟨g2, h⟩ := h
    refine br_iald (n := 30) S ⟨by decide, by decide, fun _ => rfl⟩ g2.1 g2.2 dX9_areCellsGood_229 ?_
    refine br_aload_n S 0 dX9_areCellsGood_230 rfl rfl ?_
    refine br_get (f := 5) (N := 37) (C := RX9) (T := TX9) S inT_X9 wd_3_239 (by decide) rfl rfl (by decide) rfl dX9_areCellsGood_231 ?_
    refine br_iload_n S 1 dX9_areCellsGood_234 rfl rfl ?_
    refine br_iald (n := 30) S ⟨by decide, by decide, fun _ => rfl⟩ g2.1 g2.2 dX9_areCellsGood_235 ?_
    refine br_iadd S dX9_areCellsGood_236 ?_
    refine br_aload_n S 0 dX9_areCellsGood_237 rfl rfl ?_
    refine br_get (f := 9) (N := 37) (C := RX9) (T := TX9) S inT_X9 wd_4_3 (by decide) rfl rfl (by decide) rfl dX9_areCellsGood_238 ?_
    refine br_iconst S dX9_areCellsGood_241 ?_
    refine br_iald (n := 5) S ⟨by decide, by decide, fun _ => rfl⟩ (by decide) (by decide) dX9_areCellsGood_242 ?_
    obtain ⟨g3, h⟩ := h
    refine br_ic_le S 255 g3 (hσ 55 4) dX9_areCellsGood_243 (by decide) (fun c4 => ?_) (fun c4 => ?_)
    · replace h := h.1 c4
      refine br_iinc S 1 [(1, .int (bI (x1 + 1))), (0, .ref (G.2.2 10))] dX9_areCellsGood_255 rfl (by decide) rfl ?_
      refine br_goto S 216 dX9_areCellsGood_258 (by decide) ?_
      obtain ⟨g5, h⟩ := h
      exact bA.perm [1, 0] rfl <| hP216 (x1 + 1) σ g5 hσ h
    · replace h := h.2 c4
      refine br_aload_n S 0 dX9_areCellsGood_246 rfl rfl ?_
      refine br_bipush S dX9_areCellsGood_247 rfl ?_
      refine br_iload_n S 1 dX9_areCellsGood_249 rfl rfl ?_
      refine br_iconst S dX9_areCellsGood_250 ?_
      refine br_callV (As := [.int (bI 6), .int (bI x1), .int (bI (-1))]) (rest := []) S (cwV_X9_told S.2.2.2.2 wd_4_161 ⟨by decide, by decide⟩) (mX9_told l G σ 6 (by decide) x1 hx1 (-1) (by decide) h) (by decide) rfl rfl rfl hσ rfl rfl (Nat.le_of_ble_eq_true rfl) ⟨by decide, by decide⟩ dX9_areCellsGood_251 (fun z6 σ7 hz6 hσ7 h => ?_)
      obtain ⟨g8, h⟩ := h
      exact br_zret S hr hlk g8 hσ7 dX9_areCellsGood_254 h
def bX9_areCellsGood_263 (Q : Int → bS → Prop) (P2 : Int → bS → Prop) (P32 : Int → bS → Prop) (P42 : Int → Int → bS → Prop) (P52 : Int → Int → Int → bS → Prop) (P216 : Int → bS → Prop) (P263 : Int → bS → Prop) (x1 : Int) (σ : bS) : Prop := (((σ 10 3) ≤ x1 → (Q 1 σ)) ∧ (¬ (σ 10 3) ≤ x1 → ((0 ≤ x1 ∧ x1 < 30) ∧ (((σ 61 x1) ≤ (σ 55 3) → (bR (x1 + 1) ∧ (P263 (x1 + 1) σ))) ∧ (¬ (σ 61 x1) ≤ (σ 55 3) → (vX9_told (fun z5 σ6 => ((z5 = 0 ∨ z5 = 1) ∧ (Q z5 σ6))) 7 x1 (-1) σ))))))
theorem mono_bX9_areCellsGood_263 {Q Q9 : Int → bS → Prop} {P2 P29 : Int → bS → Prop} {P32 P329 : Int → bS → Prop} {P42 P429 : Int → Int → bS → Prop} {P52 P529 : Int → Int → Int → bS → Prop} {P216 P2169 : Int → bS → Prop} {P263 P2639 : Int → bS → Prop} {x1 : Int} {σ : bS} (hQ : ∀ r σ, Q r σ → Q9 r σ) (hP2 : ∀ x1 σ, P2 x1 σ → P29 x1 σ) (hP32 : ∀ x1 σ, P32 x1 σ → P329 x1 σ) (hP42 : ∀ x1 x2 σ, P42 x1 x2 σ → P429 x1 x2 σ) (hP52 : ∀ x1 x2 x3 σ, P52 x1 x2 x3 σ → P529 x1 x2 x3 σ) (hP216 : ∀ x1 σ, P216 x1 σ → P2169 x1 σ) (hP263 : ∀ x1 σ, P263 x1 σ → P2639 x1 σ) : bX9_areCellsGood_263 Q P2 P32 P42 P52 P216 P263 x1 σ → bX9_areCellsGood_263 Q9 P29 P329 P429 P529 P2169 P2639 x1 σ := (bm_and (bm_imp (hQ _ _)) (bm_imp (bm_r (bm_and (bm_imp (bm_r (hP263 _ _))) (bm_imp (mono_X9_told (fun _ _ => (bm_r (hQ _ _)))))))))
theorem wX9_areCellsGood_263 {p : Program} {l : Launch} {e : Env} {s : State} {m : MethodId} {args : Array Value} {below : List Frame} {meth : Method} {c : Code} {G : bG} {σ0 : bS} {Q : Int → bS → Prop} {P2 : Int → bS → Prop} {P32 : Int → bS → Prop} {P42 : Int → Int → bS → Prop} {P52 : Int → Int → Int → bS → Prop} {P216 : Int → bS → Prop} {P263 : Int → bS → Prop} {x1 : Int} {σ : bS} (S : CallFix p m c cX9_areCellsGood 6 s args bT "BankLinkerModel") (hr : meth.sig.returnType = some .boolean) (hlk : meth.locks = false) (hP2 : ∀ (x1 : Int) (σ : bS), bR x1 → bRG σ → P2 x1 σ → bA p l e { frames := 2, cells := 0, slots := 0, locals := 43 } s m args below meth c 0 0 (bQi below args s G σ0 Q) G (va_A (bk_w G σ0) s.heap.size) 6 2 [(0, .ref (G.2.2 10)), (1, .int (bI x1))] [] σ) (hP32 : ∀ (x1 : Int) (σ : bS), bR x1 → bRG σ → P32 x1 σ → bA p l e { frames := 2, cells := 0, slots := 0, locals := 43 } s m args below meth c 0 0 (bQi below args s G σ0 Q) G (va_A (bk_w G σ0) s.heap.size) 6 32 [(0, .ref (G.2.2 10)), (1, .int (bI x1))] [] σ) (hP42 : ∀ (x1 : Int) (x2 : Int) (σ : bS), bR x1 → bR x2 → bRG σ → P42 x1 x2 σ → bA p l e { frames := 2, cells := 0, slots := 0, locals := 43 } s m args below meth c 0 0 (bQi below args s G σ0 Q) G (va_A (bk_w G σ0) s.heap.size) 6 42 [(0, .ref (G.2.2 10)), (1, .int (bI x1)), (2, .int (bI x2))] [] σ) (hP52 : ∀ (x1 : Int) (x2 : Int) (x3 : Int) (σ : bS), bR x1 → bR x2 → bR x3 → bRG σ → P52 x1 x2 x3 σ → bA p l e { frames := 2, cells := 0, slots := 0, locals := 43 } s m args below meth c 0 0 (bQi below args s G σ0 Q) G (va_A (bk_w G σ0) s.heap.size) 6 52 [(0, .ref (G.2.2 10)), (1, .int (bI x1)), (2, .int (bI x2)), (3, .int (bI x3))] [] σ) (hP216 : ∀ (x1 : Int) (σ : bS), bR x1 → bRG σ → P216 x1 σ → bA p l e { frames := 2, cells := 0, slots := 0, locals := 43 } s m args below meth c 0 0 (bQi below args s G σ0 Q) G (va_A (bk_w G σ0) s.heap.size) 6 216 [(0, .ref (G.2.2 10)), (1, .int (bI x1))] [] σ) (hP263 : ∀ (x1 : Int) (σ : bS), bR x1 → bRG σ → P263 x1 σ → bA p l e { frames := 2, cells := 0, slots := 0, locals := 43 } s m args below meth c 0 0 (bQi below args s G σ0 Q) G (va_A (bk_w G σ0) s.heap.size) 6 263 [(0, .ref (G.2.2 10)), (1, .int (bI x1))] [] σ) (hx1 : bR x1) (hσ : bRG σ) (h : bX9_areCellsGood_263 Q P2 P32 P42 P52 P216 P263 x1 σ) : bA p l e { frames := 2, cells := 0, slots := 0, locals := 43 } s m args below meth c 0 0 (bQi below args s G σ0 Q) G (va_A (bk_w G σ0) s.heap.size) 6 263 [(0, .ref (G.2.2 10)), (1, .int (bI x1))] [] σ := by
  unfold bX9_areCellsGood_263 at h
  refine br_iload_n S 1 dX9_areCellsGood_263 rfl rfl ?_
  refine br_aload_n S 0 dX9_areCellsGood_264 rfl rfl ?_
  refine br_get (f := 3) (N := 37) (C := RX9) (T := TX9) S inT_X9 wd_3_237 (by decide) rfl rfl (by decide) rfl dX9_areCellsGood_265 ?_
  refine br_ic_ge S 301 hx1 (hσ 10 3) dX9_areCellsGood_268 (by decide) (fun c1 => ?_) (fun c1 => ?_)
  · replace h := h.1 c1
    refine br_iconst S dX9_areCellsGood_301 ?_
    exact br_zret S hr hlk (by decide) hσ dX9_areCellsGood_302 h
  · replace h := h.2 c1
    refine br_aload_n S 0 dX9_areCellsGood_271 rfl rfl ?_
    refine br_get (f := 16) (N := 37) (C := RX9) (T := TX9) S inT_X9 wd_4_10 (by decide) rfl rfl (by decide) rfl dX9_areCellsGood_272 ?_
    refine br_iload_n S 1 dX9_areCellsGood_275 rfl rfl ?_
    obtain ⟨g2, h⟩ := h
    refine br_iald (n := 30) S ⟨by decide, by decide, fun _ => rfl⟩ g2.1 g2.2 dX9_areCellsGood_276 ?_
    refine br_aload_n S 0 dX9_areCellsGood_277 rfl rfl ?_
    refine br_get (f := 9) (N := 37) (C := RX9) (T := TX9) S inT_X9 wd_4_3 (by decide) rfl rfl (by decide) rfl dX9_areCellsGood_278 ?_
    refine br_iconst S dX9_areCellsGood_281 ?_
    refine br_iald (n := 5) S ⟨by decide, by decide, fun _ => rfl⟩ (by decide) (by decide) dX9_areCellsGood_282 ?_
    refine br_ic_le S 295 (hσ 61 x1) (hσ 55 3) dX9_areCellsGood_283 (by decide) (fun c3 => ?_) (fun c3 => ?_)
    · replace h := h.1 c3
      refine br_iinc S 1 [(1, .int (bI (x1 + 1))), (0, .ref (G.2.2 10))] dX9_areCellsGood_295 rfl (by decide) rfl ?_
      refine br_goto S 263 dX9_areCellsGood_298 (by decide) ?_
      obtain ⟨g4, h⟩ := h
      exact bA.perm [1, 0] rfl <| hP263 (x1 + 1) σ g4 hσ h
    · replace h := h.2 c3
      refine br_aload_n S 0 dX9_areCellsGood_286 rfl rfl ?_
      refine br_bipush S dX9_areCellsGood_287 rfl ?_
      refine br_iload_n S 1 dX9_areCellsGood_289 rfl rfl ?_
      refine br_iconst S dX9_areCellsGood_290 ?_
      refine br_callV (As := [.int (bI 7), .int (bI x1), .int (bI (-1))]) (rest := []) S (cwV_X9_told S.2.2.2.2 wd_4_161 ⟨by decide, by decide⟩) (mX9_told l G σ 7 (by decide) x1 hx1 (-1) (by decide) h) (by decide) rfl rfl rfl hσ rfl rfl (Nat.le_of_ble_eq_true rfl) ⟨by decide, by decide⟩ dX9_areCellsGood_291 (fun z5 σ6 hz5 hσ6 h => ?_)
      obtain ⟨g7, h⟩ := h
      exact br_zret S hr hlk g7 hσ6 dX9_areCellsGood_294 h
def eX9_areCellsGood (Q : Int → bS → Prop) (P2 : Int → bS → Prop) (P32 : Int → bS → Prop) (P42 : Int → Int → bS → Prop) (P52 : Int → Int → Int → bS → Prop) (P216 : Int → bS → Prop) (P263 : Int → bS → Prop) (σ : bS) : Prop := (P2 0 σ)
theorem mono_eX9_areCellsGood {Q Q9 : Int → bS → Prop} {P2 P29 : Int → bS → Prop} {P32 P329 : Int → bS → Prop} {P42 P429 : Int → Int → bS → Prop} {P52 P529 : Int → Int → Int → bS → Prop} {P216 P2169 : Int → bS → Prop} {P263 P2639 : Int → bS → Prop} {σ : bS} (hQ : ∀ r σ, Q r σ → Q9 r σ) (hP2 : ∀ x1 σ, P2 x1 σ → P29 x1 σ) (hP32 : ∀ x1 σ, P32 x1 σ → P329 x1 σ) (hP42 : ∀ x1 x2 σ, P42 x1 x2 σ → P429 x1 x2 σ) (hP52 : ∀ x1 x2 x3 σ, P52 x1 x2 x3 σ → P529 x1 x2 x3 σ) (hP216 : ∀ x1 σ, P216 x1 σ → P2169 x1 σ) (hP263 : ∀ x1 σ, P263 x1 σ → P2639 x1 σ) : eX9_areCellsGood Q P2 P32 P42 P52 P216 P263 σ → eX9_areCellsGood Q9 P29 P329 P429 P529 P2169 P2639 σ := (hP2 _ _)
theorem wX9_areCellsGood_e {p : Program} {l : Launch} {e : Env} {s : State} {m : MethodId} {args : Array Value} {below : List Frame} {meth : Method} {c : Code} {G : bG} {σ0 : bS} {Q : Int → bS → Prop} {P2 : Int → bS → Prop} {P32 : Int → bS → Prop} {P42 : Int → Int → bS → Prop} {P52 : Int → Int → Int → bS → Prop} {P216 : Int → bS → Prop} {P263 : Int → bS → Prop} {σ : bS} (S : CallFix p m c cX9_areCellsGood 6 s args bT "BankLinkerModel") (hr : meth.sig.returnType = some .boolean) (hlk : meth.locks = false) (hP2 : ∀ (x1 : Int) (σ : bS), bR x1 → bRG σ → P2 x1 σ → bA p l e { frames := 2, cells := 0, slots := 0, locals := 43 } s m args below meth c 0 0 (bQi below args s G σ0 Q) G (va_A (bk_w G σ0) s.heap.size) 6 2 [(0, .ref (G.2.2 10)), (1, .int (bI x1))] [] σ) (hP32 : ∀ (x1 : Int) (σ : bS), bR x1 → bRG σ → P32 x1 σ → bA p l e { frames := 2, cells := 0, slots := 0, locals := 43 } s m args below meth c 0 0 (bQi below args s G σ0 Q) G (va_A (bk_w G σ0) s.heap.size) 6 32 [(0, .ref (G.2.2 10)), (1, .int (bI x1))] [] σ) (hP42 : ∀ (x1 : Int) (x2 : Int) (σ : bS), bR x1 → bR x2 → bRG σ → P42 x1 x2 σ → bA p l e { frames := 2, cells := 0, slots := 0, locals := 43 } s m args below meth c 0 0 (bQi below args s G σ0 Q) G (va_A (bk_w G σ0) s.heap.size) 6 42 [(0, .ref (G.2.2 10)), (1, .int (bI x1)), (2, .int (bI x2))] [] σ) (hP52 : ∀ (x1 : Int) (x2 : Int) (x3 : Int) (σ : bS), bR x1 → bR x2 → bR x3 → bRG σ → P52 x1 x2 x3 σ → bA p l e { frames := 2, cells := 0, slots := 0, locals := 43 } s m args below meth c 0 0 (bQi below args s G σ0 Q) G (va_A (bk_w G σ0) s.heap.size) 6 52 [(0, .ref (G.2.2 10)), (1, .int (bI x1)), (2, .int (bI x2)), (3, .int (bI x3))] [] σ) (hP216 : ∀ (x1 : Int) (σ : bS), bR x1 → bRG σ → P216 x1 σ → bA p l e { frames := 2, cells := 0, slots := 0, locals := 43 } s m args below meth c 0 0 (bQi below args s G σ0 Q) G (va_A (bk_w G σ0) s.heap.size) 6 216 [(0, .ref (G.2.2 10)), (1, .int (bI x1))] [] σ) (hP263 : ∀ (x1 : Int) (σ : bS), bR x1 → bRG σ → P263 x1 σ → bA p l e { frames := 2, cells := 0, slots := 0, locals := 43 } s m args below meth c 0 0 (bQi below args s G σ0 Q) G (va_A (bk_w G σ0) s.heap.size) 6 263 [(0, .ref (G.2.2 10)), (1, .int (bI x1))] [] σ) (hσ : bRG σ) (h : eX9_areCellsGood Q P2 P32 P42 P52 P216 P263 σ) : bA p l e { frames := 2, cells := 0, slots := 0, locals := 43 } s m args below meth c 0 0 (bQi below args s G σ0 Q) G (va_A (bk_w G σ0) s.heap.size) 6 0 [(0, .ref (G.2.2 10))] [] σ := by
  unfold eX9_areCellsGood at h
  refine br_iconst S dX9_areCellsGood_0 ?_
  refine br_istore_n S [(1, .int (bI 0)), (0, .ref (G.2.2 10))] dX9_areCellsGood_1 rfl (by decide) rfl ?_
  exact bA.perm [1, 0] rfl <| hP2 0 σ (by decide) hσ h
def LX9_areCellsGood_2 (Q : Int → bS → Prop) (x1 : Int) (σ : bS) : Prop := ∀ (P2 : Int → bS → Prop) (P32 : Int → bS → Prop) (P42 : Int → Int → bS → Prop) (P52 : Int → Int → Int → bS → Prop) (P216 : Int → bS → Prop) (P263 : Int → bS → Prop), (∀ x1 σ, bX9_areCellsGood_2 Q P2 P32 P42 P52 P216 P263 x1 σ → P2 x1 σ) → (∀ x1 σ, bX9_areCellsGood_32 Q P2 P32 P42 P52 P216 P263 x1 σ → P32 x1 σ) → (∀ x1 x2 σ, bX9_areCellsGood_42 Q P2 P32 P42 P52 P216 P263 x1 x2 σ → P42 x1 x2 σ) → (∀ x1 x2 x3 σ, bX9_areCellsGood_52 Q P2 P32 P42 P52 P216 P263 x1 x2 x3 σ → P52 x1 x2 x3 σ) → (∀ x1 σ, bX9_areCellsGood_216 Q P2 P32 P42 P52 P216 P263 x1 σ → P216 x1 σ) → (∀ x1 σ, bX9_areCellsGood_263 Q P2 P32 P42 P52 P216 P263 x1 σ → P263 x1 σ) → P2 x1 σ
def LX9_areCellsGood_32 (Q : Int → bS → Prop) (x1 : Int) (σ : bS) : Prop := ∀ (P2 : Int → bS → Prop) (P32 : Int → bS → Prop) (P42 : Int → Int → bS → Prop) (P52 : Int → Int → Int → bS → Prop) (P216 : Int → bS → Prop) (P263 : Int → bS → Prop), (∀ x1 σ, bX9_areCellsGood_2 Q P2 P32 P42 P52 P216 P263 x1 σ → P2 x1 σ) → (∀ x1 σ, bX9_areCellsGood_32 Q P2 P32 P42 P52 P216 P263 x1 σ → P32 x1 σ) → (∀ x1 x2 σ, bX9_areCellsGood_42 Q P2 P32 P42 P52 P216 P263 x1 x2 σ → P42 x1 x2 σ) → (∀ x1 x2 x3 σ, bX9_areCellsGood_52 Q P2 P32 P42 P52 P216 P263 x1 x2 x3 σ → P52 x1 x2 x3 σ) → (∀ x1 σ, bX9_areCellsGood_216 Q P2 P32 P42 P52 P216 P263 x1 σ → P216 x1 σ) → (∀ x1 σ, bX9_areCellsGood_263 Q P2 P32 P42 P52 P216 P263 x1 σ → P263 x1 σ) → P32 x1 σ
def LX9_areCellsGood_42 (Q : Int → bS → Prop) (x1 : Int) (x2 : Int) (σ : bS) : Prop := ∀ (P2 : Int → bS → Prop) (P32 : Int → bS → Prop) (P42 : Int → Int → bS → Prop) (P52 : Int → Int → Int → bS → Prop) (P216 : Int → bS → Prop) (P263 : Int → bS → Prop), (∀ x1 σ, bX9_areCellsGood_2 Q P2 P32 P42 P52 P216 P263 x1 σ → P2 x1 σ) → (∀ x1 σ, bX9_areCellsGood_32 Q P2 P32 P42 P52 P216 P263 x1 σ → P32 x1 σ) → (∀ x1 x2 σ, bX9_areCellsGood_42 Q P2 P32 P42 P52 P216 P263 x1 x2 σ → P42 x1 x2 σ) → (∀ x1 x2 x3 σ, bX9_areCellsGood_52 Q P2 P32 P42 P52 P216 P263 x1 x2 x3 σ → P52 x1 x2 x3 σ) → (∀ x1 σ, bX9_areCellsGood_216 Q P2 P32 P42 P52 P216 P263 x1 σ → P216 x1 σ) → (∀ x1 σ, bX9_areCellsGood_263 Q P2 P32 P42 P52 P216 P263 x1 σ → P263 x1 σ) → P42 x1 x2 σ
def LX9_areCellsGood_52 (Q : Int → bS → Prop) (x1 : Int) (x2 : Int) (x3 : Int) (σ : bS) : Prop := ∀ (P2 : Int → bS → Prop) (P32 : Int → bS → Prop) (P42 : Int → Int → bS → Prop) (P52 : Int → Int → Int → bS → Prop) (P216 : Int → bS → Prop) (P263 : Int → bS → Prop), (∀ x1 σ, bX9_areCellsGood_2 Q P2 P32 P42 P52 P216 P263 x1 σ → P2 x1 σ) → (∀ x1 σ, bX9_areCellsGood_32 Q P2 P32 P42 P52 P216 P263 x1 σ → P32 x1 σ) → (∀ x1 x2 σ, bX9_areCellsGood_42 Q P2 P32 P42 P52 P216 P263 x1 x2 σ → P42 x1 x2 σ) → (∀ x1 x2 x3 σ, bX9_areCellsGood_52 Q P2 P32 P42 P52 P216 P263 x1 x2 x3 σ → P52 x1 x2 x3 σ) → (∀ x1 σ, bX9_areCellsGood_216 Q P2 P32 P42 P52 P216 P263 x1 σ → P216 x1 σ) → (∀ x1 σ, bX9_areCellsGood_263 Q P2 P32 P42 P52 P216 P263 x1 σ → P263 x1 σ) → P52 x1 x2 x3 σ
def LX9_areCellsGood_216 (Q : Int → bS → Prop) (x1 : Int) (σ : bS) : Prop := ∀ (P2 : Int → bS → Prop) (P32 : Int → bS → Prop) (P42 : Int → Int → bS → Prop) (P52 : Int → Int → Int → bS → Prop) (P216 : Int → bS → Prop) (P263 : Int → bS → Prop), (∀ x1 σ, bX9_areCellsGood_2 Q P2 P32 P42 P52 P216 P263 x1 σ → P2 x1 σ) → (∀ x1 σ, bX9_areCellsGood_32 Q P2 P32 P42 P52 P216 P263 x1 σ → P32 x1 σ) → (∀ x1 x2 σ, bX9_areCellsGood_42 Q P2 P32 P42 P52 P216 P263 x1 x2 σ → P42 x1 x2 σ) → (∀ x1 x2 x3 σ, bX9_areCellsGood_52 Q P2 P32 P42 P52 P216 P263 x1 x2 x3 σ → P52 x1 x2 x3 σ) → (∀ x1 σ, bX9_areCellsGood_216 Q P2 P32 P42 P52 P216 P263 x1 σ → P216 x1 σ) → (∀ x1 σ, bX9_areCellsGood_263 Q P2 P32 P42 P52 P216 P263 x1 σ → P263 x1 σ) → P216 x1 σ
def LX9_areCellsGood_263 (Q : Int → bS → Prop) (x1 : Int) (σ : bS) : Prop := ∀ (P2 : Int → bS → Prop) (P32 : Int → bS → Prop) (P42 : Int → Int → bS → Prop) (P52 : Int → Int → Int → bS → Prop) (P216 : Int → bS → Prop) (P263 : Int → bS → Prop), (∀ x1 σ, bX9_areCellsGood_2 Q P2 P32 P42 P52 P216 P263 x1 σ → P2 x1 σ) → (∀ x1 σ, bX9_areCellsGood_32 Q P2 P32 P42 P52 P216 P263 x1 σ → P32 x1 σ) → (∀ x1 x2 σ, bX9_areCellsGood_42 Q P2 P32 P42 P52 P216 P263 x1 x2 σ → P42 x1 x2 σ) → (∀ x1 x2 x3 σ, bX9_areCellsGood_52 Q P2 P32 P42 P52 P216 P263 x1 x2 x3 σ → P52 x1 x2 x3 σ) → (∀ x1 σ, bX9_areCellsGood_216 Q P2 P32 P42 P52 P216 P263 x1 σ → P216 x1 σ) → (∀ x1 σ, bX9_areCellsGood_263 Q P2 P32 P42 P52 P216 P263 x1 σ → P263 x1 σ) → P263 x1 σ
theorem LX9_areCellsGood_2_in {Q : Int → bS → Prop} {x1 : Int} {σ : bS} (h : bX9_areCellsGood_2 Q (LX9_areCellsGood_2 Q) (LX9_areCellsGood_32 Q) (LX9_areCellsGood_42 Q) (LX9_areCellsGood_52 Q) (LX9_areCellsGood_216 Q) (LX9_areCellsGood_263 Q) x1 σ) : LX9_areCellsGood_2 Q x1 σ := fun P2 P32 P42 P52 P216 P263 H2 H32 H42 H52 H216 H263 => H2 _ _ (mono_bX9_areCellsGood_2 (fun _ _ h => h) (fun _ _ h => h P2 P32 P42 P52 P216 P263 H2 H32 H42 H52 H216 H263) (fun _ _ h => h P2 P32 P42 P52 P216 P263 H2 H32 H42 H52 H216 H263) (fun _ _ _ h => h P2 P32 P42 P52 P216 P263 H2 H32 H42 H52 H216 H263) (fun _ _ _ _ h => h P2 P32 P42 P52 P216 P263 H2 H32 H42 H52 H216 H263) (fun _ _ h => h P2 P32 P42 P52 P216 P263 H2 H32 H42 H52 H216 H263) (fun _ _ h => h P2 P32 P42 P52 P216 P263 H2 H32 H42 H52 H216 H263) h)
theorem mono_LX9_areCellsGood_2 {Q Q9 : Int → bS → Prop} {x1 : Int} {σ : bS} (hQ : ∀ r σ, Q r σ → Q9 r σ) (h : LX9_areCellsGood_2 Q x1 σ) : LX9_areCellsGood_2 Q9 x1 σ := fun P2 P32 P42 P52 P216 P263 H2 H32 H42 H52 H216 H263 => h P2 P32 P42 P52 P216 P263 (fun _ _ hb => H2 _ _ (mono_bX9_areCellsGood_2 hQ (fun _ _ h => h) (fun _ _ h => h) (fun _ _ _ h => h) (fun _ _ _ _ h => h) (fun _ _ h => h) (fun _ _ h => h) hb)) (fun _ _ hb => H32 _ _ (mono_bX9_areCellsGood_32 hQ (fun _ _ h => h) (fun _ _ h => h) (fun _ _ _ h => h) (fun _ _ _ _ h => h) (fun _ _ h => h) (fun _ _ h => h) hb)) (fun _ _ _ hb => H42 _ _ _ (mono_bX9_areCellsGood_42 hQ (fun _ _ h => h) (fun _ _ h => h) (fun _ _ _ h => h) (fun _ _ _ _ h => h) (fun _ _ h => h) (fun _ _ h => h) hb)) (fun _ _ _ _ hb => H52 _ _ _ _ (mono_bX9_areCellsGood_52 hQ (fun _ _ h => h) (fun _ _ h => h) (fun _ _ _ h => h) (fun _ _ _ _ h => h) (fun _ _ h => h) (fun _ _ h => h) hb)) (fun _ _ hb => H216 _ _ (mono_bX9_areCellsGood_216 hQ (fun _ _ h => h) (fun _ _ h => h) (fun _ _ _ h => h) (fun _ _ _ _ h => h) (fun _ _ h => h) (fun _ _ h => h) hb)) (fun _ _ hb => H263 _ _ (mono_bX9_areCellsGood_263 hQ (fun _ _ h => h) (fun _ _ h => h) (fun _ _ _ h => h) (fun _ _ _ _ h => h) (fun _ _ h => h) (fun _ _ h => h) hb))
theorem LX9_areCellsGood_32_in {Q : Int → bS → Prop} {x1 : Int} {σ : bS} (h : bX9_areCellsGood_32 Q (LX9_areCellsGood_2 Q) (LX9_areCellsGood_32 Q) (LX9_areCellsGood_42 Q) (LX9_areCellsGood_52 Q) (LX9_areCellsGood_216 Q) (LX9_areCellsGood_263 Q) x1 σ) : LX9_areCellsGood_32 Q x1 σ := fun P2 P32 P42 P52 P216 P263 H2 H32 H42 H52 H216 H263 => H32 _ _ (mono_bX9_areCellsGood_32 (fun _ _ h => h) (fun _ _ h => h P2 P32 P42 P52 P216 P263 H2 H32 H42 H52 H216 H263) (fun _ _ h => h P2 P32 P42 P52 P216 P263 H2 H32 H42 H52 H216 H263) (fun _ _ _ h => h P2 P32 P42 P52 P216 P263 H2 H32 H42 H52 H216 H263) (fun _ _ _ _ h => h P2 P32 P42 P52 P216 P263 H2 H32 H42 H52 H216 H263) (fun _ _ h => h P2 P32 P42 P52 P216 P263 H2 H32 H42 H52 H216 H263) (fun _ _ h => h P2 P32 P42 P52 P216 P263 H2 H32 H42 H52 H216 H263) h)
theorem mono_LX9_areCellsGood_32 {Q Q9 : Int → bS → Prop} {x1 : Int} {σ : bS} (hQ : ∀ r σ, Q r σ → Q9 r σ) (h : LX9_areCellsGood_32 Q x1 σ) : LX9_areCellsGood_32 Q9 x1 σ := fun P2 P32 P42 P52 P216 P263 H2 H32 H42 H52 H216 H263 => h P2 P32 P42 P52 P216 P263 (fun _ _ hb => H2 _ _ (mono_bX9_areCellsGood_2 hQ (fun _ _ h => h) (fun _ _ h => h) (fun _ _ _ h => h) (fun _ _ _ _ h => h) (fun _ _ h => h) (fun _ _ h => h) hb)) (fun _ _ hb => H32 _ _ (mono_bX9_areCellsGood_32 hQ (fun _ _ h => h) (fun _ _ h => h) (fun _ _ _ h => h) (fun _ _ _ _ h => h) (fun _ _ h => h) (fun _ _ h => h) hb)) (fun _ _ _ hb => H42 _ _ _ (mono_bX9_areCellsGood_42 hQ (fun _ _ h => h) (fun _ _ h => h) (fun _ _ _ h => h) (fun _ _ _ _ h => h) (fun _ _ h => h) (fun _ _ h => h) hb)) (fun _ _ _ _ hb => H52 _ _ _ _ (mono_bX9_areCellsGood_52 hQ (fun _ _ h => h) (fun _ _ h => h) (fun _ _ _ h => h) (fun _ _ _ _ h => h) (fun _ _ h => h) (fun _ _ h => h) hb)) (fun _ _ hb => H216 _ _ (mono_bX9_areCellsGood_216 hQ (fun _ _ h => h) (fun _ _ h => h) (fun _ _ _ h => h) (fun _ _ _ _ h => h) (fun _ _ h => h) (fun _ _ h => h) hb)) (fun _ _ hb => H263 _ _ (mono_bX9_areCellsGood_263 hQ (fun _ _ h => h) (fun _ _ h => h) (fun _ _ _ h => h) (fun _ _ _ _ h => h) (fun _ _ h => h) (fun _ _ h => h) hb))
theorem LX9_areCellsGood_42_in {Q : Int → bS → Prop} {x1 : Int} {x2 : Int} {σ : bS} (h : bX9_areCellsGood_42 Q (LX9_areCellsGood_2 Q) (LX9_areCellsGood_32 Q) (LX9_areCellsGood_42 Q) (LX9_areCellsGood_52 Q) (LX9_areCellsGood_216 Q) (LX9_areCellsGood_263 Q) x1 x2 σ) : LX9_areCellsGood_42 Q x1 x2 σ := fun P2 P32 P42 P52 P216 P263 H2 H32 H42 H52 H216 H263 => H42 _ _ _ (mono_bX9_areCellsGood_42 (fun _ _ h => h) (fun _ _ h => h P2 P32 P42 P52 P216 P263 H2 H32 H42 H52 H216 H263) (fun _ _ h => h P2 P32 P42 P52 P216 P263 H2 H32 H42 H52 H216 H263) (fun _ _ _ h => h P2 P32 P42 P52 P216 P263 H2 H32 H42 H52 H216 H263) (fun _ _ _ _ h => h P2 P32 P42 P52 P216 P263 H2 H32 H42 H52 H216 H263) (fun _ _ h => h P2 P32 P42 P52 P216 P263 H2 H32 H42 H52 H216 H263) (fun _ _ h => h P2 P32 P42 P52 P216 P263 H2 H32 H42 H52 H216 H263) h)
theorem mono_LX9_areCellsGood_42 {Q Q9 : Int → bS → Prop} {x1 : Int} {x2 : Int} {σ : bS} (hQ : ∀ r σ, Q r σ → Q9 r σ) (h : LX9_areCellsGood_42 Q x1 x2 σ) : LX9_areCellsGood_42 Q9 x1 x2 σ := fun P2 P32 P42 P52 P216 P263 H2 H32 H42 H52 H216 H263 => h P2 P32 P42 P52 P216 P263 (fun _ _ hb => H2 _ _ (mono_bX9_areCellsGood_2 hQ (fun _ _ h => h) (fun _ _ h => h) (fun _ _ _ h => h) (fun _ _ _ _ h => h) (fun _ _ h => h) (fun _ _ h => h) hb)) (fun _ _ hb => H32 _ _ (mono_bX9_areCellsGood_32 hQ (fun _ _ h => h) (fun _ _ h => h) (fun _ _ _ h => h) (fun _ _ _ _ h => h) (fun _ _ h => h) (fun _ _ h => h) hb)) (fun _ _ _ hb => H42 _ _ _ (mono_bX9_areCellsGood_42 hQ (fun _ _ h => h) (fun _ _ h => h) (fun _ _ _ h => h) (fun _ _ _ _ h => h) (fun _ _ h => h) (fun _ _ h => h) hb)) (fun _ _ _ _ hb => H52 _ _ _ _ (mono_bX9_areCellsGood_52 hQ (fun _ _ h => h) (fun _ _ h => h) (fun _ _ _ h => h) (fun _ _ _ _ h => h) (fun _ _ h => h) (fun _ _ h => h) hb)) (fun _ _ hb => H216 _ _ (mono_bX9_areCellsGood_216 hQ (fun _ _ h => h) (fun _ _ h => h) (fun _ _ _ h => h) (fun _ _ _ _ h => h) (fun _ _ h => h) (fun _ _ h => h) hb)) (fun _ _ hb => H263 _ _ (mono_bX9_areCellsGood_263 hQ (fun _ _ h => h) (fun _ _ h => h) (fun _ _ _ h => h) (fun _ _ _ _ h => h) (fun _ _ h => h) (fun _ _ h => h) hb))
theorem LX9_areCellsGood_52_in {Q : Int → bS → Prop} {x1 : Int} {x2 : Int} {x3 : Int} {σ : bS} (h : bX9_areCellsGood_52 Q (LX9_areCellsGood_2 Q) (LX9_areCellsGood_32 Q) (LX9_areCellsGood_42 Q) (LX9_areCellsGood_52 Q) (LX9_areCellsGood_216 Q) (LX9_areCellsGood_263 Q) x1 x2 x3 σ) : LX9_areCellsGood_52 Q x1 x2 x3 σ := fun P2 P32 P42 P52 P216 P263 H2 H32 H42 H52 H216 H263 => H52 _ _ _ _ (mono_bX9_areCellsGood_52 (fun _ _ h => h) (fun _ _ h => h P2 P32 P42 P52 P216 P263 H2 H32 H42 H52 H216 H263) (fun _ _ h => h P2 P32 P42 P52 P216 P263 H2 H32 H42 H52 H216 H263) (fun _ _ _ h => h P2 P32 P42 P52 P216 P263 H2 H32 H42 H52 H216 H263) (fun _ _ _ _ h => h P2 P32 P42 P52 P216 P263 H2 H32 H42 H52 H216 H263) (fun _ _ h => h P2 P32 P42 P52 P216 P263 H2 H32 H42 H52 H216 H263) (fun _ _ h => h P2 P32 P42 P52 P216 P263 H2 H32 H42 H52 H216 H263) h)
theorem mono_LX9_areCellsGood_52 {Q Q9 : Int → bS → Prop} {x1 : Int} {x2 : Int} {x3 : Int} {σ : bS} (hQ : ∀ r σ, Q r σ → Q9 r σ) (h : LX9_areCellsGood_52 Q x1 x2 x3 σ) : LX9_areCellsGood_52 Q9 x1 x2 x3 σ := fun P2 P32 P42 P52 P216 P263 H2 H32 H42 H52 H216 H263 => h P2 P32 P42 P52 P216 P263 (fun _ _ hb => H2 _ _ (mono_bX9_areCellsGood_2 hQ (fun _ _ h => h) (fun _ _ h => h) (fun _ _ _ h => h) (fun _ _ _ _ h => h) (fun _ _ h => h) (fun _ _ h => h) hb)) (fun _ _ hb => H32 _ _ (mono_bX9_areCellsGood_32 hQ (fun _ _ h => h) (fun _ _ h => h) (fun _ _ _ h => h) (fun _ _ _ _ h => h) (fun _ _ h => h) (fun _ _ h => h) hb)) (fun _ _ _ hb => H42 _ _ _ (mono_bX9_areCellsGood_42 hQ (fun _ _ h => h) (fun _ _ h => h) (fun _ _ _ h => h) (fun _ _ _ _ h => h) (fun _ _ h => h) (fun _ _ h => h) hb)) (fun _ _ _ _ hb => H52 _ _ _ _ (mono_bX9_areCellsGood_52 hQ (fun _ _ h => h) (fun _ _ h => h) (fun _ _ _ h => h) (fun _ _ _ _ h => h) (fun _ _ h => h) (fun _ _ h => h) hb)) (fun _ _ hb => H216 _ _ (mono_bX9_areCellsGood_216 hQ (fun _ _ h => h) (fun _ _ h => h) (fun _ _ _ h => h) (fun _ _ _ _ h => h) (fun _ _ h => h) (fun _ _ h => h) hb)) (fun _ _ hb => H263 _ _ (mono_bX9_areCellsGood_263 hQ (fun _ _ h => h) (fun _ _ h => h) (fun _ _ _ h => h) (fun _ _ _ _ h => h) (fun _ _ h => h) (fun _ _ h => h) hb))
theorem LX9_areCellsGood_216_in {Q : Int → bS → Prop} {x1 : Int} {σ : bS} (h : bX9_areCellsGood_216 Q (LX9_areCellsGood_2 Q) (LX9_areCellsGood_32 Q) (LX9_areCellsGood_42 Q) (LX9_areCellsGood_52 Q) (LX9_areCellsGood_216 Q) (LX9_areCellsGood_263 Q) x1 σ) : LX9_areCellsGood_216 Q x1 σ := fun P2 P32 P42 P52 P216 P263 H2 H32 H42 H52 H216 H263 => H216 _ _ (mono_bX9_areCellsGood_216 (fun _ _ h => h) (fun _ _ h => h P2 P32 P42 P52 P216 P263 H2 H32 H42 H52 H216 H263) (fun _ _ h => h P2 P32 P42 P52 P216 P263 H2 H32 H42 H52 H216 H263) (fun _ _ _ h => h P2 P32 P42 P52 P216 P263 H2 H32 H42 H52 H216 H263) (fun _ _ _ _ h => h P2 P32 P42 P52 P216 P263 H2 H32 H42 H52 H216 H263) (fun _ _ h => h P2 P32 P42 P52 P216 P263 H2 H32 H42 H52 H216 H263) (fun _ _ h => h P2 P32 P42 P52 P216 P263 H2 H32 H42 H52 H216 H263) h)
theorem mono_LX9_areCellsGood_216 {Q Q9 : Int → bS → Prop} {x1 : Int} {σ : bS} (hQ : ∀ r σ, Q r σ → Q9 r σ) (h : LX9_areCellsGood_216 Q x1 σ) : LX9_areCellsGood_216 Q9 x1 σ := fun P2 P32 P42 P52 P216 P263 H2 H32 H42 H52 H216 H263 => h P2 P32 P42 P52 P216 P263 (fun _ _ hb => H2 _ _ (mono_bX9_areCellsGood_2 hQ (fun _ _ h => h) (fun _ _ h => h) (fun _ _ _ h => h) (fun _ _ _ _ h => h) (fun _ _ h => h) (fun _ _ h => h) hb)) (fun _ _ hb => H32 _ _ (mono_bX9_areCellsGood_32 hQ (fun _ _ h => h) (fun _ _ h => h) (fun _ _ _ h => h) (fun _ _ _ _ h => h) (fun _ _ h => h) (fun _ _ h => h) hb)) (fun _ _ _ hb => H42 _ _ _ (mono_bX9_areCellsGood_42 hQ (fun _ _ h => h) (fun _ _ h => h) (fun _ _ _ h => h) (fun _ _ _ _ h => h) (fun _ _ h => h) (fun _ _ h => h) hb)) (fun _ _ _ _ hb => H52 _ _ _ _ (mono_bX9_areCellsGood_52 hQ (fun _ _ h => h) (fun _ _ h => h) (fun _ _ _ h => h) (fun _ _ _ _ h => h) (fun _ _ h => h) (fun _ _ h => h) hb)) (fun _ _ hb => H216 _ _ (mono_bX9_areCellsGood_216 hQ (fun _ _ h => h) (fun _ _ h => h) (fun _ _ _ h => h) (fun _ _ _ _ h => h) (fun _ _ h => h) (fun _ _ h => h) hb)) (fun _ _ hb => H263 _ _ (mono_bX9_areCellsGood_263 hQ (fun _ _ h => h) (fun _ _ h => h) (fun _ _ _ h => h) (fun _ _ _ _ h => h) (fun _ _ h => h) (fun _ _ h => h) hb))
theorem LX9_areCellsGood_263_in {Q : Int → bS → Prop} {x1 : Int} {σ : bS} (h : bX9_areCellsGood_263 Q (LX9_areCellsGood_2 Q) (LX9_areCellsGood_32 Q) (LX9_areCellsGood_42 Q) (LX9_areCellsGood_52 Q) (LX9_areCellsGood_216 Q) (LX9_areCellsGood_263 Q) x1 σ) : LX9_areCellsGood_263 Q x1 σ := fun P2 P32 P42 P52 P216 P263 H2 H32 H42 H52 H216 H263 => H263 _ _ (mono_bX9_areCellsGood_263 (fun _ _ h => h) (fun _ _ h => h P2 P32 P42 P52 P216 P263 H2 H32 H42 H52 H216 H263) (fun _ _ h => h P2 P32 P42 P52 P216 P263 H2 H32 H42 H52 H216 H263) (fun _ _ _ h => h P2 P32 P42 P52 P216 P263 H2 H32 H42 H52 H216 H263) (fun _ _ _ _ h => h P2 P32 P42 P52 P216 P263 H2 H32 H42 H52 H216 H263) (fun _ _ h => h P2 P32 P42 P52 P216 P263 H2 H32 H42 H52 H216 H263) (fun _ _ h => h P2 P32 P42 P52 P216 P263 H2 H32 H42 H52 H216 H263) h)
theorem mono_LX9_areCellsGood_263 {Q Q9 : Int → bS → Prop} {x1 : Int} {σ : bS} (hQ : ∀ r σ, Q r σ → Q9 r σ) (h : LX9_areCellsGood_263 Q x1 σ) : LX9_areCellsGood_263 Q9 x1 σ := fun P2 P32 P42 P52 P216 P263 H2 H32 H42 H52 H216 H263 => h P2 P32 P42 P52 P216 P263 (fun _ _ hb => H2 _ _ (mono_bX9_areCellsGood_2 hQ (fun _ _ h => h) (fun _ _ h => h) (fun _ _ _ h => h) (fun _ _ _ _ h => h) (fun _ _ h => h) (fun _ _ h => h) hb)) (fun _ _ hb => H32 _ _ (mono_bX9_areCellsGood_32 hQ (fun _ _ h => h) (fun _ _ h => h) (fun _ _ _ h => h) (fun _ _ _ _ h => h) (fun _ _ h => h) (fun _ _ h => h) hb)) (fun _ _ _ hb => H42 _ _ _ (mono_bX9_areCellsGood_42 hQ (fun _ _ h => h) (fun _ _ h => h) (fun _ _ _ h => h) (fun _ _ _ _ h => h) (fun _ _ h => h) (fun _ _ h => h) hb)) (fun _ _ _ _ hb => H52 _ _ _ _ (mono_bX9_areCellsGood_52 hQ (fun _ _ h => h) (fun _ _ h => h) (fun _ _ _ h => h) (fun _ _ _ _ h => h) (fun _ _ h => h) (fun _ _ h => h) hb)) (fun _ _ hb => H216 _ _ (mono_bX9_areCellsGood_216 hQ (fun _ _ h => h) (fun _ _ h => h) (fun _ _ _ h => h) (fun _ _ _ _ h => h) (fun _ _ h => h) (fun _ _ h => h) hb)) (fun _ _ hb => H263 _ _ (mono_bX9_areCellsGood_263 hQ (fun _ _ h => h) (fun _ _ h => h) (fun _ _ _ h => h) (fun _ _ _ _ h => h) (fun _ _ h => h) (fun _ _ h => h) hb))
def vX9_areCellsGood (Q : Int → bS → Prop) (σ : bS) : Prop := eX9_areCellsGood Q (LX9_areCellsGood_2 Q) (LX9_areCellsGood_32 Q) (LX9_areCellsGood_42 Q) (LX9_areCellsGood_52 Q) (LX9_areCellsGood_216 Q) (LX9_areCellsGood_263 Q) σ
theorem mono_vX9_areCellsGood {Q Q9 : Int → bS → Prop} {σ : bS} (hQ : ∀ r σ, Q r σ → Q9 r σ) : vX9_areCellsGood Q σ → vX9_areCellsGood Q9 σ := mono_eX9_areCellsGood hQ (fun _ _ h => mono_LX9_areCellsGood_2 hQ h) (fun _ _ h => mono_LX9_areCellsGood_32 hQ h) (fun _ _ _ h => mono_LX9_areCellsGood_42 hQ h) (fun _ _ _ _ h => mono_LX9_areCellsGood_52 hQ h) (fun _ _ h => mono_LX9_areCellsGood_216 hQ h) (fun _ _ h => mono_LX9_areCellsGood_263 hQ h)
theorem mono_X9_areCellsGood {Q Q9 : Int → bS → Prop} {σ : bS} (hQ : ∀ r σ, Q r σ → Q9 r σ) : vX9_areCellsGood Q σ → vX9_areCellsGood Q9 σ := mono_vX9_areCellsGood hQ
theorem mX9_areCellsGood (l : Launch) (G : bG) (σ : bS) {Q : Int → bS → Prop} (h : vX9_areCellsGood Q σ) : bk_Mi l yX9_areCellsGood (Cond.code yX9_areCellsGood cX9_areCellsGood 6 (some .boolean) :: bT) { frames := 2, cells := 0, slots := 0, locals := 43 } G σ [.ref (G.2.2 10)] Q := by
  refine bk_Mi.of (cc := cX9_areCellsGood) (maxL := 6) (ret := some .boolean) (by decide) rfl (Nat.le_of_ble_eq_true rfl) ?_
  intro p e s m args below meth c S hr hlk hσ
  let K2 : Int → bS → Prop := fun x1 τ => bR x1 → bRG τ → bA p l e { frames := 2, cells := 0, slots := 0, locals := 43 } s m args below meth c 0 0 (bQi below args s G σ Q) G (va_A (bk_w G σ) s.heap.size) 6 2 [(0, .ref (G.2.2 10)), (1, .int (bI x1))] [] τ
  let K32 : Int → bS → Prop := fun x1 τ => bR x1 → bRG τ → bA p l e { frames := 2, cells := 0, slots := 0, locals := 43 } s m args below meth c 0 0 (bQi below args s G σ Q) G (va_A (bk_w G σ) s.heap.size) 6 32 [(0, .ref (G.2.2 10)), (1, .int (bI x1))] [] τ
  let K42 : Int → Int → bS → Prop := fun x1 x2 τ => bR x1 → bR x2 → bRG τ → bA p l e { frames := 2, cells := 0, slots := 0, locals := 43 } s m args below meth c 0 0 (bQi below args s G σ Q) G (va_A (bk_w G σ) s.heap.size) 6 42 [(0, .ref (G.2.2 10)), (1, .int (bI x1)), (2, .int (bI x2))] [] τ
  let K52 : Int → Int → Int → bS → Prop := fun x1 x2 x3 τ => bR x1 → bR x2 → bR x3 → bRG τ → bA p l e { frames := 2, cells := 0, slots := 0, locals := 43 } s m args below meth c 0 0 (bQi below args s G σ Q) G (va_A (bk_w G σ) s.heap.size) 6 52 [(0, .ref (G.2.2 10)), (1, .int (bI x1)), (2, .int (bI x2)), (3, .int (bI x3))] [] τ
  let K216 : Int → bS → Prop := fun x1 τ => bR x1 → bRG τ → bA p l e { frames := 2, cells := 0, slots := 0, locals := 43 } s m args below meth c 0 0 (bQi below args s G σ Q) G (va_A (bk_w G σ) s.heap.size) 6 216 [(0, .ref (G.2.2 10)), (1, .int (bI x1))] [] τ
  let K263 : Int → bS → Prop := fun x1 τ => bR x1 → bRG τ → bA p l e { frames := 2, cells := 0, slots := 0, locals := 43 } s m args below meth c 0 0 (bQi below args s G σ Q) G (va_A (bk_w G σ) s.heap.size) 6 263 [(0, .ref (G.2.2 10)), (1, .int (bI x1))] [] τ
  have C2 : ∀ x1 τ, bX9_areCellsGood_2 Q K2 K32 K42 K52 K216 K263 x1 τ → K2 x1 τ := fun x1 τ hb hx1 hτ => wX9_areCellsGood_2 S hr hlk (fun x1 σ hx1 hσ h => h hx1 hσ) (fun x1 σ hx1 hσ h => h hx1 hσ) (fun x1 x2 σ hx1 hx2 hσ h => h hx1 hx2 hσ) (fun x1 x2 x3 σ hx1 hx2 hx3 hσ h => h hx1 hx2 hx3 hσ) (fun x1 σ hx1 hσ h => h hx1 hσ) (fun x1 σ hx1 hσ h => h hx1 hσ) hx1 hτ hb
  have C32 : ∀ x1 τ, bX9_areCellsGood_32 Q K2 K32 K42 K52 K216 K263 x1 τ → K32 x1 τ := fun x1 τ hb hx1 hτ => wX9_areCellsGood_32 S hr hlk (fun x1 σ hx1 hσ h => h hx1 hσ) (fun x1 σ hx1 hσ h => h hx1 hσ) (fun x1 x2 σ hx1 hx2 hσ h => h hx1 hx2 hσ) (fun x1 x2 x3 σ hx1 hx2 hx3 hσ h => h hx1 hx2 hx3 hσ) (fun x1 σ hx1 hσ h => h hx1 hσ) (fun x1 σ hx1 hσ h => h hx1 hσ) hx1 hτ hb
  have C42 : ∀ x1 x2 τ, bX9_areCellsGood_42 Q K2 K32 K42 K52 K216 K263 x1 x2 τ → K42 x1 x2 τ := fun x1 x2 τ hb hx1 hx2 hτ => wX9_areCellsGood_42 S hr hlk (fun x1 σ hx1 hσ h => h hx1 hσ) (fun x1 σ hx1 hσ h => h hx1 hσ) (fun x1 x2 σ hx1 hx2 hσ h => h hx1 hx2 hσ) (fun x1 x2 x3 σ hx1 hx2 hx3 hσ h => h hx1 hx2 hx3 hσ) (fun x1 σ hx1 hσ h => h hx1 hσ) (fun x1 σ hx1 hσ h => h hx1 hσ) hx1 hx2 hτ hb
  have C52 : ∀ x1 x2 x3 τ, bX9_areCellsGood_52 Q K2 K32 K42 K52 K216 K263 x1 x2 x3 τ → K52 x1 x2 x3 τ := fun x1 x2 x3 τ hb hx1 hx2 hx3 hτ => wX9_areCellsGood_52 S hr hlk (fun x1 σ hx1 hσ h => h hx1 hσ) (fun x1 σ hx1 hσ h => h hx1 hσ) (fun x1 x2 σ hx1 hx2 hσ h => h hx1 hx2 hσ) (fun x1 x2 x3 σ hx1 hx2 hx3 hσ h => h hx1 hx2 hx3 hσ) (fun x1 σ hx1 hσ h => h hx1 hσ) (fun x1 σ hx1 hσ h => h hx1 hσ) hx1 hx2 hx3 hτ hb
  have C216 : ∀ x1 τ, bX9_areCellsGood_216 Q K2 K32 K42 K52 K216 K263 x1 τ → K216 x1 τ := fun x1 τ hb hx1 hτ => wX9_areCellsGood_216 S hr hlk (fun x1 σ hx1 hσ h => h hx1 hσ) (fun x1 σ hx1 hσ h => h hx1 hσ) (fun x1 x2 σ hx1 hx2 hσ h => h hx1 hx2 hσ) (fun x1 x2 x3 σ hx1 hx2 hx3 hσ h => h hx1 hx2 hx3 hσ) (fun x1 σ hx1 hσ h => h hx1 hσ) (fun x1 σ hx1 hσ h => h hx1 hσ) hx1 hτ hb
  have C263 : ∀ x1 τ, bX9_areCellsGood_263 Q K2 K32 K42 K52 K216 K263 x1 τ → K263 x1 τ := fun x1 τ hb hx1 hτ => wX9_areCellsGood_263 S hr hlk (fun x1 σ hx1 hσ h => h hx1 hσ) (fun x1 σ hx1 hσ h => h hx1 hσ) (fun x1 x2 σ hx1 hx2 hσ h => h hx1 hx2 hσ) (fun x1 x2 x3 σ hx1 hx2 hx3 hσ h => h hx1 hx2 hx3 hσ) (fun x1 σ hx1 hσ h => h hx1 hσ) (fun x1 σ hx1 hσ h => h hx1 hσ) hx1 hτ hb
  exact wX9_areCellsGood_e S hr hlk (fun x1 σ hx1 hσ h => h K2 K32 K42 K52 K216 K263 C2 C32 C42 C52 C216 C263 hx1 hσ) (fun x1 σ hx1 hσ h => h K2 K32 K42 K52 K216 K263 C2 C32 C42 C52 C216 C263 hx1 hσ) (fun x1 x2 σ hx1 hx2 hσ h => h K2 K32 K42 K52 K216 K263 C2 C32 C42 C52 C216 C263 hx1 hx2 hσ) (fun x1 x2 x3 σ hx1 hx2 hx3 hσ h => h K2 K32 K42 K52 K216 K263 C2 C32 C42 C52 C216 C263 hx1 hx2 hx3 hσ) (fun x1 σ hx1 hσ h => h K2 K32 K42 K52 K216 K263 C2 C32 C42 C52 C216 C263 hx1 hσ) (fun x1 σ hx1 hσ h => h K2 K32 K42 K52 K216 K263 C2 C32 C42 C52 C216 C263 hx1 hσ) hσ h
def vX9_put (Q : bS → Prop) (a1 : Int) (a2 : Int) (a3 : Int) (σ : bS) : Prop := (vX9_isCommon (fun z1 σ2 => ((z1 = 0 → ((0 ≤ a1 ∧ a1 < 30) ∧ ((0 ≤ (σ2 50 a1) ∧ (σ2 50 a1) < 12) ∧ ((0 ≤ ((((250 * (σ2 56 (σ2 50 a1))) + (σ2 58 a1)) - 256) + a2) ∧ ((((250 * (σ2 56 (σ2 50 a1))) + (σ2 58 a1)) - 256) + a2) < 2000) ∧ (∀ σ7 : bS, σ7 = bup σ2 63 ((((250 * (σ2 56 (σ2 50 a1))) + (σ2 58 a1)) - 256) + a2) a3 → (Q σ7)))))) ∧ (¬ z1 = 0 → ((0 ≤ a1 ∧ a1 < 30) ∧ ((0 ≤ ((σ2 58 a1) + a2) ∧ ((σ2 58 a1) + a2) < 256) ∧ (∀ σ11 : bS, σ11 = bup σ2 62 ((σ2 58 a1) + a2) a3 → (Q σ11))))))) a1 σ)
theorem mono_vX9_put {Q Q9 : bS → Prop} {a1 : Int} {a2 : Int} {a3 : Int} {σ : bS} (hQ : ∀ σ, Q σ → Q9 σ) : vX9_put Q a1 a2 a3 σ → vX9_put Q9 a1 a2 a3 σ := (mono_X9_isCommon (fun _ _ => (bm_and (bm_imp (bm_r (bm_r (bm_r (bm_all fun _ => bm_imp (hQ _)))))) (bm_imp (bm_r (bm_r (bm_all fun _ => bm_imp (hQ _))))))))
theorem wX9_put_e {p : Program} {l : Launch} {e : Env} {s : State} {m : MethodId} {args : Array Value} {below : List Frame} {meth : Method} {c : Code} {G : bG} {σ0 : bS} {Q : bS → Prop} {a1 : Int} {a2 : Int} {a3 : Int} {σ : bS} (S : CallFix p m c cX9_put 4 s args bT "BankLinkerModel") (hr : meth.sig.returnType = none) (hlk : meth.locks = false) (ha1 : bR a1) (ha2 : bR a2) (ha3 : bR a3) (hσ : bRG σ) (h : vX9_put Q a1 a2 a3 σ) : bA p l e { frames := 1, cells := 0, slots := 0, locals := 21 } s m args below meth c 0 0 (bQv below args s G σ0 Q) G (va_A (bk_w G σ0) s.heap.size) 4 0 [(0, .ref (G.2.2 10)), (1, .int (bI a1)), (2, .int (bI a2)), (3, .int (bI a3))] [] σ := by
  unfold vX9_put at h
  refine br_aload_n S 0 dX9_put_0 rfl rfl ?_
  refine br_iload_n S 1 dX9_put_1 rfl rfl ?_
  refine br_callV (As := [.int (bI a1)]) (rest := []) S (cwV_X9_isCommon S.2.2.2.2 wd_4_192 ⟨by decide, by decide⟩) (mX9_isCommon l G σ a1 ha1 h) (by decide) rfl rfl rfl hσ rfl rfl (Nat.le_of_ble_eq_true rfl) ⟨by decide, by decide⟩ dX9_put_2 (fun z1 σ2 hz1 hσ2 h => ?_)
  refine br_if_eq S 25 hz1 dX9_put_5 (by decide) (fun c3 => ?_) (fun c3 => ?_)
  · replace h := h.1 c3
    refine br_aload_n S 0 dX9_put_25 rfl rfl ?_
    refine br_get (f := 18) (N := 37) (C := RX9) (T := TX9) S inT_X9 wd_4_12 (by decide) rfl rfl (by decide) rfl dX9_put_26 ?_
    refine br_sipush S dX9_put_29 rfl ?_
    refine br_aload_n S 0 dX9_put_32 rfl rfl ?_
    refine br_get (f := 11) (N := 37) (C := RX9) (T := TX9) S inT_X9 wd_4_5 (by decide) rfl rfl (by decide) rfl dX9_put_33 ?_
    refine br_aload_n S 0 dX9_put_36 rfl rfl ?_
    refine br_get (f := 4) (N := 37) (C := RX9) (T := TX9) S inT_X9 wd_3_238 (by decide) rfl rfl (by decide) rfl dX9_put_37 ?_
    refine br_iload_n S 1 dX9_put_40 rfl rfl ?_
    obtain ⟨g4, h⟩ := h
    refine br_iald (n := 30) S ⟨by decide, by decide, fun _ => rfl⟩ g4.1 g4.2 dX9_put_41 ?_
    obtain ⟨g5, h⟩ := h
    refine br_iald (n := 12) S ⟨by decide, by decide, fun _ => rfl⟩ g5.1 g5.2 dX9_put_42 ?_
    refine br_imul S dX9_put_43 ?_
    refine br_aload_n S 0 dX9_put_44 rfl rfl ?_
    refine br_get (f := 13) (N := 37) (C := RX9) (T := TX9) S inT_X9 wd_4_7 (by decide) rfl rfl (by decide) rfl dX9_put_45 ?_
    refine br_iload_n S 1 dX9_put_48 rfl rfl ?_
    refine br_iald (n := 30) S ⟨by decide, by decide, fun _ => rfl⟩ g4.1 g4.2 dX9_put_49 ?_
    refine br_iadd S dX9_put_50 ?_
    refine br_sipush S dX9_put_51 rfl ?_
    refine br_isub S dX9_put_54 ?_
    refine br_iload_n S 2 dX9_put_55 rfl rfl ?_
    refine br_iadd S dX9_put_56 ?_
    refine br_iload_n S 3 dX9_put_57 rfl rfl ?_
    obtain ⟨g6, h⟩ := h
    obtain ⟨σ7, e8⟩ : ∃ τ, τ = bup σ2 63 ((((250 * (σ2 56 (σ2 50 a1))) + (σ2 58 a1)) - 256) + a2) a3 := ⟨_, rfl⟩
    replace h := h σ7 e8
    have hσ7 : bRG σ7 := by rw [e8]; exact bup_rg hσ2 ha3
    refine br_iast (n := 2000) S ⟨by decide, by decide, fun _ => rfl⟩ g6.1 g6.2 dX9_put_58 ?_
    refine bA.to rfl rfl e8.symm ?_
    exact br_vret S hr hlk hσ7 dX9_put_59 h
  · replace h := h.2 c3
    refine br_aload_n S 0 dX9_put_8 rfl rfl ?_
    refine br_get (f := 17) (N := 37) (C := RX9) (T := TX9) S inT_X9 wd_4_11 (by decide) rfl rfl (by decide) rfl dX9_put_9 ?_
    refine br_aload_n S 0 dX9_put_12 rfl rfl ?_
    refine br_get (f := 13) (N := 37) (C := RX9) (T := TX9) S inT_X9 wd_4_7 (by decide) rfl rfl (by decide) rfl dX9_put_13 ?_
    refine br_iload_n S 1 dX9_put_16 rfl rfl ?_
    obtain ⟨g9, h⟩ := h
    refine br_iald (n := 30) S ⟨by decide, by decide, fun _ => rfl⟩ g9.1 g9.2 dX9_put_17 ?_
    refine br_iload_n S 2 dX9_put_18 rfl rfl ?_
    refine br_iadd S dX9_put_19 ?_
    refine br_iload_n S 3 dX9_put_20 rfl rfl ?_
    obtain ⟨g10, h⟩ := h
    obtain ⟨σ11, e12⟩ : ∃ τ, τ = bup σ2 62 ((σ2 58 a1) + a2) a3 := ⟨_, rfl⟩
    replace h := h σ11 e12
    have hσ11 : bRG σ11 := by rw [e12]; exact bup_rg hσ2 ha3
    refine br_iast (n := 256) S ⟨by decide, by decide, fun _ => rfl⟩ g10.1 g10.2 dX9_put_21 ?_
    refine bA.to rfl rfl e12.symm ?_
    refine br_goto S 59 dX9_put_22 (by decide) ?_
    exact br_vret S hr hlk hσ11 dX9_put_59 h
theorem mono_X9_put {Q Q9 : bS → Prop} {a1 : Int} {a2 : Int} {a3 : Int} {σ : bS} (hQ : ∀ σ, Q σ → Q9 σ) : vX9_put Q a1 a2 a3 σ → vX9_put Q9 a1 a2 a3 σ := mono_vX9_put hQ
theorem mX9_put (l : Launch) (G : bG) (σ : bS) (a1 : Int) (ha1 : bR a1) (a2 : Int) (ha2 : bR a2) (a3 : Int) (ha3 : bR a3) {Q : bS → Prop} (h : vX9_put Q a1 a2 a3 σ) : bk_Mv l yX9_put (Cond.code yX9_put cX9_put 4 (none) :: bT) { frames := 1, cells := 0, slots := 0, locals := 21 } G σ [.ref (G.2.2 10), .int (bI a1), .int (bI a2), .int (bI a3)] Q := by
  refine bk_Mv.of (cc := cX9_put) (maxL := 4) (ret := none) (by decide) rfl (Nat.le_of_ble_eq_true rfl) ?_
  intro p e s m args below meth c S hr hlk hσ
  exact wX9_put_e S hr hlk ha1 ha2 ha3 hσ h
def vX9_write_45 (Q : bS → Prop) (P47 : Int → Int → Int → bS → Prop) (x1 : Int) (x2 : Int) (σ : bS) : Prop := (P47 x1 x2 0 σ)
theorem mono_vX9_write_45 {Q Q9 : bS → Prop} {P47 P479 : Int → Int → Int → bS → Prop} {x1 : Int} {x2 : Int} {σ : bS} (hQ : ∀ σ, Q σ → Q9 σ) (hP47 : ∀ x1 x2 x3 σ, P47 x1 x2 x3 σ → P479 x1 x2 x3 σ) : vX9_write_45 Q P47 x1 x2 σ → vX9_write_45 Q9 P479 x1 x2 σ := (hP47 _ _ _ _)
theorem wX9_write_45 {p : Program} {l : Launch} {e : Env} {s : State} {m : MethodId} {args : Array Value} {below : List Frame} {meth : Method} {c : Code} {G : bG} {σ0 : bS} {Q : bS → Prop} {P47 : Int → Int → Int → bS → Prop} {x1 : Int} {x2 : Int} {σ : bS} (S : CallFix p m c cX9_write 8 s args bT "BankLinkerModel") (hr : meth.sig.returnType = none) (hlk : meth.locks = false) (hP47 : ∀ (x1 : Int) (x2 : Int) (x3 : Int) (σ : bS), bR x1 → bR x2 → bR x3 → bRG σ → P47 x1 x2 x3 σ → bA p l e { frames := 2, cells := 0, slots := 0, locals := 44 } s m args below meth c 0 0 (bQv below args s G σ0 Q) G (va_A (bk_w G σ0) s.heap.size) 8 47 [(0, .ref (G.2.2 10)), (1, .int (bI x1)), (2, .int (bI x2)), (3, .int (bI x3))] [] σ) (hx1 : bR x1) (hx2 : bR x2) (hσ : bRG σ) (h : vX9_write_45 Q P47 x1 x2 σ) : bA p l e { frames := 2, cells := 0, slots := 0, locals := 44 } s m args below meth c 0 0 (bQv below args s G σ0 Q) G (va_A (bk_w G σ0) s.heap.size) 8 45 [(0, .ref (G.2.2 10)), (1, .int (bI x1)), (2, .int (bI x2))] [] σ := by
  unfold vX9_write_45 at h
  refine br_iconst S dX9_write_45 ?_
  refine br_istore_n S [(3, .int (bI 0)), (0, .ref (G.2.2 10)), (1, .int (bI x1)), (2, .int (bI x2))] dX9_write_46 rfl (by decide) rfl ?_
  exact bA.perm [1, 2, 3, 0] rfl <| hP47 x1 x2 0 σ hx1 hx2 (by decide) hσ h
def vX9_write_236 (Q : bS → Prop) (P47 : Int → Int → Int → bS → Prop) (x1 : Int) (x2 : Int) (x3 : Int) (x6 : Int) (σ : bS) : Prop := (bR (x2 + x6) ∧ (bR (x3 + 1) ∧ (P47 x1 (x2 + x6) (x3 + 1) σ)))
theorem mono_vX9_write_236 {Q Q9 : bS → Prop} {P47 P479 : Int → Int → Int → bS → Prop} {x1 : Int} {x2 : Int} {x3 : Int} {x6 : Int} {σ : bS} (hQ : ∀ σ, Q σ → Q9 σ) (hP47 : ∀ x1 x2 x3 σ, P47 x1 x2 x3 σ → P479 x1 x2 x3 σ) : vX9_write_236 Q P47 x1 x2 x3 x6 σ → vX9_write_236 Q9 P479 x1 x2 x3 x6 σ := (bm_r (bm_r (hP47 _ _ _ _)))
theorem wX9_write_236 {p : Program} {l : Launch} {e : Env} {s : State} {m : MethodId} {args : Array Value} {below : List Frame} {meth : Method} {c : Code} {G : bG} {σ0 : bS} {Q : bS → Prop} {P47 : Int → Int → Int → bS → Prop} {x1 : Int} {x2 : Int} {x3 : Int} {x6 : Int} {σ : bS} (S : CallFix p m c cX9_write 8 s args bT "BankLinkerModel") (hr : meth.sig.returnType = none) (hlk : meth.locks = false) (hP47 : ∀ (x1 : Int) (x2 : Int) (x3 : Int) (σ : bS), bR x1 → bR x2 → bR x3 → bRG σ → P47 x1 x2 x3 σ → bA p l e { frames := 2, cells := 0, slots := 0, locals := 44 } s m args below meth c 0 0 (bQv below args s G σ0 Q) G (va_A (bk_w G σ0) s.heap.size) 8 47 [(0, .ref (G.2.2 10)), (1, .int (bI x1)), (2, .int (bI x2)), (3, .int (bI x3))] [] σ) (hx1 : bR x1) (hx2 : bR x2) (hx3 : bR x3) (hx6 : bR x6) (hσ : bRG σ) (h : vX9_write_236 Q P47 x1 x2 x3 x6 σ) : bA p l e { frames := 2, cells := 0, slots := 0, locals := 44 } s m args below meth c 0 0 (bQv below args s G σ0 Q) G (va_A (bk_w G σ0) s.heap.size) 8 236 [(0, .ref (G.2.2 10)), (1, .int (bI x1)), (2, .int (bI x2)), (3, .int (bI x3)), (6, .int (bI x6))] [] σ := by
  unfold vX9_write_236 at h
  refine br_iload_n S 2 dX9_write_236 rfl rfl ?_
  refine br_iload S 4 dX9_write_237 rfl ?_
  refine br_iadd S dX9_write_239 ?_
  refine br_istore_n S [(2, .int (bI (x2 + x6))), (0, .ref (G.2.2 10)), (1, .int (bI x1)), (3, .int (bI x3)), (6, .int (bI x6))] dX9_write_240 rfl (by decide) rfl ?_
  refine br_iinc S 3 [(3, .int (bI (x3 + 1))), (2, .int (bI (x2 + x6))), (0, .ref (G.2.2 10)), (1, .int (bI x1)), (6, .int (bI x6))] dX9_write_241 rfl (by decide) rfl ?_
  refine br_goto S 47 dX9_write_244 (by decide) ?_
  obtain ⟨g1, h⟩ := h
  obtain ⟨g2, h⟩ := h
  exact bA.perm [2, 3, 1, 0] rfl <| hP47 x1 (x2 + x6) (x3 + 1) σ hx1 g1 g2 hσ h
def vX9_write_131 (Q : bS → Prop) (P47 : Int → Int → Int → bS → Prop) (x1 : Int) (x2 : Int) (x3 : Int) (x6 : Int) (s0 : Int) (σ : bS) : Prop := (0 ≤ s0 ∧ (bR (x2 + 1) ∧ (vX9_put (fun σ4 => (0 ≤ s0 ∧ (bR (x2 + 2) ∧ (vX9_put (fun σ8 => (vX9_write_236 Q P47 x1 x2 x3 x6 σ8)) x1 (x2 + 2) (s0 / 256) σ4)))) x1 (x2 + 1) (s0 % 256) σ)))
theorem mono_vX9_write_131 {Q Q9 : bS → Prop} {P47 P479 : Int → Int → Int → bS → Prop} {x1 : Int} {x2 : Int} {x3 : Int} {x6 : Int} {s0 : Int} {σ : bS} (hQ : ∀ σ, Q σ → Q9 σ) (hP47 : ∀ x1 x2 x3 σ, P47 x1 x2 x3 σ → P479 x1 x2 x3 σ) : vX9_write_131 Q P47 x1 x2 x3 x6 s0 σ → vX9_write_131 Q9 P479 x1 x2 x3 x6 s0 σ := (bm_r (bm_r (mono_X9_put (fun _ => (bm_r (bm_r (mono_X9_put (fun _ => (mono_vX9_write_236 hQ hP47)))))))))
theorem wX9_write_131 {p : Program} {l : Launch} {e : Env} {s : State} {m : MethodId} {args : Array Value} {below : List Frame} {meth : Method} {c : Code} {G : bG} {σ0 : bS} {Q : bS → Prop} {P47 : Int → Int → Int → bS → Prop} {x1 : Int} {x2 : Int} {x3 : Int} {x6 : Int} {s0 : Int} {σ : bS} (S : CallFix p m c cX9_write 8 s args bT "BankLinkerModel") (hr : meth.sig.returnType = none) (hlk : meth.locks = false) (hP47 : ∀ (x1 : Int) (x2 : Int) (x3 : Int) (σ : bS), bR x1 → bR x2 → bR x3 → bRG σ → P47 x1 x2 x3 σ → bA p l e { frames := 2, cells := 0, slots := 0, locals := 44 } s m args below meth c 0 0 (bQv below args s G σ0 Q) G (va_A (bk_w G σ0) s.heap.size) 8 47 [(0, .ref (G.2.2 10)), (1, .int (bI x1)), (2, .int (bI x2)), (3, .int (bI x3))] [] σ) (hx1 : bR x1) (hx2 : bR x2) (hx3 : bR x3) (hx6 : bR x6) (hs0 : bR s0) (hσ : bRG σ) (h : vX9_write_131 Q P47 x1 x2 x3 x6 s0 σ) : bA p l e { frames := 2, cells := 0, slots := 0, locals := 44 } s m args below meth c 0 0 (bQv below args s G σ0 Q) G (va_A (bk_w G σ0) s.heap.size) 8 131 [(0, .ref (G.2.2 10)), (1, .int (bI x1)), (2, .int (bI x2)), (3, .int (bI x3)), (6, .int (bI x6))] [.int (bI s0)] σ := by
  unfold vX9_write_131 at h
  refine br_istore S [(7, .int (bI s0)), (0, .ref (G.2.2 10)), (1, .int (bI x1)), (2, .int (bI x2)), (3, .int (bI x3)), (6, .int (bI x6))] dX9_write_131 (by decide) rfl ?_
  refine br_aload_n S 1 dX9_write_133 rfl rfl ?_
  refine br_iload_n S 2 dX9_write_134 rfl rfl ?_
  refine br_iload_n S 3 dX9_write_135 rfl rfl ?_
  refine br_iconst S dX9_write_136 ?_
  refine br_iadd S dX9_write_137 ?_
  refine br_iload S 0 dX9_write_138 rfl ?_
  refine br_sipush S dX9_write_140 rfl ?_
  obtain ⟨g1, h⟩ := h
  refine br_irem S g1 hs0.2 (by decide) (by decide) dX9_write_143 ?_
  obtain ⟨g2, h⟩ := h
  refine br_callVv (As := [.int (bI x1), .int (bI (x2 + 1)), .int (bI (s0 % 256))]) (rest := []) S (cwV_X9_put S.2.2.2.2 wd_4_204 ⟨by decide, by decide⟩) (mX9_put l G σ x1 hx1 (x2 + 1) g2 (s0 % 256) (bR_mod256 _) h) (by decide) rfl rfl rfl hσ rfl rfl (Nat.le_of_ble_eq_true rfl) ⟨by decide, by decide⟩ dX9_write_144 (fun σ4 hσ4 h => ?_)
  refine br_aload_n S 1 dX9_write_147 rfl rfl ?_
  refine br_iload_n S 2 dX9_write_148 rfl rfl ?_
  refine br_iload_n S 3 dX9_write_149 rfl rfl ?_
  refine br_iconst S dX9_write_150 ?_
  refine br_iadd S dX9_write_151 ?_
  refine br_iload S 0 dX9_write_152 rfl ?_
  refine br_sipush S dX9_write_154 rfl ?_
  obtain ⟨g5, h⟩ := h
  refine br_idiv S g5 hs0.2 (by decide) (by decide) dX9_write_157 ?_
  obtain ⟨g6, h⟩ := h
  refine br_callVv (As := [.int (bI x1), .int (bI (x2 + 2)), .int (bI (s0 / 256))]) (rest := []) S (cwV_X9_put S.2.2.2.2 wd_4_204 ⟨by decide, by decide⟩) (mX9_put l G σ4 x1 hx1 (x2 + 2) g6 (s0 / 256) (bR_div256 hs0) h) (by decide) rfl rfl rfl hσ4 rfl rfl (Nat.le_of_ble_eq_true rfl) ⟨by decide, by decide⟩ dX9_write_158 (fun σ8 hσ8 h => ?_)
  refine br_goto S 236 dX9_write_161 (by decide) ?_
  exact bA.perm [1, 2, 3, 4, 5] rfl <| wX9_write_236 S hr hlk hP47 hx1 hx2 hx3 hx6 hσ8 h
def vX9_write_233 (Q : bS → Prop) (P47 : Int → Int → Int → bS → Prop) (x1 : Int) (x2 : Int) (x3 : Int) (x6 : Int) (s0 : Int) (s1 : Int) (s2 : Int) (σ : bS) : Prop := (vX9_put (fun σ2 => (vX9_write_236 Q P47 x1 x2 x3 x6 σ2)) s2 s1 s0 σ)
theorem mono_vX9_write_233 {Q Q9 : bS → Prop} {P47 P479 : Int → Int → Int → bS → Prop} {x1 : Int} {x2 : Int} {x3 : Int} {x6 : Int} {s0 : Int} {s1 : Int} {s2 : Int} {σ : bS} (hQ : ∀ σ, Q σ → Q9 σ) (hP47 : ∀ x1 x2 x3 σ, P47 x1 x2 x3 σ → P479 x1 x2 x3 σ) : vX9_write_233 Q P47 x1 x2 x3 x6 s0 s1 s2 σ → vX9_write_233 Q9 P479 x1 x2 x3 x6 s0 s1 s2 σ := (mono_X9_put (fun _ => (mono_vX9_write_236 hQ hP47)))
theorem wX9_write_233 {p : Program} {l : Launch} {e : Env} {s : State} {m : MethodId} {args : Array Value} {below : List Frame} {meth : Method} {c : Code} {G : bG} {σ0 : bS} {Q : bS → Prop} {P47 : Int → Int → Int → bS → Prop} {x1 : Int} {x2 : Int} {x3 : Int} {x6 : Int} {s0 : Int} {s1 : Int} {s2 : Int} {σ : bS} (S : CallFix p m c cX9_write 8 s args bT "BankLinkerModel") (hr : meth.sig.returnType = none) (hlk : meth.locks = false) (hP47 : ∀ (x1 : Int) (x2 : Int) (x3 : Int) (σ : bS), bR x1 → bR x2 → bR x3 → bRG σ → P47 x1 x2 x3 σ → bA p l e { frames := 2, cells := 0, slots := 0, locals := 44 } s m args below meth c 0 0 (bQv below args s G σ0 Q) G (va_A (bk_w G σ0) s.heap.size) 8 47 [(0, .ref (G.2.2 10)), (1, .int (bI x1)), (2, .int (bI x2)), (3, .int (bI x3))] [] σ) (hx1 : bR x1) (hx2 : bR x2) (hx3 : bR x3) (hx6 : bR x6) (hs0 : bR s0) (hs1 : bR s1) (hs2 : bR s2) (hσ : bRG σ) (h : vX9_write_233 Q P47 x1 x2 x3 x6 s0 s1 s2 σ) : bA p l e { frames := 2, cells := 0, slots := 0, locals := 44 } s m args below meth c 0 0 (bQv below args s G σ0 Q) G (va_A (bk_w G σ0) s.heap.size) 8 233 [(0, .ref (G.2.2 10)), (1, .int (bI x1)), (2, .int (bI x2)), (3, .int (bI x3)), (6, .int (bI x6))] [.int (bI s0), .int (bI s1), .int (bI s2), .ref (G.2.2 10)] σ := by
  unfold vX9_write_233 at h
  refine br_callVv (As := [.int (bI s2), .int (bI s1), .int (bI s0)]) (rest := []) S (cwV_X9_put S.2.2.2.2 wd_4_204 ⟨by decide, by decide⟩) (mX9_put l G σ s2 hs2 s1 hs1 s0 hs0 h) (by decide) rfl rfl rfl hσ rfl rfl (Nat.le_of_ble_eq_true rfl) ⟨by decide, by decide⟩ dX9_write_233 (fun σ2 hσ2 h => ?_)
  exact wX9_write_236 S hr hlk hP47 hx1 hx2 hx3 hx6 hσ2 h
def vX9_write_187 (Q : bS → Prop) (P47 : Int → Int → Int → bS → Prop) (x1 : Int) (x2 : Int) (x3 : Int) (x5 : Int) (x6 : Int) (s0 : Int) (s1 : Int) (σ : bS) : Prop := ((0 ≤ x1 ∧ x1 < 30) ∧ (bR ((σ 60 x1) + x5) ∧ (vX9_write_233 Q P47 x1 x2 x3 x6 ((σ 60 x1) + x5) s0 s1 σ)))
theorem mono_vX9_write_187 {Q Q9 : bS → Prop} {P47 P479 : Int → Int → Int → bS → Prop} {x1 : Int} {x2 : Int} {x3 : Int} {x5 : Int} {x6 : Int} {s0 : Int} {s1 : Int} {σ : bS} (hQ : ∀ σ, Q σ → Q9 σ) (hP47 : ∀ x1 x2 x3 σ, P47 x1 x2 x3 σ → P479 x1 x2 x3 σ) : vX9_write_187 Q P47 x1 x2 x3 x5 x6 s0 s1 σ → vX9_write_187 Q9 P479 x1 x2 x3 x5 x6 s0 s1 σ := (bm_r (bm_r (mono_vX9_write_233 hQ hP47)))
theorem wX9_write_187 {p : Program} {l : Launch} {e : Env} {s : State} {m : MethodId} {args : Array Value} {below : List Frame} {meth : Method} {c : Code} {G : bG} {σ0 : bS} {Q : bS → Prop} {P47 : Int → Int → Int → bS → Prop} {x1 : Int} {x2 : Int} {x3 : Int} {x5 : Int} {x6 : Int} {s0 : Int} {s1 : Int} {σ : bS} (S : CallFix p m c cX9_write 8 s args bT "BankLinkerModel") (hr : meth.sig.returnType = none) (hlk : meth.locks = false) (hP47 : ∀ (x1 : Int) (x2 : Int) (x3 : Int) (σ : bS), bR x1 → bR x2 → bR x3 → bRG σ → P47 x1 x2 x3 σ → bA p l e { frames := 2, cells := 0, slots := 0, locals := 44 } s m args below meth c 0 0 (bQv below args s G σ0 Q) G (va_A (bk_w G σ0) s.heap.size) 8 47 [(0, .ref (G.2.2 10)), (1, .int (bI x1)), (2, .int (bI x2)), (3, .int (bI x3))] [] σ) (hx1 : bR x1) (hx2 : bR x2) (hx3 : bR x3) (hx5 : bR x5) (hx6 : bR x6) (hs0 : bR s0) (hs1 : bR s1) (hσ : bRG σ) (h : vX9_write_187 Q P47 x1 x2 x3 x5 x6 s0 s1 σ) : bA p l e { frames := 2, cells := 0, slots := 0, locals := 44 } s m args below meth c 0 0 (bQv below args s G σ0 Q) G (va_A (bk_w G σ0) s.heap.size) 8 187 [(0, .ref (G.2.2 10)), (1, .int (bI x1)), (2, .int (bI x2)), (3, .int (bI x3)), (5, .int (bI x5)), (6, .int (bI x6))] [.int (bI s0), .int (bI s1), .ref (G.2.2 10)] σ := by
  unfold vX9_write_187 at h
  refine br_aload_n S 0 dX9_write_187 rfl rfl ?_
  refine br_get (f := 15) (N := 37) (C := RX9) (T := TX9) S inT_X9 wd_4_9 (by decide) rfl rfl (by decide) rfl dX9_write_188 ?_
  refine br_iload_n S 1 dX9_write_191 rfl rfl ?_
  obtain ⟨g1, h⟩ := h
  refine br_iald (n := 30) S ⟨by decide, by decide, fun _ => rfl⟩ g1.1 g1.2 dX9_write_192 ?_
  refine br_iload S 4 dX9_write_193 rfl ?_
  refine br_iadd S dX9_write_195 ?_
  refine br_goto S 233 dX9_write_196 (by decide) ?_
  obtain ⟨g2, h⟩ := h
  exact bA.perm [0, 1, 2, 3, 5] rfl <| wX9_write_233 S hr hlk hP47 hx1 hx2 hx3 hx6 g2 hs0 hs1 hσ h
def vX9_write_213 (Q : bS → Prop) (P47 : Int → Int → Int → bS → Prop) (x1 : Int) (x2 : Int) (x3 : Int) (x5 : Int) (x6 : Int) (s0 : Int) (s1 : Int) (σ : bS) : Prop := (vX9_ahead (fun z1 σ2 => (vX9_write_233 Q P47 x1 x2 x3 x6 (((z1 - x2) - 2) % 256) s0 s1 σ2)) x1 x5 σ)
theorem mono_vX9_write_213 {Q Q9 : bS → Prop} {P47 P479 : Int → Int → Int → bS → Prop} {x1 : Int} {x2 : Int} {x3 : Int} {x5 : Int} {x6 : Int} {s0 : Int} {s1 : Int} {σ : bS} (hQ : ∀ σ, Q σ → Q9 σ) (hP47 : ∀ x1 x2 x3 σ, P47 x1 x2 x3 σ → P479 x1 x2 x3 σ) : vX9_write_213 Q P47 x1 x2 x3 x5 x6 s0 s1 σ → vX9_write_213 Q9 P479 x1 x2 x3 x5 x6 s0 s1 σ := (mono_X9_ahead (fun _ _ => (mono_vX9_write_233 hQ hP47)))
theorem wX9_write_213 {p : Program} {l : Launch} {e : Env} {s : State} {m : MethodId} {args : Array Value} {below : List Frame} {meth : Method} {c : Code} {G : bG} {σ0 : bS} {Q : bS → Prop} {P47 : Int → Int → Int → bS → Prop} {x1 : Int} {x2 : Int} {x3 : Int} {x5 : Int} {x6 : Int} {s0 : Int} {s1 : Int} {σ : bS} (S : CallFix p m c cX9_write 8 s args bT "BankLinkerModel") (hr : meth.sig.returnType = none) (hlk : meth.locks = false) (hP47 : ∀ (x1 : Int) (x2 : Int) (x3 : Int) (σ : bS), bR x1 → bR x2 → bR x3 → bRG σ → P47 x1 x2 x3 σ → bA p l e { frames := 2, cells := 0, slots := 0, locals := 44 } s m args below meth c 0 0 (bQv below args s G σ0 Q) G (va_A (bk_w G σ0) s.heap.size) 8 47 [(0, .ref (G.2.2 10)), (1, .int (bI x1)), (2, .int (bI x2)), (3, .int (bI x3))] [] σ) (hx1 : bR x1) (hx2 : bR x2) (hx3 : bR x3) (hx5 : bR x5) (hx6 : bR x6) (hs0 : bR s0) (hs1 : bR s1) (hσ : bRG σ) (h : vX9_write_213 Q P47 x1 x2 x3 x5 x6 s0 s1 σ) : bA p l e { frames := 2, cells := 0, slots := 0, locals := 44 } s m args below meth c 0 0 (bQv below args s G σ0 Q) G (va_A (bk_w G σ0) s.heap.size) 8 213 [(0, .ref (G.2.2 10)), (1, .int (bI x1)), (2, .int (bI x2)), (3, .int (bI x3)), (5, .int (bI x5)), (6, .int (bI x6))] [.int (bI s0), .int (bI s1), .ref (G.2.2 10)] σ := by
  unfold vX9_write_213 at h
  refine br_aload_n S 0 dX9_write_213 rfl rfl ?_
  refine br_iload_n S 1 dX9_write_214 rfl rfl ?_
  refine br_iload S 4 dX9_write_215 rfl ?_
  refine br_callV (As := [.int (bI x1), .int (bI x5)]) (rest := [.int (bI s0), .int (bI s1), .ref (G.2.2 10)]) S (cwV_X9_ahead S.2.2.2.2 wd_4_177 ⟨by decide, by decide⟩) (mX9_ahead l G σ x1 hx1 x5 hx5 h) (by decide) rfl rfl rfl hσ rfl rfl (Nat.le_of_ble_eq_true rfl) ⟨by decide, by decide⟩ dX9_write_217 (fun z1 σ2 hz1 hσ2 h => ?_)
  refine br_iload_n S 2 dX9_write_220 rfl rfl ?_
  refine br_isub S dX9_write_221 ?_
  refine br_iconst S dX9_write_222 ?_
  refine br_isub S dX9_write_223 ?_
  refine br_sipush S dX9_write_224 rfl ?_
  refine br_and255 S dX9_write_227 ?_
  refine br_goto S 233 dX9_write_228 (by decide) ?_
  exact bA.perm [0, 1, 2, 3, 5] rfl <| wX9_write_233 S hr hlk hP47 hx1 hx2 hx3 hx6 (bR_mod256 _) hs0 hs1 hσ2 h
def bX9_write_47 (Q : bS → Prop) (P47 : Int → Int → Int → bS → Prop) (x1 : Int) (x2 : Int) (x3 : Int) (σ : bS) : Prop := ((0 ≤ x1 ∧ x1 < 30) ∧ (((σ 52 x1) ≤ x3 → (vX9_put (fun σ4 => (Q σ4)) x1 x2 8 σ)) ∧ (¬ (σ 52 x1) ≤ x3 → ((0 ≤ ((40 * x1) + x3) ∧ ((40 * x1) + x3) < 1200) ∧ (vX9_bytesOf (fun z6 σ7 => (vX9_put (fun σ9 => ((¬ (σ 53 ((40 * x1) + x3)) = 5 → ((¬ z6 = 2 → (vX9_write_236 Q P47 x1 x2 x3 z6 σ9)) ∧ (z6 = 2 → (((σ 53 ((40 * x1) + x3)) = 3 → (bR (x2 + 1) ∧ (vX9_write_187 Q P47 x1 x2 x3 (σ 54 ((40 * x1) + x3)) z6 (x2 + 1) x1 σ9))) ∧ (¬ (σ 53 ((40 * x1) + x3)) = 3 → ((¬ (σ 53 ((40 * x1) + x3)) = 4 → (((σ 53 ((40 * x1) + x3)) = 6 → (bR (x2 + 1) ∧ (vX9_write_213 Q P47 x1 x2 x3 (σ 54 ((40 * x1) + x3)) z6 (x2 + 1) x1 σ9))) ∧ (¬ (σ 53 ((40 * x1) + x3)) = 6 → ((¬ (σ 53 ((40 * x1) + x3)) = 7 → (bR (x2 + 1) ∧ (vX9_write_233 Q P47 x1 x2 x3 z6 (σ 54 ((40 * x1) + x3)) (x2 + 1) x1 σ9))) ∧ ((σ 53 ((40 * x1) + x3)) = 7 → (bR (x2 + 1) ∧ (vX9_write_213 Q P47 x1 x2 x3 (σ 54 ((40 * x1) + x3)) z6 (x2 + 1) x1 σ9))))))) ∧ ((σ 53 ((40 * x1) + x3)) = 4 → (bR (x2 + 1) ∧ (vX9_write_187 Q P47 x1 x2 x3 (σ 54 ((40 * x1) + x3)) z6 (x2 + 1) x1 σ9))))))))) ∧ ((σ 53 ((40 * x1) + x3)) = 5 → (vX9_isFar (fun z21 σ22 => ((z21 = 0 → ((0 ≤ (σ 54 ((40 * x1) + x3)) ∧ (σ 54 ((40 * x1) + x3)) < 30) ∧ (vX9_write_131 Q P47 x1 x2 x3 z6 (σ22 58 (σ 54 ((40 * x1) + x3))) σ22))) ∧ (¬ z21 = 0 → ((0 ≤ (σ 54 ((40 * x1) + x3)) ∧ (σ 54 ((40 * x1) + x3)) < 30) ∧ (vX9_write_131 Q P47 x1 x2 x3 z6 (σ22 59 (σ 54 ((40 * x1) + x3))) σ22))))) x1 (σ 54 ((40 * x1) + x3)) σ9)))) x1 x2 (σ 53 ((40 * x1) + x3)) σ7)) (σ 53 ((40 * x1) + x3)) σ)))))
theorem mono_bX9_write_47 {Q Q9 : bS → Prop} {P47 P479 : Int → Int → Int → bS → Prop} {x1 : Int} {x2 : Int} {x3 : Int} {σ : bS} (hQ : ∀ σ, Q σ → Q9 σ) (hP47 : ∀ x1 x2 x3 σ, P47 x1 x2 x3 σ → P479 x1 x2 x3 σ) : bX9_write_47 Q P47 x1 x2 x3 σ → bX9_write_47 Q9 P479 x1 x2 x3 σ := (bm_r (bm_and (bm_imp (mono_X9_put (fun _ => (hQ _)))) (bm_imp (bm_r (mono_X9_bytesOf (fun _ _ => (mono_X9_put (fun _ => (bm_and (bm_imp (bm_and (bm_imp (mono_vX9_write_236 hQ hP47)) (bm_imp (bm_and (bm_imp (bm_r (mono_vX9_write_187 hQ hP47))) (bm_imp (bm_and (bm_imp (bm_and (bm_imp (bm_r (mono_vX9_write_213 hQ hP47))) (bm_imp (bm_and (bm_imp (bm_r (mono_vX9_write_233 hQ hP47))) (bm_imp (bm_r (mono_vX9_write_213 hQ hP47))))))) (bm_imp (bm_r (mono_vX9_write_187 hQ hP47))))))))) (bm_imp (mono_X9_isFar (fun _ _ => (bm_and (bm_imp (bm_r (mono_vX9_write_131 hQ hP47))) (bm_imp (bm_r (mono_vX9_write_131 hQ hP47))))))))))))))))
theorem wX9_write_47 {p : Program} {l : Launch} {e : Env} {s : State} {m : MethodId} {args : Array Value} {below : List Frame} {meth : Method} {c : Code} {G : bG} {σ0 : bS} {Q : bS → Prop} {P47 : Int → Int → Int → bS → Prop} {x1 : Int} {x2 : Int} {x3 : Int} {σ : bS} (S : CallFix p m c cX9_write 8 s args bT "BankLinkerModel") (hr : meth.sig.returnType = none) (hlk : meth.locks = false) (hP47 : ∀ (x1 : Int) (x2 : Int) (x3 : Int) (σ : bS), bR x1 → bR x2 → bR x3 → bRG σ → P47 x1 x2 x3 σ → bA p l e { frames := 2, cells := 0, slots := 0, locals := 44 } s m args below meth c 0 0 (bQv below args s G σ0 Q) G (va_A (bk_w G σ0) s.heap.size) 8 47 [(0, .ref (G.2.2 10)), (1, .int (bI x1)), (2, .int (bI x2)), (3, .int (bI x3))] [] σ) (hx1 : bR x1) (hx2 : bR x2) (hx3 : bR x3) (hσ : bRG σ) (h : bX9_write_47 Q P47 x1 x2 x3 σ) : bA p l e { frames := 2, cells := 0, slots := 0, locals := 44 } s m args below meth c 0 0 (bQv below args s G σ0 Q) G (va_A (bk_w G σ0) s.heap.size) 8 47 [(0, .ref (G.2.2 10)), (1, .int (bI x1)), (2, .int (bI x2)), (3, .int (bI x3))] [] σ := by
  unfold bX9_write_47 at h
  refine br_iload_n S 3 dX9_write_47 rfl rfl ?_
  refine br_aload_n S 0 dX9_write_48 rfl rfl ?_
  refine br_get (f := 6) (N := 37) (C := RX9) (T := TX9) S inT_X9 wd_4_0 (by decide) rfl rfl (by decide) rfl dX9_write_49 ?_
  refine br_iload_n S 1 dX9_write_52 rfl rfl ?_
  obtain ⟨g1, h⟩ := h
  refine br_iald (n := 30) S ⟨by decide, by decide, fun _ => rfl⟩ g1.1 g1.2 dX9_write_53 ?_
  refine br_ic_ge S 247 hx3 (hσ 52 x1) dX9_write_54 (by decide) (fun c2 => ?_) (fun c2 => ?_)
  · replace h := h.1 c2
    refine br_aload_n S 0 dX9_write_247 rfl rfl ?_
    refine br_iload_n S 1 dX9_write_248 rfl rfl ?_
    refine br_iload_n S 2 dX9_write_249 rfl rfl ?_
    refine br_bipush S dX9_write_250 rfl ?_
    refine br_callVv (As := [.int (bI x1), .int (bI x2), .int (bI 8)]) (rest := []) S (cwV_X9_put S.2.2.2.2 wd_4_204 ⟨by decide, by decide⟩) (mX9_put l G σ x1 hx1 x2 hx2 8 (by decide) h) (by decide) rfl rfl rfl hσ rfl rfl (Nat.le_of_ble_eq_true rfl) ⟨by decide, by decide⟩ dX9_write_252 (fun σ4 hσ4 h => ?_)
    exact br_vret S hr hlk hσ4 dX9_write_255 h
  · replace h := h.2 c2
    refine br_aload_n S 0 dX9_write_57 rfl rfl ?_
    refine br_get (f := 7) (N := 37) (C := RX9) (T := TX9) S inT_X9 wd_4_1 (by decide) rfl rfl (by decide) rfl dX9_write_58 ?_
    refine br_bipush S dX9_write_61 rfl ?_
    refine br_iload_n S 1 dX9_write_63 rfl rfl ?_
    refine br_imul S dX9_write_64 ?_
    refine br_iload_n S 3 dX9_write_65 rfl rfl ?_
    refine br_iadd S dX9_write_66 ?_
    obtain ⟨g5, h⟩ := h
    refine br_iald (n := 1200) S ⟨by decide, by decide, fun _ => rfl⟩ g5.1 g5.2 dX9_write_67 ?_
    refine br_istore S [(4, .int (bI (σ 53 ((40 * x1) + x3)))), (0, .ref (G.2.2 10)), (1, .int (bI x1)), (2, .int (bI x2)), (3, .int (bI x3))] dX9_write_68 (by decide) rfl ?_
    refine br_aload_n S 1 dX9_write_70 rfl rfl ?_
    refine br_get (f := 8) (N := 37) (C := RX9) (T := TX9) S inT_X9 wd_4_2 (by decide) rfl rfl (by decide) rfl dX9_write_71 ?_
    refine br_bipush S dX9_write_74 rfl ?_
    refine br_iload_n S 2 dX9_write_76 rfl rfl ?_
    refine br_imul S dX9_write_77 ?_
    refine br_iload_n S 4 dX9_write_78 rfl rfl ?_
    refine br_iadd S dX9_write_79 ?_
    refine br_iald (n := 1200) S ⟨by decide, by decide, fun _ => rfl⟩ g5.1 g5.2 dX9_write_80 ?_
    refine br_istore S [(5, .int (bI (σ 54 ((40 * x1) + x3)))), (4, .int (bI (σ 53 ((40 * x1) + x3)))), (0, .ref (G.2.2 10)), (1, .int (bI x1)), (2, .int (bI x2)), (3, .int (bI x3))] dX9_write_81 (by decide) rfl ?_
    refine br_iload S 1 dX9_write_83 rfl ?_
    refine br_callS (As := [.int (bI (σ 53 ((40 * x1) + x3)))]) (rest := []) S (cwS_X9_bytesOf S.2.2.2.2 wd_4_181 ⟨by decide, by decide⟩) (mX9_bytesOf l G σ (σ 53 ((40 * x1) + x3)) (hσ 53 ((40 * x1) + x3)) h) hσ rfl rfl (Nat.le_of_ble_eq_true rfl) ⟨by decide, by decide⟩ dX9_write_85 (fun z6 σ7 hz6 hσ7 h => ?_)
    refine br_istore S [(6, .int (bI z6)), (5, .int (bI (σ 54 ((40 * x1) + x3)))), (4, .int (bI (σ 53 ((40 * x1) + x3)))), (0, .ref (G.2.2 10)), (1, .int (bI x1)), (2, .int (bI x2)), (3, .int (bI x3))] dX9_write_88 (by decide) rfl ?_
    refine br_aload_n S 3 dX9_write_90 rfl rfl ?_
    refine br_iload_n S 4 dX9_write_91 rfl rfl ?_
    refine br_iload_n S 5 dX9_write_92 rfl rfl ?_
    refine br_iload S 2 dX9_write_93 rfl ?_
    refine br_callVv (As := [.int (bI x1), .int (bI x2), .int (bI (σ 53 ((40 * x1) + x3)))]) (rest := []) S (cwV_X9_put S.2.2.2.2 wd_4_204 ⟨by decide, by decide⟩) (mX9_put l G σ7 x1 hx1 x2 hx2 (σ 53 ((40 * x1) + x3)) (hσ 53 ((40 * x1) + x3)) h) (by decide) rfl rfl rfl hσ7 rfl rfl (Nat.le_of_ble_eq_true rfl) ⟨by decide, by decide⟩ dX9_write_95 (fun σ9 hσ9 h => ?_)
    refine br_iload S 2 dX9_write_98 rfl ?_
    refine br_iconst S dX9_write_100 ?_
    refine br_ic_ne S 164 (hσ 53 ((40 * x1) + x3)) (by decide) dX9_write_101 (by decide) (fun c10 => ?_) (fun c10 => ?_)
    · replace h := h.1 c10
      refine br_iload S 0 dX9_write_164 rfl ?_
      refine br_iconst S dX9_write_166 ?_
      refine br_ic_ne S 236 hz6 (by decide) dX9_write_167 (by decide) (fun c11 => ?_) (fun c11 => ?_)
      · replace h := h.1 c11
        exact bA.perm [3, 4, 5, 6, 0] rfl <| wX9_write_236 S hr hlk hP47 hx1 hx2 hx3 hz6 hσ9 h
      · replace h := h.2 c11
        refine br_aload_n S 3 dX9_write_170 rfl rfl ?_
        refine br_iload_n S 4 dX9_write_171 rfl rfl ?_
        refine br_iload_n S 5 dX9_write_172 rfl rfl ?_
        refine br_iconst S dX9_write_173 ?_
        refine br_iadd S dX9_write_174 ?_
        refine br_iload S 2 dX9_write_175 rfl ?_
        refine br_iconst S dX9_write_177 ?_
        refine br_ic_eq S 187 (hσ 53 ((40 * x1) + x3)) (by decide) dX9_write_178 (by decide) (fun c12 => ?_) (fun c12 => ?_)
        · replace h := h.1 c12
          obtain ⟨g13, h⟩ := h
          exact bA.perm [3, 4, 5, 6, 1, 0] rfl <| wX9_write_187 S hr hlk hP47 hx1 hx2 hx3 (hσ 54 ((40 * x1) + x3)) hz6 g13 hx1 hσ9 h
        · replace h := h.2 c12
          refine br_iload S 2 dX9_write_181 rfl ?_
          refine br_iconst S dX9_write_183 ?_
          refine br_ic_ne S 199 (hσ 53 ((40 * x1) + x3)) (by decide) dX9_write_184 (by decide) (fun c14 => ?_) (fun c14 => ?_)
          · replace h := h.1 c14
            refine br_iload S 2 dX9_write_199 rfl ?_
            refine br_bipush S dX9_write_201 rfl ?_
            refine br_ic_eq S 213 (hσ 53 ((40 * x1) + x3)) (by decide) dX9_write_203 (by decide) (fun c15 => ?_) (fun c15 => ?_)
            · replace h := h.1 c15
              obtain ⟨g16, h⟩ := h
              exact bA.perm [3, 4, 5, 6, 1, 0] rfl <| wX9_write_213 S hr hlk hP47 hx1 hx2 hx3 (hσ 54 ((40 * x1) + x3)) hz6 g16 hx1 hσ9 h
            · replace h := h.2 c15
              refine br_iload S 2 dX9_write_206 rfl ?_
              refine br_bipush S dX9_write_208 rfl ?_
              refine br_ic_ne S 231 (hσ 53 ((40 * x1) + x3)) (by decide) dX9_write_210 (by decide) (fun c17 => ?_) (fun c17 => ?_)
              · replace h := h.1 c17
                refine br_iload S 1 dX9_write_231 rfl ?_
                obtain ⟨g18, h⟩ := h
                exact bA.perm [3, 4, 5, 6, 0] rfl <| wX9_write_233 S hr hlk hP47 hx1 hx2 hx3 hz6 (hσ 54 ((40 * x1) + x3)) g18 hx1 hσ9 h
              · replace h := h.2 c17
                obtain ⟨g19, h⟩ := h
                exact bA.perm [3, 4, 5, 6, 1, 0] rfl <| wX9_write_213 S hr hlk hP47 hx1 hx2 hx3 (hσ 54 ((40 * x1) + x3)) hz6 g19 hx1 hσ9 h
          · replace h := h.2 c14
            obtain ⟨g20, h⟩ := h
            exact bA.perm [3, 4, 5, 6, 1, 0] rfl <| wX9_write_187 S hr hlk hP47 hx1 hx2 hx3 (hσ 54 ((40 * x1) + x3)) hz6 g20 hx1 hσ9 h
    · replace h := h.2 c10
      refine br_aload_n S 3 dX9_write_104 rfl rfl ?_
      refine br_iload_n S 4 dX9_write_105 rfl rfl ?_
      refine br_iload S 1 dX9_write_106 rfl ?_
      refine br_callV (As := [.int (bI x1), .int (bI (σ 54 ((40 * x1) + x3)))]) (rest := []) S (cwV_X9_isFar S.2.2.2.2 wd_4_188 ⟨by decide, by decide⟩) (mX9_isFar l G σ9 x1 hx1 (σ 54 ((40 * x1) + x3)) (hσ 54 ((40 * x1) + x3)) h) (by decide) rfl rfl rfl hσ9 rfl rfl (Nat.le_of_ble_eq_true rfl) ⟨by decide, by decide⟩ dX9_write_108 (fun z21 σ22 hz21 hσ22 h => ?_)
      refine br_if_eq S 124 hz21 dX9_write_111 (by decide) (fun c23 => ?_) (fun c23 => ?_)
      · replace h := h.1 c23
        refine br_aload_n S 3 dX9_write_124 rfl rfl ?_
        refine br_get (f := 13) (N := 37) (C := RX9) (T := TX9) S inT_X9 wd_4_7 (by decide) rfl rfl (by decide) rfl dX9_write_125 ?_
        refine br_iload S 1 dX9_write_128 rfl ?_
        obtain ⟨g24, h⟩ := h
        refine br_iald (n := 30) S ⟨by decide, by decide, fun _ => rfl⟩ g24.1 g24.2 dX9_write_130 ?_
        exact bA.perm [3, 4, 5, 6, 0] rfl <| wX9_write_131 S hr hlk hP47 hx1 hx2 hx3 hz6 (hσ22 58 (σ 54 ((40 * x1) + x3))) hσ22 h
      · replace h := h.2 c23
        refine br_aload_n S 3 dX9_write_114 rfl rfl ?_
        refine br_get (f := 14) (N := 37) (C := RX9) (T := TX9) S inT_X9 wd_4_8 (by decide) rfl rfl (by decide) rfl dX9_write_115 ?_
        refine br_iload S 1 dX9_write_118 rfl ?_
        obtain ⟨g25, h⟩ := h
        refine br_iald (n := 30) S ⟨by decide, by decide, fun _ => rfl⟩ g25.1 g25.2 dX9_write_120 ?_
        refine br_goto S 131 dX9_write_121 (by decide) ?_
        exact bA.perm [3, 4, 5, 6, 0] rfl <| wX9_write_131 S hr hlk hP47 hx1 hx2 hx3 hz6 (hσ22 59 (σ 54 ((40 * x1) + x3))) hσ22 h
def eX9_write (Q : bS → Prop) (P47 : Int → Int → Int → bS → Prop) (a1 : Int) (σ : bS) : Prop := ((0 ≤ a1 ∧ a1 < 30) ∧ (((σ 51 a1) ≤ 0 → (vX9_write_45 Q P47 a1 0 σ)) ∧ (¬ (σ 51 a1) ≤ 0 → (vX9_put (fun σ4 => (vX9_put (fun σ6 => (vX9_put (fun σ8 => (vX9_write_45 Q P47 a1 3 σ8)) a1 2 (σ6 51 a1) σ6)) a1 1 (σ4 60 a1) σ4)) a1 0 12 σ))))
theorem mono_eX9_write {Q Q9 : bS → Prop} {P47 P479 : Int → Int → Int → bS → Prop} {a1 : Int} {σ : bS} (hQ : ∀ σ, Q σ → Q9 σ) (hP47 : ∀ x1 x2 x3 σ, P47 x1 x2 x3 σ → P479 x1 x2 x3 σ) : eX9_write Q P47 a1 σ → eX9_write Q9 P479 a1 σ := (bm_r (bm_and (bm_imp (mono_vX9_write_45 hQ hP47)) (bm_imp (mono_X9_put (fun _ => (mono_X9_put (fun _ => (mono_X9_put (fun _ => (mono_vX9_write_45 hQ hP47))))))))))
theorem wX9_write_e {p : Program} {l : Launch} {e : Env} {s : State} {m : MethodId} {args : Array Value} {below : List Frame} {meth : Method} {c : Code} {G : bG} {σ0 : bS} {Q : bS → Prop} {P47 : Int → Int → Int → bS → Prop} {a1 : Int} {σ : bS} (S : CallFix p m c cX9_write 8 s args bT "BankLinkerModel") (hr : meth.sig.returnType = none) (hlk : meth.locks = false) (hP47 : ∀ (x1 : Int) (x2 : Int) (x3 : Int) (σ : bS), bR x1 → bR x2 → bR x3 → bRG σ → P47 x1 x2 x3 σ → bA p l e { frames := 2, cells := 0, slots := 0, locals := 44 } s m args below meth c 0 0 (bQv below args s G σ0 Q) G (va_A (bk_w G σ0) s.heap.size) 8 47 [(0, .ref (G.2.2 10)), (1, .int (bI x1)), (2, .int (bI x2)), (3, .int (bI x3))] [] σ) (ha1 : bR a1) (hσ : bRG σ) (h : eX9_write Q P47 a1 σ) : bA p l e { frames := 2, cells := 0, slots := 0, locals := 44 } s m args below meth c 0 0 (bQv below args s G σ0 Q) G (va_A (bk_w G σ0) s.heap.size) 8 0 [(0, .ref (G.2.2 10)), (1, .int (bI a1))] [] σ := by
  unfold eX9_write at h
  refine br_iconst S dX9_write_0 ?_
  refine br_istore_n S [(2, .int (bI 0)), (0, .ref (G.2.2 10)), (1, .int (bI a1))] dX9_write_1 rfl (by decide) rfl ?_
  refine br_aload_n S 1 dX9_write_2 rfl rfl ?_
  refine br_get (f := 5) (N := 37) (C := RX9) (T := TX9) S inT_X9 wd_3_239 (by decide) rfl rfl (by decide) rfl dX9_write_3 ?_
  refine br_iload_n S 2 dX9_write_6 rfl rfl ?_
  obtain ⟨g1, h⟩ := h
  refine br_iald (n := 30) S ⟨by decide, by decide, fun _ => rfl⟩ g1.1 g1.2 dX9_write_7 ?_
  refine br_if_le S 45 (hσ 51 a1) dX9_write_8 (by decide) (fun c2 => ?_) (fun c2 => ?_)
  · replace h := h.1 c2
    exact bA.perm [1, 2, 0] rfl <| wX9_write_45 S hr hlk hP47 ha1 (by decide) hσ h
  · replace h := h.2 c2
    refine br_aload_n S 1 dX9_write_11 rfl rfl ?_
    refine br_iload_n S 2 dX9_write_12 rfl rfl ?_
    refine br_iconst S dX9_write_13 ?_
    refine br_bipush S dX9_write_14 rfl ?_
    refine br_callVv (As := [.int (bI a1), .int (bI 0), .int (bI 12)]) (rest := []) S (cwV_X9_put S.2.2.2.2 wd_4_204 ⟨by decide, by decide⟩) (mX9_put l G σ a1 ha1 0 (by decide) 12 (by decide) h) (by decide) rfl rfl rfl hσ rfl rfl (Nat.le_of_ble_eq_true rfl) ⟨by decide, by decide⟩ dX9_write_16 (fun σ4 hσ4 h => ?_)
    refine br_aload_n S 1 dX9_write_19 rfl rfl ?_
    refine br_iload_n S 2 dX9_write_20 rfl rfl ?_
    refine br_iconst S dX9_write_21 ?_
    refine br_aload_n S 1 dX9_write_22 rfl rfl ?_
    refine br_get (f := 15) (N := 37) (C := RX9) (T := TX9) S inT_X9 wd_4_9 (by decide) rfl rfl (by decide) rfl dX9_write_23 ?_
    refine br_iload_n S 2 dX9_write_26 rfl rfl ?_
    refine br_iald (n := 30) S ⟨by decide, by decide, fun _ => rfl⟩ g1.1 g1.2 dX9_write_27 ?_
    refine br_callVv (As := [.int (bI a1), .int (bI 1), .int (bI (σ4 60 a1))]) (rest := []) S (cwV_X9_put S.2.2.2.2 wd_4_204 ⟨by decide, by decide⟩) (mX9_put l G σ4 a1 ha1 1 (by decide) (σ4 60 a1) (hσ4 60 a1) h) (by decide) rfl rfl rfl hσ4 rfl rfl (Nat.le_of_ble_eq_true rfl) ⟨by decide, by decide⟩ dX9_write_28 (fun σ6 hσ6 h => ?_)
    refine br_aload_n S 1 dX9_write_31 rfl rfl ?_
    refine br_iload_n S 2 dX9_write_32 rfl rfl ?_
    refine br_iconst S dX9_write_33 ?_
    refine br_aload_n S 1 dX9_write_34 rfl rfl ?_
    refine br_get (f := 5) (N := 37) (C := RX9) (T := TX9) S inT_X9 wd_3_239 (by decide) rfl rfl (by decide) rfl dX9_write_35 ?_
    refine br_iload_n S 2 dX9_write_38 rfl rfl ?_
    refine br_iald (n := 30) S ⟨by decide, by decide, fun _ => rfl⟩ g1.1 g1.2 dX9_write_39 ?_
    refine br_callVv (As := [.int (bI a1), .int (bI 2), .int (bI (σ6 51 a1))]) (rest := []) S (cwV_X9_put S.2.2.2.2 wd_4_204 ⟨by decide, by decide⟩) (mX9_put l G σ6 a1 ha1 2 (by decide) (σ6 51 a1) (hσ6 51 a1) h) (by decide) rfl rfl rfl hσ6 rfl rfl (Nat.le_of_ble_eq_true rfl) ⟨by decide, by decide⟩ dX9_write_40 (fun σ8 hσ8 h => ?_)
    refine br_iconst S dX9_write_43 ?_
    refine br_istore_n S [(2, .int (bI 3)), (0, .ref (G.2.2 10)), (1, .int (bI a1))] dX9_write_44 rfl (by decide) rfl ?_
    exact bA.perm [1, 2, 0] rfl <| wX9_write_45 S hr hlk hP47 ha1 (by decide) hσ8 h
def LX9_write_47 (Q : bS → Prop) (x1 : Int) (x2 : Int) (x3 : Int) (σ : bS) : Prop := ∀ (P47 : Int → Int → Int → bS → Prop), (∀ x1 x2 x3 σ, bX9_write_47 Q P47 x1 x2 x3 σ → P47 x1 x2 x3 σ) → P47 x1 x2 x3 σ
theorem LX9_write_47_in {Q : bS → Prop} {x1 : Int} {x2 : Int} {x3 : Int} {σ : bS} (h : bX9_write_47 Q (LX9_write_47 Q) x1 x2 x3 σ) : LX9_write_47 Q x1 x2 x3 σ := fun P47 H47 => H47 _ _ _ _ (mono_bX9_write_47 (fun _ h => h) (fun _ _ _ _ h => h P47 H47) h)
theorem mono_LX9_write_47 {Q Q9 : bS → Prop} {x1 : Int} {x2 : Int} {x3 : Int} {σ : bS} (hQ : ∀ σ, Q σ → Q9 σ) (h : LX9_write_47 Q x1 x2 x3 σ) : LX9_write_47 Q9 x1 x2 x3 σ := fun P47 H47 => h P47 (fun _ _ _ _ hb => H47 _ _ _ _ (mono_bX9_write_47 hQ (fun _ _ _ _ h => h) hb))
def vX9_write (Q : bS → Prop) (a1 : Int) (σ : bS) : Prop := eX9_write Q (LX9_write_47 Q) a1 σ
theorem mono_vX9_write {Q Q9 : bS → Prop} {a1 : Int} {σ : bS} (hQ : ∀ σ, Q σ → Q9 σ) : vX9_write Q a1 σ → vX9_write Q9 a1 σ := mono_eX9_write hQ (fun _ _ _ _ h => mono_LX9_write_47 hQ h)
theorem mono_X9_write {Q Q9 : bS → Prop} {a1 : Int} {σ : bS} (hQ : ∀ σ, Q σ → Q9 σ) : vX9_write Q a1 σ → vX9_write Q9 a1 σ := mono_vX9_write hQ
theorem mX9_write (l : Launch) (G : bG) (σ : bS) (a1 : Int) (ha1 : bR a1) {Q : bS → Prop} (h : vX9_write Q a1 σ) : bk_Mv l yX9_write (Cond.code yX9_write cX9_write 8 (none) :: bT) { frames := 2, cells := 0, slots := 0, locals := 44 } G σ [.ref (G.2.2 10), .int (bI a1)] Q := by
  refine bk_Mv.of (cc := cX9_write) (maxL := 8) (ret := none) (by decide) rfl (Nat.le_of_ble_eq_true rfl) ?_
  intro p e s m args below meth c S hr hlk hσ
  let K47 : Int → Int → Int → bS → Prop := fun x1 x2 x3 τ => bR x1 → bR x2 → bR x3 → bRG τ → bA p l e { frames := 2, cells := 0, slots := 0, locals := 44 } s m args below meth c 0 0 (bQv below args s G σ Q) G (va_A (bk_w G σ) s.heap.size) 8 47 [(0, .ref (G.2.2 10)), (1, .int (bI x1)), (2, .int (bI x2)), (3, .int (bI x3))] [] τ
  have C47 : ∀ x1 x2 x3 τ, bX9_write_47 Q K47 x1 x2 x3 τ → K47 x1 x2 x3 τ := fun x1 x2 x3 τ hb hx1 hx2 hx3 hτ => wX9_write_47 S hr hlk (fun x1 x2 x3 σ hx1 hx2 hx3 hσ h => h hx1 hx2 hx3 hσ) hx1 hx2 hx3 hτ hb
  exact wX9_write_e S hr hlk (fun x1 x2 x3 σ hx1 hx2 hx3 hσ h => h K47 C47 hx1 hx2 hx3 hσ) ha1 hσ h
def vX9_writeThunk (Q : bS → Prop) (a1 : Int) (σ : bS) : Prop := ((0 ≤ a1 ∧ a1 < 30) ∧ ((0 ≤ (σ 59 a1) ∧ (σ 59 a1) < 256) ∧ (∀ σ3 : bS, σ3 = bup σ 62 (σ 59 a1) 9 → ((0 ≤ ((σ 59 a1) + 1) ∧ ((σ 59 a1) + 1) < 256) ∧ (∀ σ6 : bS, σ6 = bup σ3 62 ((σ 59 a1) + 1) 10 → ((0 ≤ (σ6 50 a1) ∧ (σ6 50 a1) < 12) ∧ ((0 ≤ ((σ 59 a1) + 2) ∧ ((σ 59 a1) + 2) < 256) ∧ (∀ σ10 : bS, σ10 = bup σ6 62 ((σ 59 a1) + 2) (σ6 56 (σ6 50 a1)) → ((0 ≤ ((σ 59 a1) + 3) ∧ ((σ 59 a1) + 3) < 256) ∧ (∀ σ13 : bS, σ13 = bup σ10 62 ((σ 59 a1) + 3) 5 → (0 ≤ (σ13 58 a1) ∧ ((0 ≤ ((σ 59 a1) + 4) ∧ ((σ 59 a1) + 4) < 256) ∧ (∀ σ17 : bS, σ17 = bup σ13 62 ((σ 59 a1) + 4) ((σ13 58 a1) % 256) → (0 ≤ (σ17 58 a1) ∧ ((0 ≤ ((σ 59 a1) + 5) ∧ ((σ 59 a1) + 5) < 256) ∧ (∀ σ21 : bS, σ21 = bup σ17 62 ((σ 59 a1) + 5) ((σ17 58 a1) / 256) → ((0 ≤ ((σ 59 a1) + 6) ∧ ((σ 59 a1) + 6) < 256) ∧ (∀ σ24 : bS, σ24 = bup σ21 62 ((σ 59 a1) + 6) 11 → ((0 ≤ ((σ 59 a1) + 7) ∧ ((σ 59 a1) + 7) < 256) ∧ (∀ σ27 : bS, σ27 = bup σ24 62 ((σ 59 a1) + 7) 8 → (Q σ27)))))))))))))))))))))
theorem mono_vX9_writeThunk {Q Q9 : bS → Prop} {a1 : Int} {σ : bS} (hQ : ∀ σ, Q σ → Q9 σ) : vX9_writeThunk Q a1 σ → vX9_writeThunk Q9 a1 σ := (bm_r (bm_r (bm_all fun _ => bm_imp (bm_r (bm_all fun _ => bm_imp (bm_r (bm_r (bm_all fun _ => bm_imp (bm_r (bm_all fun _ => bm_imp (bm_r (bm_r (bm_all fun _ => bm_imp (bm_r (bm_r (bm_all fun _ => bm_imp (bm_r (bm_all fun _ => bm_imp (bm_r (bm_all fun _ => bm_imp (hQ _)))))))))))))))))))))
theorem wX9_writeThunk_e {p : Program} {l : Launch} {e : Env} {s : State} {m : MethodId} {args : Array Value} {below : List Frame} {meth : Method} {c : Code} {G : bG} {σ0 : bS} {Q : bS → Prop} {a1 : Int} {σ : bS} (S : CallFix p m c cX9_writeThunk 3 s args bT "BankLinkerModel") (hr : meth.sig.returnType = none) (hlk : meth.locks = false) (ha1 : bR a1) (hσ : bRG σ) (h : vX9_writeThunk Q a1 σ) : bA p l e { frames := 0, cells := 0, slots := 0, locals := 0 } s m args below meth c 0 0 (bQv below args s G σ0 Q) G (va_A (bk_w G σ0) s.heap.size) 3 0 [(0, .ref (G.2.2 10)), (1, .int (bI a1))] [] σ := by
  unfold vX9_writeThunk at h
  refine br_aload_n S 0 dX9_writeThunk_0 rfl rfl ?_
  refine br_get (f := 14) (N := 37) (C := RX9) (T := TX9) S inT_X9 wd_4_8 (by decide) rfl rfl (by decide) rfl dX9_writeThunk_1 ?_
  refine br_iload_n S 1 dX9_writeThunk_4 rfl rfl ?_
  obtain ⟨g1, h⟩ := h
  refine br_iald (n := 30) S ⟨by decide, by decide, fun _ => rfl⟩ g1.1 g1.2 dX9_writeThunk_5 ?_
  refine br_istore_n S [(2, .int (bI (σ 59 a1))), (0, .ref (G.2.2 10)), (1, .int (bI a1))] dX9_writeThunk_6 rfl (by decide) rfl ?_
  refine br_aload_n S 1 dX9_writeThunk_7 rfl rfl ?_
  refine br_get (f := 17) (N := 37) (C := RX9) (T := TX9) S inT_X9 wd_4_11 (by decide) rfl rfl (by decide) rfl dX9_writeThunk_8 ?_
  refine br_iload_n S 0 dX9_writeThunk_11 rfl rfl ?_
  refine br_bipush S dX9_writeThunk_12 rfl ?_
  obtain ⟨g2, h⟩ := h
  obtain ⟨σ3, e4⟩ : ∃ τ, τ = bup σ 62 (σ 59 a1) 9 := ⟨_, rfl⟩
  replace h := h σ3 e4
  have hσ3 : bRG σ3 := by rw [e4]; exact bup_rg hσ (by decide)
  refine br_iast (n := 256) S ⟨by decide, by decide, fun _ => rfl⟩ g2.1 g2.2 dX9_writeThunk_14 ?_
  refine bA.to rfl rfl e4.symm ?_
  refine br_aload_n S 1 dX9_writeThunk_15 rfl rfl ?_
  refine br_get (f := 17) (N := 37) (C := RX9) (T := TX9) S inT_X9 wd_4_11 (by decide) rfl rfl (by decide) rfl dX9_writeThunk_16 ?_
  refine br_iload_n S 0 dX9_writeThunk_19 rfl rfl ?_
  refine br_iconst S dX9_writeThunk_20 ?_
  refine br_iadd S dX9_writeThunk_21 ?_
  refine br_bipush S dX9_writeThunk_22 rfl ?_
  obtain ⟨g5, h⟩ := h
  obtain ⟨σ6, e7⟩ : ∃ τ, τ = bup σ3 62 ((σ 59 a1) + 1) 10 := ⟨_, rfl⟩
  replace h := h σ6 e7
  have hσ6 : bRG σ6 := by rw [e7]; exact bup_rg hσ3 (by decide)
  refine br_iast (n := 256) S ⟨by decide, by decide, fun _ => rfl⟩ g5.1 g5.2 dX9_writeThunk_24 ?_
  refine bA.to rfl rfl e7.symm ?_
  refine br_aload_n S 1 dX9_writeThunk_25 rfl rfl ?_
  refine br_get (f := 17) (N := 37) (C := RX9) (T := TX9) S inT_X9 wd_4_11 (by decide) rfl rfl (by decide) rfl dX9_writeThunk_26 ?_
  refine br_iload_n S 0 dX9_writeThunk_29 rfl rfl ?_
  refine br_iconst S dX9_writeThunk_30 ?_
  refine br_iadd S dX9_writeThunk_31 ?_
  refine br_aload_n S 1 dX9_writeThunk_32 rfl rfl ?_
  refine br_get (f := 11) (N := 37) (C := RX9) (T := TX9) S inT_X9 wd_4_5 (by decide) rfl rfl (by decide) rfl dX9_writeThunk_33 ?_
  refine br_aload_n S 1 dX9_writeThunk_36 rfl rfl ?_
  refine br_get (f := 4) (N := 37) (C := RX9) (T := TX9) S inT_X9 wd_3_238 (by decide) rfl rfl (by decide) rfl dX9_writeThunk_37 ?_
  refine br_iload_n S 2 dX9_writeThunk_40 rfl rfl ?_
  refine br_iald (n := 30) S ⟨by decide, by decide, fun _ => rfl⟩ g1.1 g1.2 dX9_writeThunk_41 ?_
  obtain ⟨g8, h⟩ := h
  refine br_iald (n := 12) S ⟨by decide, by decide, fun _ => rfl⟩ g8.1 g8.2 dX9_writeThunk_42 ?_
  obtain ⟨g9, h⟩ := h
  obtain ⟨σ10, e11⟩ : ∃ τ, τ = bup σ6 62 ((σ 59 a1) + 2) (σ6 56 (σ6 50 a1)) := ⟨_, rfl⟩
  replace h := h σ10 e11
  have hσ10 : bRG σ10 := by rw [e11]; exact bup_rg hσ6 (hσ6 56 (σ6 50 a1))
  refine br_iast (n := 256) S ⟨by decide, by decide, fun _ => rfl⟩ g9.1 g9.2 dX9_writeThunk_43 ?_
  refine bA.to rfl rfl e11.symm ?_
  refine br_aload_n S 1 dX9_writeThunk_44 rfl rfl ?_
  refine br_get (f := 17) (N := 37) (C := RX9) (T := TX9) S inT_X9 wd_4_11 (by decide) rfl rfl (by decide) rfl dX9_writeThunk_45 ?_
  refine br_iload_n S 0 dX9_writeThunk_48 rfl rfl ?_
  refine br_iconst S dX9_writeThunk_49 ?_
  refine br_iadd S dX9_writeThunk_50 ?_
  refine br_iconst S dX9_writeThunk_51 ?_
  obtain ⟨g12, h⟩ := h
  obtain ⟨σ13, e14⟩ : ∃ τ, τ = bup σ10 62 ((σ 59 a1) + 3) 5 := ⟨_, rfl⟩
  replace h := h σ13 e14
  have hσ13 : bRG σ13 := by rw [e14]; exact bup_rg hσ10 (by decide)
  refine br_iast (n := 256) S ⟨by decide, by decide, fun _ => rfl⟩ g12.1 g12.2 dX9_writeThunk_52 ?_
  refine bA.to rfl rfl e14.symm ?_
  refine br_aload_n S 1 dX9_writeThunk_53 rfl rfl ?_
  refine br_get (f := 17) (N := 37) (C := RX9) (T := TX9) S inT_X9 wd_4_11 (by decide) rfl rfl (by decide) rfl dX9_writeThunk_54 ?_
  refine br_iload_n S 0 dX9_writeThunk_57 rfl rfl ?_
  refine br_iconst S dX9_writeThunk_58 ?_
  refine br_iadd S dX9_writeThunk_59 ?_
  refine br_aload_n S 1 dX9_writeThunk_60 rfl rfl ?_
  refine br_get (f := 13) (N := 37) (C := RX9) (T := TX9) S inT_X9 wd_4_7 (by decide) rfl rfl (by decide) rfl dX9_writeThunk_61 ?_
  refine br_iload_n S 2 dX9_writeThunk_64 rfl rfl ?_
  refine br_iald (n := 30) S ⟨by decide, by decide, fun _ => rfl⟩ g1.1 g1.2 dX9_writeThunk_65 ?_
  refine br_sipush S dX9_writeThunk_66 rfl ?_
  obtain ⟨g15, h⟩ := h
  refine br_irem S g15 (hσ13 58 a1).2 (by decide) (by decide) dX9_writeThunk_69 ?_
  obtain ⟨g16, h⟩ := h
  obtain ⟨σ17, e18⟩ : ∃ τ, τ = bup σ13 62 ((σ 59 a1) + 4) ((σ13 58 a1) % 256) := ⟨_, rfl⟩
  replace h := h σ17 e18
  have hσ17 : bRG σ17 := by rw [e18]; exact bup_rg hσ13 (bR_mod256 _)
  refine br_iast (n := 256) S ⟨by decide, by decide, fun _ => rfl⟩ g16.1 g16.2 dX9_writeThunk_70 ?_
  refine bA.to rfl rfl e18.symm ?_
  refine br_aload_n S 1 dX9_writeThunk_71 rfl rfl ?_
  refine br_get (f := 17) (N := 37) (C := RX9) (T := TX9) S inT_X9 wd_4_11 (by decide) rfl rfl (by decide) rfl dX9_writeThunk_72 ?_
  refine br_iload_n S 0 dX9_writeThunk_75 rfl rfl ?_
  refine br_iconst S dX9_writeThunk_76 ?_
  refine br_iadd S dX9_writeThunk_77 ?_
  refine br_aload_n S 1 dX9_writeThunk_78 rfl rfl ?_
  refine br_get (f := 13) (N := 37) (C := RX9) (T := TX9) S inT_X9 wd_4_7 (by decide) rfl rfl (by decide) rfl dX9_writeThunk_79 ?_
  refine br_iload_n S 2 dX9_writeThunk_82 rfl rfl ?_
  refine br_iald (n := 30) S ⟨by decide, by decide, fun _ => rfl⟩ g1.1 g1.2 dX9_writeThunk_83 ?_
  refine br_sipush S dX9_writeThunk_84 rfl ?_
  obtain ⟨g19, h⟩ := h
  refine br_idiv S g19 (hσ17 58 a1).2 (by decide) (by decide) dX9_writeThunk_87 ?_
  obtain ⟨g20, h⟩ := h
  obtain ⟨σ21, e22⟩ : ∃ τ, τ = bup σ17 62 ((σ 59 a1) + 5) ((σ17 58 a1) / 256) := ⟨_, rfl⟩
  replace h := h σ21 e22
  have hσ21 : bRG σ21 := by rw [e22]; exact bup_rg hσ17 (bR_div256 (hσ17 58 a1))
  refine br_iast (n := 256) S ⟨by decide, by decide, fun _ => rfl⟩ g20.1 g20.2 dX9_writeThunk_88 ?_
  refine bA.to rfl rfl e22.symm ?_
  refine br_aload_n S 1 dX9_writeThunk_89 rfl rfl ?_
  refine br_get (f := 17) (N := 37) (C := RX9) (T := TX9) S inT_X9 wd_4_11 (by decide) rfl rfl (by decide) rfl dX9_writeThunk_90 ?_
  refine br_iload_n S 0 dX9_writeThunk_93 rfl rfl ?_
  refine br_bipush S dX9_writeThunk_94 rfl ?_
  refine br_iadd S dX9_writeThunk_96 ?_
  refine br_bipush S dX9_writeThunk_97 rfl ?_
  obtain ⟨g23, h⟩ := h
  obtain ⟨σ24, e25⟩ : ∃ τ, τ = bup σ21 62 ((σ 59 a1) + 6) 11 := ⟨_, rfl⟩
  replace h := h σ24 e25
  have hσ24 : bRG σ24 := by rw [e25]; exact bup_rg hσ21 (by decide)
  refine br_iast (n := 256) S ⟨by decide, by decide, fun _ => rfl⟩ g23.1 g23.2 dX9_writeThunk_99 ?_
  refine bA.to rfl rfl e25.symm ?_
  refine br_aload_n S 1 dX9_writeThunk_100 rfl rfl ?_
  refine br_get (f := 17) (N := 37) (C := RX9) (T := TX9) S inT_X9 wd_4_11 (by decide) rfl rfl (by decide) rfl dX9_writeThunk_101 ?_
  refine br_iload_n S 0 dX9_writeThunk_104 rfl rfl ?_
  refine br_bipush S dX9_writeThunk_105 rfl ?_
  refine br_iadd S dX9_writeThunk_107 ?_
  refine br_bipush S dX9_writeThunk_108 rfl ?_
  obtain ⟨g26, h⟩ := h
  obtain ⟨σ27, e28⟩ : ∃ τ, τ = bup σ24 62 ((σ 59 a1) + 7) 8 := ⟨_, rfl⟩
  replace h := h σ27 e28
  have hσ27 : bRG σ27 := by rw [e28]; exact bup_rg hσ24 (by decide)
  refine br_iast (n := 256) S ⟨by decide, by decide, fun _ => rfl⟩ g26.1 g26.2 dX9_writeThunk_110 ?_
  refine bA.to rfl rfl e28.symm ?_
  exact br_vret S hr hlk hσ27 dX9_writeThunk_111 h
theorem mono_X9_writeThunk {Q Q9 : bS → Prop} {a1 : Int} {σ : bS} (hQ : ∀ σ, Q σ → Q9 σ) : vX9_writeThunk Q a1 σ → vX9_writeThunk Q9 a1 σ := mono_vX9_writeThunk hQ
theorem mX9_writeThunk (l : Launch) (G : bG) (σ : bS) (a1 : Int) (ha1 : bR a1) {Q : bS → Prop} (h : vX9_writeThunk Q a1 σ) : bk_Mv l yX9_writeThunk (Cond.code yX9_writeThunk cX9_writeThunk 3 (none) :: bT) { frames := 0, cells := 0, slots := 0, locals := 0 } G σ [.ref (G.2.2 10), .int (bI a1)] Q := by
  refine bk_Mv.of (cc := cX9_writeThunk) (maxL := 3) (ret := none) (by decide) rfl (Nat.le_of_ble_eq_true rfl) ?_
  intro p e s m args below meth c S hr hlk hσ
  exact wX9_writeThunk_e S hr hlk ha1 hσ h
def vX9_link_78 (Q : Int → bS → Prop) (P50 : Int → bS → Prop) (x2 : Int) (σ : bS) : Prop := (bR (x2 + 1) ∧ (P50 (x2 + 1) σ))
theorem mono_vX9_link_78 {Q Q9 : Int → bS → Prop} {P50 P509 : Int → bS → Prop} {x2 : Int} {σ : bS} (hQ : ∀ r σ, Q r σ → Q9 r σ) (hP50 : ∀ x2 σ, P50 x2 σ → P509 x2 σ) : vX9_link_78 Q P50 x2 σ → vX9_link_78 Q9 P509 x2 σ := (bm_r (hP50 _ _))
theorem wX9_link_78 {p : Program} {l : Launch} {e : Env} {s : State} {m : MethodId} {args : Array Value} {below : List Frame} {meth : Method} {c : Code} {G : bG} {σ0 : bS} {Q : Int → bS → Prop} {P50 : Int → bS → Prop} {x2 : Int} {σ : bS} (S : CallFix p m c cX9_link 3 s args bT "BankLinkerModel") (hr : meth.sig.returnType = some .int) (hlk : meth.locks = false) (hP50 : ∀ (x2 : Int) (σ : bS), bR x2 → bRG σ → P50 x2 σ → bA p l e { frames := 5, cells := 0, slots := 0, locals := 110 } s m args below meth c 0 0 (bQi below args s G σ0 Q) G (va_A (bk_w G σ0) s.heap.size) 3 50 [(0, .ref (G.2.2 10)), (2, .int (bI x2))] [] σ) (hx2 : bR x2) (hσ : bRG σ) (h : vX9_link_78 Q P50 x2 σ) : bA p l e { frames := 5, cells := 0, slots := 0, locals := 110 } s m args below meth c 0 0 (bQi below args s G σ0 Q) G (va_A (bk_w G σ0) s.heap.size) 3 78 [(0, .ref (G.2.2 10)), (2, .int (bI x2))] [] σ := by
  unfold vX9_link_78 at h
  refine br_iinc S 1 [(2, .int (bI (x2 + 1))), (0, .ref (G.2.2 10))] dX9_link_78 rfl (by decide) rfl ?_
  refine br_goto S 50 dX9_link_81 (by decide) ?_
  obtain ⟨g1, h⟩ := h
  exact bA.perm [1, 0] rfl <| hP50 (x2 + 1) σ g1 hσ h
def bX9_link_50 (Q : Int → bS → Prop) (P50 : Int → bS → Prop) (x2 : Int) (σ : bS) : Prop := (((σ 10 3) ≤ x2 → (∀ σ2 : bS, σ2 = bup σ 10 10 1 → (Q 1 σ2))) ∧ (¬ (σ 10 3) ≤ x2 → (vX9_write (fun σ5 => ((0 ≤ x2 ∧ x2 < 30) ∧ (((σ5 59 x2) = (-1) → (vX9_link_78 Q P50 x2 σ5)) ∧ (¬ (σ5 59 x2) = (-1) → (vX9_writeThunk (fun σ9 => (vX9_link_78 Q P50 x2 σ9)) x2 σ5))))) x2 σ)))
theorem mono_bX9_link_50 {Q Q9 : Int → bS → Prop} {P50 P509 : Int → bS → Prop} {x2 : Int} {σ : bS} (hQ : ∀ r σ, Q r σ → Q9 r σ) (hP50 : ∀ x2 σ, P50 x2 σ → P509 x2 σ) : bX9_link_50 Q P50 x2 σ → bX9_link_50 Q9 P509 x2 σ := (bm_and (bm_imp (bm_all fun _ => bm_imp (hQ _ _))) (bm_imp (mono_X9_write (fun _ => (bm_r (bm_and (bm_imp (mono_vX9_link_78 hQ hP50)) (bm_imp (mono_X9_writeThunk (fun _ => (mono_vX9_link_78 hQ hP50))))))))))
theorem wX9_link_50 {p : Program} {l : Launch} {e : Env} {s : State} {m : MethodId} {args : Array Value} {below : List Frame} {meth : Method} {c : Code} {G : bG} {σ0 : bS} {Q : Int → bS → Prop} {P50 : Int → bS → Prop} {x2 : Int} {σ : bS} (S : CallFix p m c cX9_link 3 s args bT "BankLinkerModel") (hr : meth.sig.returnType = some .int) (hlk : meth.locks = false) (hP50 : ∀ (x2 : Int) (σ : bS), bR x2 → bRG σ → P50 x2 σ → bA p l e { frames := 5, cells := 0, slots := 0, locals := 110 } s m args below meth c 0 0 (bQi below args s G σ0 Q) G (va_A (bk_w G σ0) s.heap.size) 3 50 [(0, .ref (G.2.2 10)), (2, .int (bI x2))] [] σ) (hx2 : bR x2) (hσ : bRG σ) (h : bX9_link_50 Q P50 x2 σ) : bA p l e { frames := 5, cells := 0, slots := 0, locals := 110 } s m args below meth c 0 0 (bQi below args s G σ0 Q) G (va_A (bk_w G σ0) s.heap.size) 3 50 [(0, .ref (G.2.2 10)), (2, .int (bI x2))] [] σ := by
  unfold bX9_link_50 at h
  refine br_iload_n S 1 dX9_link_50 rfl rfl ?_
  refine br_aload_n S 0 dX9_link_51 rfl rfl ?_
  refine br_get (f := 3) (N := 37) (C := RX9) (T := TX9) S inT_X9 wd_3_237 (by decide) rfl rfl (by decide) rfl dX9_link_52 ?_
  refine br_ic_ge S 84 hx2 (hσ 10 3) dX9_link_55 (by decide) (fun c1 => ?_) (fun c1 => ?_)
  · replace h := h.1 c1
    refine br_aload_n S 0 dX9_link_84 rfl rfl ?_
    refine br_iconst S dX9_link_85 ?_
    obtain ⟨σ2, e3⟩ : ∃ τ, τ = bup σ 10 10 1 := ⟨_, rfl⟩
    replace h := h σ2 e3
    have hσ2 : bRG σ2 := by rw [e3]; exact bup_rg hσ (by decide)
    refine br_put (f := 10) (N := 37) (C := RX9) (T := TX9) S tyX9 tyX9_ok nmX9 inT_X9 wd_4_4 (by decide) rfl (pf_10_10 _ _ _) rfl (by decide) (Nat.le_of_ble_eq_true rfl) rfl rfl (bk_nar (by decide)) (bk_fit (by decide)) dX9_link_86 ?_
    refine bA.to rfl rfl e3.symm ?_
    refine br_iconst S dX9_link_89 ?_
    exact br_iret S hr hlk (by decide) hσ2 dX9_link_90 h
  · replace h := h.2 c1
    refine br_aload_n S 0 dX9_link_58 rfl rfl ?_
    refine br_iload_n S 1 dX9_link_59 rfl rfl ?_
    refine br_callVv (As := [.int (bI x2)]) (rest := []) S (cwV_X9_write S.2.2.2.2 wd_4_200 ⟨by decide, by decide⟩) (mX9_write l G σ x2 hx2 h) (by decide) rfl rfl rfl hσ rfl rfl (Nat.le_of_ble_eq_true rfl) ⟨by decide, by decide⟩ dX9_link_60 (fun σ5 hσ5 h => ?_)
    refine br_aload_n S 0 dX9_link_63 rfl rfl ?_
    refine br_get (f := 14) (N := 37) (C := RX9) (T := TX9) S inT_X9 wd_4_8 (by decide) rfl rfl (by decide) rfl dX9_link_64 ?_
    refine br_iload_n S 1 dX9_link_67 rfl rfl ?_
    obtain ⟨g6, h⟩ := h
    refine br_iald (n := 30) S ⟨by decide, by decide, fun _ => rfl⟩ g6.1 g6.2 dX9_link_68 ?_
    refine br_iconst S dX9_link_69 ?_
    refine br_ic_eq S 78 (hσ5 59 x2) (by decide) dX9_link_70 (by decide) (fun c7 => ?_) (fun c7 => ?_)
    · replace h := h.1 c7
      exact wX9_link_78 S hr hlk hP50 hx2 hσ5 h
    · replace h := h.2 c7
      refine br_aload_n S 0 dX9_link_73 rfl rfl ?_
      refine br_iload_n S 1 dX9_link_74 rfl rfl ?_
      refine br_callVv (As := [.int (bI x2)]) (rest := []) S (cwV_X9_writeThunk S.2.2.2.2 wd_4_208 ⟨by decide, by decide⟩) (mX9_writeThunk l G σ5 x2 hx2 h) (by decide) rfl rfl rfl hσ5 rfl rfl (Nat.le_of_ble_eq_true rfl) ⟨by decide, by decide⟩ dX9_link_75 (fun σ9 hσ9 h => ?_)
      exact wX9_link_78 S hr hlk hP50 hx2 hσ9 h
def eX9_link (Q : Int → bS → Prop) (P50 : Int → bS → Prop) (σ : bS) : Prop := (∀ σ1 : bS, σ1 = bup σ 10 0 0 → (∀ σ3 : bS, σ3 = bup σ1 10 10 0 → (vX9_areJumpsGood (fun z5 σ6 => ((z5 = 0 → (Q 0 σ6)) ∧ (¬ z5 = 0 → (vX9_areBanksGood (fun z8 σ9 => ((z8 = 0 → (Q 0 σ9)) ∧ (¬ z8 = 0 → (vX9_isCommonGood (fun z11 σ12 => ((z11 = 0 → (Q 0 σ12)) ∧ (¬ z11 = 0 → (vX9_areCellsGood (fun z14 σ15 => ((¬ z14 = 0 → (vX9_told (fun z17 σ18 => (P50 0 σ18)) 0 (-1) (-1) σ15)) ∧ (z14 = 0 → (Q 0 σ15))))  σ12))))  σ9))))  σ6))))  σ3)))
theorem mono_eX9_link {Q Q9 : Int → bS → Prop} {P50 P509 : Int → bS → Prop} {σ : bS} (hQ : ∀ r σ, Q r σ → Q9 r σ) (hP50 : ∀ x2 σ, P50 x2 σ → P509 x2 σ) : eX9_link Q P50 σ → eX9_link Q9 P509 σ := (bm_all fun _ => bm_imp (bm_all fun _ => bm_imp (mono_X9_areJumpsGood (fun _ _ => (bm_and (bm_imp (hQ _ _)) (bm_imp (mono_X9_areBanksGood (fun _ _ => (bm_and (bm_imp (hQ _ _)) (bm_imp (mono_X9_isCommonGood (fun _ _ => (bm_and (bm_imp (hQ _ _)) (bm_imp (mono_X9_areCellsGood (fun _ _ => (bm_and (bm_imp (mono_X9_told (fun _ _ => (hP50 _ _)))) (bm_imp (hQ _ _)))))))))))))))))))
theorem wX9_link_e {p : Program} {l : Launch} {e : Env} {s : State} {m : MethodId} {args : Array Value} {below : List Frame} {meth : Method} {c : Code} {G : bG} {σ0 : bS} {Q : Int → bS → Prop} {P50 : Int → bS → Prop} {σ : bS} (S : CallFix p m c cX9_link 3 s args bT "BankLinkerModel") (hr : meth.sig.returnType = some .int) (hlk : meth.locks = false) (hP50 : ∀ (x2 : Int) (σ : bS), bR x2 → bRG σ → P50 x2 σ → bA p l e { frames := 5, cells := 0, slots := 0, locals := 110 } s m args below meth c 0 0 (bQi below args s G σ0 Q) G (va_A (bk_w G σ0) s.heap.size) 3 50 [(0, .ref (G.2.2 10)), (2, .int (bI x2))] [] σ) (hσ : bRG σ) (h : eX9_link Q P50 σ) : bA p l e { frames := 5, cells := 0, slots := 0, locals := 110 } s m args below meth c 0 0 (bQi below args s G σ0 Q) G (va_A (bk_w G σ0) s.heap.size) 3 0 [(0, .ref (G.2.2 10))] [] σ := by
  unfold eX9_link at h
  refine br_aload_n S 0 dX9_link_0 rfl rfl ?_
  refine br_iconst S dX9_link_1 ?_
  obtain ⟨σ1, e2⟩ : ∃ τ, τ = bup σ 10 0 0 := ⟨_, rfl⟩
  replace h := h σ1 e2
  have hσ1 : bRG σ1 := by rw [e2]; exact bup_rg hσ (by decide)
  refine br_put (f := 0) (N := 37) (C := RX9) (T := TX9) S tyX9 tyX9_ok nmX9 inT_X9 wd_3_234 (by decide) rfl (pf_10_0 _ _ _) rfl (by decide) (Nat.le_of_ble_eq_true rfl) rfl rfl rfl rfl dX9_link_2 ?_
  refine bA.to rfl rfl e2.symm ?_
  refine br_aload_n S 0 dX9_link_5 rfl rfl ?_
  refine br_iconst S dX9_link_6 ?_
  obtain ⟨σ3, e4⟩ : ∃ τ, τ = bup σ1 10 10 0 := ⟨_, rfl⟩
  replace h := h σ3 e4
  have hσ3 : bRG σ3 := by rw [e4]; exact bup_rg hσ1 (by decide)
  refine br_put (f := 10) (N := 37) (C := RX9) (T := TX9) S tyX9 tyX9_ok nmX9 inT_X9 wd_4_4 (by decide) rfl (pf_10_10 _ _ _) rfl (by decide) (Nat.le_of_ble_eq_true rfl) rfl rfl (bk_nar (by decide)) (bk_fit (by decide)) dX9_link_7 ?_
  refine bA.to rfl rfl e4.symm ?_
  refine br_aload_n S 0 dX9_link_10 rfl rfl ?_
  refine br_callV (As := []) (rest := []) S (cwV_X9_areJumpsGood S.2.2.2.2 wd_4_157 ⟨by decide, by decide⟩) (mX9_areJumpsGood l G σ3 h) (by decide) rfl rfl rfl hσ3 rfl rfl (Nat.le_of_ble_eq_true rfl) ⟨by decide, by decide⟩ dX9_link_11 (fun z5 σ6 hz5 hσ6 h => ?_)
  refine br_if_eq S 38 hz5 dX9_link_14 (by decide) (fun c7 => ?_) (fun c7 => ?_)
  · replace h := h.1 c7
    refine br_iconst S dX9_link_38 ?_
    exact br_iret S hr hlk (by decide) hσ6 dX9_link_39 h
  · replace h := h.2 c7
    refine br_aload_n S 0 dX9_link_17 rfl rfl ?_
    refine br_callV (As := []) (rest := []) S (cwV_X9_areBanksGood S.2.2.2.2 wd_4_165 ⟨by decide, by decide⟩) (mX9_areBanksGood l G σ6 h) (by decide) rfl rfl rfl hσ6 rfl rfl (Nat.le_of_ble_eq_true rfl) ⟨by decide, by decide⟩ dX9_link_18 (fun z8 σ9 hz8 hσ9 h => ?_)
    refine br_if_eq S 38 hz8 dX9_link_21 (by decide) (fun c10 => ?_) (fun c10 => ?_)
    · replace h := h.1 c10
      refine br_iconst S dX9_link_38 ?_
      exact br_iret S hr hlk (by decide) hσ9 dX9_link_39 h
    · replace h := h.2 c10
      refine br_aload_n S 0 dX9_link_24 rfl rfl ?_
      refine br_callV (As := []) (rest := []) S (cwV_X9_isCommonGood S.2.2.2.2 wd_4_184 ⟨by decide, by decide⟩) (mX9_isCommonGood l G σ9 h) (by decide) rfl rfl rfl hσ9 rfl rfl (Nat.le_of_ble_eq_true rfl) ⟨by decide, by decide⟩ dX9_link_25 (fun z11 σ12 hz11 hσ12 h => ?_)
      refine br_if_eq S 38 hz11 dX9_link_28 (by decide) (fun c13 => ?_) (fun c13 => ?_)
      · replace h := h.1 c13
        refine br_iconst S dX9_link_38 ?_
        exact br_iret S hr hlk (by decide) hσ12 dX9_link_39 h
      · replace h := h.2 c13
        refine br_aload_n S 0 dX9_link_31 rfl rfl ?_
        refine br_callV (As := []) (rest := []) S (cwV_X9_areCellsGood S.2.2.2.2 wd_4_196 ⟨by decide, by decide⟩) (mX9_areCellsGood l G σ12 h) (by decide) rfl rfl rfl hσ12 rfl rfl (Nat.le_of_ble_eq_true rfl) ⟨by decide, by decide⟩ dX9_link_32 (fun z14 σ15 hz14 hσ15 h => ?_)
        refine br_if_ne S 40 hz14 dX9_link_35 (by decide) (fun c16 => ?_) (fun c16 => ?_)
        · replace h := h.1 c16
          refine br_aload_n S 0 dX9_link_40 rfl rfl ?_
          refine br_iconst S dX9_link_41 ?_
          refine br_iconst S dX9_link_42 ?_
          refine br_iconst S dX9_link_43 ?_
          refine br_callV (As := [.int (bI 0), .int (bI (-1)), .int (bI (-1))]) (rest := []) S (cwV_X9_told S.2.2.2.2 wd_4_161 ⟨by decide, by decide⟩) (mX9_told l G σ15 0 (by decide) (-1) (by decide) (-1) (by decide) h) (by decide) rfl rfl rfl hσ15 rfl rfl (Nat.le_of_ble_eq_true rfl) ⟨by decide, by decide⟩ dX9_link_44 (fun z17 σ18 hz17 hσ18 h => ?_)
          refine br_istore_n S [(1, .int (bI z17)), (0, .ref (G.2.2 10))] dX9_link_47 rfl (by decide) rfl ?_
          refine br_iconst S dX9_link_48 ?_
          refine br_istore_n S [(2, .int (bI 0)), (1, .int (bI z17)), (0, .ref (G.2.2 10))] dX9_link_49 rfl (by decide) rfl ?_
          exact bA.perm [2, 0] rfl <| hP50 0 σ18 (by decide) hσ18 h
        · replace h := h.2 c16
          refine br_iconst S dX9_link_38 ?_
          exact br_iret S hr hlk (by decide) hσ15 dX9_link_39 h
def LX9_link_50 (Q : Int → bS → Prop) (x2 : Int) (σ : bS) : Prop := ∀ (P50 : Int → bS → Prop), (∀ x2 σ, bX9_link_50 Q P50 x2 σ → P50 x2 σ) → P50 x2 σ
theorem LX9_link_50_in {Q : Int → bS → Prop} {x2 : Int} {σ : bS} (h : bX9_link_50 Q (LX9_link_50 Q) x2 σ) : LX9_link_50 Q x2 σ := fun P50 H50 => H50 _ _ (mono_bX9_link_50 (fun _ _ h => h) (fun _ _ h => h P50 H50) h)
theorem mono_LX9_link_50 {Q Q9 : Int → bS → Prop} {x2 : Int} {σ : bS} (hQ : ∀ r σ, Q r σ → Q9 r σ) (h : LX9_link_50 Q x2 σ) : LX9_link_50 Q9 x2 σ := fun P50 H50 => h P50 (fun _ _ hb => H50 _ _ (mono_bX9_link_50 hQ (fun _ _ h => h) hb))
def vX9_link (Q : Int → bS → Prop) (σ : bS) : Prop := eX9_link Q (LX9_link_50 Q) σ
theorem mono_vX9_link {Q Q9 : Int → bS → Prop} {σ : bS} (hQ : ∀ r σ, Q r σ → Q9 r σ) : vX9_link Q σ → vX9_link Q9 σ := mono_eX9_link hQ (fun _ _ h => mono_LX9_link_50 hQ h)
theorem mono_X9_link {Q Q9 : Int → bS → Prop} {σ : bS} (hQ : ∀ r σ, Q r σ → Q9 r σ) : vX9_link Q σ → vX9_link Q9 σ := mono_vX9_link hQ
theorem mX9_link (l : Launch) (G : bG) (σ : bS) {Q : Int → bS → Prop} (h : vX9_link Q σ) : bk_Mi l yX9_link (Cond.code yX9_link cX9_link 3 (some .int) :: bT) { frames := 5, cells := 0, slots := 0, locals := 110 } G σ [.ref (G.2.2 10)] Q := by
  refine bk_Mi.of (cc := cX9_link) (maxL := 3) (ret := some .int) (by decide) rfl (Nat.le_of_ble_eq_true rfl) ?_
  intro p e s m args below meth c S hr hlk hσ
  let K50 : Int → bS → Prop := fun x2 τ => bR x2 → bRG τ → bA p l e { frames := 5, cells := 0, slots := 0, locals := 110 } s m args below meth c 0 0 (bQi below args s G σ Q) G (va_A (bk_w G σ) s.heap.size) 3 50 [(0, .ref (G.2.2 10)), (2, .int (bI x2))] [] τ
  have C50 : ∀ x2 τ, bX9_link_50 Q K50 x2 τ → K50 x2 τ := fun x2 τ hb hx2 hτ => wX9_link_50 S hr hlk (fun x2 σ hx2 hσ h => h hx2 hσ) hx2 hτ hb
  exact wX9_link_e S hr hlk (fun x2 σ hx2 hσ h => h K50 C50 hx2 hσ) hσ h

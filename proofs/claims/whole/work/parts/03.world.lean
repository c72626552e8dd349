/-! the world: 71 cells; what cell k holds is σ k -/
abbrev bS : Type := Nat → Int → Int
abbrev bG : Type := va_G × (Nat → ClassId) × (Nat → Nat)
def bRG (σ : bS) : Prop := ∀ (k : Nat) (i : Int), bR (σ k i)
def bup (σ : bS) (k : Nat) (i v : Int) : bS := fun k' j => if k' = k ∧ j = i then v else σ k' j
theorem bup_rg {σ : bS} {k : Nat} {i v : Int} (h : bRG σ) (hv : bR v) : bRG (bup σ k i v) := by
  intro k' j
  unfold bup
  split
  · exact hv
  · exact h k' j
theorem bup_s (σ : bS) (k : Nat) (i v : Int) : bup σ k i v k i = v := by simp [bup]
theorem bup_k {σ : bS} {k k' : Nat} {i v j : Int} (h : k' ≠ k) : bup σ k i v k' j = σ k' j := by simp [bup, h]
theorem bup_n {σ : bS} {k k' : Nat} {i v j : Int} (h : j ≠ i) : bup σ k i v k' j = σ k' j := by simp [bup, h]
/-- lengths of the int arrays -/
def bk_len (k : Nat) : Nat :=
  if k = 13 then 12 else if k ≤ 16 then 30 else if k ≤ 18 then 1200 else if k = 19 then 5 else if k ≤ 27 then 30 else if k ≤ 30 then 12 else if k = 31 then 8 else if k = 32 then 9 else if k ≤ 41 then 250 else if k = 42 then 64 else if k = 43 then 60 else if k ≤ 45 then 61 else if k = 46 then 549 else if k ≤ 48 then 100
  else if k = 49 then 12 else if k ≤ 52 then 30 else if k ≤ 54 then 1200 else if k = 55 then 5 else if k = 56 then 12 else if k = 57 then 8 else if k ≤ 61 then 30 else if k = 62 then 256 else if k = 63 then 2000 else if k = 64 then 10 else if k = 65 then 200 else if k = 66 then 256 else if k = 67 then 512 else if k ≤ 69 then 61 else 549
/-- what a cell is -/
def bk_e (G : bG) (k : Nat) (r : Int → Int) : va_E := match k with
  | 0 => .inr (8, [.ref (G.2.2 1), .ref (G.2.2 2), .ref (G.2.2 3), .ref (G.2.2 4), .ref (G.2.2 5), .ref (G.2.2 6), .ref (G.2.2 7), .int (bI (r 7))])
  | 1 => .inr (6, [.int (bI (r 0)), .ref (G.2.2 13), .int (bI (r 2)), .ref (G.2.2 14), .ref (G.2.2 15), .ref (G.2.2 16), .ref (G.2.2 17), .ref (G.2.2 18), .ref (G.2.2 19)])
  | 2 => .inr (0, [.ref (G.2.2 20), .ref (G.2.2 21)])
  | 3 => .inr (2, [.ref (G.2.2 22), .ref (G.2.2 23), .ref (G.2.2 24), .ref (G.2.2 25), .ref (G.2.2 26), .ref (G.2.2 27), .ref (G.2.2 28), .ref (G.2.2 29), .ref (G.2.2 30), .ref (G.2.2 31), .int (bI (r 10)), .int (bI (r 11)), .int (bI (r 12)), .int (bI (r 13))])
  | 4 => .inr (5, [.ref (G.2.2 11), .ref (G.2.2 32)])
  | 5 => .inr (3, [.ref (G.2.2 1), .ref (G.2.2 2), .ref (G.2.2 3), .ref (G.2.2 4), .int (bI (r 4)), .int (bI (r 5)), .int (bI (r 6))])
  | 6 => .inr (4, [.ref (G.2.2 8), .ref (G.2.2 4), .ref (G.2.2 42), .ref (G.2.2 43), .int (bI (r 4)), .int (bI (r 5)), .int (bI (r 6))])
  | 7 => .inr (1, [.ref (G.2.2 9), .ref (G.2.2 1), .ref (G.2.2 44), .ref (G.2.2 45), .ref (G.2.2 46), .int (bI (r 5))])
  | 8 => .inr (7, [.ref (G.2.2 47), .int (bI (r 1)), .int (bI (r 2)), .int (bI (r 3)), .int (bI (r 4)), .int (bI (r 5))])
  | 9 => .inr (7, [.ref (G.2.2 48), .int (bI (r 1)), .int (bI (r 2)), .int (bI (r 3)), .int (bI (r 4)), .int (bI (r 5))])
  | 10 => .inr (9, [.int (bI (r 0)), .int (bI (r 1)), .ref (G.2.2 49), .int (bI (r 3)), .ref (G.2.2 50), .ref (G.2.2 51), .ref (G.2.2 52), .ref (G.2.2 53), .ref (G.2.2 54), .ref (G.2.2 55), .int (bI (r 10)), .ref (G.2.2 56), .ref (G.2.2 57), .ref (G.2.2 58), .ref (G.2.2 59), .ref (G.2.2 60), .ref (G.2.2 61), .ref (G.2.2 62), .ref (G.2.2 63), .int (bI (r 19)), .int (bI (r 20)), .int (bI (r 21)), .int (bI (r 22)), .int (bI (r 23)), .int (bI (r 24)), .ref (G.2.2 12), .ref (G.2.2 64), .ref (G.2.2 65), .ref (G.2.2 66), .ref (G.2.2 67), .int (bI (r 30)), .int (bI (r 31)), .int (bI (r 32)), .int (bI (r 33)), .ref (G.2.2 68), .ref (G.2.2 69), .ref (G.2.2 70)])
  | 11 => .inl (G.2.1 2, 9, .inr (.inr (.inr (.inr (fun i => if i < 9 then some (G.2.2 (33 + i)) else none)))))
  | 12 => .inl (G.2.1 1, 30, .inl (fun j => bI (r j)))
  | k => .inl (G.2.1 0, bk_len k, .inl (fun j => bI (r j)))
/-- cell k is an int array of n places -/
def bk_A (G : bG) (k n : Nat) : Prop := k < 71 ∧ n < 2147483648 ∧ ∀ r : Int → Int, bk_e G k r = .inl (G.2.1 0, n, .inl (fun j => bI (r j)))
theorem bk_rows (G : bG) (i : Nat) (h : i < 9) : bk_A G (33 + i) 250 := by
  rcases (show i = 0 ∨ i = 1 ∨ i = 2 ∨ i = 3 ∨ i = 4 ∨ i = 5 ∨ i = 6 ∨ i = 7 ∨ i = 8 by omega) with rfl | rfl | rfl | rfl | rfl | rfl | rfl | rfl | rfl <;> exact ⟨by decide, by decide, fun _ => rfl⟩
def bk_w (G : bG) (σ : bS) : va_W := (List.range 71).map (fun k => (G.2.2 k, bk_e G k (σ k)))
theorem bk_w_get (G : bG) (σ : bS) {k : Nat} (h : k < 71) : (bk_w G σ)[k]? = some (G.2.2 k, bk_e G k (σ k)) := by
  unfold bk_w
  rw [List.getElem?_map, List.getElem?_range h]
  rfl
theorem bk_w_inv {G : bG} {σ : bS} {k : Nat} {q : Nat × va_E} (h : (bk_w G σ)[k]? = some q) : k < 71 ∧ q = (G.2.2 k, bk_e G k (σ k)) := by
  have hk : k < 71 := by
    have := (List.getElem?_eq_some_iff.mp h).1
    simpa [bk_w] using this
  rw [bk_w_get G σ hk] at h
  exact ⟨hk, (Option.some.inj h).symm⟩
theorem bk_w_set (G : bG) (σ σ' : bS) {k : Nat} (h : k < 71) (ho : ∀ k', k' ≠ k → σ' k' = σ k') : (bk_w G σ).set k (G.2.2 k, bk_e G k (σ' k)) = bk_w G σ' := by
  apply List.ext_getElem?
  intro j
  rw [List.getElem?_set]
  by_cases hj : k = j
  · subst hj
    rw [if_pos rfl, if_pos (by simp [bk_w, h]), bk_w_get G σ' h]
  · rw [if_neg hj]
    by_cases hl : j < 71
    · rw [bk_w_get G σ hl, bk_w_get G σ' hl, ho j (fun e => hj e.symm)]
    · rw [List.getElem?_eq_none (by simp [bk_w]; omega), List.getElem?_eq_none (by simp [bk_w]; omega)]
theorem bk_D_any {G : bG} {σ σ' : bS} {A : Nat → Prop} (h : va_D A (bk_w G σ)) : va_D A (bk_w G σ') := by
  refine ⟨fun i j x y hi hj hxy => ?_, fun k q hk => ?_⟩
  · obtain ⟨h1, e1⟩ := bk_w_inv hi
    obtain ⟨h2, e2⟩ := bk_w_inv hj
    rw [e1, e2] at hxy
    exact h.1 i j _ _ (bk_w_get G σ h1) (bk_w_get G σ h2) hxy
  · obtain ⟨h1, e1⟩ := bk_w_inv hk
    rw [e1]
    exact (show A (G.2.2 k) from h.2 k _ (bk_w_get G σ h1))
theorem bk_A_any {G : bG} {σ σ' : bS} {sz q : Nat} (h : va_A (bk_w G σ) sz q) : va_A (bk_w G σ') sz q := by
  rcases h with ⟨k, e, h⟩ | h
  · obtain ⟨h1, e1⟩ := bk_w_inv h
    exact Or.inl ⟨k, bk_e G k (σ' k), by rw [bk_w_get G σ' h1]; rw [show q = G.2.2 k from congrArg Prod.fst e1]⟩
  · exact Or.inr h
def bk_ty (G : bG) : List (ClassId × FieldType) := [(G.2.1 0, .int), (G.2.1 1, .boolean), (G.2.1 2, .array .int)]
/-- the tables that the class reads: BYTES_OF_OP, LEAST_LIMIT, GREATEST_LIMIT, at the addresses 100, 101, 102 -/
def bk_t0 (i : Int) : Int := if i = 2 ∨ i = 8 then 1 else if i = 5 then 3 else 2
def bk_t1 (i : Int) : Int := if i = 0 then 1 else if i = 1 then 8 else if i = 2 then 8 else if i = 3 then 1 else 0
def bk_t2 (i : Int) : Int := if i = 0 then 8 else if i = 1 then 250 else if i = 2 then 250 else if i = 3 then 60 else 64
theorem bk_t0_rg (i : Int) : bR (bk_t0 i) := by unfold bk_t0; constructor <;> repeat' split <;> omega
theorem bk_t1_rg (i : Int) : bR (bk_t1 i) := by unfold bk_t1; constructor <;> repeat' split <;> omega
theorem bk_t2_rg (i : Int) : bR (bk_t2 i) := by unfold bk_t2; constructor <;> repeat' split <;> omega
abbrev bNW : Cond := .fieldLinkNest "BankLinker$Program" 60 "BankLinker" "BYTES_OF_OP" "[I" "BankLinker"
def bk_S (G : bG) (A : Nat → Prop) (U : State) (H : Heap) : Prop :=
  (va_Z "BankLinker" "BYTES_OF_OP" "[I" (.ref (G.2.2 100)) A U H ∧ va_T .int (G.2.2 100) 9 (fun j => .int (bI (bk_t0 j))) A U H) ∧
  (va_Z "BankLinker" "LEAST_LIMIT" "[I" (.ref (G.2.2 101)) A U H ∧ va_T .int (G.2.2 101) 5 (fun j => .int (bI (bk_t1 j))) A U H) ∧
  (va_Z "BankLinker" "GREATEST_LIMIT" "[I" (.ref (G.2.2 102)) A U H ∧ va_T .int (G.2.2 102) 5 (fun j => .int (bI (bk_t2 j))) A U H) ∧ va_Nw bNW U
theorem bk_S.moved {G : bG} {A : Nat → Prop} {u U : State} {H : Heap} (hW : u.WarmedH U.vm) (h : bk_S G A u H) : bk_S G A U H :=
  ⟨⟨h.1.1.moved hW.alike, h.1.2.moved hW.alike⟩, ⟨h.2.1.1.moved hW.alike, h.2.1.2.moved hW.alike⟩, ⟨h.2.2.1.1.moved hW.alike, h.2.2.1.2.moved hW.alike⟩, va_Nw.warmF hW h.2.2.2⟩
theorem bk_S.same {G : bG} {A : Nat → Prop} {u U : State} {H : Heap} (hvm : u.vm = U.vm) (h : bk_S G A u H) : bk_S G A U H := by
  have ha : u.vm.Alike U.vm := by rw [hvm]; exact Vm.Alike.refl U.vm
  exact ⟨⟨h.1.1.moved ha, h.1.2.moved ha⟩, ⟨h.2.1.1.moved ha, h.2.1.2.moved ha⟩, ⟨h.2.2.1.1.moved ha, h.2.2.1.2.moved ha⟩, va_Nw.same rfl hvm h.2.2.2⟩
theorem bk_S.kept {G : bG} {A : Nat → Prop} {U : State} {H H1 : Heap} (h : bk_S G A U H) (hq : ∀ a : Nat, a < H.size → ¬ A a → H1[a]? = H[a]?) : bk_S G A U H1 :=
  ⟨⟨h.1.1.kept hq, h.1.2.kept hq⟩, ⟨h.2.1.1.kept hq, h.2.1.2.kept hq⟩, ⟨h.2.2.1.1.kept hq, h.2.2.1.2.kept hq⟩, h.2.2.2⟩
theorem bk_S.narrow {G : bG} {A B : Nat → Prop} {U : State} {H : Heap} (h : bk_S G A U H) (hq : ∀ a : Nat, B a → A a) : bk_S G B U H :=
  ⟨⟨h.1.1.narrow hq, h.1.2.narrow hq⟩, ⟨h.2.1.1.narrow hq, h.2.1.2.narrow hq⟩, ⟨h.2.2.1.1.narrow hq, h.2.2.1.2.narrow hq⟩, h.2.2.2⟩
/-- the start of a method, as its callers give it -/
def bk_P (G : bG) (σ : bS) (U : State) : Prop := va_K G.1 vwCl (bk_ty G) U ∧ va_P G.1 vwCl (bk_w G σ) U.heap ∧ va_D (fun _ => True) (bk_w G σ) ∧ bk_S G (va_A (bk_w G σ) U.heap.size) U U.heap ∧ bRG σ
/-- inside a method that began at s -/
def bk_W (G : bG) (A : Nat → Prop) (s : State) (σ : bS) (H : Heap) (locs : List Loc) : Prop :=
  va_K G.1 vwCl (bk_ty G) s ∧ va_P G.1 vwCl (bk_w G σ) H ∧ va_D A (bk_w G σ) ∧ va_S A s.heap H locs ∧ (∀ q, s.heap.size ≤ q → A q) ∧ bk_S G A s s.heap
theorem bk_W.start {G : bG} {σ : bS} {s : State} (h : bk_P G σ s) : bk_W G (va_A (bk_w G σ) s.heap.size) s σ s.heap [] :=
  ⟨h.1, h.2.1, h.2.2.1.self, va_S.rf, fun _ hq => Or.inr hq, h.2.2.2.1⟩
/-- what a callee needs -/
theorem bk_W.out {G : bG} {A : Nat → Prop} {s U : State} {σ : bS} {H : Heap} {locs : List Loc} (h : bk_W G A s σ H locs) (hσ : bRG σ) (hU : U.heap = H) (hWm : s.WarmedH U.vm) : bk_P G σ U := by
  obtain ⟨hK, hP, hD, hS, hA, hT⟩ := h
  refine ⟨hK.moved hWm.alike, by rw [hU]; exact hP, hD.weaken (fun _ _ _ _ => trivial), ?_, hσ⟩
  rw [hU]
  refine ((hT.kept hS.2.1).narrow ?_).moved hWm
  intro a ha
  rcases ha with ⟨k, e, h⟩ | h
  · exact hD.2 k _ h
  · exact hA a (Nat.le_trans hS.1 h)
theorem bk_W.free {G : bG} {A : Nat → Prop} {s : State} {σ : bS} {H : Heap} {locs : List Loc} (h : bk_W G A s σ H locs) : ∀ q, va_A (bk_w G σ) H.size q → A q := by
  obtain ⟨hK, hP, hD, hS, hA, hT⟩ := h
  intro a ha
  rcases ha with ⟨k, e, h⟩ | h
  · exact hD.2 k _ h
  · exact hA a (Nat.le_trans hS.1 h)
/-- a method's contract: from σ and these arguments it comes to an answer and a state of which Q holds -/
def bk_Mi (l : Launch) (y : MethodName) (ws : List Cond) (rm : Room) (G : bG) (σ : bS) (av : List Value) (Q : Int → bS → Prop) : Prop :=
  ∀ sz : Nat, Met l y ws rm (va_Pc av (fun U => U.heap.size = sz ∧ bk_P G σ U)) (va_Qi (fun (r : Int32) (σ' : bS) => ∃ z : Int, r = bI z ∧ bR z ∧ Q z σ' ∧ bRG σ') (fun σ' t => va_P G.1 vwCl (bk_w G σ') t.heap) (va_A (bk_w G σ) sz)) 0 0 (va_A (bk_w G σ) sz)
def bk_Mv (l : Launch) (y : MethodName) (ws : List Cond) (rm : Room) (G : bG) (σ : bS) (av : List Value) (Q : bS → Prop) : Prop :=
  ∀ sz : Nat, Met l y ws rm (va_Pc av (fun U => U.heap.size = sz ∧ bk_P G σ U)) (va_Qv (fun (σ' : bS) => Q σ' ∧ bRG σ') (fun σ' t => va_P G.1 vwCl (bk_w G σ') t.heap) (va_A (bk_w G σ) sz)) 0 0 (va_A (bk_w G σ) sz)
def bk_Mr (l : Launch) (y : MethodName) (ws : List Cond) (rm : Room) (G : bG) (σ : bS) (av : List Value) (Q : Nat → bS → Prop) : Prop :=
  ∀ sz : Nat, Met l y ws rm (va_Pc av (fun U => U.heap.size = sz ∧ bk_P G σ U)) (va_Qr (fun (u : Nat × bS) => Q u.1 u.2 ∧ bRG u.2) (fun u a t => a = G.2.2 u.1 ∧ va_P G.1 vwCl (bk_w G u.2) t.heap) (va_A (bk_w G σ) sz)) 0 0 (va_A (bk_w G σ) sz)
section BKR
variable {p : Program} {l : Launch} {e : Env} {R : Room} {s : State} {m : MethodId} {args : Array Value} {below : List Frame} {meth : Method} {c : Code} {cells slots : Nat} {Q : State → Prop}
variable {G : bG} {A : Nat → Prop} {nL pc : Nat} {lv : List (Nat × Value)} {st : List Value} {σ : bS} {cc : ByteArray} {Ts : List Cond} {own : String}
/-- the machine at pc with these locals and this stack, over any heap that holds σ, comes to Q -/
def bA (p : Program) (l : Launch) (e : Env) (R : Room) (s : State) (m : MethodId) (args : Array Value) (below : List Frame) (meth : Method) (c : Code) (cells slots : Nat) (Q : State → Prop) (G : bG) (A : Nat → Prop) (nL pc : Nat) (lv : List (Nat × Value)) (st : List Value) (σ : bS) : Prop :=
  ∀ (H : Heap) (locs : List Loc) (ls : Array Slot), bk_W G A s σ H locs → lv_has ls nL lv → W p l e R s m args below meth c H locs cells slots Q (F0 m pc ls st)
theorem bA.perm {lv' : List (Nat × Value)} (ks : List Nat) (h : lv_pick lv ks = lv') (k : bA p l e R s m args below meth c cells slots Q G A nL pc lv' st σ) : bA p l e R s m args below meth c cells slots Q G A nL pc lv st σ :=
  fun H locs ls hW hl => k H locs ls hW (lv_sub hl ks h)
theorem bA.to {st' : List Value} {lv' : List (Nat × Value)} {σ' : bS} (h1 : lv = lv') (h2 : st = st') (h3 : σ = σ') (k : bA p l e R s m args below meth c cells slots Q G A nL pc lv' st' σ') : bA p l e R s m args below meth c cells slots Q G A nL pc lv st σ := by
  subst h1; subst h2; subst h3; exact k
-- constants, locals, stack
theorem br_iconst (S : CallFix p m c cc nL s args Ts own) {n : Int} (hd : decode cc pc = .ok (.iconst n, 1)) (k : bA p l e R s m args below meth c cells slots Q G A nL (pc + 1) lv (.int (bI n) :: st) σ) : bA p l e R s m args below meth c cells slots Q G A nL pc lv st σ :=
  fun H locs ls hW hl => lv_iconst S.1 S.2.1 hd rfl (k H locs ls hW hl)
theorem br_bipush (S : CallFix p m c cc nL s args Ts own) {n : Int} (hd : decode cc pc = .ok (.bipush n, 2)) (hv : (Int8.ofInt n).toInt32 = bI n) (k : bA p l e R s m args below meth c cells slots Q G A nL (pc + 2) lv (.int (bI n) :: st) σ) : bA p l e R s m args below meth c cells slots Q G A nL pc lv st σ :=
  fun H locs ls hW hl => lv_bipush S.1 S.2.1 hd hv (k H locs ls hW hl)
theorem br_sipush (S : CallFix p m c cc nL s args Ts own) {n : Int} (hd : decode cc pc = .ok (.sipush n, 3)) (hv : (Int16.ofInt n).toInt32 = bI n) (k : bA p l e R s m args below meth c cells slots Q G A nL (pc + 3) lv (.int (bI n) :: st) σ) : bA p l e R s m args below meth c cells slots Q G A nL pc lv st σ :=
  fun H locs ls hW hl => lv_sipush S.1 S.2.1 hd hv (k H locs ls hW hl)
theorem br_lconst (S : CallFix p m c cc nL s args Ts own) {n : Fin 2} {z : Int} (hd : decode cc pc = .ok (.lconst n, 1)) (hv : Int64.ofNat (n : Nat) = bL z) (k : bA p l e R s m args below meth c cells slots Q G A nL (pc + 1) lv (.long (bL z) :: st) σ) : bA p l e R s m args below meth c cells slots Q G A nL pc lv st σ :=
  fun H locs ls hW hl => lv_lconst S.1 S.2.1 hd hv (k H locs ls hW hl)
theorem br_ldc2 (S : CallFix p m c cc nL s args Ts own) {index : Nat} {v : Int64} {z : Int} (hw : Cond.constantLong own index v ∈ Ts) (hv : v = bL z) (hd : decode cc pc = .ok (.ldc2_w index, 3)) (k : bA p l e R s m args below meth c cells slots Q G A nL (pc + 3) lv (.long (bL z) :: st) σ) : bA p l e R s m args below meth c cells slots Q G A nL pc lv st σ := by
  subst hv
  exact fun H locs ls hW hl => lv_ldc2 S.1 S.2.1 S.2.2.2.1 (S.2.2.2.2 _ hw) hd (k H locs ls hW hl)
theorem br_iload_n (S : CallFix p m c cc nL s args Ts own) {k : Fin 4} {i : Nat} {x : Int32} (j : Nat) (hd : decode cc pc = .ok (.iload_n k, 1)) (hi : (k : Nat) = i) (hj : lv[j]? = some (i, .int x)) (kk : bA p l e R s m args below meth c cells slots Q G A nL (pc + 1) lv (.int x :: st) σ) : bA p l e R s m args below meth c cells slots Q G A nL pc lv st σ :=
  fun H locs ls hW hl => lv_iload_n S.1 S.2.1 hd hi (lv_at hl j hj) (kk H locs ls hW hl)
theorem br_iload (S : CallFix p m c cc nL s args Ts own) {i : Nat} {x : Int32} (j : Nat) (hd : decode cc pc = .ok (.iload i, 2)) (hj : lv[j]? = some (i, .int x)) (kk : bA p l e R s m args below meth c cells slots Q G A nL (pc + 2) lv (.int x :: st) σ) : bA p l e R s m args below meth c cells slots Q G A nL pc lv st σ :=
  fun H locs ls hW hl => lv_iload S.1 S.2.1 hd (lv_at hl j hj) (kk H locs ls hW hl)
theorem br_lload_n (S : CallFix p m c cc nL s args Ts own) {k : Fin 4} {i : Nat} {x : Int64} (j : Nat) (hd : decode cc pc = .ok (.lload_n k, 1)) (hi : (k : Nat) = i) (hj : lv[j]? = some (i, .long x)) (kk : bA p l e R s m args below meth c cells slots Q G A nL (pc + 1) lv (.long x :: st) σ) : bA p l e R s m args below meth c cells slots Q G A nL pc lv st σ :=
  fun H locs ls hW hl => lv_lload_n S.1 S.2.1 hd hi (lv_at hl j hj) (kk H locs ls hW hl)
theorem br_lload (S : CallFix p m c cc nL s args Ts own) {i : Nat} {x : Int64} (j : Nat) (hd : decode cc pc = .ok (.lload i, 2)) (hj : lv[j]? = some (i, .long x)) (kk : bA p l e R s m args below meth c cells slots Q G A nL (pc + 2) lv (.long x :: st) σ) : bA p l e R s m args below meth c cells slots Q G A nL pc lv st σ :=
  fun H locs ls hW hl => lv_lload S.1 S.2.1 hd (lv_at hl j hj) (kk H locs ls hW hl)
theorem br_aload_n (S : CallFix p m c cc nL s args Ts own) {k : Fin 4} {i x : Nat} (j : Nat) (hd : decode cc pc = .ok (.aload_n k, 1)) (hi : (k : Nat) = i) (hj : lv[j]? = some (i, .ref x)) (kk : bA p l e R s m args below meth c cells slots Q G A nL (pc + 1) lv (.ref x :: st) σ) : bA p l e R s m args below meth c cells slots Q G A nL pc lv st σ :=
  fun H locs ls hW hl => lv_aload_n S.1 S.2.1 hd hi (lv_at hl j hj) (kk H locs ls hW hl)
theorem br_aload (S : CallFix p m c cc nL s args Ts own) {i x : Nat} (j : Nat) (hd : decode cc pc = .ok (.aload i, 2)) (hj : lv[j]? = some (i, .ref x)) (kk : bA p l e R s m args below meth c cells slots Q G A nL (pc + 2) lv (.ref x :: st) σ) : bA p l e R s m args below meth c cells slots Q G A nL pc lv st σ :=
  fun H locs ls hW hl => lv_aload S.1 S.2.1 hd (lv_at hl j hj) (kk H locs ls hW hl)
theorem br_istore_n (S : CallFix p m c cc nL s args Ts own) {k : Fin 4} {i : Nat} {x : Int32} (lv' : List (Nat × Value)) (hd : decode cc pc = .ok (.istore_n k, 1)) (hi : (k : Nat) = i) (hn : i < nL) (hl' : (i, Value.int x) :: lv.filter (fun q => !(q.1 == i) && !(q.1 + 1 == i && q.2.category == 2)) = lv') (kk : bA p l e R s m args below meth c cells slots Q G A nL (pc + 1) lv' st σ) : bA p l e R s m args below meth c cells slots Q G A nL pc lv (.int x :: st) σ :=
  fun H locs ls hW hl => lv_istore_n S.1 S.2.1 hd hi hl hn hl' (fun ls' hl2 => kk H locs ls' hW hl2)
theorem br_istore (S : CallFix p m c cc nL s args Ts own) {i : Nat} {x : Int32} (lv' : List (Nat × Value)) (hd : decode cc pc = .ok (.istore i, 2)) (hn : i < nL) (hl' : (i, Value.int x) :: lv.filter (fun q => !(q.1 == i) && !(q.1 + 1 == i && q.2.category == 2)) = lv') (kk : bA p l e R s m args below meth c cells slots Q G A nL (pc + 2) lv' st σ) : bA p l e R s m args below meth c cells slots Q G A nL pc lv (.int x :: st) σ :=
  fun H locs ls hW hl => lv_istore S.1 S.2.1 hd hl hn hl' (fun ls' hl2 => kk H locs ls' hW hl2)
theorem br_astore_n (S : CallFix p m c cc nL s args Ts own) {k : Fin 4} {i x : Nat} (lv' : List (Nat × Value)) (hd : decode cc pc = .ok (.astore_n k, 1)) (hi : (k : Nat) = i) (hn : i < nL) (hl' : (i, Value.ref x) :: lv.filter (fun q => !(q.1 == i) && !(q.1 + 1 == i && q.2.category == 2)) = lv') (kk : bA p l e R s m args below meth c cells slots Q G A nL (pc + 1) lv' st σ) : bA p l e R s m args below meth c cells slots Q G A nL pc lv (.ref x :: st) σ :=
  fun H locs ls hW hl => lv_astore_n S.1 S.2.1 hd hi hl hn hl' (fun ls' hl2 => kk H locs ls' hW hl2)
theorem br_iinc (S : CallFix p m c cc nL s args Ts own) {i : Nat} {n x : Int} (j : Nat) (lv' : List (Nat × Value)) (hd : decode cc pc = .ok (.iinc i n, 3)) (hj : lv[j]? = some (i, .int (bI x))) (hn : i < nL) (hl' : (i, Value.int (bI (x + n))) :: lv.filter (fun q => !(q.1 == i) && !(q.1 + 1 == i && q.2.category == 2)) = lv') (kk : bA p l e R s m args below meth c cells slots Q G A nL (pc + 3) lv' st σ) : bA p l e R s m args below meth c cells slots Q G A nL pc lv st σ :=
  fun H locs ls hW hl => lv_iinc (v := bI (x + n)) S.1 S.2.1 hd hl hj (bI_add x n) hn hl' (fun ls' hl2 => kk H locs ls' hW hl2)
theorem br_dup (S : CallFix p m c cc nL s args Ts own) {va : Value} (hd : decode cc pc = .ok (.dup, 1)) (hva : va.category = 1) (k : bA p l e R s m args below meth c cells slots Q G A nL (pc + 1) lv (va :: va :: st) σ) : bA p l e R s m args below meth c cells slots Q G A nL pc lv (va :: st) σ :=
  fun H locs ls hW hl => lv_dup S.1 S.2.1 hd hva (k H locs ls hW hl)
theorem br_dup2 (S : CallFix p m c cc nL s args Ts own) {va vb : Value} (hd : decode cc pc = .ok (.dup2, 1)) (hva : va.category = 1) (hvb : vb.category = 1) (k : bA p l e R s m args below meth c cells slots Q G A nL (pc + 1) lv (va :: vb :: va :: vb :: st) σ) : bA p l e R s m args below meth c cells slots Q G A nL pc lv (va :: vb :: st) σ :=
  fun H locs ls hW hl => lv_dup2_11 S.1 S.2.1 hd hva hvb (k H locs ls hW hl)
theorem br_pop (S : CallFix p m c cc nL s args Ts own) {va : Value} (hd : decode cc pc = .ok (.pop, 1)) (hva : va.category = 1) (k : bA p l e R s m args below meth c cells slots Q G A nL (pc + 1) lv st σ) : bA p l e R s m args below meth c cells slots Q G A nL pc lv (va :: st) σ :=
  fun H locs ls hW hl => lv_pop S.1 S.2.1 hd hva (k H locs ls hW hl)
-- arithmetic
theorem br_iadd (S : CallFix p m c cc nL s args Ts own) {x y : Int} (hd : decode cc pc = .ok (.iadd, 1)) (k : bA p l e R s m args below meth c cells slots Q G A nL (pc + 1) lv (.int (bI (x + y)) :: st) σ) : bA p l e R s m args below meth c cells slots Q G A nL pc lv (.int (bI y) :: .int (bI x) :: st) σ :=
  fun H locs ls hW hl => lv_iadd S.1 S.2.1 hd (by rw [bI_add]; exact k H locs ls hW hl)
theorem br_isub (S : CallFix p m c cc nL s args Ts own) {x y : Int} (hd : decode cc pc = .ok (.isub, 1)) (k : bA p l e R s m args below meth c cells slots Q G A nL (pc + 1) lv (.int (bI (x - y)) :: st) σ) : bA p l e R s m args below meth c cells slots Q G A nL pc lv (.int (bI y) :: .int (bI x) :: st) σ :=
  fun H locs ls hW hl => lv_isub S.1 S.2.1 hd (by rw [bI_sub]; exact k H locs ls hW hl)
theorem br_imul (S : CallFix p m c cc nL s args Ts own) {x y : Int} (hd : decode cc pc = .ok (.imul, 1)) (k : bA p l e R s m args below meth c cells slots Q G A nL (pc + 1) lv (.int (bI (x * y)) :: st) σ) : bA p l e R s m args below meth c cells slots Q G A nL pc lv (.int (bI y) :: .int (bI x) :: st) σ :=
  fun H locs ls hW hl => lv_imul S.1 S.2.1 hd (by rw [bI_mul]; exact k H locs ls hW hl)
theorem br_and255 (S : CallFix p m c cc nL s args Ts own) {x : Int} (hd : decode cc pc = .ok (.iand, 1)) (k : bA p l e R s m args below meth c cells slots Q G A nL (pc + 1) lv (.int (bI (x % 256)) :: st) σ) : bA p l e R s m args below meth c cells slots Q G A nL pc lv (.int (bI 255) :: .int (bI x) :: st) σ :=
  fun H locs ls hW hl => lv_iand S.1 S.2.1 hd (by rw [bI_255]; exact k H locs ls hW hl)
theorem br_and15 (S : CallFix p m c cc nL s args Ts own) {x : Int} (hd : decode cc pc = .ok (.iand, 1)) (k : bA p l e R s m args below meth c cells slots Q G A nL (pc + 1) lv (.int (bI (x % 16)) :: st) σ) : bA p l e R s m args below meth c cells slots Q G A nL pc lv (.int (bI 15) :: .int (bI x) :: st) σ :=
  fun H locs ls hW hl => lv_iand S.1 S.2.1 hd (by rw [bI_15]; exact k H locs ls hW hl)
theorem br_and1 (S : CallFix p m c cc nL s args Ts own) {x : Int} (hd : decode cc pc = .ok (.iand, 1)) (k : bA p l e R s m args below meth c cells slots Q G A nL (pc + 1) lv (.int (bI (x % 2)) :: st) σ) : bA p l e R s m args below meth c cells slots Q G A nL pc lv (.int (bI 1) :: .int (bI x) :: st) σ :=
  fun H locs ls hW hl => lv_iand S.1 S.2.1 hd (by rw [bI_1]; exact k H locs ls hW hl)
theorem br_ior (S : CallFix p m c cc nL s args Ts own) {x y : Int} (hd : decode cc pc = .ok (.ior, 1)) (k : bA p l e R s m args below meth c cells slots Q G A nL (pc + 1) lv (.int (bI (bor x y)) :: st) σ) : bA p l e R s m args below meth c cells slots Q G A nL pc lv (.int (bI y) :: .int (bI x) :: st) σ :=
  fun H locs ls hW hl => lv_ior S.1 S.2.1 hd (by rw [show bI x ||| bI y = bI (bor x y) from (bI_of _).symm]; exact k H locs ls hW hl)
theorem br_ishl (S : CallFix p m c cc nL s args Ts own) {x y : Int} (hd : decode cc pc = .ok (.ishl, 1)) (k : bA p l e R s m args below meth c cells slots Q G A nL (pc + 1) lv (.int (bI (bshl x y)) :: st) σ) : bA p l e R s m args below meth c cells slots Q G A nL pc lv (.int (bI y) :: .int (bI x) :: st) σ :=
  fun H locs ls hW hl => lv_ishl S.1 S.2.1 hd (by rw [show bI x <<< (bI y &&& 31) = bI (bshl x y) from (bI_of _).symm]; exact k H locs ls hW hl)
theorem br_iushr (S : CallFix p m c cc nL s args Ts own) {x y : Int} (hd : decode cc pc = .ok (.iushr, 1)) (k : bA p l e R s m args below meth c cells slots Q G A nL (pc + 1) lv (.int (bI (bushr x y)) :: st) σ) : bA p l e R s m args below meth c cells slots Q G A nL pc lv (.int (bI y) :: .int (bI x) :: st) σ :=
  fun H locs ls hW hl => lv_iushr (v := bI (bushr x y)) S.1 S.2.1 hd (bI_of _).symm (k H locs ls hW hl)
theorem br_shr8 (S : CallFix p m c cc nL s args Ts own) {x : Int} (hx : bR x) (hd : decode cc pc = .ok (.ishr, 1)) (k : bA p l e R s m args below meth c cells slots Q G A nL (pc + 1) lv (.int (bI (x / 256)) :: st) σ) : bA p l e R s m args below meth c cells slots Q G A nL pc lv (.int (bI 8) :: .int (bI x) :: st) σ :=
  fun H locs ls hW hl => lv_ishr S.1 S.2.1 hd (by rw [bI_shr8 hx]; exact k H locs ls hW hl)
theorem br_idiv (S : CallFix p m c cc nL s args Ts own) {x y : Int} (h0 : 0 ≤ x) (h1 : x < 2147483648) (d0 : 0 < y) (d1 : y < 2147483648) (hd : decode cc pc = .ok (.idiv, 1)) (k : bA p l e R s m args below meth c cells slots Q G A nL (pc + 1) lv (.int (bI (x / y)) :: st) σ) : bA p l e R s m args below meth c cells slots Q G A nL pc lv (.int (bI y) :: .int (bI x) :: st) σ :=
  fun H locs ls hW hl => lv_idiv S.1 S.2.1 hd (fun h => by have := (bI_inj (b := 0) ⟨by omega, by omega⟩ bR_0).mp h; omega) (by rw [bI_div h0 h1 d0 d1]; exact k H locs ls hW hl)
theorem br_irem (S : CallFix p m c cc nL s args Ts own) {x y : Int} (h0 : 0 ≤ x) (h1 : x < 2147483648) (d0 : 0 < y) (d1 : y < 2147483648) (hd : decode cc pc = .ok (.irem, 1)) (k : bA p l e R s m args below meth c cells slots Q G A nL (pc + 1) lv (.int (bI (x % y)) :: st) σ) : bA p l e R s m args below meth c cells slots Q G A nL pc lv (.int (bI y) :: .int (bI x) :: st) σ :=
  fun H locs ls hW hl => lv_irem S.1 S.2.1 hd (fun h => by have := (bI_inj (b := 0) ⟨by omega, by omega⟩ bR_0).mp h; omega) (by rw [bI_rem h0 h1 d0 d1]; exact k H locs ls hW hl)
theorem br_i2l (S : CallFix p m c cc nL s args Ts own) {x : Int} (hx : bR x) (hd : decode cc pc = .ok (.i2l, 1)) (k : bA p l e R s m args below meth c cells slots Q G A nL (pc + 1) lv (.long (bL x) :: st) σ) : bA p l e R s m args below meth c cells slots Q G A nL pc lv (.int (bI x) :: st) σ :=
  fun H locs ls hW hl => lv_i2l (v := bL x) S.1 S.2.1 hd (bI_long x hx) (k H locs ls hW hl)
-- jumps
theorem br_goto (S : CallFix p m c cc nL s args Ts own) {off : Int} (tgt : Nat) (hd : decode cc pc = .ok (.goto off, 3)) (ht : (pc : Int) + off = (tgt : Int)) (k : bA p l e R s m args below meth c cells slots Q G A nL tgt lv st σ) : bA p l e R s m args below meth c cells slots Q G A nL pc lv st σ :=
  fun H locs ls hW hl => lv_goto S.1 S.2.1 hd ht (k H locs ls hW hl)
theorem br_if_eq (S : CallFix p m c cc nL s args Ts own) {x off : Int} (tgt : Nat) (hx : bR x) (hd : decode cc pc = .ok (.ifCond .eq off, 3)) (ht : (pc : Int) + off = (tgt : Int)) (kt : x = 0 → bA p l e R s m args below meth c cells slots Q G A nL tgt lv st σ) (kf : ¬ x = 0 → bA p l e R s m args below meth c cells slots Q G A nL (pc + 3) lv st σ) : bA p l e R s m args below meth c cells slots Q G A nL pc lv (.int (bI x) :: st) σ :=
  fun H locs ls hW hl => lv_if_eq S.1 S.2.1 hd ht (fun h => kt ((bI_inj hx bR_0).mp h) H locs ls hW hl) (fun h => kf (fun z => h ((bI_inj hx bR_0).mpr z)) H locs ls hW hl)
theorem br_if_ne (S : CallFix p m c cc nL s args Ts own) {x off : Int} (tgt : Nat) (hx : bR x) (hd : decode cc pc = .ok (.ifCond .ne off, 3)) (ht : (pc : Int) + off = (tgt : Int)) (kt : ¬ x = 0 → bA p l e R s m args below meth c cells slots Q G A nL tgt lv st σ) (kf : x = 0 → bA p l e R s m args below meth c cells slots Q G A nL (pc + 3) lv st σ) : bA p l e R s m args below meth c cells slots Q G A nL pc lv (.int (bI x) :: st) σ :=
  fun H locs ls hW hl => lv_if_ne S.1 S.2.1 hd ht (fun h => kt (fun z => h ((bI_inj hx bR_0).mpr z)) H locs ls hW hl) (fun h => kf ((bI_inj hx bR_0).mp h) H locs ls hW hl)
theorem br_if_lt (S : CallFix p m c cc nL s args Ts own) {x off : Int} (tgt : Nat) (hx : bR x) (hd : decode cc pc = .ok (.ifCond .lt off, 3)) (ht : (pc : Int) + off = (tgt : Int)) (kt : x < 0 → bA p l e R s m args below meth c cells slots Q G A nL tgt lv st σ) (kf : ¬ x < 0 → bA p l e R s m args below meth c cells slots Q G A nL (pc + 3) lv st σ) : bA p l e R s m args below meth c cells slots Q G A nL pc lv (.int (bI x) :: st) σ :=
  fun H locs ls hW hl => lv_if_lt S.1 S.2.1 hd ht (fun h => kt ((bI_lt hx bR_0).mp h) H locs ls hW hl) (fun h => kf (fun z => h ((bI_lt hx bR_0).mpr z)) H locs ls hW hl)
theorem br_if_ge (S : CallFix p m c cc nL s args Ts own) {x off : Int} (tgt : Nat) (hx : bR x) (hd : decode cc pc = .ok (.ifCond .ge off, 3)) (ht : (pc : Int) + off = (tgt : Int)) (kt : 0 ≤ x → bA p l e R s m args below meth c cells slots Q G A nL tgt lv st σ) (kf : ¬ 0 ≤ x → bA p l e R s m args below meth c cells slots Q G A nL (pc + 3) lv st σ) : bA p l e R s m args below meth c cells slots Q G A nL pc lv (.int (bI x) :: st) σ :=
  fun H locs ls hW hl => lv_if_ge S.1 S.2.1 hd ht (fun h => kt ((bI_le bR_0 hx).mp h) H locs ls hW hl) (fun h => kf (fun z => h ((bI_le bR_0 hx).mpr z)) H locs ls hW hl)
theorem br_if_gt (S : CallFix p m c cc nL s args Ts own) {x off : Int} (tgt : Nat) (hx : bR x) (hd : decode cc pc = .ok (.ifCond .gt off, 3)) (ht : (pc : Int) + off = (tgt : Int)) (kt : 0 < x → bA p l e R s m args below meth c cells slots Q G A nL tgt lv st σ) (kf : ¬ 0 < x → bA p l e R s m args below meth c cells slots Q G A nL (pc + 3) lv st σ) : bA p l e R s m args below meth c cells slots Q G A nL pc lv (.int (bI x) :: st) σ :=
  fun H locs ls hW hl => lv_if_gt S.1 S.2.1 hd ht (fun h => kt ((bI_lt bR_0 hx).mp h) H locs ls hW hl) (fun h => kf (fun z => h ((bI_lt bR_0 hx).mpr z)) H locs ls hW hl)
theorem br_if_le (S : CallFix p m c cc nL s args Ts own) {x off : Int} (tgt : Nat) (hx : bR x) (hd : decode cc pc = .ok (.ifCond .le off, 3)) (ht : (pc : Int) + off = (tgt : Int)) (kt : x ≤ 0 → bA p l e R s m args below meth c cells slots Q G A nL tgt lv st σ) (kf : ¬ x ≤ 0 → bA p l e R s m args below meth c cells slots Q G A nL (pc + 3) lv st σ) : bA p l e R s m args below meth c cells slots Q G A nL pc lv (.int (bI x) :: st) σ :=
  fun H locs ls hW hl => lv_if_le S.1 S.2.1 hd ht (fun h => kt ((bI_le hx bR_0).mp h) H locs ls hW hl) (fun h => kf (fun z => h ((bI_le hx bR_0).mpr z)) H locs ls hW hl)
theorem br_ic_eq (S : CallFix p m c cc nL s args Ts own) {x y off : Int} (tgt : Nat) (hx : bR x) (hy : bR y) (hd : decode cc pc = .ok (.if_icmp .eq off, 3)) (ht : (pc : Int) + off = (tgt : Int)) (kt : x = y → bA p l e R s m args below meth c cells slots Q G A nL tgt lv st σ) (kf : ¬ x = y → bA p l e R s m args below meth c cells slots Q G A nL (pc + 3) lv st σ) : bA p l e R s m args below meth c cells slots Q G A nL pc lv (.int (bI y) :: .int (bI x) :: st) σ :=
  fun H locs ls hW hl => lv_icmp_eq S.1 S.2.1 hd ht (fun h => kt ((bI_inj hx hy).mp h) H locs ls hW hl) (fun h => kf (fun z => h ((bI_inj hx hy).mpr z)) H locs ls hW hl)
theorem br_ic_ne (S : CallFix p m c cc nL s args Ts own) {x y off : Int} (tgt : Nat) (hx : bR x) (hy : bR y) (hd : decode cc pc = .ok (.if_icmp .ne off, 3)) (ht : (pc : Int) + off = (tgt : Int)) (kt : ¬ x = y → bA p l e R s m args below meth c cells slots Q G A nL tgt lv st σ) (kf : x = y → bA p l e R s m args below meth c cells slots Q G A nL (pc + 3) lv st σ) : bA p l e R s m args below meth c cells slots Q G A nL pc lv (.int (bI y) :: .int (bI x) :: st) σ :=
  fun H locs ls hW hl => lv_icmp_ne S.1 S.2.1 hd ht (fun h => kt (fun z => h ((bI_inj hx hy).mpr z)) H locs ls hW hl) (fun h => kf ((bI_inj hx hy).mp h) H locs ls hW hl)
theorem br_ic_lt (S : CallFix p m c cc nL s args Ts own) {x y off : Int} (tgt : Nat) (hx : bR x) (hy : bR y) (hd : decode cc pc = .ok (.if_icmp .lt off, 3)) (ht : (pc : Int) + off = (tgt : Int)) (kt : x < y → bA p l e R s m args below meth c cells slots Q G A nL tgt lv st σ) (kf : ¬ x < y → bA p l e R s m args below meth c cells slots Q G A nL (pc + 3) lv st σ) : bA p l e R s m args below meth c cells slots Q G A nL pc lv (.int (bI y) :: .int (bI x) :: st) σ :=
  fun H locs ls hW hl => lv_icmp_lt S.1 S.2.1 hd ht (fun h => kt ((bI_lt hx hy).mp h) H locs ls hW hl) (fun h => kf (fun z => h ((bI_lt hx hy).mpr z)) H locs ls hW hl)
theorem br_ic_ge (S : CallFix p m c cc nL s args Ts own) {x y off : Int} (tgt : Nat) (hx : bR x) (hy : bR y) (hd : decode cc pc = .ok (.if_icmp .ge off, 3)) (ht : (pc : Int) + off = (tgt : Int)) (kt : y ≤ x → bA p l e R s m args below meth c cells slots Q G A nL tgt lv st σ) (kf : ¬ y ≤ x → bA p l e R s m args below meth c cells slots Q G A nL (pc + 3) lv st σ) : bA p l e R s m args below meth c cells slots Q G A nL pc lv (.int (bI y) :: .int (bI x) :: st) σ :=
  fun H locs ls hW hl => lv_icmp_ge S.1 S.2.1 hd ht (fun h => kt ((bI_le hy hx).mp h) H locs ls hW hl) (fun h => kf (fun z => h ((bI_le hy hx).mpr z)) H locs ls hW hl)
theorem br_ic_gt (S : CallFix p m c cc nL s args Ts own) {x y off : Int} (tgt : Nat) (hx : bR x) (hy : bR y) (hd : decode cc pc = .ok (.if_icmp .gt off, 3)) (ht : (pc : Int) + off = (tgt : Int)) (kt : y < x → bA p l e R s m args below meth c cells slots Q G A nL tgt lv st σ) (kf : ¬ y < x → bA p l e R s m args below meth c cells slots Q G A nL (pc + 3) lv st σ) : bA p l e R s m args below meth c cells slots Q G A nL pc lv (.int (bI y) :: .int (bI x) :: st) σ :=
  fun H locs ls hW hl => lv_icmp_gt S.1 S.2.1 hd ht (fun h => kt ((bI_lt hy hx).mp h) H locs ls hW hl) (fun h => kf (fun z => h ((bI_lt hy hx).mpr z)) H locs ls hW hl)
theorem br_ic_le (S : CallFix p m c cc nL s args Ts own) {x y off : Int} (tgt : Nat) (hx : bR x) (hy : bR y) (hd : decode cc pc = .ok (.if_icmp .le off, 3)) (ht : (pc : Int) + off = (tgt : Int)) (kt : x ≤ y → bA p l e R s m args below meth c cells slots Q G A nL tgt lv st σ) (kf : ¬ x ≤ y → bA p l e R s m args below meth c cells slots Q G A nL (pc + 3) lv st σ) : bA p l e R s m args below meth c cells slots Q G A nL pc lv (.int (bI y) :: .int (bI x) :: st) σ :=
  fun H locs ls hW hl => lv_icmp_le S.1 S.2.1 hd ht (fun h => kt ((bI_le hx hy).mp h) H locs ls hW hl) (fun h => kf (fun z => h ((bI_le hx hy).mpr z)) H locs ls hW hl)
theorem br_tblO (S : CallFix p m c cc nL s args Ts own) {x dflt lo hi : Int} {offs : Array Int} {len : Nat} (tgt : Nat) (hx : bR x) (h : x < lo ∨ hi < x) (hd : decode cc pc = .ok (.tableswitch dflt lo hi offs, len)) (ht : (pc : Int) + dflt = (tgt : Int)) (k : bA p l e R s m args below meth c cells slots Q G A nL tgt lv st σ) : bA p l e R s m args below meth c cells slots Q G A nL pc lv (.int (bI x) :: st) σ :=
  fun H locs ls hW hl => lv_tableOut S.1 S.2.1 hd (by rw [bI_toInt hx]; exact h) ht (k H locs ls hW hl)
theorem br_tblI (S : CallFix p m c cc nL s args Ts own) {x dflt lo hi off : Int} {offs : Array Int} {len : Nat} (tgt : Nat) (v : Int) (hx : bR x) (hv : x = v) (h1 : lo ≤ v ∧ v ≤ hi) (ho : offs[(v - lo).toNat]? = some off) (hd : decode cc pc = .ok (.tableswitch dflt lo hi offs, len)) (ht : (pc : Int) + off = (tgt : Int)) (k : bA p l e R s m args below meth c cells slots Q G A nL tgt lv st σ) : bA p l e R s m args below meth c cells slots Q G A nL pc lv (.int (bI x) :: st) σ := by
  subst hv
  exact fun H locs ls hW hl => lv_tableIn S.1 S.2.1 hd (by rw [bI_toInt hx]; omega) (by rw [bI_toInt hx]; omega) (by rw [bI_toInt hx]; exact ho) ht (k H locs ls hW hl)
end BKR

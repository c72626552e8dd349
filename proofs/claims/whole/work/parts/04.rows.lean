/-! rows over the world: fields, arrays, calls, returns -/
theorem bk_fun {σ : bS} {k : Nat} {i v : Int} : (bup σ k i v) k = fun j => if j = i then v else σ k j := by
  funext j; simp [bup]
theorem bk_oth {σ : bS} {k : Nat} {i v : Int} (k' : Nat) (h : k' ≠ k) : (bup σ k i v) k' = σ k' := by
  funext j; simp [bup, h]
theorem bk_updI {r : Int → Int} {i v : Int} (h0 : 0 ≤ i) : upd (fun j : Nat => bI (r j)) i.toNat (bI v) = fun j : Nat => bI (if (j : Int) = i then v else r j) := by
  funext j
  by_cases h : j = i.toNat
  · subst h
    rw [pk_us, if_pos (Int.toNat_of_nonneg h0)]
  · rw [pk_un h, if_neg (by omega)]
section BKS
variable {p : Program} {l : Launch} {e : Env} {R : Room} {s : State} {m : MethodId} {args : Array Value} {below : List Frame} {meth : Method} {c : Code} {cells slots : Nat} {Q : State → Prop}
variable {G : bG} {A : Nat → Prop} {nL pc : Nat} {lv : List (Nat × Value)} {st : List Value} {σ : bS} {cc : ByteArray} {Ts : List Cond} {own : String}
theorem br_get (S : CallFix p m c cc nL s args Ts own) {k f ci index N : Nat} {C : String} {T : u_T} {fs : List Value} {v : Value} (hin : ∀ w ∈ u_ws C T N, w ∈ Ts) (hlink : Cond.fieldLink own index (T f).1 (T f).2.1 (T f).2.2.1 ∈ Ts) (hk : k < 71) (he : bk_e G k (σ k) = .inr (ci, fs)) (hc : vwCl[ci]? = some (C, T, N)) (hf : f < N) (hv : fs[f]? = some v) (hd : decode cc pc = .ok (.getfield index, 3)) (kk : bA p l e R s m args below meth c cells slots Q G A nL (pc + 3) lv (v :: st) σ) : bA p l e R s m args below meth c cells slots Q G A nL pc lv (.ref (G.2.2 k) :: st) σ :=
  fun H locs ls hW hl => va_get S.1 S.2.1 S.2.2.2.2 hin S.2.2.2.1 hW.1 hW.2.1 k (by rw [bk_w_get G σ hk, he]) hc f hf (S.2.2.2.2 _ hlink) (fun _ h => h) hv hd (kk H locs ls hW hl)
theorem br_put (S : CallFix p m c cc nL s args Ts own) {k f ci index N : Nat} {C : String} {T : u_T} {fs : List Value} {z : Int} {ty : FieldType} (ty0 : Nat → FieldType) (hty : ∀ k, k < N → parseFieldDescriptor (T k).2.2.1 = some (ty0 k)) (hnm : ∀ a, a < N → ∀ b, b < N → a ≠ b → (T a).2.1 ≠ (T b).2.1) (hin : ∀ w ∈ u_ws C T N, w ∈ Ts) (hlink : Cond.fieldLink own index (T f).1 (T f).2.1 (T f).2.2.1 ∈ Ts) (hk : k < 71) (he : bk_e G k (σ k) = .inr (ci, fs)) (hs : bk_e G k (fun j => if j = (f : Int) then z else σ k j) = .inr (ci, fs.set f (.int (bI z)))) (hc : vwCl[ci]? = some (C, T, N)) (hf : f < N) (hl : f < fs.length) (hfin : (T f).2.2.2 = false) (hp : parseFieldDescriptor (T f).2.2.1 = some ty) (hn : narrow ty (.int (bI z)) = .int (bI z)) (hfit : fits ty (.int (bI z)) = true) (hd : decode cc pc = .ok (.putfield index, 3)) (kk : bA p l e R s m args below meth c cells slots Q G A nL (pc + 3) lv st (bup σ k f z)) : bA p l e R s m args below meth c cells slots Q G A nL pc lv (.int (bI z) :: .ref (G.2.2 k) :: st) σ := by
  intro H locs ls hW hl2
  refine va_put S.1 S.2.1 S.2.2.2.2 hin ty0 hty hnm S.2.2.2.1 hW.1 hW.2.1 hW.2.2.1 hW.2.2.2.1 k (by rw [bk_w_get G σ hk, he]) hc f hf (S.2.2.2.2 _ hlink) (fun _ h => h) hfin hp hn hfit hl hd (fun H1 locs1 hP hD hS => ?_)
  have e : (bk_w G σ).set k (G.2.2 k, .inr (ci, fs.set f (.int (bI z)))) = bk_w G (bup σ k f z) := by
    rw [← hs, ← bk_fun]
    exact bk_w_set G σ _ hk (fun k' h => bk_oth k' h)
  rw [e] at hP hD
  exact kk H1 locs1 ls ⟨hW.1, hP, hD, hS, hW.2.2.2.2.1, hW.2.2.2.2.2⟩ hl2
theorem br_iald (S : CallFix p m c cc nL s args Ts own) {k n : Nat} {i : Int} (hA : bk_A G k n) (h0 : 0 ≤ i) (h1 : i < (n : Int)) (hd : decode cc pc = .ok (.iaload, 1)) (kk : bA p l e R s m args below meth c cells slots Q G A nL (pc + 1) lv (.int (bI (σ k i)) :: st) σ) : bA p l e R s m args below meth c cells slots Q G A nL pc lv (.int (bI i) :: .ref (G.2.2 k) :: st) σ :=
  fun H locs ls hW hl => va_iald S.1 S.2.1 hW.1 hW.2.1 k 0 (by rw [bk_w_get G σ hA.1, hA.2.2]) rfl (bI_in hA.2.1 h0 h1) hd (by rw [bI_cl hA.2.1 h0 h1, Int.toNat_of_nonneg h0]; exact kk H locs ls hW hl)
theorem br_iast (S : CallFix p m c cc nL s args Ts own) {k n : Nat} {i z : Int} (hA : bk_A G k n) (h0 : 0 ≤ i) (h1 : i < (n : Int)) (hd : decode cc pc = .ok (.iastore, 1)) (kk : bA p l e R s m args below meth c cells slots Q G A nL (pc + 1) lv st (bup σ k i z)) : bA p l e R s m args below meth c cells slots Q G A nL pc lv (.int (bI z) :: .int (bI i) :: .ref (G.2.2 k) :: st) σ := by
  intro H locs ls hW hl
  refine va_iast S.1 S.2.1 hW.1 hW.2.1 hW.2.2.1 hW.2.2.2.1 k 0 (by rw [bk_w_get G σ hA.1, hA.2.2]) rfl (bI_in hA.2.1 h0 h1) hd (fun H1 locs1 hP hD hS => ?_)
  have e : (bk_w G σ).set k (G.2.2 k, .inl (G.2.1 0, n, .inl (upd (fun j : Nat => bI (σ k j)) (bI i).toNatClampNeg (bI z)))) = bk_w G (bup σ k i z) := by
    rw [bI_cl hA.2.1 h0 h1, bk_updI h0, ← hA.2.2 (fun j => if j = i then z else σ k j), ← bk_fun]
    exact bk_w_set G σ _ hA.1 (fun k' h => bk_oth k' h)
  rw [e] at hP hD
  exact kk H1 locs1 ls ⟨hW.1, hP, hD, hS, hW.2.2.2.2.1, hW.2.2.2.2.2⟩ hl
theorem br_zald (S : CallFix p m c cc nL s args Ts own) {i : Int} (h0 : 0 ≤ i) (h1 : i < 30) (hd : decode cc pc = .ok (.baload, 1)) (kk : bA p l e R s m args below meth c cells slots Q G A nL (pc + 1) lv (.int (bI (σ 12 i)) :: st) σ) : bA p l e R s m args below meth c cells slots Q G A nL pc lv (.int (bI i) :: .ref (G.2.2 12) :: st) σ :=
  fun H locs ls hW hl => va_zald S.1 S.2.1 hW.1 hW.2.1 12 1 (by rw [bk_w_get G σ (by decide)]; rfl) rfl (bI_in (n := 30) (by decide) h0 h1) hd (by rw [bI_cl (n := 30) (by decide) h0 h1, Int.toNat_of_nonneg h0]; exact kk H locs ls hW hl)
theorem bk_nar {z : Int} (h : z = 0 ∨ z = 1) : narrow .boolean (.int (bI z)) = .int (bI z) := by rcases h with rfl | rfl <;> rfl
theorem bk_nar2 {z : Int} (h : z = 0 ∨ z = 1) : vp_nar .boolean (bI z) = bI z := by rcases h with rfl | rfl <;> rfl
theorem bk_fit {z : Int} (h : z = 0 ∨ z = 1) : fits .boolean (.int (bI z)) = true := by rcases h with rfl | rfl <;> rfl
theorem br_zast (S : CallFix p m c cc nL s args Ts own) {i z : Int} (h0 : 0 ≤ i) (h1 : i < 30) (hz : z = 0 ∨ z = 1) (hd : decode cc pc = .ok (.bastore, 1)) (kk : bA p l e R s m args below meth c cells slots Q G A nL (pc + 1) lv st (bup σ 12 i z)) : bA p l e R s m args below meth c cells slots Q G A nL pc lv (.int (bI z) :: .int (bI i) :: .ref (G.2.2 12) :: st) σ := by
  intro H locs ls hW hl
  refine va_zast S.1 S.2.1 hW.1 hW.2.1 hW.2.2.1 hW.2.2.2.1 12 1 (by rw [bk_w_get G σ (by decide)]; rfl) rfl (bI_in (n := 30) (by decide) h0 h1) hd (fun H1 locs1 hP hD hS => ?_)
  have e : (bk_w G σ).set 12 (G.2.2 12, .inl (G.2.1 1, 30, .inl (upd (fun j : Nat => bI (σ 12 j)) (bI i).toNatClampNeg (vp_nar .boolean (bI z))))) = bk_w G (bup σ 12 i z) := by
    rw [bk_nar2 hz, bI_cl (n := 30) (by decide) h0 h1, bk_updI h0]
    refine Eq.trans ?_ (bk_w_set G σ (bup σ 12 i z) (k := 12) (by decide) (fun k' h => bk_oth k' h))
    rw [bk_fun]
    rfl
  rw [e] at hP hD
  exact kk H1 locs1 ls ⟨hW.1, hP, hD, hS, hW.2.2.2.2.1, hW.2.2.2.2.2⟩ hl
theorem br_aald (S : CallFix p m c cc nL s args Ts own) {i : Int} (h0 : 0 ≤ i) (h1 : i < 9) (hd : decode cc pc = .ok (.aaload, 1)) (kk : bA p l e R s m args below meth c cells slots Q G A nL (pc + 1) lv (.ref (G.2.2 (33 + i.toNat)) :: st) σ) : bA p l e R s m args below meth c cells slots Q G A nL pc lv (.int (bI i) :: .ref (G.2.2 11) :: st) σ := by
  intro H locs ls hW hl
  have ha : (bk_w G σ)[11]? = some (G.2.2 11, .inl (G.2.1 2, 9, .inr (.inr (.inr (.inr (fun i => if i < 9 then some (G.2.2 (33 + i)) else none)))))) := by rw [bk_w_get G σ (by decide)]; rfl
  have hin := bI_in (i := i) (n := 9) (by decide) h0 h1
  have hcl := bI_cl (i := i) (n := 9) (by decide) h0 h1
  refine W.aald (v := .ref (G.2.2 (33 + i.toNat))) (ty := .array .int) S.1 S.2.1 (hW.2.1 11 _ ha) ((hW.1.2 2 _ rfl).1 9 (fun j => va_rf (if j < 9 then some (G.2.2 (33 + j)) else none))) rfl (fun q => by cases q) (by show ¬ (bI i < 0 ∨ (arrV _ _ _).slots.size ≤ _); rw [arrV_size]; exact hin) ?_ rfl rfl hd (kk H locs ls hW hl)
  have hlt : i.toNat < 9 := by omega
  show (arrV _ 9 _).slots[_]? = _
  rw [hcl, arrV_read _ _ hlt]
  simp [va_rf, hlt]
theorem br_alen (S : CallFix p m c cc nL s args Ts own) {k n : Nat} (hA : bk_A G k n) (hd : decode cc pc = .ok (.arraylength, 1)) (kk : bA p l e R s m args below meth c cells slots Q G A nL (pc + 1) lv (.int (bI n) :: st) σ) : bA p l e R s m args below meth c cells slots Q G A nL pc lv (.ref (G.2.2 k) :: st) σ :=
  fun H locs ls hW hl => va_alen S.1 S.2.1 hW.1 hW.2.1 k 0 (by rw [bk_w_get G σ hA.1, hA.2.2]) rfl (v := bI n) rfl hd (kk H locs ls hW hl)
theorem br_alenR (S : CallFix p m c cc nL s args Ts own) (hd : decode cc pc = .ok (.arraylength, 1)) (kk : bA p l e R s m args below meth c cells slots Q G A nL (pc + 1) lv (.int (bI 9) :: st) σ) : bA p l e R s m args below meth c cells slots Q G A nL pc lv (.ref (G.2.2 11) :: st) σ :=
  fun H locs ls hW hl => va_alen S.1 S.2.1 hW.1 hW.2.1 11 2 (by rw [bk_w_get G σ (by decide)]; rfl) rfl (v := bI 9) rfl hd (kk H locs ls hW hl)
theorem br_gets0 (S : CallFix p m c cc nL s args Ts "BankLinker$Program") (hd : decode cc pc = .ok (.getstatic 60, 3)) (kk : bA p l e R s m args below meth c cells slots Q G A nL (pc + 3) lv (.ref (G.2.2 100) :: st) σ) : bA p l e R s m args below meth c cells slots Q G A nL pc lv st σ :=
  fun H locs ls hW hl => va_getsN S.1 S.2.1 hW.2.2.2.2.2.1.1 hW.2.2.2.1 S.2.2.2.1 (va_Nw.use rfl hW.2.2.2.2.2.2.2.2) (fun _ h => h) hd (kk H locs ls hW hl)
theorem br_gets1 (S : CallFix p m c cc nL s args Ts own) {index : Nat} (hlink : Cond.fieldLink own index "BankLinker" "LEAST_LIMIT" "[I" ∈ Ts) (hd : decode cc pc = .ok (.getstatic index, 3)) (kk : bA p l e R s m args below meth c cells slots Q G A nL (pc + 3) lv (.ref (G.2.2 101) :: st) σ) : bA p l e R s m args below meth c cells slots Q G A nL pc lv st σ :=
  fun H locs ls hW hl => va_gets S.1 S.2.1 hW.2.2.2.2.2.2.1.1 hW.2.2.2.1 S.2.2.2.1 (S.2.2.2.2 _ hlink) (fun _ h => h) hd (kk H locs ls hW hl)
theorem br_gets2 (S : CallFix p m c cc nL s args Ts own) {index : Nat} (hlink : Cond.fieldLink own index "BankLinker" "GREATEST_LIMIT" "[I" ∈ Ts) (hd : decode cc pc = .ok (.getstatic index, 3)) (kk : bA p l e R s m args below meth c cells slots Q G A nL (pc + 3) lv (.ref (G.2.2 102) :: st) σ) : bA p l e R s m args below meth c cells slots Q G A nL pc lv st σ :=
  fun H locs ls hW hl => va_gets S.1 S.2.1 hW.2.2.2.2.2.2.2.1.1 hW.2.2.2.1 S.2.2.2.1 (S.2.2.2.2 _ hlink) (fun _ h => h) hd (kk H locs ls hW hl)
theorem br_ti0 (S : CallFix p m c cc nL s args Ts own) {i : Int} (h0 : 0 ≤ i) (h1 : i < 9) (hd : decode cc pc = .ok (.iaload, 1)) (kk : bA p l e R s m args below meth c cells slots Q G A nL (pc + 1) lv (.int (bI (bk_t0 i)) :: st) σ) : bA p l e R s m args below meth c cells slots Q G A nL pc lv (.int (bI i) :: .ref (G.2.2 100) :: st) σ :=
  fun H locs ls hW hl => va_ti S.1 S.2.1 hW.2.2.2.2.2.1.2 hW.2.2.2.1 (bI_in (n := 9) (by decide) h0 h1) (v := .int (bI (bk_t0 i))) (by rw [bI_cl (n := 9) (by decide) h0 h1, Int.toNat_of_nonneg h0]) hd (kk H locs ls hW hl)
theorem br_ti1 (S : CallFix p m c cc nL s args Ts own) {i : Int} (h0 : 0 ≤ i) (h1 : i < 5) (hd : decode cc pc = .ok (.iaload, 1)) (kk : bA p l e R s m args below meth c cells slots Q G A nL (pc + 1) lv (.int (bI (bk_t1 i)) :: st) σ) : bA p l e R s m args below meth c cells slots Q G A nL pc lv (.int (bI i) :: .ref (G.2.2 101) :: st) σ :=
  fun H locs ls hW hl => va_ti S.1 S.2.1 hW.2.2.2.2.2.2.1.2 hW.2.2.2.1 (bI_in (n := 5) (by decide) h0 h1) (v := .int (bI (bk_t1 i))) (by rw [bI_cl (n := 5) (by decide) h0 h1, Int.toNat_of_nonneg h0]) hd (kk H locs ls hW hl)
theorem br_ti2 (S : CallFix p m c cc nL s args Ts own) {i : Int} (h0 : 0 ≤ i) (h1 : i < 5) (hd : decode cc pc = .ok (.iaload, 1)) (kk : bA p l e R s m args below meth c cells slots Q G A nL (pc + 1) lv (.int (bI (bk_t2 i)) :: st) σ) : bA p l e R s m args below meth c cells slots Q G A nL pc lv (.int (bI i) :: .ref (G.2.2 102) :: st) σ :=
  fun H locs ls hW hl => va_ti S.1 S.2.1 hW.2.2.2.2.2.2.2.1.2 hW.2.2.2.1 (bI_in (n := 5) (by decide) h0 h1) (v := .int (bI (bk_t2 i))) (by rw [bI_cl (n := 5) (by decide) h0 h1, Int.toNat_of_nonneg h0]) hd (kk H locs ls hW hl)
theorem br_max (S : CallFix p m c cc nL s args Ts own) {index : Nat} {x y : Int} (hlink : Cond.methodLink own index Lib.Math.max.name ∈ Ts) (hstat : Cond.static Lib.Math.max.name ∈ Ts) (hini : Cond.initialized "java/lang/Math" ∈ Ts) (hcode : Cond.code Lib.Math.max.name Lib.Math.max.code 2 (some .int) ∈ Ts) (hx : bR x) (hy : bR y) (hfr : 1 ≤ R.frames) (hlo : (st.map fun v => v.category).sum + 13 ≤ R.locals) (hf : cells ≤ R.cells ∧ slots ≤ R.slots) (hd : decode cc pc = .ok (.invokestatic index, 3)) (kk : bA p l e R s m args below meth c cells slots Q G A nL (pc + 3) lv (.int (bI (max x y)) :: st) σ) : bA p l e R s m args below meth c cells slots Q G A nL pc lv (.int (bI y) :: .int (bI x) :: st) σ :=
  fun H locs ls hW hl => va_mmax S.1 S.2.1 (S.2.2.1.trans hl.1.symm) S.2.2.2.1 (S.2.2.2.2 _ hlink) (S.2.2.2.2 _ hstat) (S.2.2.2.2 _ hini) (S.2.2.2.2 _ hcode) hfr hlo hf.1 hf.2 hd (by
    have e : (if bI x < bI y then bI y else bI x) = bI (max x y) := by
      by_cases h : x < y
      · rw [if_pos ((bI_lt hx hy).mpr h)]; congr 1; omega
      · rw [if_neg (fun z => h ((bI_lt hx hy).mp z))]; congr 1; omega
    rw [e]; exact kk H locs ls hW hl)
/-- what a method's own end asks -/
abbrev bQi (below : List Frame) (args : Array Value) (s : State) (G : bG) (σ0 : bS) (Qr : Int → bS → Prop) : State → Prop := MQ below (va_Qi (fun (r : Int32) (σ' : bS) => ∃ z : Int, r = bI z ∧ bR z ∧ Qr z σ' ∧ bRG σ') (fun σ' t => va_P G.1 vwCl (bk_w G σ') t.heap) (va_A (bk_w G σ0) s.heap.size)) args s 0 0 (va_A (bk_w G σ0) s.heap.size)
abbrev bQv (below : List Frame) (args : Array Value) (s : State) (G : bG) (σ0 : bS) (Qr : bS → Prop) : State → Prop := MQ below (va_Qv (fun (σ' : bS) => Qr σ' ∧ bRG σ') (fun σ' t => va_P G.1 vwCl (bk_w G σ') t.heap) (va_A (bk_w G σ0) s.heap.size)) args s 0 0 (va_A (bk_w G σ0) s.heap.size)
abbrev bQr (below : List Frame) (args : Array Value) (s : State) (G : bG) (σ0 : bS) (Qr : Nat → bS → Prop) : State → Prop := MQ below (va_Qr (fun (u : Nat × bS) => Qr u.1 u.2 ∧ bRG u.2) (fun u a t => a = G.2.2 u.1 ∧ va_P G.1 vwCl (bk_w G u.2) t.heap) (va_A (bk_w G σ0) s.heap.size)) args s 0 0 (va_A (bk_w G σ0) s.heap.size)
theorem br_iret (S : CallFix p m c cc nL s args Ts own) (hr : meth.sig.returnType = some .int) (hlocks : meth.locks = false) {σ0 : bS} {Qr : Int → bS → Prop} {z : Int} (hz : bR z) (hσ : bRG σ) (hd : decode cc pc = .ok (.ireturn, 1)) (hq : Qr z σ) : bA p l e R s m args below meth c 0 0 (bQi below args s G σ0 Qr) G (va_A (bk_w G σ0) s.heap.size) nL pc lv [.int (bI z)] σ :=
  fun H locs ls hW hl => W.iret S.1 S.2.1 hr (fun t ht hWm => ⟨⟨bI z, σ, rfl, ⟨z, rfl, hz, hq, hσ⟩, by show va_P _ _ _ t.heap; rw [ht]; exact hW.2.1⟩, hW.2.2.2.1.F ht⟩) hW.2.2.2.1.2.2 hd
theorem br_zret (S : CallFix p m c cc nL s args Ts own) (hr : meth.sig.returnType = some .boolean) (hlocks : meth.locks = false) {σ0 : bS} {Qr : Int → bS → Prop} {z : Int} (hz : z = 0 ∨ z = 1) (hσ : bRG σ) (hd : decode cc pc = .ok (.ireturn, 1)) (hq : Qr z σ) : bA p l e R s m args below meth c 0 0 (bQi below args s G σ0 Qr) G (va_A (bk_w G σ0) s.heap.size) nL pc lv [.int (bI z)] σ :=
  fun H locs ls hW hl => W.zret S.1 S.2.1 hr (bk_nar hz) (fun t ht hWm => ⟨⟨bI z, σ, rfl, ⟨z, rfl, ⟨by omega, by omega⟩, hq, hσ⟩, by show va_P _ _ _ t.heap; rw [ht]; exact hW.2.1⟩, hW.2.2.2.1.F ht⟩) hW.2.2.2.1.2.2 hd
theorem br_vret (S : CallFix p m c cc nL s args Ts own) (hr : meth.sig.returnType = none) (hlocks : meth.locks = false) {σ0 : bS} {Qr : bS → Prop} (hσ : bRG σ) (hd : decode cc pc = .ok (.return_, 1)) (hq : Qr σ) : bA p l e R s m args below meth c 0 0 (bQv below args s G σ0 Qr) G (va_A (bk_w G σ0) s.heap.size) nL pc lv [] σ :=
  fun H locs ls hW hl => W.vret S.1 S.2.1 hr (fun t ht hWm => ⟨⟨σ, rfl, ⟨hq, hσ⟩, by show va_P _ _ _ t.heap; rw [ht]; exact hW.2.1⟩, hW.2.2.2.1.F ht⟩) hW.2.2.2.1.2.2 hd
theorem br_aret (S : CallFix p m c cc nL s args Ts own) {C : String} (hr : meth.sig.returnType = some (.object C)) (hlocks : meth.locks = false) {σ0 : bS} {Qr : Nat → bS → Prop} (k : Nat) (hσ : bRG σ) (hd : decode cc pc = .ok (.areturn, 1)) (hq : Qr k σ) : bA p l e R s m args below meth c 0 0 (bQr below args s G σ0 Qr) G (va_A (bk_w G σ0) s.heap.size) nL pc lv [.ref (G.2.2 k)] σ :=
  fun H locs ls hW hl => W.aret S.1 S.2.1 hr (Or.inl ⟨_, rfl⟩) (Or.inr ⟨_, rfl⟩) (fun t ht hWm => ⟨⟨(k, σ), G.2.2 k, rfl, ⟨hq, hσ⟩, rfl, by show va_P _ _ _ t.heap; rw [ht]; exact hW.2.1⟩, hW.2.2.2.1.F ht⟩) hW.2.2.2.1.2.2 hd
theorem bk_blind {av : List Value} {sz : Nat} : FrameBlind (va_Pc av (fun U => U.heap.size = sz ∧ bk_P G σ U)) := by
  intro a U g mk hq
  obtain ⟨q0, q1, qK, qP, qD, qS, qR⟩ := hq
  exact ⟨q0, q1, va_K.moved (u := U) (U := U.calling g mk a) (Vm.Alike.refl U.vm) qK, qP, qD, bk_S.same (u := U) (U := U.calling g mk a) rfl qS, qR⟩
variable {y : MethodName} {ws : List Cond} {rm : Room} {bytes : ByteArray} {maxL n index : Nat} {ret : Option FieldType} {C : String}
theorem br_callV {k ci : Nat} {q : vw_C} {fs : List Value} {As rest : List Value} {Qr : Int → bS → Prop} (S : CallFix p m c cc nL s args Ts own) (cw : CallW R s args own C index y bytes maxL ret ws rm 0 0 n) (hM : bk_Mi l y ws rm G σ (.ref (G.2.2 k) :: As) Qr) (hk : k < 71) (he : bk_e G k (σ k) = .inr (ci, fs)) (hc : vwCl[ci]? = some q) (hq : q.1 = C) (hσ : bRG σ) (hn : As.length = n) (hst : st = As.reverse ++ .ref (G.2.2 k) :: rest) (hrs : (rest.map fun v => v.category).sum ≤ 8) (hf : cells ≤ R.cells ∧ slots ≤ R.slots) (hd : decode cc pc = .ok (.invokevirtual index, 3))
    (kk : ∀ (z : Int) (σ' : bS), bR z → bRG σ' → Qr z σ' → bA p l e R s m args below meth c cells slots Q G A nL (pc + 3) lv (.int (bI z) :: rest) σ') : bA p l e R s m args below meth c cells slots Q G A nL pc lv st σ := by
  intro H locs ls hW hl
  subst hst
  subst hq
  refine va_calli (va_runV (As := As) (rest := rest) S (hM H.size) cw ⟨bk_blind, va_recv hW.1 hW.2.1 hc (by rw [bk_w_get G σ hk, he]), fun U hU hWm => ⟨rfl, by rw [hU], hW.out hσ hU hWm⟩⟩ rfl hn hl.1 rfl (lv_room hrs) hd ⟨hf.1, hf.2⟩) hW.2.2.2.1 (fun q _ h => hW.free q h) (fun q h => hW.free q h) (fun r u t H1 locs1 ht hvm hw hB hz1 hk1 hS => ?_)
  obtain ⟨z, rfl, hz, hQ, hσ'⟩ := hw
  exact kk z u hz hσ' hQ H1 locs1 ls ⟨hW.1, by rw [← ht]; exact hB, bk_D_any hW.2.2.1, hS, hW.2.2.2.2.1, hW.2.2.2.2.2⟩ hl
theorem br_callVv {k ci : Nat} {q : vw_C} {fs : List Value} {As rest : List Value} {Qr : bS → Prop} (S : CallFix p m c cc nL s args Ts own) (cw : CallW R s args own C index y bytes maxL ret ws rm 0 0 n) (hM : bk_Mv l y ws rm G σ (.ref (G.2.2 k) :: As) Qr) (hk : k < 71) (he : bk_e G k (σ k) = .inr (ci, fs)) (hc : vwCl[ci]? = some q) (hq : q.1 = C) (hσ : bRG σ) (hn : As.length = n) (hst : st = As.reverse ++ .ref (G.2.2 k) :: rest) (hrs : (rest.map fun v => v.category).sum ≤ 8) (hf : cells ≤ R.cells ∧ slots ≤ R.slots) (hd : decode cc pc = .ok (.invokevirtual index, 3))
    (kk : ∀ (σ' : bS), bRG σ' → Qr σ' → bA p l e R s m args below meth c cells slots Q G A nL (pc + 3) lv rest σ') : bA p l e R s m args below meth c cells slots Q G A nL pc lv st σ := by
  intro H locs ls hW hl
  subst hst
  subst hq
  refine va_callv (va_runV (As := As) (rest := rest) S (hM H.size) cw ⟨bk_blind, va_recv hW.1 hW.2.1 hc (by rw [bk_w_get G σ hk, he]), fun U hU hWm => ⟨rfl, by rw [hU], hW.out hσ hU hWm⟩⟩ rfl hn hl.1 rfl (lv_room hrs) hd ⟨hf.1, hf.2⟩) hW.2.2.2.1 (fun q _ h => hW.free q h) (fun q h => hW.free q h) (fun u t H1 locs1 ht hvm hw hB hz1 hk1 hS => ?_)
  exact kk u hw.2 hw.1 H1 locs1 ls ⟨hW.1, by rw [← ht]; exact hB, bk_D_any hW.2.2.1, hS, hW.2.2.2.2.1, hW.2.2.2.2.2⟩ hl
theorem br_callVr {k ci : Nat} {q : vw_C} {fs : List Value} {As rest : List Value} {Qr : Nat → bS → Prop} (S : CallFix p m c cc nL s args Ts own) (cw : CallW R s args own C index y bytes maxL ret ws rm 0 0 n) (hM : bk_Mr l y ws rm G σ (.ref (G.2.2 k) :: As) Qr) (hk : k < 71) (he : bk_e G k (σ k) = .inr (ci, fs)) (hc : vwCl[ci]? = some q) (hq : q.1 = C) (hσ : bRG σ) (hn : As.length = n) (hst : st = As.reverse ++ .ref (G.2.2 k) :: rest) (hrs : (rest.map fun v => v.category).sum ≤ 8) (hf : cells ≤ R.cells ∧ slots ≤ R.slots) (hd : decode cc pc = .ok (.invokevirtual index, 3))
    (kk : ∀ (a : Nat) (σ' : bS), bRG σ' → Qr a σ' → bA p l e R s m args below meth c cells slots Q G A nL (pc + 3) lv (.ref (G.2.2 a) :: rest) σ') : bA p l e R s m args below meth c cells slots Q G A nL pc lv st σ := by
  intro H locs ls hW hl
  subst hst
  subst hq
  refine va_callr (va_runV (As := As) (rest := rest) S (hM H.size) cw ⟨bk_blind, va_recv hW.1 hW.2.1 hc (by rw [bk_w_get G σ hk, he]), fun U hU hWm => ⟨rfl, by rw [hU], hW.out hσ hU hWm⟩⟩ rfl hn hl.1 rfl (lv_room hrs) hd ⟨hf.1, hf.2⟩) hW.2.2.2.1 (fun q _ h => hW.free q h) (fun q h => hW.free q h) (fun u ra t H1 locs1 ht hvm hw hB hz1 hk1 hS => ?_)
  obtain ⟨rfl, hB⟩ := hB
  exact kk u.1 u.2 hw.2 hw.1 H1 locs1 ls ⟨hW.1, by rw [← ht]; exact hB, bk_D_any hW.2.2.1, hS, hW.2.2.2.2.1, hW.2.2.2.2.2⟩ hl
theorem br_callS {As rest : List Value} {Qr : Int → bS → Prop} (S : CallFix p m c cc nL s args Ts own) (cw : CallB R s args own index y bytes maxL ret ws rm 0 0 n ∧ (Cond.static y).before args s = true) (hM : bk_Mi l y ws rm G σ As Qr) (hσ : bRG σ) (hn : As.length = n) (hst : st = As.reverse ++ rest) (hrs : (rest.map fun v => v.category).sum ≤ 8) (hf : cells ≤ R.cells ∧ slots ≤ R.slots) (hd : decode cc pc = .ok (.invokestatic index, 3))
    (kk : ∀ (z : Int) (σ' : bS), bR z → bRG σ' → Qr z σ' → bA p l e R s m args below meth c cells slots Q G A nL (pc + 3) lv (.int (bI z) :: rest) σ') : bA p l e R s m args below meth c cells slots Q G A nL pc lv st σ := by
  intro H locs ls hW hl
  subst hst
  refine va_calli (va_runS (As := As) (rest := rest) S (hM H.size) cw ⟨bk_blind, fun U hU hWm => ⟨rfl, by rw [hU], hW.out hσ hU hWm⟩⟩ rfl hn hl.1 rfl (lv_room hrs) hd ⟨hf.1, hf.2⟩) hW.2.2.2.1 (fun q _ h => hW.free q h) (fun q h => hW.free q h) (fun r u t H1 locs1 ht hvm hw hB hz1 hk1 hS => ?_)
  obtain ⟨z, rfl, hz, hQ, hσ'⟩ := hw
  exact kk z u hz hσ' hQ H1 locs1 ls ⟨hW.1, by rw [← ht]; exact hB, bk_D_any hW.2.2.1, hS, hW.2.2.2.2.1, hW.2.2.2.2.2⟩ hl
theorem br_callSv {As rest : List Value} {Qr : bS → Prop} (S : CallFix p m c cc nL s args Ts own) (cw : CallB R s args own index y bytes maxL ret ws rm 0 0 n ∧ (Cond.static y).before args s = true) (hM : bk_Mv l y ws rm G σ As Qr) (hσ : bRG σ) (hn : As.length = n) (hst : st = As.reverse ++ rest) (hrs : (rest.map fun v => v.category).sum ≤ 8) (hf : cells ≤ R.cells ∧ slots ≤ R.slots) (hd : decode cc pc = .ok (.invokestatic index, 3))
    (kk : ∀ (σ' : bS), bRG σ' → Qr σ' → bA p l e R s m args below meth c cells slots Q G A nL (pc + 3) lv rest σ') : bA p l e R s m args below meth c cells slots Q G A nL pc lv st σ := by
  intro H locs ls hW hl
  subst hst
  refine va_callv (va_runS (As := As) (rest := rest) S (hM H.size) cw ⟨bk_blind, fun U hU hWm => ⟨rfl, by rw [hU], hW.out hσ hU hWm⟩⟩ rfl hn hl.1 rfl (lv_room hrs) hd ⟨hf.1, hf.2⟩) hW.2.2.2.1 (fun q _ h => hW.free q h) (fun q h => hW.free q h) (fun u t H1 locs1 ht hvm hw hB hz1 hk1 hS => ?_)
  exact kk u hw.2 hw.1 H1 locs1 ls ⟨hW.1, by rw [← ht]; exact hB, bk_D_any hW.2.2.1, hS, hW.2.2.2.2.1, hW.2.2.2.2.2⟩ hl
end BKS
theorem bk_Mi.of {l : Launch} {y : MethodName} {ws ws' : List Cond} {rm : Room} {G : bG} {σ : bS} {av : List Value} {Q : Int → bS → Prop} {cc : ByteArray} {maxL : Nat} {ret : Option FieldType} (hy : plainName y.cls = true) (hw : ws = Cond.code y cc maxL ret :: ws') (hav : (lg_sl av).length ≤ maxL)
    (body : ∀ (p : Program) (e : Env) (s : State) (m : MethodId) (args : Array Value) (below : List Frame) (meth : Method) (c : Code), CallFix p m c cc maxL s args ws' y.cls → meth.sig.returnType = ret → meth.locks = false → bRG σ → bA p l e rm s m args below meth c 0 0 (bQi below args s G σ Q) G (va_A (bk_w G σ) s.heap.size) maxL 0 (lv_args 0 av) [] σ) : bk_Mi l y ws rm G σ av Q := by
  intro sz
  refine Met.ofW (cc := cc) (maxL := maxL) (ret := ret) hy hw ?_
  intro p e s m args below meth c s₁ B hml hv
  obtain ⟨rfl, hsz, hP⟩ := hv
  subst hsz
  have hown : s.vm.findClass y.cls = some m.cls := findClass_of_methodNamed B.named
  rw [lg_entry_eq]
  exact body p e s m av.toArray below meth c ⟨B.exec, B.bytes, hml, hown, fun w hw9 => atoms_spec (ws := ws) B.pre w (by rw [hw]; exact List.mem_cons_of_mem _ hw9)⟩ B.returns B.notSynchronized hP.2.2.2.2 s.heap [] _ (bk_W.start hP) (lv_entry av hav)
theorem bk_Mv.of {l : Launch} {y : MethodName} {ws ws' : List Cond} {rm : Room} {G : bG} {σ : bS} {av : List Value} {Q : bS → Prop} {cc : ByteArray} {maxL : Nat} {ret : Option FieldType} (hy : plainName y.cls = true) (hw : ws = Cond.code y cc maxL ret :: ws') (hav : (lg_sl av).length ≤ maxL)
    (body : ∀ (p : Program) (e : Env) (s : State) (m : MethodId) (args : Array Value) (below : List Frame) (meth : Method) (c : Code), CallFix p m c cc maxL s args ws' y.cls → meth.sig.returnType = ret → meth.locks = false → bRG σ → bA p l e rm s m args below meth c 0 0 (bQv below args s G σ Q) G (va_A (bk_w G σ) s.heap.size) maxL 0 (lv_args 0 av) [] σ) : bk_Mv l y ws rm G σ av Q := by
  intro sz
  refine Met.ofW (cc := cc) (maxL := maxL) (ret := ret) hy hw ?_
  intro p e s m args below meth c s₁ B hml hv
  obtain ⟨rfl, hsz, hP⟩ := hv
  subst hsz
  have hown : s.vm.findClass y.cls = some m.cls := findClass_of_methodNamed B.named
  rw [lg_entry_eq]
  exact body p e s m av.toArray below meth c ⟨B.exec, B.bytes, hml, hown, fun w hw9 => atoms_spec (ws := ws) B.pre w (by rw [hw]; exact List.mem_cons_of_mem _ hw9)⟩ B.returns B.notSynchronized hP.2.2.2.2 s.heap [] _ (bk_W.start hP) (lv_entry av hav)
theorem bk_Mr.of {l : Launch} {y : MethodName} {ws ws' : List Cond} {rm : Room} {G : bG} {σ : bS} {av : List Value} {Q : Nat → bS → Prop} {cc : ByteArray} {maxL : Nat} {ret : Option FieldType} (hy : plainName y.cls = true) (hw : ws = Cond.code y cc maxL ret :: ws') (hav : (lg_sl av).length ≤ maxL)
    (body : ∀ (p : Program) (e : Env) (s : State) (m : MethodId) (args : Array Value) (below : List Frame) (meth : Method) (c : Code), CallFix p m c cc maxL s args ws' y.cls → meth.sig.returnType = ret → meth.locks = false → bRG σ → bA p l e rm s m args below meth c 0 0 (bQr below args s G σ Q) G (va_A (bk_w G σ) s.heap.size) maxL 0 (lv_args 0 av) [] σ) : bk_Mr l y ws rm G σ av Q := by
  intro sz
  refine Met.ofW (cc := cc) (maxL := maxL) (ret := ret) hy hw ?_
  intro p e s m args below meth c s₁ B hml hv
  obtain ⟨rfl, hsz, hP⟩ := hv
  subst hsz
  have hown : s.vm.findClass y.cls = some m.cls := findClass_of_methodNamed B.named
  rw [lg_entry_eq]
  exact body p e s m av.toArray below meth c ⟨B.exec, B.bytes, hml, hown, fun w hw9 => atoms_spec (ws := ws) B.pre w (by rw [hw]; exact List.mem_cons_of_mem _ hw9)⟩ B.returns B.notSynchronized hP.2.2.2.2 s.heap [] _ (bk_W.start hP) (lv_entry av hav)

/-! what holds between two calls of the law -/
def bOp (σ : bS) (r c v : Int) : Prop := (0 ≤ c ∧ c ≤ 8) ∧ (c = 0 ∨ c = 1 → 0 ≤ v ∧ v ≤ 255) ∧ (c = 3 ∨ c = 4 → 0 ≤ v ∧ v < σ 15 r) ∧ (c = 5 → 0 ≤ v ∧ v < σ 1 2) ∧ (c = 6 ∨ c = 7 → 0 ≤ v ∧ v ≤ 40)
/-- the class's program and the reference's are the same -/
def bPE (σ : bS) : Prop := σ 10 1 = σ 1 0 ∧ σ 10 3 = σ 1 2 ∧ σ 49 = σ 13 ∧ σ 50 = σ 14 ∧ σ 51 = σ 15 ∧ σ 52 = σ 16 ∧ σ 53 = σ 17 ∧ σ 54 = σ 18 ∧ σ 55 = σ 19
/-- the class's program is well formed -/
def bWF (σ : bS) : Prop := (0 ≤ σ 1 0 ∧ σ 1 0 ≤ 12) ∧ (0 ≤ σ 1 2 ∧ σ 1 2 ≤ 30) ∧ (∀ m : Int, 0 ≤ m → m < σ 1 0 → σ 13 m = 0 ∨ σ 13 m = 1) ∧
  (∀ r : Int, 0 ≤ r → r < σ 1 2 → (0 ≤ σ 14 r ∧ σ 14 r < σ 1 0) ∧ (0 ≤ σ 15 r ∧ σ 15 r ≤ 9)) ∧ (∀ r : Int, 0 ≤ r → r < 30 → 0 ≤ σ 16 r ∧ σ 16 r ≤ 40) ∧ (∀ r : Int, σ 1 2 ≤ r → r < 30 → σ 16 r = 0) ∧
  (∀ r i : Int, 0 ≤ r → r < σ 1 2 → 0 ≤ i → i < σ 16 r → bOp σ r (σ 17 (r * 40 + i)) (σ 18 (r * 40 + i))) ∧
  ((1 ≤ σ 19 0 ∧ σ 19 0 ≤ 8) ∧ (8 ≤ σ 19 1 ∧ σ 19 1 ≤ 250) ∧ (8 ≤ σ 19 2 ∧ σ 19 2 ≤ 250) ∧ (1 ≤ σ 19 3 ∧ σ 19 3 ≤ 60) ∧ (0 ≤ σ 19 4 ∧ σ 19 4 ≤ 64))
def bFE (σ : bS) : Prop := σ 10 22 = σ 5 4 ∧ σ 10 23 = σ 5 5 ∧ σ 10 24 = σ 5 6
/-- what was told and kept of the latest runs -/
def bRp (σ : bS) : Prop := (∀ j : Int, 0 ≤ j → j < 5 → σ 64 j = σ 8 (j + 1) ∧ σ 64 (5 + j) = σ 9 (j + 1)) ∧ (∀ i : Int, 0 ≤ i → i < 100 → (i < σ 8 3 → σ 65 i = σ 47 i) ∧ (i < σ 9 3 → σ 65 (100 + i) = σ 48 i))
/-- bank numbers of modules are numbers of banks -/
def bBk (σ : bS) : Prop := ∀ m : Int, 0 ≤ m → m < 12 → 0 ≤ σ 56 m ∧ σ 56 m < 8
theorem bup_e (σ : bS) (k : Nat) (i v : Int) (k' : Nat) (j : Int) : bup σ k i v k' j = if k' = k ∧ j = i then v else σ k' j := rfl
theorem bup_o {σ : bS} {k k' : Nat} {i v : Int} (h : k' ≠ k) : bup σ k i v k' = σ k' := by funext j; simp [bup, h]
theorem tt_fault (σ : bS) (h : bFE σ) (a1 : Int) : vX8_fault (fun r σ1 => vX9_fault (fun r' σ2 => r = r' ∧ bFE σ2) a1 σ1) a1 σ := by
  unfold vX8_fault vX9_fault
  have h2 : bFE (bup σ 10 0 0) := by simpa [bFE, bup_e] using h
  obtain ⟨e1, e2, e3⟩ := h
  repeat' (first | (intro _) | constructor)
  all_goals (subst_vars; first | omega | exact h2 | (simp [bup_e]; omega))

/-! numbers: every int of the machine is bI of an Int -/
def bI (z : Int) : Int32 := Int32.ofInt z
def bL (z : Int) : Int64 := Int64.ofInt z
abbrev bR (z : Int) : Prop := -2147483648 ≤ z ∧ z < 2147483648
theorem bI_toInt {z : Int} (h : bR z) : (bI z).toInt = z := by
  unfold bI
  rw [Int32.toInt_ofInt]
  show z.bmod (2 ^ 32) = z
  rw [Int.bmod_eq_of_le (by have := h.1; omega) (by have := h.2; omega)]
theorem bL_toInt {z : Int} (h : bR z) : (bL z).toInt = z := by
  unfold bL
  rw [Int64.toInt_ofInt]
  show z.bmod (2 ^ 64) = z
  rw [Int.bmod_eq_of_le (by have := h.1; omega) (by have := h.2; omega)]
theorem bI_of (x : Int32) : bI x.toInt = x := Int32.ofInt_toInt x
theorem bI_rg (x : Int32) : bR x.toInt := by
  have h1 := Int32.le_toInt x
  have h2 := Int32.toInt_lt x
  constructor <;> omega
theorem bI_add (a b : Int) : bI a + bI b = bI (a + b) := by
  unfold bI; rw [Int32.ofInt_add]
theorem bI_sub (a b : Int) : bI a - bI b = bI (a - b) := by
  unfold bI; rw [Int32.ofInt_sub]
theorem bI_mul (a b : Int) : bI a * bI b = bI (a * b) := by
  unfold bI; rw [Int32.ofInt_mul]
theorem bI_inj {a b : Int} (ha : bR a) (hb : bR b) : bI a = bI b ↔ a = b := by
  rw [← Int32.toInt_inj, bI_toInt ha, bI_toInt hb]
theorem bI_lt {a b : Int} (ha : bR a) (hb : bR b) : bI a < bI b ↔ a < b := by
  rw [Int32.lt_iff_toInt_lt, bI_toInt ha, bI_toInt hb]
theorem bI_le {a b : Int} (ha : bR a) (hb : bR b) : bI a ≤ bI b ↔ a ≤ b := by
  rw [Int32.le_iff_toInt_le, bI_toInt ha, bI_toInt hb]
theorem bI_0 : bI 0 = 0 := rfl
theorem bR_0 : bR 0 := by decide
theorem bI_long (a : Int) (h : bR a) : (bI a).toInt64 = bL a := by
  rw [← Int64.toInt_inj, Int32.toInt_toInt64, bI_toInt h, bL_toInt h]
theorem bL_lt {a b : Int} (ha : bR a) (hb : bR b) : bL a < bL b ↔ a < b := by
  rw [Int64.lt_iff_toInt_lt, bL_toInt ha, bL_toInt hb]
theorem bI_in {i : Int} {n : Nat} (hn : n < 2147483648) (h0 : 0 ≤ i) (h1 : i < (n : Int)) : vp_in (bI i) n := by
  rw [vp_in_iff, bI_toInt ⟨by omega, by omega⟩]
  exact ⟨h0, h1⟩
theorem bI_cl {i : Int} {n : Nat} (hn : n < 2147483648) (h0 : 0 ≤ i) (h1 : i < (n : Int)) : (bI i).toNatClampNeg = i.toNat := by
  show (bI i).toInt.toNat = i.toNat
  rw [bI_toInt ⟨by omega, by omega⟩]
/-- x & (2^k - 1) -/
theorem bI_mask (a : Int) (k : Nat) (m : Int) (hk : k < 31) (hm : m = 2 ^ k - 1) : bI a &&& bI m = bI (a % 2 ^ k) := by
  have hp : (2 : Int) ^ k = ((2 ^ k : Nat) : Int) := by simp
  have hle : 2 ^ k ≤ 2 ^ 30 := Nat.pow_le_pow_right (by decide) (by omega)
  have hpos : 0 < 2 ^ k := Nat.pow_pos (by decide)
  have e1 : (bI m).toBitVec.toNat = 2 ^ k - 1 := by
    show (BitVec.ofInt 32 m).toNat = _
    rw [BitVec.toNat_ofInt, hm, hp]
    have : ((2 ^ k : Nat) : Int) - 1 = ((2 ^ k - 1 : Nat) : Int) := by omega
    rw [this]
    have h2 : ((2 ^ k - 1 : Nat) : Int) % ((2 ^ 32 : Nat) : Int) = ((2 ^ k - 1 : Nat) : Int) := Int.emod_eq_of_lt (by omega) (by omega)
    rw [h2]
    simp
  rw [pk_and (bI a) k e1]
  unfold nI bI
  have e2 : (Int32.ofInt a).toBitVec.toNat = (a % ((2 ^ 32 : Nat) : Int)).toNat := by
    show (BitVec.ofInt 32 a).toNat = _
    rw [BitVec.toNat_ofInt]
  rw [e2]
  have e3 : (((a % ((2 ^ 32 : Nat) : Int)).toNat % 2 ^ k : Nat) : Int) = a % 2 ^ k := by
    rw [Int.natCast_emod, Int.toNat_of_nonneg (Int.emod_nonneg _ (by decide)), ← hp]
    have hd : (2 : Int) ^ k ∣ ((2 ^ 32 : Nat) : Int) := by
      refine ⟨2 ^ (32 - k), ?_⟩
      rw [← Int.pow_add, show k + (32 - k) = 32 by omega]
      rfl
    exact Int.emod_emod_of_dvd a hd
  rw [← e3]
  rfl
theorem bI_255 (a : Int) : bI a &&& bI 255 = bI (a % 256) := bI_mask a 8 255 (by decide) (by decide)
theorem bI_15 (a : Int) : bI a &&& bI 15 = bI (a % 16) := bI_mask a 4 15 (by decide) (by decide)
theorem bI_1 (a : Int) : bI a &&& bI 1 = bI (a % 2) := bI_mask a 1 1 (by decide) (by decide)
theorem bI_shr8 {a : Int} (h : bR a) : bI a >>> (bI 8 &&& 31) = bI (a / 256) := by
  rw [← Int32.toInt_inj, pk_shr (bI a) (bI 8 &&& 31) 8 (by decide), bI_toInt h, bI_toInt ⟨by omega, by omega⟩, Int.shiftRight_eq_div_pow]
  rfl
theorem bI_div {a d : Int} (h0 : 0 ≤ a) (h1 : a < 2147483648) (d0 : 0 < d) (d1 : d < 2147483648) : bI a / bI d = bI (a / d) := by
  have hq : 0 ≤ a / d := Int.ediv_nonneg h0 (Int.le_of_lt d0)
  have hq2 : a / d ≤ a := Int.ediv_le_self d h0
  rw [← Int32.toInt_inj, Int32.toInt_div, bI_toInt ⟨by omega, by omega⟩, bI_toInt ⟨by omega, by omega⟩, bI_toInt ⟨by omega, by omega⟩, Int.tdiv_eq_ediv_of_nonneg h0, Int.bmod_eq_of_le (by omega) (by omega)]
theorem bI_rem {a d : Int} (h0 : 0 ≤ a) (h1 : a < 2147483648) (d0 : 0 < d) (d1 : d < 2147483648) : bI a - bI a / bI d * bI d = bI (a % d) := by
  rw [bI_div h0 h1 d0 d1, bI_mul, bI_sub, Int.emod_def, Int.mul_comm]
/-- bits of an int -/
def bor (a b : Int) : Int := (bI a ||| bI b).toInt
def bshl (a b : Int) : Int := (bI a <<< (bI b &&& 31)).toInt
def bushr (a b : Int) : Int := ((bI a).toUInt32 >>> ((bI b).toUInt32 &&& Int32.toUInt32 31)).toInt32.toInt
theorem bor_rg (a b : Int) : bR (bor a b) := bI_rg _
theorem bshl_rg (a b : Int) : bR (bshl a b) := bI_rg _
theorem bushr_rg (a b : Int) : bR (bushr a b) := bI_rg _
def bit (a : Int) (j : Nat) : Bool := (bI a).toBitVec.getLsbD j
theorem bit_or (a b : Int) (j : Nat) : bit (bor a b) j = (bit a j || bit b j) := by
  unfold bit bor
  rw [bI_of, Int32.toBitVec_or, BitVec.getLsbD_or]
theorem bit_0 (j : Nat) : bit 0 j = false := by
  unfold bit
  show (0#32).getLsbD j = false
  simp
theorem bk_sh : ∀ v : Nat, v < 32 → (Int32.ofInt 1 <<< (Int32.ofInt v &&& 31)).toBitVec = BitVec.twoPow 32 v := by decide +kernel
theorem bit_shl {v : Int} (h0 : 0 ≤ v) (h1 : v < 32) (j : Nat) : bit (bshl 1 v) j = decide ((j : Int) = v) := by
  obtain ⟨n, rfl⟩ := Int.eq_ofNat_of_zero_le h0
  unfold bit bshl
  rw [bI_of]
  unfold bI
  rw [bk_sh n (by omega), BitVec.getLsbD_twoPow]
  by_cases h : n = j
  · subst h; simp; omega
  · simp [h]; omega
theorem bk_su : ∀ v : Nat, v < 32 → (((Int32.ofInt v).toUInt32 &&& Int32.toUInt32 31).toBitVec % 32).toNat = v := by decide +kernel
theorem bit_ushr (a : Int) {v : Int} (h0 : 0 ≤ v) (h1 : v < 32) : bushr a v % 2 = if bit a v.toNat then 1 else 0 := by
  obtain ⟨n, rfl⟩ := Int.eq_ofNat_of_zero_le h0
  have h1' : n < 32 := by omega
  unfold bushr
  have e := pk_ushr (bI a) (bI n) n (bk_su n h1')
  generalize hx : ((bI a).toUInt32 >>> ((bI (n : Int)).toUInt32 &&& Int32.toUInt32 31)).toInt32 = x at e ⊢
  have hb : bit a ((n : Int)).toNat = ((bI a).toBitVec.toNat / 2 ^ n % 2 == 1) := by
    unfold bit
    rw [Int.toNat_natCast, BitVec.getLsbD, Nat.testBit_eq_decide_div_mod_eq]
    by_cases h : (bI a).toBitVec.toNat / 2 ^ n % 2 = 1 <;> simp [h]
  rw [hb, ← e]
  have ht : x.toInt = x.toBitVec.toInt := rfl
  rw [ht, BitVec.toInt_eq_toNat_cond]
  generalize x.toBitVec.toNat = y
  have hy : y % 2 = 0 ∨ y % 2 = 1 := by omega
  rcases hy with hy | hy <;> rw [hy] <;> split <;> simp <;> omega

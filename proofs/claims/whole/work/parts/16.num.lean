/-! numbers -/
theorem i_lt {x y : Int32} : x < y ↔ x.toInt < y.toInt := Int32.lt_iff_toInt_lt
theorem i_le {x y : Int32} : x ≤ y ↔ x.toInt ≤ y.toInt := Int32.le_iff_toInt_le
theorem i_eq {x y : Int32} : x = y ↔ x.toInt = y.toInt := Int32.toInt_inj.symm
theorem i_lo (x : Int32) : -2147483648 ≤ x.toInt := Int32.le_toInt x
theorem i_hi (x : Int32) : x.toInt < 2147483648 := Int32.toInt_lt x
theorem i_add {x y : Int32} (h1 : -2147483648 ≤ x.toInt + y.toInt) (h2 : x.toInt + y.toInt < 2147483648) : (x + y).toInt = x.toInt + y.toInt := by
  rw [Int32.toInt_add]; exact Int.bmod_eq_of_le (by omega) (by omega)
theorem i_sub {x y : Int32} (h1 : -2147483648 ≤ x.toInt - y.toInt) (h2 : x.toInt - y.toInt < 2147483648) : (x - y).toInt = x.toInt - y.toInt := by
  rw [Int32.toInt_sub]; exact Int.bmod_eq_of_le (by omega) (by omega)
theorem i_mul {x y : Int32} (h1 : -2147483648 ≤ x.toInt * y.toInt) (h2 : x.toInt * y.toInt < 2147483648) : (x * y).toInt = x.toInt * y.toInt := by
  rw [Int32.toInt_mul]; exact Int.bmod_eq_of_le (by omega) (by omega)
theorem i_neg {x : Int32} (h1 : x.toInt ≠ -2147483648) : (-x).toInt = -x.toInt := by
  have := i_lo x; have := i_hi x
  rw [Int32.toInt_neg]; exact Int.bmod_eq_of_le (by omega) (by omega)
theorem nI_nat {x : Int32} (h : 0 ≤ x.toInt) : x = nI x.toInt.toNat := by
  have := i_hi x
  rw [i_eq, nI_toInt (by omega)]; omega
theorem nI_inj {a b : Nat} (ha : a < 2 ^ 31) (hb : b < 2 ^ 31) (h : nI a = nI b) : a = b := (nI_eq ha hb).mp h
theorem t0 : (0 : Int32).toInt = 0 := by decide
theorem t1 : (1 : Int32).toInt = 1 := by decide
theorem t9 : (9 : Int32).toInt = 9 := by decide
theorem inB_iff {x : Int32} {n : Nat} (hn : n < 2 ^ 31) : inB x n ↔ 0 ≤ x.toInt ∧ x.toInt < n := by
  constructor
  · rintro ⟨j, hj, rfl⟩
    rw [nI_toInt (by omega)]; omega
  · rintro ⟨h1, h2⟩
    exact ⟨x.toInt.toNat, by omega, nI_nat h1⟩
theorem nI_add2 (a b : Nat) : nI a + nI b = nI (a + b) := nI_add a b
theorem nI_sub {a b : Nat} (h : b ≤ a) : nI a - nI b = nI (a - b) := pk_sub h
theorem nI_m1 {n : Nat} (h : 0 < n) : nI n - 1 = nI (n - 1) := by
  obtain ⟨m, rfl⟩ : ∃ m, n = m + 1 := ⟨n - 1, by omega⟩
  rw [nI_pred]; congr 1
theorem nI_mul (a b : Nat) : nI a * nI b = nI (a * b) := pk_mul a b
theorem jrem_nI {a d : Nat} (ha : a < 2 ^ 31) (h0 : 0 < d) (hd : d < 2 ^ 31) : jrem (nI a) (nI d) = nI (a % d) := pk_rem ha h0 hd
theorem div_nI {a d : Nat} (ha : a < 2 ^ 31) (h0 : 0 < d) (hd : d < 2 ^ 31) : nI a / nI d = nI (a / d) := pk_div ha h0 hd
theorem nI_ne {a b : Nat} (ha : a < 2 ^ 31) (hb : b < 2 ^ 31) (h : a ≠ b) : ¬ nI a = nI b := fun e => h (nI_inj ha hb e)
/-- sets of names below 10, as numbers -/
def sh1 (x : Nat) : Nat := 2 ^ x
def popN (m : Nat) : Nat := (List.range 10).foldl (fun c i => if m.testBit i then c + 1 else c) 0
def bcA (x : Int32) : Int32 := x - (ushr x 1 &&& 1431655765)
def bcB (x : Int32) : Int32 := (x &&& 858993459) + (ushr x 2 &&& 858993459)
def bcC (x : Int32) : Int32 := (x + ushr x 4) &&& 252645135
def bcD (x : Int32) : Int32 := x + ushr x 8
def bcE (x : Int32) : Int32 := x + ushr x 16
def bc (x : Int32) : Int32 := bcE (bcD (bcC (bcB (bcA x)))) &&& 63
theorem bc_popA : ∀ m, m < 1024 → bc (nI m) = nI (popN m) := by decide +kernel
theorem shl_name : ∀ x, x < 10 → (1 : Int32) <<< (nI x &&& 31) = nI (2 ^ x) := by decide +kernel
theorem or_name : ∀ m, m < 1024 → ∀ x, x < 10 → nI m ||| nI (2 ^ x) = nI (m ||| 2 ^ x) ∧ m ||| 2 ^ x < 1024 := by decide +kernel
theorem and_name : ∀ m, m < 1024 → ∀ x, x < 10 → (nI m &&& nI (2 ^ x) = 0 ↔ m.testBit x = false) := by decide +kernel
theorem shr_name : ∀ m, m < 1024 → ∀ x, x < 10 → (nI m >>> (nI x &&& 31)) &&& 1 = nI (if m.testBit x then 1 else 0) := by decide +kernel
theorem pop_or : ∀ m, m < 1024 → ∀ x, x < 10 → popN (m ||| 2 ^ x) = popN m + (if m.testBit x then 0 else 1) := by decide +kernel
theorem l_le {x y : Int64} : x ≤ y ↔ x.toInt ≤ y.toInt := Int64.le_iff_toInt_le
theorem l_lt {x y : Int64} : x < y ↔ x.toInt < y.toInt := Int64.lt_iff_toInt_lt
theorem lcmp_nlt {x y : Int64} (h : y ≤ x) : ¬ lg_cmp x y < 0 := fun q => by
  have := (lg_cmp_lt x y).mp q; rw [l_lt] at this; rw [l_le] at h; omega
theorem lcmp_ngt {x y : Int64} (h : x ≤ y) : ¬ 0 < lg_cmp x y := fun q => by
  have := (lg_cmp_gt x y).mp q; rw [l_lt] at this; rw [l_le] at h; omega
theorem lcmp_gt {x y : Int64} (h : ¬ x ≤ y) : 0 < lg_cmp x y := (lg_cmp_gt x y).mpr (by rw [l_lt]; rw [l_le] at h; omega)
theorem lcmp_lt {x y : Int64} (h : ¬ y ≤ x) : lg_cmp x y < 0 := (lg_cmp_lt x y).mpr (by rw [l_lt]; rw [l_le] at h; omega)
theorem l_i (x : Int32) : x.toInt64.toInt = x.toInt := Int32.toInt_toInt64 x
theorem l_n {n : Nat} (h : n < 2 ^ 31) : (nI n).toInt64.toInt = n := by rw [l_i, nI_toInt h]

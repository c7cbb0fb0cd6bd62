/-! ints and their values -/
theorem ti_add {a b : Int32} (h1 : -2147483648 ≤ a.toInt + b.toInt) (h2 : a.toInt + b.toInt < 2147483648) : (a + b).toInt = a.toInt + b.toInt := by
  rw [Int32.toInt_add]
  exact Int.bmod_eq_of_le (by simpa using h1) (by simpa using h2)
theorem ti_sub {a b : Int32} (h1 : -2147483648 ≤ a.toInt - b.toInt) (h2 : a.toInt - b.toInt < 2147483648) : (a - b).toInt = a.toInt - b.toInt := by
  rw [Int32.toInt_sub]
  exact Int.bmod_eq_of_le (by simpa using h1) (by simpa using h2)
theorem ti_mul {a b : Int32} (h1 : -2147483648 ≤ a.toInt * b.toInt) (h2 : a.toInt * b.toInt < 2147483648) : (a * b).toInt = a.toInt * b.toInt := by
  rw [Int32.toInt_mul]
  exact Int.bmod_eq_of_le (by simpa using h1) (by simpa using h2)
theorem ti_lt {a b : Int32} : a < b ↔ a.toInt < b.toInt := Int32.lt_iff_toInt_lt
theorem ti_le {a b : Int32} : a ≤ b ↔ a.toInt ≤ b.toInt := Int32.le_iff_toInt_le
theorem ti_eq {a b : Int32} : a = b ↔ a.toInt = b.toInt := Int32.toInt_inj.symm
theorem ti_ge {a : Int32} : -2147483648 ≤ a.toInt := Int32.le_toInt a
theorem ti_le2 {a : Int32} : a.toInt < 2147483648 := Int32.toInt_lt a
theorem tn_of {x : Int32} (h : 0 ≤ x.toInt) : (tn x : Int) = x.toInt := Int.toNat_of_nonneg h
theorem tn_i {x : Int32} : tn x = x.toInt.toNat := rfl
theorem ti_nI {n : Nat} (h : n < 2147483648) : (nI n).toInt = (n : Int) := nI_toInt h
theorem tn_nI {n : Nat} (h : n < 2147483648) : tn (nI n) = n := nI_clamp h
def bd (x : Int32) (lo hi : Int) : Prop := lo ≤ x.toInt ∧ x.toInt ≤ hi
theorem bd_nI {x : Int32} {hi : Int} (h : bd x 0 hi) : x = nI (tn x) := by
  rw [ti_eq, ti_nI]
  · exact (tn_of h.1).symm
  · have := tn_of h.1
    have := ti_le2 (a := x)
    omega
theorem tn_0 : tn 0 = 0 := rfl
theorem tn_1 : tn 1 = 1 := rfl
theorem tn_2 : tn 2 = 2 := rfl
theorem tn_3 : tn 3 = 3 := rfl
theorem tn_4 : tn 4 = 4 := rfl
theorem tn_5 : tn 5 = 5 := rfl
theorem tn_6 : tn 6 = 6 := rfl
theorem tc_0 : (0 : Int32).toNatClampNeg = 0 := rfl
theorem tc_1 : (1 : Int32).toNatClampNeg = 1 := rfl
theorem tc_2 : (2 : Int32).toNatClampNeg = 2 := rfl
theorem tc_3 : (3 : Int32).toNatClampNeg = 3 := rfl
theorem tc_4 : (4 : Int32).toNatClampNeg = 4 := rfl
theorem tc_5 : (5 : Int32).toNatClampNeg = 5 := rfl
theorem tc_6 : (6 : Int32).toNatClampNeg = 6 := rfl
theorem vi_l {n k : Nat} (h : k < n) (h2 : k < 2147483648) : vp_in (nI k) n := by
  rw [vp_in_iff, ti_nI h2]
  omega
theorem vi_0 {n : Nat} : vp_in 0 (n + 1) := vi_l (k := 0) (by omega) (by omega)
theorem vi_1 {n : Nat} : vp_in 1 (n + 2) := vi_l (k := 1) (by omega) (by omega)
theorem vi_2 {n : Nat} : vp_in 2 (n + 3) := vi_l (k := 2) (by omega) (by omega)
theorem vi_3 {n : Nat} : vp_in 3 (n + 4) := vi_l (k := 3) (by omega) (by omega)
theorem vi_4 {n : Nat} : vp_in 4 (n + 5) := vi_l (k := 4) (by omega) (by omega)
theorem vi_5 {n : Nat} : vp_in 5 (n + 6) := vi_l (k := 5) (by omega) (by omega)
theorem vi_6 {n : Nat} : vp_in 6 (n + 7) := vi_l (k := 6) (by omega) (by omega)
theorem vi_x {x : Int32} {n : Nat} (h1 : 0 ≤ x.toInt) (h2 : x.toInt < n) : vp_in x n := vp_in_iff.mpr ⟨h1, h2⟩
/-- a place in the row: base + step * i + k -/
theorem ix_t {b s i k : Int32} (hb : bd b 0 100) (hs : bd s 0 5) (hi : bd i 0 5) (hk : bd k 0 5) : (b + s * i + k).toInt = b.toInt + s.toInt * i.toInt + k.toInt := by
  obtain ⟨hb1, hb2⟩ := hb
  obtain ⟨hs1, hs2⟩ := hs
  obtain ⟨hi1, hi2⟩ := hi
  obtain ⟨hk1, hk2⟩ := hk
  have h0 : 0 ≤ s.toInt * i.toInt := Int.mul_nonneg hs1 hi1
  have h1 : s.toInt * i.toInt ≤ 5 * 5 := Int.mul_le_mul hs2 hi2 hi1 (by omega)
  rw [ti_add (by rw [ti_add (by rw [ti_mul] <;> omega) (by rw [ti_mul] <;> omega), ti_mul] <;> omega) (by rw [ti_add (by rw [ti_mul] <;> omega) (by rw [ti_mul] <;> omega), ti_mul] <;> omega), ti_add (by rw [ti_mul] <;> omega) (by rw [ti_mul] <;> omega), ti_mul (by omega) (by omega)]
theorem ix_g {i k : Int32} (hi : bd i 0 3) (hk : bd k 0 3) : vp_in (7 + 4 * i + k) 55 ∧ (7 + 4 * i + k).toNatClampNeg = 7 + 4 * tn i + tn k := by
  have h := ix_t (b := 7) (s := 4) (i := i) (k := k) ⟨by decide, by decide⟩ ⟨by decide, by decide⟩ ⟨hi.1, by have := hi.2; omega⟩ ⟨hk.1, by have := hk.2; omega⟩
  have e1 : (7 : Int32).toInt = 7 := rfl
  have e2 : (4 : Int32).toInt = 4 := rfl
  rw [e1, e2] at h
  obtain ⟨hi1, hi2⟩ := hi
  obtain ⟨hk1, hk2⟩ := hk
  refine ⟨vi_x (by omega) (by omega), ?_⟩
  show (7 + 4 * i + k).toInt.toNat = 7 + 4 * i.toInt.toNat + k.toInt.toNat
  omega
theorem ix_a {i k : Int32} (hi : bd i 0 3) (hk : bd k 0 4) : vp_in (23 + 5 * i + k) 55 ∧ (23 + 5 * i + k).toNatClampNeg = 23 + 5 * tn i + tn k := by
  have h := ix_t (b := 23) (s := 5) (i := i) (k := k) ⟨by decide, by decide⟩ ⟨by decide, by decide⟩ ⟨hi.1, by have := hi.2; omega⟩ ⟨hk.1, by have := hk.2; omega⟩
  have e1 : (23 : Int32).toInt = 23 := rfl
  have e2 : (5 : Int32).toInt = 5 := rfl
  rw [e1, e2] at h
  obtain ⟨hi1, hi2⟩ := hi
  obtain ⟨hk1, hk2⟩ := hk
  refine ⟨vi_x (by omega) (by omega), ?_⟩
  show (23 + 5 * i + k).toInt.toNat = 23 + 5 * i.toInt.toNat + k.toInt.toNat
  omega
theorem ix_o {i k : Int32} (hi : bd i 0 5) (hk : bd k 0 1) : vp_in (43 + 2 * i + k) 55 ∧ (43 + 2 * i + k).toNatClampNeg = 43 + 2 * tn i + tn k := by
  have h := ix_t (b := 43) (s := 2) (i := i) (k := k) ⟨by decide, by decide⟩ ⟨by decide, by decide⟩ hi ⟨hk.1, by have := hk.2; omega⟩
  have e1 : (43 : Int32).toInt = 43 := rfl
  have e2 : (2 : Int32).toInt = 2 := rfl
  rw [e1, e2] at h
  obtain ⟨hi1, hi2⟩ := hi
  obtain ⟨hk1, hk2⟩ := hk
  refine ⟨vi_x (by omega) (by omega), ?_⟩
  show (43 + 2 * i + k).toInt.toNat = 43 + 2 * i.toInt.toNat + k.toInt.toNat
  omega
/-- the numbers of a room are as they must be -/
def dR (r : Nat → Int32) : Prop :=
  bd (r 0) 0 4 ∧ bd (r 1) 0 4 ∧ bd (r 2) 0 6 ∧ bd (r 3) 0 299 ∧ bd (r 4) 0 99 ∧ bd (r 5) 0 9 ∧ bd (r 6) 0 6 ∧
  (∀ i : Nat, i < tn (r 0) → bd (r (7 + 4 * i)) 0 5 ∧ bd (r (7 + 4 * i + 1)) 20 99 ∧ bd (r (7 + 4 * i + 2)) 0 20 ∧ bd (r (7 + 4 * i + 3)) 0 30) ∧
  (∀ c : Nat, c < tn (r 1) → bd (r (23 + 5 * c)) 0 5 ∧ bd (r (23 + 5 * c + 1)) 0 3 ∧ (r (23 + 5 * c + 1)).toInt < (r 0).toInt ∧ bd (r (23 + 5 * c + 2)) 0 300 ∧ bd (r (23 + 5 * c + 3)) 1 20 ∧ bd (r (23 + 5 * c + 4)) 0 30) ∧
  (∀ t : Nat, t < tn (r 2) → bd (r (43 + 2 * t)) 1 60 ∧ bd (r (43 + 2 * t + 1)) 0 99) ∧
  (∀ j : Nat, (7 + 4 * tn (r 0) ≤ j ∧ j < 23) ∨ (23 + 5 * tn (r 1) ≤ j ∧ j < 43) ∨ 43 + 2 * tn (r 2) ≤ j → r j = 0)

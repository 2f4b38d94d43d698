/-! plain facts on numbers (some begun from the kit's NUMBERS and COUNTS to paste) -/
theorem q_lt {a b : Int32} : a < b ↔ a.toInt < b.toInt := Int32.lt_iff_toInt_lt
theorem q_le {a b : Int32} : a ≤ b ↔ a.toInt ≤ b.toInt := Int32.le_iff_toInt_le
theorem q_eq {a b : Int32} : a = b ↔ a.toInt = b.toInt := Int32.toInt_inj.symm
theorem q_rng (x : Int32) : -2147483648 ≤ x.toInt ∧ x.toInt < 2147483648 := by
  have h1 := Int32.le_toInt x
  have h2 := Int32.toInt_lt x
  exact ⟨by simpa using h1, by simpa using h2⟩
theorem q_bmod {z : Int} (h1 : -2147483648 ≤ z) (h2 : z < 2147483648) : z.bmod (2 ^ 32) = z := by
  apply Int.bmod_eq_of_le <;> omega
theorem q_add {x y : Int32} (h1 : -2147483648 ≤ x.toInt + y.toInt) (h2 : x.toInt + y.toInt < 2147483648) : (x + y).toInt = x.toInt + y.toInt := by
  rw [Int32.toInt_add]; exact q_bmod h1 h2
theorem q_sub {x y : Int32} (h1 : -2147483648 ≤ x.toInt - y.toInt) (h2 : x.toInt - y.toInt < 2147483648) : (x - y).toInt = x.toInt - y.toInt := by
  rw [Int32.toInt_sub]; exact q_bmod h1 h2
theorem q_mul {x y : Int32} (h1 : -2147483648 ≤ x.toInt * y.toInt) (h2 : x.toInt * y.toInt < 2147483648) : (x * y).toInt = x.toInt * y.toInt := by
  rw [Int32.toInt_mul]; exact q_bmod h1 h2
theorem q_0 : (0 : Int32).toInt = 0 := by decide
theorem q_1 : (1 : Int32).toInt = 1 := by decide
theorem vi_c {x : Int32} {n : Nat} (h : 0 ≤ x.toInt ∧ x.toInt < n) : vp_in x n := vp_in_iff.mpr h
theorem vi_e {x : Int32} {n : Nat} (h : vp_in x n) : 0 ≤ x.toInt ∧ x.toInt < n := vp_in_iff.mp h
theorem vi_cl {x : Int32} {n : Nat} (h : vp_in x n) : (x.toNatClampNeg : Int) = x.toInt := by
  have h1 := vi_e h
  rw [Int32.toNatClampNeg]
  omega
/-- a loop that counts up: from v to the bound N, with fuel n -/
def up (v N : Int32) (n : Nat) : Prop := 0 ≤ v.toInt ∧ 0 < n ∧ N.toInt - v.toInt < n
theorem up_no {v N : Int32} : ¬ up v N 0 := fun h => Nat.lt_irrefl 0 h.2.1
theorem up_i (k : Nat) {v N : Int32} (h0 : 0 ≤ v.toInt) (h : N.toInt ≤ k) : up v N (k + 1) := ⟨h0, Nat.succ_pos k, by omega⟩
theorem up_s {v N : Int32} {n : Nat} (h : up v N (n + 1)) (c : ¬ N ≤ v) : up (v + 1) N n := by
  have hN := q_rng N
  have h1 : ¬ N.toInt ≤ v.toInt := fun q => c (q_le.mpr q)
  obtain ⟨a, b, d⟩ := h
  have e : (v + 1).toInt = v.toInt + 1 := by
    rw [q_add (by rw [q_1]; omega) (by rw [q_1]; omega), q_1]
  refine ⟨by omega, by omega, by omega⟩
theorem up_in {v N : Int32} {n : Nat} (k : Nat) (h : up v N n) (c : ¬ N ≤ v) (hk : N.toInt ≤ k) : vp_in v k := by
  have h1 : ¬ N.toInt ≤ v.toInt := fun q => c (q_le.mpr q)
  exact vi_c ⟨h.1, by omega⟩
/-- the same up to and with the bound -/
def upe (v N : Int32) (n : Nat) : Prop := 0 ≤ v.toInt ∧ 0 < n ∧ N.toInt + 1 - v.toInt < n
theorem upe_no {v N : Int32} : ¬ upe v N 0 := fun h => Nat.lt_irrefl 0 h.2.1
theorem upe_i (k : Nat) {v N : Int32} (h0 : 0 ≤ v.toInt) (h : N.toInt ≤ k) : upe v N (k + 2) := ⟨h0, by omega, by omega⟩
theorem upe_s {v N : Int32} {n : Nat} (h : upe v N (n + 1)) (c : ¬ N < v) (hb : N.toInt < 2147483647) : upe (v + 1) N n := by
  have h1 : ¬ N.toInt < v.toInt := fun q => c (q_lt.mpr q)
  obtain ⟨a, b, d⟩ := h
  have e : (v + 1).toInt = v.toInt + 1 := by
    rw [q_add (by rw [q_1]; omega) (by rw [q_1]; omega), q_1]
  refine ⟨by omega, by omega, by omega⟩
theorem sw_out4 {x : Int32} (h0 : ¬ x = 0) (h1 : ¬ x = 1) (h2 : ¬ x = 2) (h3 : ¬ x = 3) : x.toInt < 0 ∨ 3 < x.toInt := by
  have g0 := lv_neT (a := 0) h0 (by decide)
  have g1 := lv_neT (a := 1) h1 (by decide)
  have g2 := lv_neT (a := 2) h2 (by decide)
  have g3 := lv_neT (a := 3) h3 (by decide)
  omega
theorem sw_out3 {x : Int32} (h0 : ¬ x = 0) (h1 : ¬ x = 1) (h2 : ¬ x = 2) : x.toInt < 0 ∨ 2 < x.toInt := by
  have g0 := lv_neT (a := 0) h0 (by decide)
  have g1 := lv_neT (a := 1) h1 (by decide)
  have g2 := lv_neT (a := 2) h2 (by decide)
  omega

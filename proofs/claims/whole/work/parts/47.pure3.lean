/-! plain facts for the reference's walks -/
theorem l_rng (x : Int64) : -9223372036854775808 ≤ x.toInt ∧ x.toInt < 9223372036854775808 := by
  have h1 := Int64.le_toInt x
  have h2 := Int64.toInt_lt x
  exact ⟨by simpa using h1, by simpa using h2⟩
theorem l_bmod {z : Int} (h1 : -9223372036854775808 ≤ z) (h2 : z < 9223372036854775808) : z.bmod (2 ^ 64) = z := by
  apply Int.bmod_eq_of_le <;> omega
theorem l_lt {a b : Int64} : a < b ↔ a.toInt < b.toInt := Int64.lt_iff_toInt_lt
theorem l_le {a b : Int64} : a ≤ b ↔ a.toInt ≤ b.toInt := Int64.le_iff_toInt_le
theorem l_eq {a b : Int64} : a = b ↔ a.toInt = b.toInt := Int64.toInt_inj.symm
theorem l_0 : (0 : Int64).toInt = 0 := by decide
theorem l_1 : (1 : Int64).toInt = 1 := by decide
theorem l_add {x y : Int64} (h1 : -9223372036854775808 ≤ x.toInt + y.toInt) (h2 : x.toInt + y.toInt < 9223372036854775808) : (x + y).toInt = x.toInt + y.toInt := by
  rw [Int64.toInt_add]; exact l_bmod h1 h2
theorem l_sub {x y : Int64} (h1 : -9223372036854775808 ≤ x.toInt - y.toInt) (h2 : x.toInt - y.toInt < 9223372036854775808) : (x - y).toInt = x.toInt - y.toInt := by
  rw [Int64.toInt_sub]; exact l_bmod h1 h2
theorem l_mul {x y : Int64} (h1 : -9223372036854775808 ≤ x.toInt * y.toInt) (h2 : x.toInt * y.toInt < 9223372036854775808) : (x * y).toInt = x.toInt * y.toInt := by
  rw [Int64.toInt_mul]; exact l_bmod h1 h2
theorem l_nz {x : Int64} (h : 0 < x.toInt) : ¬ x = 0 := fun q => by rw [q, l_0] at h; omega
theorem lz {w : Int64} (c : ¬ lg_cmp w 0 = 0) : ¬ w = 0 := fun q => c ((lg_cmp_eq w 0).mpr q)
/-- the remainder of small numbers -/
theorem l_rem {x y : Int64} (hx : 0 ≤ x.toInt ∧ x.toInt ≤ 6) (hy : 0 ≤ y.toInt ∧ y.toInt ≤ 6) (h : ¬ y = 0) : (x - x / y * y).toInt = x.toInt % y.toInt := by
  have hy0 : ¬ y.toInt = 0 := fun q => h (l_eq.mpr (by rw [q, l_0]))
  have hy1 : 0 < y.toInt := by omega
  have hb : 0 ≤ x.toInt / y.toInt := Int.ediv_nonneg hx.1 hy.1
  have hb2 : x.toInt / y.toInt ≤ x.toInt := Int.ediv_le_self _ hx.1
  have d : (x / y).toInt = x.toInt / y.toInt := by
    rw [Int64.toInt_div, Int.tdiv_eq_ediv_of_nonneg hx.1]
    exact l_bmod (by omega) (by omega)
  have e := Int.emod_add_mul_ediv x.toInt y.toInt
  have hm := Int.emod_nonneg x.toInt hy0
  have hm2 := Int.emod_lt_of_pos x.toInt hy1
  have e2 : x.toInt / y.toInt * y.toInt = x.toInt - x.toInt % y.toInt := by
    rw [Int.mul_comm]; omega
  have m : (x / y * y).toInt = x.toInt - x.toInt % y.toInt := by
    rw [l_mul (by rw [d, e2]; omega) (by rw [d, e2]; omega), d, e2]
  rw [l_sub (by rw [m]; omega) (by rw [m]; omega), m]
  omega
def eu (x y : Int64) (n : Nat) : Prop := (0 ≤ x.toInt ∧ x.toInt ≤ 6) ∧ (0 ≤ y.toInt ∧ y.toInt ≤ 6) ∧ y.toInt < n
theorem eu_no {x y : Int64} : ¬ eu x y 0 := fun h => by obtain ⟨_, b, d⟩ := h; omega
theorem eu_i {x y : Int64} (h1 : 0 ≤ x.toInt ∧ x.toInt ≤ 6) (h2 : 0 < y.toInt ∧ y.toInt ≤ 6) : eu x y 7 := ⟨h1, ⟨by omega, h2.2⟩, by omega⟩
theorem eu_s {x y : Int64} {n : Nat} (hu : eu x y (n + 1)) (h : ¬ y = 0) : eu y (x - x / y * y) n := by
  obtain ⟨a, b, d⟩ := hu
  have e := l_rem a b h
  have hy0 : ¬ y.toInt = 0 := fun q => h (l_eq.mpr (by rw [q, l_0]))
  have hm := Int.emod_nonneg x.toInt hy0
  have hm2 := Int.emod_lt_of_pos x.toInt (show 0 < y.toInt by omega)
  exact ⟨b, ⟨by omega, by omega⟩, by omega⟩
theorem fa_ix {m i n : Int32} (hra : 0 ≤ m.toInt) (hfn : 0 ≤ i.toInt ∧ i.toInt + n.toInt ≤ 240) (c : ¬ n ≤ m) : vp_in (i + m) 240 := by
  have h1 : ¬ n.toInt ≤ m.toInt := fun q => c (q_le.mpr q)
  have e : (i + m).toInt = i.toInt + m.toInt := q_add (by omega) (by omega)
  exact vi_c ⟨by omega, by omega⟩

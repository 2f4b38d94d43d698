/-! indices that Sheets' pure functions keep inside -/
theorem isSheet_in {k : Int32} (c : ¬ p2_isSheet k = 0) : vp_in k 4 := by
  unfold p2_isSheet at c
  by_cases c1 : k < 0
  · rw [if_pos c1] at c; exact absurd rfl c
  · rw [if_neg c1] at c
    by_cases c2 : (4 : Int32) ≤ k
    · rw [if_pos c2] at c; exact absurd rfl c
    · have h1 : ¬ k.toInt < 0 := fun q => c1 (q_lt.mpr (by rw [q_0]; exact q))
      have h2 : ¬ (4 : Int32).toInt ≤ k.toInt := fun q => c2 (q_le.mpr q)
      rw [show (4 : Int32).toInt = 4 by decide] at h2
      exact vi_c ⟨by omega, by omega⟩
theorem cellFault_in {LE : Nat → Int32} {k i : Int32} (h : (LE k.toNatClampNeg).toInt ≤ 60) (c : p2_cellFault LE k i = 0) : vp_in i 60 := by
  unfold p2_cellFault at c
  by_cases c1 : i < 0
  · rw [if_pos c1] at c; exact absurd c (by decide)
  · rw [if_neg c1] at c
    by_cases c2 : LE k.toNatClampNeg ≤ i
    · rw [if_pos c2] at c; exact absurd c (by decide)
    · have h1 : ¬ i.toInt < 0 := fun q => c1 (q_lt.mpr (by rw [q_0]; exact q))
      have h2 : ¬ (LE k.toNatClampNeg).toInt ≤ i.toInt := fun q => c2 (q_le.mpr q)
      exact vi_c ⟨by omega, by omega⟩
theorem span_all {LE : Nat → Int32} {k i n : Int32} (h : (LE k.toNatClampNeg).toInt ≤ 60) : p2_spanFault LE k i n = 0 ↔ 0 ≤ i.toInt ∧ 0 ≤ n.toInt ∧ i.toInt + n.toInt ≤ (LE k.toNatClampNeg).toInt := by
  have r1 := q_rng i
  have r2 := q_rng n
  unfold p2_spanFault
  by_cases c1 : i < 0
  · rw [if_pos c1]
    have := q_lt.mp c1
    rw [q_0] at this
    exact ⟨fun q => absurd q (by decide), fun q => by omega⟩
  · rw [if_neg c1]
    have h1 : ¬ i.toInt < 0 := fun q => c1 (q_lt.mpr (by rw [q_0]; exact q))
    by_cases c2 : LE k.toNatClampNeg < i
    · rw [if_pos c2]
      have := q_lt.mp c2
      exact ⟨fun q => absurd q (by decide), fun q => by omega⟩
    · rw [if_neg c2]
      have h2 : ¬ (LE k.toNatClampNeg).toInt < i.toInt := fun q => c2 (q_lt.mpr q)
      by_cases c3 : n < 0
      · rw [if_pos c3]
        have := q_lt.mp c3
        rw [q_0] at this
        exact ⟨fun q => absurd q (by decide), fun q => by omega⟩
      · rw [if_neg c3]
        have h3 : ¬ n.toInt < 0 := fun q => c3 (q_lt.mpr (by rw [q_0]; exact q))
        have e : (LE k.toNatClampNeg - i).toInt = (LE k.toNatClampNeg).toInt - i.toInt := q_sub (by omega) (by omega)
        by_cases c4 : LE k.toNatClampNeg - i < n
        · rw [if_pos c4]
          have := q_lt.mp c4
          rw [e] at this
          exact ⟨fun q => absurd q (by decide), fun q => by omega⟩
        · rw [if_neg c4]
          have h4 : ¬ (LE k.toNatClampNeg - i).toInt < n.toInt := fun q => c4 (q_lt.mpr q)
          rw [e] at h4
          exact ⟨fun _ => ⟨by omega, by omega, by omega⟩, fun _ => rfl⟩
theorem cl_nn {x : Int32} (h : 0 ≤ x.toInt) : (x.toNatClampNeg : Int) = x.toInt := by
  rw [Int32.toNatClampNeg]; omega
theorem nn {x : Int32} (h : 0 ≤ x.toInt) : ¬ x < 0 := fun q => by
  have := q_lt.mp q
  rw [q_0] at this
  omega
theorem nn' {x : Int32} (h : ¬ x < 0) : 0 ≤ x.toInt := by
  have : ¬ x.toInt < 0 := fun q => h (q_lt.mpr (by rw [q_0]; exact q))
  omega
theorem span_ok {LE : Nat → Int32} {k i n : Int32} (h : (LE k.toNatClampNeg).toInt ≤ 60) (c : p2_spanFault LE k i n = 0) : ¬ i < 0 ∧ ¬ n < 0 ∧ i.toNatClampNeg + n.toNatClampNeg ≤ 60 := by
  obtain ⟨a, b, d⟩ := (span_all h).mp c
  refine ⟨nn a, nn b, ?_⟩
  have e1 := cl_nn a
  have e2 := cl_nn b
  omega
theorem sp_ix {i n v : Int32} {k : Nat} (hsp : ¬ i < 0 ∧ ¬ n < 0 ∧ i.toNatClampNeg + n.toNatClampNeg ≤ 60) (hu : up v n k) (c : ¬ n ≤ v) : vp_in (i + v) 60 := by
  have a := nn' hsp.1
  have b := nn' hsp.2.1
  have e1 := cl_nn a
  have e2 := cl_nn b
  have h1 : ¬ n.toInt ≤ v.toInt := fun q => c (q_le.mpr q)
  have h0 := hu.1
  have h3 := hsp.2.2
  have e : (i + v).toInt = i.toInt + v.toInt := q_add (by omega) (by omega)
  exact vi_c ⟨by omega, by omega⟩
theorem sp_n {i n : Int32} (hsp : ¬ i < 0 ∧ ¬ n < 0 ∧ i.toNatClampNeg + n.toNatClampNeg ≤ 60) : n.toInt ≤ 60 := by
  have e2 := cl_nn (nn' hsp.2.1)
  omega
/-- how many houses a text of n codes holds -/
theorem div4 {n : Int32} (h : 0 ≤ n.toInt) (h2 : n.toInt ≤ 60) : ((n - 1) / 4).toInt = if n.toInt = 0 then 0 else (n.toInt - 1) / 4 := by
  have e1 : (n - 1).toInt = n.toInt - 1 := by
    rw [q_sub (by rw [q_1]; omega) (by rw [q_1]; omega), q_1]
  have e4 : (4 : Int32).toInt = 4 := by decide
  rw [Int32.toInt_div, e1, e4]
  by_cases h0 : n.toInt = 0
  · rw [if_pos h0, h0]; decide
  · rw [if_neg h0, Int.tdiv_eq_ediv_of_nonneg (by omega)]
    exact q_bmod (by omega) (by omega)
theorem set_b {n : Int32} (hsp : 0 ≤ n.toInt) (h2 : n.toInt ≤ 60) : (if 6 < (n - 1) / 4 then (6 : Int32) else (n - 1) / 4).toInt ≤ 6 ∧ (if 6 < (n - 1) / 4 then (6 : Int32) else (n - 1) / 4).toInt ≤ ((n - 1) / 4).toInt := by
  have e6 : (6 : Int32).toInt = 6 := by decide
  by_cases c : 6 < (n - 1) / 4
  · rw [if_pos c]
    have := q_lt.mp c
    rw [e6] at this ⊢
    omega
  · rw [if_neg c]
    have : ¬ (6 : Int32).toInt < ((n - 1) / 4).toInt := fun q => c (q_lt.mpr q)
    rw [e6] at this
    omega
theorem set_ix {i n v : Int32} {k : Nat} (hsp : ¬ i < 0 ∧ ¬ n < 0 ∧ i.toNatClampNeg + n.toNatClampNeg ≤ 60) (hu : up v (if 6 < (n - 1) / 4 then (6 : Int32) else (n - 1) / 4) k) (c : ¬ (if 6 < (n - 1) / 4 then (6 : Int32) else (n - 1) / 4) ≤ v) : vp_in ((i + 2) + (4 * v)) 60 ∧ vp_in (((i + 2) + (4 * v)) + 1) 60 ∧ vp_in (((i + 2) + (4 * v)) + 2) 60 := by
  have a := nn' hsp.1
  have b := nn' hsp.2.1
  have e1 := cl_nn a
  have e2 := cl_nn b
  have h3 := hsp.2.2
  have hb := set_b b (by omega)
  have hd := div4 b (by omega)
  have h1 : ¬ (if 6 < (n - 1) / 4 then (6 : Int32) else (n - 1) / 4).toInt ≤ v.toInt := fun q => c (q_le.mpr q)
  have h0 := hu.1
  generalize (if 6 < (n - 1) / 4 then (6 : Int32) else (n - 1) / 4).toInt = B at hb h1
  have hv : v.toInt < ((n - 1) / 4).toInt := by omega
  rw [hd] at hv
  have hv2 : 4 * v.toInt + 5 ≤ n.toInt := by
    by_cases hz : n.toInt = 0
    · rw [if_pos hz] at hv; omega
    · rw [if_neg hz] at hv; omega
  have t2 : (2 : Int32).toInt = 2 := by decide
  have t4 : (4 : Int32).toInt = 4 := by decide
  have m : (4 * v).toInt = 4 * v.toInt := by rw [q_mul (by rw [t4]; omega) (by rw [t4]; omega), t4]
  have s1 : (i + 2).toInt = i.toInt + 2 := by rw [q_add (by rw [t2]; omega) (by rw [t2]; omega), t2]
  have s2 : ((i + 2) + (4 * v)).toInt = i.toInt + 2 + 4 * v.toInt := by rw [q_add (by rw [s1, m]; omega) (by rw [s1, m]; omega), s1, m]
  have s3 : (((i + 2) + (4 * v)) + 1).toInt = i.toInt + 2 + 4 * v.toInt + 1 := by rw [q_add (by rw [s2, q_1]; omega) (by rw [s2, q_1]; omega), s2, q_1]
  have s4 : (((i + 2) + (4 * v)) + 2).toInt = i.toInt + 2 + 4 * v.toInt + 2 := by rw [q_add (by rw [s2, t2]; omega) (by rw [s2, t2]; omega), s2, t2]
  exact ⟨vi_c ⟨by omega, by omega⟩, vi_c ⟨by omega, by omega⟩, vi_c ⟨by omega, by omega⟩⟩
theorem pair_e {i n v : Int32} {k : Nat} (hsp : ¬ i < 0 ∧ ¬ (2 * n) < 0 ∧ i.toNatClampNeg + (2 * n).toNatClampNeg ≤ 60) (hn : 0 ≤ n.toInt ∧ n.toInt ≤ 20) (hu : up v n k) (c : ¬ n ≤ v) : (i + (2 * v)).toInt = i.toInt + 2 * v.toInt ∧ ((i + (2 * v)) + 1).toInt = i.toInt + 2 * v.toInt + 1 ∧ (2 * v).toInt = 2 * v.toInt ∧ ((2 * v) + 1).toInt = 2 * v.toInt + 1 ∧ (2 * n).toInt = 2 * n.toInt ∧ 0 ≤ v.toInt ∧ v.toInt < n.toInt ∧ 0 ≤ i.toInt ∧ i.toInt + 2 * n.toInt ≤ 60 := by
  have t2 : (2 : Int32).toInt = 2 := by decide
  have a := nn' hsp.1
  have e1 := cl_nn a
  have m : (2 * n).toInt = 2 * n.toInt := by rw [q_mul (by rw [t2]; omega) (by rw [t2]; omega), t2]
  have e2 := cl_nn (nn' hsp.2.1)
  rw [m] at e2
  have h3 := hsp.2.2
  have h1 : ¬ n.toInt ≤ v.toInt := fun q => c (q_le.mpr q)
  have h0 := hu.1
  have mv : (2 * v).toInt = 2 * v.toInt := by rw [q_mul (by rw [t2]; omega) (by rw [t2]; omega), t2]
  have s1 : (i + (2 * v)).toInt = i.toInt + 2 * v.toInt := by rw [q_add (by rw [mv]; omega) (by rw [mv]; omega), mv]
  have s2 : ((i + (2 * v)) + 1).toInt = i.toInt + 2 * v.toInt + 1 := by rw [q_add (by rw [s1, q_1]; omega) (by rw [s1, q_1]; omega), s1, q_1]
  have s3 : ((2 * v) + 1).toInt = 2 * v.toInt + 1 := by rw [q_add (by rw [mv, q_1]; omega) (by rw [mv, q_1]; omega), mv, q_1]
  exact ⟨s1, s2, mv, s3, m, h0, by omega, a, by omega⟩
theorem pair_ix0 {i n v : Int32} {k : Nat} (hsp : ¬ i < 0 ∧ ¬ (2 * n) < 0 ∧ i.toNatClampNeg + (2 * n).toNatClampNeg ≤ 60) (hn : 0 ≤ n.toInt ∧ n.toInt ≤ 20) (hu : up v n k) (c : ¬ n ≤ v) : vp_in (i + (2 * v)) 60 := by
  obtain ⟨s1, s2, s3, s4, s5, a, b, d, f⟩ := pair_e hsp hn hu c
  exact vi_c ⟨by omega, by omega⟩
theorem pair_ix1 {i n v : Int32} {k : Nat} (hsp : ¬ i < 0 ∧ ¬ (2 * n) < 0 ∧ i.toNatClampNeg + (2 * n).toNatClampNeg ≤ 60) (hn : 0 ≤ n.toInt ∧ n.toInt ≤ 20) (hu : up v n k) (c : ¬ n ≤ v) : vp_in ((i + (2 * v)) + 1) 60 := by
  obtain ⟨s1, s2, s3, s4, s5, a, b, d, f⟩ := pair_e hsp hn hu c
  exact vi_c ⟨by omega, by omega⟩
theorem lt8_in {g : Int32} (h0 : 0 ≤ g.toInt) (c : g < 8) : vp_in g 8 := by
  have := q_lt.mp c
  rw [show (8 : Int32).toInt = 8 by decide] at this
  exact vi_c ⟨h0, by omega⟩
/-- a loop that counts down to 1 -/
def dn (v : Int32) (n : Nat) : Prop := 0 < n ∧ v.toInt ≤ n
theorem dn_no {v : Int32} : ¬ dn v 0 := fun h => Nat.lt_irrefl 0 h.1
theorem dn_s {v : Int32} {n : Nat} (h : dn v (n + 1)) (c : ¬ v ≤ 1) : dn (v + (-1)) n := by
  have h1 : ¬ v.toInt ≤ (1 : Int32).toInt := fun q => c (q_le.mpr q)
  rw [q_1] at h1
  have r := q_rng v
  have tm : (-1 : Int32).toInt = -1 := by decide
  have e : (v + (-1)).toInt = v.toInt + -1 := by rw [q_add (by rw [tm]; omega) (by rw [tm]; omega), tm]
  obtain ⟨_, b⟩ := h
  exact ⟨by omega, by omega⟩
theorem dn_nz {v : Int32} (c : ¬ v ≤ 1) : ¬ v = 0 := fun h => c (by rw [h]; decide)

theorem areHouses_at {N : Int32} {M : Nat → Nat → Int32} {s i n : Int32} (hn : n.toInt ≤ 60) (h : ¬ p4_areHouses M N s i n = 0) {v : Int32} (h0 : 0 ≤ v.toInt) (h1 : v.toInt < n.toInt) : ¬ p0_has N (M s.toNatClampNeg (i + v).toNatClampNeg) = 0 := by
  have key : ∀ (k : Nat) (w : Int32), up w n k → w.toInt ≤ v.toInt → ¬ p4_areHouses_l3 M N s i n k w = 0 → ¬ p0_has N (M s.toNatClampNeg (i + v).toNatClampNeg) = 0 := by
    intro k
    induction k with
    | zero => intro _ hu; exact absurd hu up_no
    | succ k ih =>
      intro w hu hw hne
      rw [p4_areHouses_l3_s] at hne
      have c1 : ¬ n ≤ w := fun q => by have := q_le.mp q; omega
      rw [if_neg c1] at hne
      by_cases c2 : p0_has N (M s.toNatClampNeg (i + w).toNatClampNeg) = 0
      · rw [if_pos c2] at hne; exact absurd rfl hne
      · rw [if_neg c2] at hne
        by_cases e : w = v
        · rw [← e]; exact c2
        · have e2 : ¬ w.toInt = v.toInt := fun q => e (q_eq.mpr q)
          have hr := q_rng n
          have e3 : (w + 1).toInt = w.toInt + 1 := by rw [q_add (by rw [q_1]; have := hu.1; omega) (by rw [q_1]; omega), q_1]
          exact ih (w + 1) (up_s hu c1) (by omega) hne
  exact key 61 0 (up_i 60 (by decide) hn) (by rw [q_0]; exact h0) h
theorem pair_at {N : Int32} {M : Nat → Nat → Int32} {s i n v : Int32} {k : Nat} (hsp : ¬ i < 0 ∧ ¬ (2 * n) < 0 ∧ i.toNatClampNeg + (2 * n).toNatClampNeg ≤ 60) (hn : 0 ≤ n.toInt ∧ n.toInt ≤ 20) (hu : up v n k) (c : ¬ n ≤ v) (h : ¬ p4_areHouses M N s i (2 * n) = 0) : ¬ p0_has N (M s.toNatClampNeg (i + (2 * v)).toNatClampNeg) = 0 ∧ ¬ p0_has N (M s.toNatClampNeg ((i + (2 * v)) + 1).toNatClampNeg) = 0 := by
  obtain ⟨s1, s2, s3, s4, s5, a, b, d, f⟩ := pair_e hsp hn hu c
  refine ⟨areHouses_at (by omega) h (by omega) (by omega), ?_⟩
  rw [Int32.add_assoc]
  exact areHouses_at (by omega) h (by omega) (by omega)
theorem begin_N {YC YF N Nq : Int32} {K L C P Kq Lq Cq : Nat → Int32} : (p3_begin YC YF N K L C P Nq Kq Lq Cq).2.2.1 = Nq := by
  have key : ∀ (n : Nat) (v : Int32) (P_ : Nat → Int32) (N_ : Int32) (K_ L_ C_ : Nat → Int32), up v 6 n → (p3_begin_l10 YC YF N K L C P Nq Kq Lq Cq n v P_ N_ K_ L_ C_).2.2.1 = N_ := by
    intro n
    induction n with
    | zero => intro _ _ _ _ _ _ hu; exact absurd hu up_no
    | succ n ih =>
      intro v P_ N_ K_ L_ C_ hu
      rw [p3_begin_l10_s]
      by_cases c1 : (6 : Int32) ≤ v
      · rw [if_pos c1]
      · rw [if_neg c1]; exact ih _ _ _ _ _ _ (up_s hu c1)
  exact key 7 0 P _ _ _ _ (up_i 6 (by decide) (by decide))
theorem commonPart_nz {a b : Int32} (h : b.toInt ≤ 6) : ¬ p4_commonPart a b = 0 := by
  have key : ∀ (n : Nat) (v : Int32), dn v n → ¬ p4_commonPart_l2 a b n v = 0 := by
    intro n
    induction n with
    | zero => intro _ hu; exact absurd hu dn_no
    | succ n ih =>
      intro v hu
      rw [p4_commonPart_l2_s]
      by_cases c1 : v ≤ 1
      · rw [if_pos c1]; decide
      · rw [if_neg c1]
        split
        · split
          · exact dn_nz c1
          · exact ih _ (dn_s hu c1)
        · exact ih _ (dn_s hu c1)
  exact key 6 b ⟨by decide, h⟩

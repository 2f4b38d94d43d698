/-! what the City's pure functions answer, as far as a caller's indices need it -/
theorem up_ix {v N : Int32} {n : Nat} (h : up v N n) (c : ¬ N ≤ v) : (v.toNatClampNeg : Int) < N.toInt := by
  have h1 : ¬ N.toInt ≤ v.toInt := fun q => c (q_le.mpr q)
  have h0 := h.1
  rw [Int32.toNatClampNeg]
  omega
theorem has_iff {N h : Int32} : (¬ p0_has N h = 0) ↔ 0 ≤ h.toInt ∧ h.toInt < N.toInt := by
  unfold p0_has
  by_cases c1 : h < 0
  · rw [if_pos c1]
    have := q_lt.mp c1
    rw [q_0] at this
    exact ⟨fun q => absurd rfl q, fun q => by omega⟩
  · rw [if_neg c1]
    have h1 : ¬ h.toInt < 0 := fun q => c1 (q_lt.mpr (by rw [q_0]; exact q))
    by_cases c2 : N ≤ h
    · rw [if_pos c2]
      have := q_le.mp c2
      exact ⟨fun q => absurd rfl q, fun q => by omega⟩
    · rw [if_neg c2]
      have h2 : ¬ N.toInt ≤ h.toInt := fun q => c2 (q_le.mpr q)
      exact ⟨fun _ => ⟨by omega, by omega⟩, fun _ => by decide⟩
theorem has_in {N h : Int32} (hN : N.toInt ≤ 6) (c : ¬ p0_has N h = 0) : vp_in h 6 := by
  have := has_iff.mp c
  exact vi_c ⟨this.1, by omega⟩
theorem payer_in {K L C : Nat → Int32} {a b c : Int32} (ha : vp_in a 6) (hb : vp_in b 6) : vp_in (p0_payer K L C a b c) 6 := by
  unfold p0_payer
  split <;> assumption
theorem chosenBy_in {N : Int32} {K L C : Nat → Int32} {a c : Int32} (ha : vp_in a 6) (hN : N.toInt ≤ 6) : vp_in (p0_chosenBy N K L C a c) 6 := by
  have key : ∀ (n : Nat) (v3 v4 v5 : Int32), up v5 N n → vp_in v3 6 → vp_in (p0_chosenBy_l14 N K L C a c n v3 v4 v5) 6 := by
    intro n
    induction n with
    | zero => intro _ _ _ hu; exact absurd hu up_no
    | succ n ih =>
      intro v3 v4 v5 hu h3
      rw [p0_chosenBy_l14_s]
      by_cases c1 : N ≤ v5
      · rw [if_pos c1]; exact h3
      · rw [if_neg c1]
        split
        · exact ih _ _ _ (up_s hu c1) h3
        · split
          · exact ih _ _ _ (up_s hu c1) h3
          · exact ih _ _ _ (up_s hu c1) (up_in 6 hu c1 hN)
  exact key 7 _ _ _ (up_i 6 (by decide) hN) ha
theorem richest_in {N : Int32} {K L C : Nat → Int32} (hN : N.toInt ≤ 6) : vp_in (p0_richest N K L C) 6 := by
  have key : ∀ (n : Nat) (v1 v2 : Int32), up v2 N n → vp_in v1 6 → vp_in (p0_richest_l4 N K L C n v1 v2) 6 := by
    intro n
    induction n with
    | zero => intro _ _ hu; exact absurd hu up_no
    | succ n ih =>
      intro v1 v2 hu h1
      rw [p0_richest_l4_s]
      by_cases c1 : N ≤ v2
      · rw [if_pos c1]; exact h1
      · rw [if_neg c1]
        split
        · exact ih _ _ (up_s hu c1) h1
        · exact ih _ _ (up_s hu c1) (up_in 6 hu c1 hN)
  exact key 7 _ _ (up_i 6 (by decide) hN) (vi_c (by decide))

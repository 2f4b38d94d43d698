theorem readsCity_h {a h i n : Int32} {RK RL RC SH : Nat → Int32} : (p5_readsCity a h RK RL RC SH i n).2.2.1.toInt ≤ 6 := by
  have key : ∀ (k : Nat) (v a1 h1 : Int32) (R1 R2 R3 : Nat → Int32), rdi v a1 h1 k → (p5_readsCity_l45 a h RK RL RC SH i n k v a1 h1 R1 R2 R3).2.2.1.toInt ≤ 6 := by
    intro k
    induction k with
    | zero => intro _ _ _ _ _ _ q; exact absurd q rdi_no
    | succ k ih =>
      intro v a1 h1 R1 R2 R3 q
      rw [p5_readsCity_l45_s]
      by_cases c1 : v = 0
      · rw [if_pos c1]; exact (rdi_h q).2
      · rw [if_neg c1]
        split
        · exact ih _ _ _ _ _ _ (rdi_s q c1 rfl rfl rfl)
        · split
          · exact (rdi_h q).2
          · exact ih _ _ _ _ _ _ (rdi_s q c1 rfl rfl rfl)
  unfold p5_readsCity
  split
  · exact key 9 _ _ _ _ _ _ rdi_1
  · exact key 9 _ _ _ _ _ _ rdi_0
theorem failed_1 {f m : Int32} : (p5_failed f m).1 = -10 - m := rfl
theorem cb_ok {f k la i : Int32} {j : Int64} {SZ LN : Nat → Int32} : 0 ≤ (p5_cellsBarred f SZ LN k la i j).1 ↔ 0 ≤ (SZ k.toNatClampNeg).toInt ∧ LN k.toNatClampNeg = la ∧ 0 ≤ j.toInt ∧ p5_isBeyond i j (SZ k.toNatClampNeg) = 0 := by
  unfold p5_cellsBarred
  by_cases c1 : SZ k.toNatClampNeg < 0
  · have c2 : ¬ 0 ≤ SZ k.toNatClampNeg := fun q => by
      have a := q_lt.mp c1
      have b := q_le.mp q
      rw [q_0] at a b
      omega
    have h1 := q_lt.mp c1
    rw [q_0] at h1
    rw [if_pos c1, if_neg c2]
    exact ⟨fun q => absurd q (by show ¬ (0 : Int32) ≤ (p5_failed f 1).1; rw [failed_1]; decide), fun q => by omega⟩
  · have h1 := nn' c1
    have c2 : 0 ≤ SZ k.toNatClampNeg := q_le.mpr (by rw [q_0]; exact h1)
    rw [if_neg c1]
    by_cases c3 : LN k.toNatClampNeg = la
    · rw [if_pos c3, if_pos c2]
      by_cases c4 : 0 ≤ lg_cmp j 0
      · rw [if_pos c4]
        have h4 := l_le.mp ((lg_cmp_ge j 0).mp c4)
        rw [l_0] at h4
        by_cases c5 : p5_isBeyond i j (SZ k.toNatClampNeg) = 0
        · rw [if_pos c5]; exact ⟨fun _ => ⟨h1, c3, h4, c5⟩, fun _ => by show (0 : Int32) ≤ 0; decide⟩
        · rw [if_neg c5]; exact ⟨fun q => absurd q (by show ¬ (0 : Int32) ≤ (p5_failed f 3).1; rw [failed_1]; decide), fun q => absurd q.2.2.2 c5⟩
      · rw [if_neg c4]
        have h4 : ¬ 0 ≤ j.toInt := fun q => c4 ((lg_cmp_ge j 0).mpr (l_le.mpr (by rw [l_0]; exact q)))
        exact ⟨fun q => absurd q (by show ¬ (0 : Int32) ≤ (p5_failed f 4).1; rw [failed_1]; decide), fun q => absurd q.2.2.1 h4⟩
    · rw [if_neg c3]
      exact ⟨fun q => absurd q (by show ¬ (0 : Int32) ≤ (p5_failed f 2).1; rw [failed_1]; decide), fun q => absurd q.2.1 c3⟩
theorem cb_span {f k la i n r : Int32} {SZ LN : Nat → Int32} (hk : vp_in k 4) (hs : (SZ k.toNatClampNeg).toInt ≤ 60) (er : (p5_cellsBarred f SZ LN k la i n.toInt64).1 = r) (c : 0 ≤ r) : 0 ≤ ((60 * k) + i).toInt ∧ ((60 * k) + i).toInt + n.toInt ≤ 240 := by
  rw [← er] at c
  obtain ⟨a, _, b, d⟩ := cb_ok.mp c
  obtain ⟨x, y, z⟩ := beyond_iff.mp d
  obtain ⟨_, g1, g2⟩ := k60 hk
  have e := k60i hk (i := i) ⟨x, by omega⟩
  exact ⟨by omega, by omega⟩
def yq (k i n : Int32) : Prop := vp_in k 4 ∧ 0 ≤ i.toInt ∧ 0 ≤ n.toInt ∧ n.toInt ≤ 20 ∧ i.toInt + 2 * n.toInt ≤ 60
theorem two_n {n : Int32} (h : 0 ≤ n.toInt ∧ n.toInt ≤ 20) : (2 * n).toInt = 2 * n.toInt := by
  have t : (2 : Int32).toInt = 2 := by decide
  rw [q_mul (by rw [t]; omega) (by rw [t]; omega), t]
theorem two_l {n : Int32} (h : 0 ≤ n.toInt ∧ n.toInt ≤ 20) : 2 * n.toInt64 = (2 * n).toInt64 := by
  have t : (2 : Int64).toInt = 2 := by decide
  rw [l_eq, w_toInt, two_n h, l_mul (by rw [t, w_toInt]; omega) (by rw [t, w_toInt]; omega), t, w_toInt]
theorem yq_of {f k la i n r : Int32} {SZ LN : Nat → Int32} (hk : vp_in k 4) (hs : (SZ k.toNatClampNeg).toInt ≤ 60) (cn : ¬ p5_in n.toInt64 0 20 = 0) (er : (p5_cellsBarred f SZ LN k la i (2 * n.toInt64)).1 = r) (c : 0 ≤ r) : yq k i n := by
  have hn := in_iff.mp cn
  rw [w_toInt, l_0, show (20 : Int64).toInt = 20 by decide] at hn
  rw [← er] at c
  obtain ⟨a, _, b, d⟩ := cb_ok.mp c
  rw [two_l hn] at d
  obtain ⟨x, y, z⟩ := beyond_iff.mp d
  rw [two_n hn] at z
  exact ⟨hk, x, hn.1, hn.2, by omega⟩
theorem yq_n {k i n : Int32} (h : yq k i n) : (2 * n).toInt ≤ 40 := by
  obtain ⟨_, _, a, b, _⟩ := h
  rw [two_n ⟨a, b⟩]; omega
theorem yq_ix {k i n v : Int32} {m : Nat} (h : yq k i n) (hu : up v (2 * n) m) (c : ¬ (2 * n) ≤ v) : vp_in (((60 * k) + i) + v) 240 := by
  have h1 : ¬ (2 * n).toInt ≤ v.toInt := fun q => c (q_le.mpr q)
  obtain ⟨a, b, d, f, g⟩ := h
  rw [two_n ⟨d, f⟩] at h1
  have h0 := hu.1
  have e := k60v a b h0 (by omega)
  obtain ⟨_, g1, g2⟩ := k60 a
  exact vi_c ⟨by omega, by omega⟩
theorem yq_all {k i n v N : Int32} {m : Nat} {SH : Nat → Int32} (hu : up v (2 * n) (m + 1)) (h : yq k i n) (c : ¬ (2 * n) ≤ v) (hall : ∀ w : Int32, 0 ≤ w.toInt → w.toInt < v.toInt → p5_noHouse N (SH (((60 * k) + i) + w).toNatClampNeg) = 0) (cn : p5_noHouse N (SH (((60 * k) + i) + v).toNatClampNeg) = 0) : ∀ w : Int32, 0 ≤ w.toInt → w.toInt < (v + 1).toInt → p5_noHouse N (SH (((60 * k) + i) + w).toNatClampNeg) = 0 := by
  intro w h0 h1
  have hb := yq_n h
  have c1 : ¬ (2 * n).toInt ≤ v.toInt := fun q => c (q_le.mpr q)
  rw [p1i hu.1 (by omega)] at h1
  by_cases e : w = v
  · rw [e]; exact cn
  · have : ¬ w.toInt = v.toInt := fun q => e (q_eq.mpr q)
    exact hall w h0 (by omega)
theorem yq_g {k i n : Int32} (h : yq k i n) : 0 ≤ ((60 * k) + i).toInt ∧ 0 ≤ n.toInt ∧ n.toInt ≤ 20 ∧ ((60 * k) + i).toInt + 2 * n.toInt ≤ 240 := by
  obtain ⟨a, b, d, f, g⟩ := h
  have e := k60i a (i := i) ⟨b, by omega⟩
  obtain ⟨_, g1, g2⟩ := k60 a
  exact ⟨by omega, d, f, by omega⟩
theorem yq_h {k i n v N : Int32} {SH : Nat → Int32} (hN : N.toInt ≤ 6) (_h : yq k i n) (c : (2 * n) ≤ v) (hall : ∀ w : Int32, 0 ≤ w.toInt → w.toInt < v.toInt → p5_noHouse N (SH (((60 * k) + i) + w).toNatClampNeg) = 0) : ∀ w : Int32, 0 ≤ w.toInt → w.toInt < (2 * n).toInt → vp_in (SH (((60 * k) + i) + w).toNatClampNeg) 6 := by
  intro w h0 h1
  have := q_le.mp c
  exact noHouse_in hN (hall w h0 (by omega))
theorem gy_e {i n v : Int32} {m : Nat} (hg : 0 ≤ i.toInt ∧ 0 ≤ n.toInt ∧ n.toInt ≤ 20 ∧ i.toInt + 2 * n.toInt ≤ 240) (hu : up v n m) (c : ¬ n ≤ v) : (i + (2 * v)).toInt = i.toInt + 2 * v.toInt ∧ ((i + (2 * v)) + 1).toInt = i.toInt + 2 * v.toInt + 1 ∧ (2 * v).toInt = 2 * v.toInt ∧ ((2 * v) + 1).toInt = 2 * v.toInt + 1 ∧ 0 ≤ v.toInt ∧ v.toInt < n.toInt := by
  have h1 : ¬ n.toInt ≤ v.toInt := fun q => c (q_le.mpr q)
  have h0 := hu.1
  have m2 := two_n (n := v) ⟨h0, by omega⟩
  have s1 : (i + (2 * v)).toInt = i.toInt + 2 * v.toInt := by rw [q_add (by rw [m2]; omega) (by rw [m2]; omega), m2]
  exact ⟨s1, by rw [p1i (by omega) (by omega), s1], m2, by rw [p1i (by omega) (by omega), m2], h0, by omega⟩
theorem gy_ix {i n v : Int32} {m : Nat} (hg : 0 ≤ i.toInt ∧ 0 ≤ n.toInt ∧ n.toInt ≤ 20 ∧ i.toInt + 2 * n.toInt ≤ 240) (hu : up v n m) (c : ¬ n ≤ v) : vp_in (i + (2 * v)) 240 ∧ vp_in ((i + (2 * v)) + 1) 240 := by
  obtain ⟨a, b, d, f, g, k⟩ := gy_e hg hu c
  exact ⟨vi_c ⟨by omega, by omega⟩, vi_c ⟨by omega, by omega⟩⟩
theorem gy_at {i n v : Int32} {m : Nat} {SH : Nat → Int32} (hg : 0 ≤ i.toInt ∧ 0 ≤ n.toInt ∧ n.toInt ≤ 20 ∧ i.toInt + 2 * n.toInt ≤ 240) (hu : up v n m) (c : ¬ n ≤ v) (hah : ∀ w : Int32, 0 ≤ w.toInt → w.toInt < (2 * n).toInt → vp_in (SH (i + w).toNatClampNeg) 6) : vp_in (SH (i + (2 * v)).toNatClampNeg) 6 ∧ vp_in (SH ((i + (2 * v)) + 1).toNatClampNeg) 6 := by
  obtain ⟨a, b, d, f, g, k⟩ := gy_e hg hu c
  have e := two_n (n := n) ⟨hg.2.1, hg.2.2.1⟩
  refine ⟨hah _ (by omega) (by omega), ?_⟩
  rw [Int32.add_assoc]
  exact hah _ (by omega) (by omega)

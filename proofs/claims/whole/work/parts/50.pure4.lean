/-! what the reference's small functions say -/
theorem in_iff {a l h : Int64} : (¬ p5_in a l h = 0) ↔ l.toInt ≤ a.toInt ∧ a.toInt ≤ h.toInt := by
  unfold p5_in
  by_cases c1 : lg_cmp a l < 0
  · rw [if_pos c1]
    have := l_lt.mp ((lg_cmp_lt a l).mp c1)
    exact ⟨fun q => absurd rfl q, fun q => by omega⟩
  · rw [if_neg c1]
    have h1 : ¬ a.toInt < l.toInt := fun q => c1 ((lg_cmp_lt a l).mpr (l_lt.mpr q))
    by_cases c2 : 0 < lg_cmp a h
    · rw [if_pos c2]
      have := l_lt.mp ((lg_cmp_gt a h).mp c2)
      exact ⟨fun q => absurd rfl q, fun q => by omega⟩
    · rw [if_neg c2]
      have h2 : ¬ h.toInt < a.toInt := fun q => c2 ((lg_cmp_gt a h).mpr (l_lt.mpr q))
      exact ⟨fun _ => ⟨by omega, by omega⟩, fun _ => by decide⟩
theorem w_toInt (x : Int32) : x.toInt64.toInt = x.toInt := Int32.toInt_toInt64 x
theorem w_sub1 (x : Int32) : (x.toInt64 - 1).toInt = x.toInt - 1 := by
  have := q_rng x
  rw [l_sub (by rw [w_toInt, l_1]; omega) (by rw [w_toInt, l_1]; omega), w_toInt, l_1]
theorem not01 {x : Int32} : ((if x = 0 then (1 : Int32) else 0) = 0) ↔ ¬ x = 0 := by
  by_cases c : x = 0
  · rw [if_pos c]; exact ⟨fun q => absurd q (by decide), fun q => absurd c q⟩
  · rw [if_neg c]; exact ⟨fun _ => c, fun _ => rfl⟩
theorem noHouse_iff {N h : Int32} : p5_noHouse N h = 0 ↔ 0 ≤ h.toInt ∧ h.toInt < N.toInt := by
  unfold p5_noHouse
  rw [not01, in_iff, w_toInt, w_sub1, l_0]
  constructor
  · intro q; omega
  · intro q; omega
theorem noHouse_in {N h : Int32} (hN : N.toInt ≤ 6) (c : p5_noHouse N h = 0) : vp_in h 6 := by
  have := noHouse_iff.mp c
  exact vi_c ⟨this.1, by omega⟩
theorem noCost_iff {c : Int32} : p5_noCost c = 0 ↔ 0 ≤ c.toInt ∧ c.toInt ≤ 9 := by
  unfold p5_noCost
  rw [not01, in_iff, w_toInt, l_0, show (9 : Int64).toInt = 9 by decide]
theorem noSheet_iff {k : Int32} : p5_noSheet k = 0 ↔ 0 ≤ k.toInt ∧ k.toInt ≤ 3 := by
  unfold p5_noSheet
  rw [not01, in_iff, w_toInt, l_0, show (3 : Int64).toInt = 3 by decide]
theorem noSheet_in {k : Int32} (c : p5_noSheet k = 0) : vp_in k 4 := by
  have := noSheet_iff.mp c
  exact vi_c ⟨this.1, by omega⟩
theorem beyond_iff {i n s : Int32} : p5_isBeyond i n.toInt64 s = 0 ↔ 0 ≤ i.toInt ∧ 0 ≤ n.toInt ∧ i.toInt + n.toInt ≤ s.toInt := by
  have r1 := q_rng i
  have r2 := q_rng n
  unfold p5_isBeyond
  by_cases c1 : i < 0
  · rw [if_pos c1]
    have := q_lt.mp c1
    rw [q_0] at this
    exact ⟨fun q => absurd q (by decide), fun q => by omega⟩
  · rw [if_neg c1]
    have h1 := nn' c1
    by_cases c2 : lg_cmp n.toInt64 0 < 0
    · rw [if_pos c2]
      have := l_lt.mp ((lg_cmp_lt _ _).mp c2)
      rw [w_toInt, l_0] at this
      exact ⟨fun q => absurd q (by decide), fun q => by omega⟩
    · rw [if_neg c2]
      have h2 : ¬ n.toInt < 0 := fun q => c2 ((lg_cmp_lt _ _).mpr (l_lt.mpr (by rw [w_toInt, l_0]; exact q)))
      have e : (i.toInt64 + n.toInt64).toInt = i.toInt + n.toInt := by
        rw [l_add (by rw [w_toInt, w_toInt]; omega) (by rw [w_toInt, w_toInt]; omega), w_toInt, w_toInt]
      by_cases c3 : lg_cmp (i.toInt64 + n.toInt64) s.toInt64 ≤ 0
      · rw [if_pos c3]
        have := l_le.mp ((lg_cmp_le _ _).mp c3)
        rw [e, w_toInt] at this
        exact ⟨fun _ => ⟨by omega, by omega, by omega⟩, fun _ => rfl⟩
      · rw [if_neg c3]
        have h3 : ¬ i.toInt + n.toInt ≤ s.toInt := fun q => c3 ((lg_cmp_le _ _).mpr (l_le.mpr (by rw [e, w_toInt]; exact q)))
        exact ⟨fun q => absurd q (by decide), fun q => by omega⟩
theorem payerOf_in {K L C : Nat → Int32} {a b c : Int32} (ha : vp_in a 6) (hb : vp_in b 6) : vp_in (p5_payerOf K L C a b c) 6 := by
  unfold p5_payerOf
  split
  · exact ha
  · split <;> assumption
theorem choiceOf_in {N : Int32} {K L C : Nat → Int32} {a c : Int32} (ha : vp_in a 6) (hN : N.toInt ≤ 6) : vp_in (p5_choiceOf N K L C a c) 6 := by
  have key : ∀ (n : Nat) (v3 v4 : Int32), up v4 N n → vp_in v3 6 → vp_in (p5_choiceOf_l5 N K L C a c n v3 v4) 6 := by
    intro n
    induction n with
    | zero => intro _ _ hu; exact absurd hu up_no
    | succ n ih =>
      intro v3 v4 hu h3
      rw [p5_choiceOf_l5_s]
      by_cases c1 : N ≤ v4
      · rw [if_pos c1]; exact h3
      · rw [if_neg c1]
        split
        · exact ih _ _ (up_s hu c1) h3
        · split
          · exact ih _ _ (up_s hu c1) h3
          · split
            · exact ih _ _ (up_s hu c1) h3
            · exact ih _ _ (up_s hu c1) (up_in 6 hu c1 hN)
  exact key 7 _ _ (up_i 6 (by decide) hN) ha
theorem rd_ix {r : Int32} (h : 0 ≤ r.toInt ∧ r.toInt ≤ 8) (c : ¬ r = 8) : vp_in r 8 := by
  have : ¬ r.toInt = 8 := fun q => c (q_eq.mpr (by rw [q]; decide))
  exact vi_c ⟨h.1, by omega⟩
theorem w3_s {w d : Int64} {v N : Int32} {n : Nat} (hw : 0 ≤ w.toInt ∧ w.toInt ≤ v.toInt ∧ v.toInt ≤ N.toInt) (hu : up v N (n + 1)) (c : ¬ N ≤ v) (hd : d = 0 ∨ d = 1) : 0 ≤ (w + d).toInt ∧ (w + d).toInt ≤ (v + 1).toInt ∧ (v + 1).toInt ≤ N.toInt := by
  have h1 : ¬ N.toInt ≤ v.toInt := fun q => c (q_le.mpr q)
  have hN := q_rng N
  have e : (v + 1).toInt = v.toInt + 1 := by rw [q_add (by rw [q_1]; omega) (by rw [q_1]; omega), q_1]
  rcases hd with rfl | rfl
  · have e2 : (w + 0).toInt = w.toInt := by rw [l_add (by rw [l_0]; omega) (by rw [l_0]; omega), l_0]; omega
    omega
  · have e2 : (w + 1).toInt = w.toInt + 1 := by rw [l_add (by rw [l_1]; omega) (by rw [l_1]; omega), l_1]
    omega
theorem od_1 {w : Int64} {v N : Int32} (hw : 0 ≤ w.toInt ∧ w.toInt ≤ v.toInt ∧ v.toInt ≤ N.toInt) (hN : N.toInt ≤ 6) : 0 ≤ w.toInt ∧ w.toInt ≤ 6 := ⟨hw.1, by omega⟩
theorem od_2 {N : Int32} (h0 : 0 ≤ N.toInt) (hz : ¬ N = 0) (hN : N.toInt ≤ 6) : 0 < N.toInt64.toInt ∧ N.toInt64.toInt ≤ 6 := by
  have : ¬ N.toInt = 0 := fun q => hz (q_eq.mpr (by rw [q, q_0]))
  rw [w_toInt]
  exact ⟨by omega, hN⟩
theorem le60 {n : Int32} (c : n ≤ 60) : n.toInt ≤ 60 := by
  have := q_le.mp c
  rwa [show (60 : Int32).toInt = 60 by decide] at this
theorem k60 {k : Int32} (h : vp_in k 4) : (60 * k).toInt = 60 * k.toInt ∧ 0 ≤ k.toInt ∧ k.toInt ≤ 3 := by
  have h1 := vi_e h
  have t : (60 : Int32).toInt = 60 := by decide
  exact ⟨by rw [q_mul (by rw [t]; omega) (by rw [t]; omega), t], h1.1, by omega⟩
theorem k60i {k i : Int32} (h : vp_in k 4) (hi : 0 ≤ i.toInt ∧ i.toInt ≤ 60) : ((60 * k) + i).toInt = 60 * k.toInt + i.toInt := by
  obtain ⟨e, a, b⟩ := k60 h
  rw [q_add (by rw [e]; omega) (by rw [e]; omega), e]
theorem k60v {k i v : Int32} (h : vp_in k 4) (hi : 0 ≤ i.toInt) (hv : 0 ≤ v.toInt) (hs : i.toInt + v.toInt ≤ 60) : (((60 * k) + i) + v).toInt = 60 * k.toInt + i.toInt + v.toInt := by
  obtain ⟨e, a, b⟩ := k60 h
  have e2 := k60i h (i := i) ⟨hi, by omega⟩
  rw [q_add (by rw [e2]; omega) (by rw [e2]; omega), e2]
theorem sh_ix {k n v : Int32} {m : Nat} (h : vp_in k 4) (hn : n.toInt ≤ 60) (hu : up v n m) (c : ¬ n ≤ v) : vp_in ((60 * k) + v) 240 := by
  have h1 : ¬ n.toInt ≤ v.toInt := fun q => c (q_le.mpr q)
  have h0 := hu.1
  obtain ⟨e, a, b⟩ := k60 h
  have e2 := k60i h (i := v) ⟨h0, by omega⟩
  exact vi_c ⟨by omega, by omega⟩
theorem noCell_iff {SZ : Nat → Int32} {k i : Int32} : p5_noCell SZ k i ≤ 0 ↔ 0 ≤ i.toInt ∧ i.toInt < (SZ k.toNatClampNeg).toInt := by
  unfold p5_noCell
  by_cases c1 : 0 ≤ SZ k.toNatClampNeg
  · rw [if_pos c1]
    have h1 := q_le.mp c1
    rw [q_0] at h1
    by_cases c2 : p5_in i.toInt64 0 ((SZ k.toNatClampNeg).toInt64 - 1) = 0
    · rw [if_pos c2]
      have h2 : ¬ (0 ≤ i.toInt ∧ i.toInt ≤ (SZ k.toNatClampNeg).toInt - 1) := fun q => (in_iff.mpr (by rw [w_toInt, w_sub1, l_0]; exact q)) c2
      exact ⟨fun q => absurd q (by decide), fun q => absurd ⟨q.1, by omega⟩ h2⟩
    · rw [if_neg c2]
      have h2 := in_iff.mp c2
      rw [w_toInt, w_sub1, l_0] at h2
      exact ⟨fun _ => ⟨h2.1, by omega⟩, fun _ => by decide⟩
  · rw [if_neg c1]
    have h1 : ¬ 0 ≤ (SZ k.toNatClampNeg).toInt := fun q => c1 (q_le.mpr (by rw [q_0]; exact q))
    exact ⟨fun q => absurd q (by decide), fun q => by omega⟩
theorem put_ix {SZ : Nat → Int32} {k i : Int32} (h : vp_in k 4) (hs : (SZ k.toNatClampNeg).toInt ≤ 60) (c : p5_noCell SZ k i ≤ 0) : vp_in ((60 * k) + i) 240 := by
  have h1 := noCell_iff.mp c
  obtain ⟨e, a, b⟩ := k60 h
  have e2 := k60i h (i := i) ⟨h1.1, by omega⟩
  exact vi_c ⟨by omega, by omega⟩
def cq (k i o j n : Int32) : Prop := vp_in k 4 ∧ 0 ≤ i.toInt ∧ vp_in o 4 ∧ 0 ≤ j.toInt ∧ 0 ≤ n.toInt ∧ i.toInt + n.toInt ≤ 60 ∧ j.toInt + n.toInt ≤ 60
theorem cq_of {SZ : Nat → Int32} {k i o j n : Int32} (hk : vp_in k 4) (ho : vp_in o 4) (h1 : (SZ k.toNatClampNeg).toInt ≤ 60) (h2 : (SZ o.toNatClampNeg).toInt ≤ 60) (c1 : p5_isBeyond i n.toInt64 (SZ k.toNatClampNeg) = 0) (c2 : p5_isBeyond j n.toInt64 (SZ o.toNatClampNeg) = 0) : cq k i o j n := by
  have a := beyond_iff.mp c1
  have b := beyond_iff.mp c2
  exact ⟨hk, a.1, ho, b.1, a.2.1, by omega, by omega⟩
theorem cq_n {k i o j n : Int32} (h : cq k i o j n) : n.toInt ≤ 60 := by
  obtain ⟨_, a, _, _, _, b, _⟩ := h; omega
theorem cq_h {k i o j n v : Int32} {m : Nat} (h : cq k i o j n) (hu : up v n m) (c : ¬ n ≤ v) : vp_in v 60 := up_in 60 hu c (cq_n h)
theorem cq_1 {k i o j n v : Int32} {m : Nat} (h : cq k i o j n) (hu : up v n m) (c : ¬ n ≤ v) : vp_in (((60 * k) + i) + v) 240 := by
  have h1 : ¬ n.toInt ≤ v.toInt := fun q => c (q_le.mpr q)
  obtain ⟨a, b, _, _, d, f, _⟩ := h
  have e := k60v a b hu.1 (by omega)
  obtain ⟨_, g1, g2⟩ := k60 a
  have := hu.1
  exact vi_c ⟨by omega, by omega⟩
theorem cq_2 {k i o j n v : Int32} {m : Nat} (h : cq k i o j n) (hu : up v n m) (c : ¬ n ≤ v) : vp_in (((60 * o) + j) + v) 240 := by
  have h1 : ¬ n.toInt ≤ v.toInt := fun q => c (q_le.mpr q)
  obtain ⟨_, _, a, b, d, _, f⟩ := h
  have e := k60v a b hu.1 (by omega)
  obtain ⟨_, g1, g2⟩ := k60 a
  have := hu.1
  exact vi_c ⟨by omega, by omega⟩
theorem p1i {x : Int32} (h1 : 0 ≤ x.toInt) (h2 : x.toInt ≤ 1000) : (x + 1).toInt = x.toInt + 1 := by
  rw [q_add (by rw [q_1]; omega) (by rw [q_1]; omega), q_1]
theorem ra1 {x : Int32} (h : 0 ≤ x.toInt ∧ x.toInt ≤ 100) : 0 ≤ (x + 1).toInt := by rw [p1i h.1 (by omega)]; omega
theorem ra2e {x : Int32} (h : 0 ≤ x.toInt ∧ x.toInt ≤ 100) : ((x + 1) + 1).toInt = x.toInt + 2 := by
  have e := p1i h.1 (show x.toInt ≤ 1000 by omega)
  rw [p1i (by omega) (by omega), e]; omega
theorem ra2 {x : Int32} (h : 0 ≤ x.toInt ∧ x.toInt ≤ 100) : 0 ≤ ((x + 1) + 1).toInt := by rw [ra2e h]; omega
theorem ra2b {x : Int32} (h : 0 ≤ x.toInt ∧ x.toInt ≤ 100) : ((x + 1) + 1).toInt ≤ 102 := by rw [ra2e h]; omega
theorem p0i (x : Int32) : x + 0 = x := Int32.add_zero x
theorem figure_2 {x i n : Int32} {SH : Nat → Int32} (h1 : 0 ≤ x.toInt) (h2 : x.toInt ≤ 1000) : ((p5_figure x SH i n).1 = -9 ∧ (p5_figure x SH i n).2 = x) ∨ (0 ≤ (p5_figure x SH i n).1.toInt ∧ (p5_figure x SH i n).1.toInt ≤ 9 ∧ (p5_figure x SH i n).1 = p5_codeAt x SH i n - 48 ∧ (p5_figure x SH i n).2 = x + 1) := by
  unfold p5_figure
  by_cases c : p5_in (p5_codeAt x SH i n - 48).toInt64 0 9 = 0
  · rw [if_pos c]; exact Or.inl ⟨rfl, p0i x⟩
  · rw [if_neg c]
    have h := in_iff.mp c
    rw [w_toInt, l_0, show (9 : Int64).toInt = 9 by decide] at h
    exact Or.inr ⟨h.1, h.2, rfl, rfl⟩
theorem figure_nn {x i n : Int32} {SH : Nat → Int32} (h1 : 0 ≤ x.toInt) (h2 : x.toInt ≤ 102) : 0 ≤ (p5_figure x SH i n).2.toInt := by
  rcases figure_2 (i := i) (n := n) (SH := SH) h1 (show x.toInt ≤ 1000 by omega) with ⟨_, h⟩ | ⟨_, _, _, h⟩
  · rw [h]; exact h1
  · rw [h, p1i h1 (by omega)]; omega
theorem rh_ix {r : Int32} (h : 0 ≤ r.toInt ∧ r.toInt ≤ 6) (c : ¬ r = 6) : vp_in r 6 := by
  have : ¬ r.toInt = 6 := fun q => c (q_eq.mpr (by rw [q]; decide))
  exact vi_c ⟨h.1, by omega⟩

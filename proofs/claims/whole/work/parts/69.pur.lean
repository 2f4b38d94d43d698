/-! class and reference: the same answers, function by function -/
theorem iz (x : Int32) : x = 0 ∨ ¬ x = 0 := by by_cases h : x = 0; exact Or.inl h; exact Or.inr h
theorem has_no {N h : Int32} : p0_has N h = 0 ↔ ¬ p5_noHouse N h = 0 := by
  constructor
  · intro a b; exact (has_iff.mpr (noHouse_iff.mp b)) a
  · intro a
    by_cases c : p0_has N h = 0
    · exact c
    · exact absurd (noHouse_iff.mpr (has_iff.mp c)) a
theorem isCost_iff {c : Int32} : (¬ p4_isCost c = 0) ↔ 0 ≤ c.toInt ∧ c.toInt ≤ 9 := by
  have t9 : (9 : Int32).toInt = 9 := by decide
  unfold p4_isCost
  by_cases c1 : c < 0
  · rw [if_pos c1]
    have := q_lt.mp c1
    rw [q_0] at this
    exact ⟨fun q => absurd rfl q, fun q => by omega⟩
  · rw [if_neg c1]
    have h1 := nn' c1
    by_cases c2 : 9 < c
    · rw [if_pos c2]
      have := q_lt.mp c2
      rw [t9] at this
      exact ⟨fun q => absurd rfl q, fun q => by omega⟩
    · rw [if_neg c2]
      have h2 : ¬ (9 : Int32).toInt < c.toInt := fun q => c2 (q_lt.mpr q)
      rw [t9] at h2
      exact ⟨fun _ => ⟨h1, by omega⟩, fun _ => by decide⟩
theorem cost_no {c : Int32} : p4_isCost c = 0 ↔ ¬ p5_noCost c = 0 := by
  constructor
  · intro a b; exact (isCost_iff.mpr (noCost_iff.mp b)) a
  · intro a
    by_cases d : p4_isCost c = 0
    · exact d
    · exact absurd (noCost_iff.mpr (isCost_iff.mp d)) a
theorem isSheet_iff {k : Int32} : (¬ p2_isSheet k = 0) ↔ 0 ≤ k.toInt ∧ k.toInt ≤ 3 := by
  constructor
  · intro c
    have := vi_e (isSheet_in c)
    omega
  · intro q
    have t4 : (4 : Int32).toInt = 4 := by decide
    unfold p2_isSheet
    rw [if_neg (nn q.1), if_neg (fun z => by have := q_le.mp z; rw [t4] at this; omega)]
    decide
theorem sheet_no {k : Int32} : p2_isSheet k = 0 ↔ ¬ p5_noSheet k = 0 := by
  constructor
  · intro a b; exact (isSheet_iff.mpr (noSheet_iff.mp b)) a
  · intro a
    by_cases d : p2_isSheet k = 0
    · exact d
    · exact absurd (noSheet_iff.mpr (isSheet_iff.mp d)) a
theorem isLane_iff {k : Int32} : (¬ p2_isLane k = 0) ↔ 0 ≤ k.toInt ∧ k.toInt ≤ 2 := by
  have t9 : (2 : Int32).toInt = 2 := by decide
  unfold p2_isLane
  by_cases c1 : k < 0
  · rw [if_pos c1]
    have := q_lt.mp c1
    rw [q_0] at this
    exact ⟨fun q => absurd rfl q, fun q => by omega⟩
  · rw [if_neg c1]
    have h1 := nn' c1
    by_cases c2 : 2 < k
    · rw [if_pos c2]
      have := q_lt.mp c2
      rw [t9] at this
      exact ⟨fun q => absurd rfl q, fun q => by omega⟩
    · rw [if_neg c2]
      have h2 : ¬ (2 : Int32).toInt < k.toInt := fun q => c2 (q_lt.mpr q)
      rw [t9] at h2
      exact ⟨fun _ => ⟨h1, by omega⟩, fun _ => by decide⟩
theorem lane_no {k : Int32} : p2_isLane k = 0 ↔ p5_in k.toInt64 0 2 = 0 := by
  have e : (¬ p5_in k.toInt64 0 2 = 0) ↔ 0 ≤ k.toInt ∧ k.toInt ≤ 2 := by
    rw [in_iff, w_toInt, l_0, show (2 : Int64).toInt = 2 by decide]
  constructor
  · intro a
    by_cases d : p5_in k.toInt64 0 2 = 0
    · exact d
    · exact absurd a (isLane_iff.mpr (e.mp d))
  · intro a
    by_cases d : p2_isLane k = 0
    · exact d
    · exact absurd a (e.mpr (isLane_iff.mp d))
/-- what a worth is of -/
theorem worth_eq {K : Nat → Int32} {h a b : Int32} (hk : kinds3 (K h.toNatClampNeg)) : p5_worthTo K h a b = p0_worth (K h.toNatClampNeg) (a + b) := by
  unfold p5_worthTo p0_worth
  rcases hk with e | e | e <;> rw [e]
  · rw [if_pos rfl, if_pos rfl]
  · rw [if_neg (by decide), if_pos rfl, if_neg (by decide), if_neg (by decide)]
  · rw [if_neg (by decide), if_neg (by decide), if_neg (by decide), if_pos rfl]
def bd (F : Nat → Int32) : Prop := ∀ j : Nat, 0 ≤ (F j).toInt ∧ (F j).toInt ≤ 100000
theorem left_eq {x y c : Int32} (hx : 0 ≤ x.toInt ∧ x.toInt ≤ 100000) (hy : 0 ≤ y.toInt ∧ y.toInt ≤ 100000) (hc : 0 ≤ c.toInt ∧ c.toInt ≤ 9) :
    (p5_coinLeft y c).toInt = (if c.toInt ≤ y.toInt then y.toInt - c.toInt else 0) ∧ (p5_landLeft x y c).toInt = (if c.toInt ≤ y.toInt then x.toInt else if c.toInt - y.toInt ≤ x.toInt then x.toInt - (c.toInt - y.toInt) else 0) := by
  unfold p5_coinLeft p5_landLeft
  by_cases c1 : c ≤ y
  · have h1 := q_le.mp c1
    have c2 : 0 ≤ x := q_le.mpr (by rw [q_0]; exact hx.1)
    rw [if_pos c1, if_pos c1, if_pos c2, if_pos h1, if_pos h1, Int32.sub_zero]
    exact ⟨q_sub (by omega) (by omega), rfl⟩
  · have h1 : ¬ c.toInt ≤ y.toInt := fun q => c1 (q_le.mpr q)
    rw [if_neg c1, if_neg c1, if_neg h1, if_neg h1]
    refine ⟨q_0, ?_⟩
    have e : (c - y).toInt = c.toInt - y.toInt := q_sub (by omega) (by omega)
    by_cases c3 : c - y ≤ x
    · have h3 := q_le.mp c3
      rw [e] at h3
      rw [if_pos c3, if_pos h3, q_sub (by rw [e]; omega) (by rw [e]; omega), e]
    · have h3 : ¬ c.toInt - y.toInt ≤ x.toInt := fun q => c3 (q_le.mpr (by rw [e]; exact q))
      rw [if_neg c3, if_neg h3, q_0]
theorem wpaid_eq {L C : Nat → Int32} {h c : Int32} (hL : bd L) (hC : bd C) (hc : 0 ≤ c.toInt ∧ c.toInt ≤ 9) : p5_landLeft (L h.toNatClampNeg) (C h.toNatClampNeg) c + p5_coinLeft (C h.toNatClampNeg) c = p0_wealthWhenPaid L C h c := by
  unfold p0_wealthWhenPaid
  have hx := hL h.toNatClampNeg
  have hy := hC h.toNatClampNeg
  generalize L h.toNatClampNeg = x at *
  generalize C h.toNatClampNeg = y at *
  obtain ⟨e1, e2⟩ := left_eq hx hy hc
  have s : (x + y).toInt = x.toInt + y.toInt := q_add (by omega) (by omega)
  have d : (x + y - c).toInt = x.toInt + y.toInt - c.toInt := by rw [q_sub (by rw [s]; omega) (by rw [s]; omega), s]
  rw [q_eq]
  by_cases c1 : x + y - c ≤ 0
  · have h1 := q_le.mp c1
    rw [d, q_0] at h1
    rw [if_pos c1, q_0]
    by_cases z : c.toInt ≤ y.toInt
    · rw [if_pos z] at e1 e2
      rw [q_add (by omega) (by omega)]; omega
    · rw [if_neg z] at e1 e2
      by_cases z2 : c.toInt - y.toInt ≤ x.toInt
      · rw [if_pos z2] at e2
        rw [q_add (by omega) (by omega)]; omega
      · rw [if_neg z2] at e2
        rw [q_add (by omega) (by omega)]; omega
  · have h1 : ¬ x.toInt + y.toInt - c.toInt ≤ 0 := fun q => c1 (q_le.mpr (by rw [d, q_0]; exact q))
    rw [if_neg c1, d]
    by_cases z : c.toInt ≤ y.toInt
    · rw [if_pos z] at e1 e2
      rw [q_add (by omega) (by omega)]; omega
    · rw [if_neg z] at e1 e2
      by_cases z2 : c.toInt - y.toInt ≤ x.toInt
      · rw [if_pos z2] at e2
        rw [q_add (by omega) (by omega)]; omega
      · omega
theorem pay_eq {L C : Nat → Int32} {h c : Int32} (hx : 0 ≤ (L h.toNatClampNeg).toInt ∧ (L h.toNatClampNeg).toInt ≤ 100000) (hy : 0 ≤ (C h.toNatClampNeg).toInt ∧ (C h.toNatClampNeg).toInt ≤ 100000) (hc : 0 ≤ c.toInt ∧ c.toInt ≤ 9) : p5_pay L C h c = p0_pay L C h c := by
  unfold p5_pay p0_pay
  obtain ⟨e1, e2⟩ := left_eq hx hy hc
  generalize L h.toNatClampNeg = x at *
  generalize C h.toNatClampNeg = y at *
  have d : (y - c).toInt = y.toInt - c.toInt := q_sub (by omega) (by omega)
  have d2 : (c - y).toInt = c.toInt - y.toInt := q_sub (by omega) (by omega)
  have k1 : p5_coinLeft y c = if 0 < y - c then y - c else 0 := by
    rw [q_eq, e1]
    by_cases z : 0 < y - c
    · have h1 := q_lt.mp z
      rw [d, q_0] at h1
      rw [if_pos z, if_pos (by omega), d]
    · have h1 : ¬ 0 < y.toInt - c.toInt := fun q => z (q_lt.mpr (by rw [d, q_0]; exact q))
      rw [if_neg z, q_0]
      by_cases z2 : c.toInt ≤ y.toInt
      · rw [if_pos z2]; omega
      · rw [if_neg z2]
  have k2 : p5_landLeft x y c = if 0 < x - (if 0 < c - y then c - y else 0) then x - (if 0 < c - y then c - y else 0) else 0 := by
    rw [q_eq, e2]
    by_cases z : 0 < c - y
    · have h1 := q_lt.mp z
      rw [d2, q_0] at h1
      rw [if_pos z, if_neg (by omega)]
      have d3 : (x - (c - y)).toInt = x.toInt - (c.toInt - y.toInt) := by rw [q_sub (by rw [d2]; omega) (by rw [d2]; omega), d2]
      by_cases z2 : 0 < x - (c - y)
      · have h2 := q_lt.mp z2
        rw [d3, q_0] at h2
        rw [if_pos z2, if_pos (by omega), d3]
      · have h2 : ¬ 0 < x.toInt - (c.toInt - y.toInt) := fun q => z2 (q_lt.mpr (by rw [d3, q_0]; exact q))
        rw [if_neg z2, q_0]
        by_cases z3 : c.toInt - y.toInt ≤ x.toInt
        · rw [if_pos z3]; omega
        · rw [if_neg z3]
    · have h1 : ¬ 0 < c.toInt - y.toInt := fun q => z (q_lt.mpr (by rw [d2, q_0]; exact q))
      rw [if_neg z, if_pos (by omega), Int32.sub_zero]
      by_cases z2 : 0 < x
      · rw [if_pos z2]
      · have h2 : ¬ 0 < x.toInt := fun q => z2 (q_lt.mpr (by rw [q_0]; exact q))
        rw [if_neg z2, q_0]; omega
  rw [k1, k2]
section PUR
variable {K L C : Nat → Int32} {N : Int32}
theorem worthOf_eq (hK : ∀ j : Nat, kinds3 (K j)) (h : Int32) : p5_worthOf K L C h = p0_worthOf K L C h := worth_eq (hK _)
theorem paidw_eq (hK : ∀ j : Nat, kinds3 (K j)) (hL : bd L) (hC : bd C) {c : Int32} (hc : 0 ≤ c.toInt ∧ c.toInt ≤ 9) (a b : Int32) : p5_worthPaid K L C a b c = p0_worth (K a.toNatClampNeg) (p0_wealthWhenPaid L C b c) := by
  unfold p5_worthPaid
  rw [worth_eq (hK _), wpaid_eq hL hC hc]
theorem change_eq (hK : ∀ j : Nat, kinds3 (K j)) (hL : bd L) (hC : bd C) {c : Int32} (hc : 0 ≤ c.toInt ∧ c.toInt ≤ 9) {a b : Int32} (h : ¬ a = b) : p5_doesChange K L C a b c = p0_changes K L C a b c := by
  unfold p5_doesChange p0_changes
  rw [if_neg h, worth_eq (hK _), paidw_eq hK hL hC hc]
  rfl
theorem by_eq (hK : ∀ j : Nat, kinds3 (K j)) (hL : bd L) (hC : bd C) {c : Int32} (hc : 0 ≤ c.toInt ∧ c.toInt ≤ 9) (a b : Int32) : p5_worthBy K L C a b c = p0_worthAtEnd K L C a b c := by
  unfold p5_worthBy p0_worthAtEnd
  by_cases h : a = b
  · rw [if_pos h, if_pos h, paidw_eq hK hL hC hc, h]
  · rw [if_neg h, if_neg h, change_eq hK hL hC hc h, paidw_eq hK hL hC hc, worthOf_eq hK]
    rfl
theorem changes_self (a c : Int32) : p0_changes K L C a a c = 0 := by unfold p0_changes; rw [if_pos rfl]
theorem payer_eq (hK : ∀ j : Nat, kinds3 (K j)) (hL : bd L) (hC : bd C) {c : Int32} (hc : 0 ≤ c.toInt ∧ c.toInt ≤ 9) (a b : Int32) : p5_payerOf K L C a b c = p0_payer K L C a b c := by
  unfold p5_payerOf p0_payer
  by_cases h : a = b
  · rw [if_pos h, h, changes_self, if_pos rfl]
  · rw [if_neg h, change_eq hK hL hC hc h]
theorem richest_eq (hK : ∀ j : Nat, kinds3 (K j)) : p5_richest N K L C = p0_richest N K L C := by
  have key : ∀ (n : Nat) (a b : Int32), p5_richest_l4 N K L C n a b = p0_richest_l4 N K L C n a b := by
    intro n
    induction n with
    | zero => intro _ _; rfl
    | succ n ih =>
      intro a b
      rw [p5_richest_l4_s, p0_richest_l4_s, worthOf_eq hK, worthOf_eq hK, ih, ih]
  exact key 7 0 1
theorem fair_eq (hK : ∀ j : Nat, kinds3 (K j)) (hL : bd L) (hC : bd C) {c : Int32} (hc : 0 ≤ c.toInt ∧ c.toInt ≤ 9) (a b : Int32) : p5_isFair N K L C a b c = p0_isFair N K L C a b c := by
  unfold p5_isFair p0_isFair
  rw [payer_eq hK hL hC hc, richest_eq hK]
theorem may_eq (a b : Int32) : p5_mayPoint L a b = p0_mayPoint L a b := rfl
theorem may_self (a : Int32) : p0_mayPoint L a a = 0 := by unfold p0_mayPoint; rw [if_pos (Int32.le_refl _)]
theorem choice_eq (hK : ∀ j : Nat, kinds3 (K j)) (hL : bd L) (hC : bd C) {c : Int32} (hc : 0 ≤ c.toInt ∧ c.toInt ≤ 9) (a : Int32) : p5_choiceOf N K L C a c = p0_chosenBy N K L C a c := by
  have key : ∀ (n : Nat) (v w : Int32), p5_choiceOf_l5 N K L C a c n v w = p0_chosenBy_l14 N K L C a c n v (p0_worthAtEnd K L C a v c) w := by
    intro n
    induction n with
    | zero => intro _ _; rfl
    | succ n ih =>
      intro v w
      rw [p5_choiceOf_l5_s, p0_chosenBy_l14_s, ih, ih, by_eq hK hL hC hc, by_eq hK hL hC hc, may_eq]
      by_cases c1 : N ≤ w
      · rw [if_pos c1, if_pos c1]
      · rw [if_neg c1, if_neg c1]
        by_cases c2 : w = a
        · rw [if_pos c2, c2, may_self, if_pos rfl]
        · rw [if_neg c2]
  exact key 7 a 0
theorem all_eq (hK : ∀ j : Nat, kinds3 (K j)) : p5_worthOfAll N K L C = p0_worthOfAll N K L C := by
  have key : ∀ (n : Nat) (a b : Int32), p5_worthOfAll_l4 N K L C n a b = p0_worthOfAll_l4 N K L C n a b := by
    intro n
    induction n with
    | zero => intro _ _; rfl
    | succ n ih =>
      intro a b
      rw [p5_worthOfAll_l4_s, p0_worthOfAll_l4_s, worthOf_eq hK, ih]
  exact key 7 0 0
theorem sum_L : p5_sumOf N L C 1 = p0_sum N L := by
  have key : ∀ (n : Nat) (a b : Int32), p5_sumOf_l4 N L C 1 n a b = p0_sum_l4 N L n a b := by
    intro n
    induction n with
    | zero => intro _ _; rfl
    | succ n ih =>
      intro a b
      rw [p5_sumOf_l4_s, p0_sum_l4_s, if_neg (show ¬ (1 : Int32) = 0 by decide), ih]
  exact key 7 0 0
theorem sum_C : p5_sumOf N L C 0 = p0_sum N C := by
  have key : ∀ (n : Nat) (a b : Int32), p5_sumOf_l4 N L C 0 n a b = p0_sum_l4 N C n a b := by
    intro n
    induction n with
    | zero => intro _ _; rfl
    | succ n ih =>
      intro a b
      rw [p5_sumOf_l4_s, p0_sum_l4_s, if_pos (show (0 : Int32) = 0 from rfl), ih]
  exact key 7 0 0
theorem pointed_eq (hK : ∀ j : Nat, kinds3 (K j)) (hL : bd L) (hC : bd C) {c : Int32} (hc : 0 ≤ c.toInt ∧ c.toInt ≤ 9) (hN : N.toInt ≤ 6) (h : Int32) : p5_isPointedAt N K L C h c = p0_isPointedAt N K L C h c := by
  have one : ∀ (n : Nat) (w : Int32), up w N n → p5_isPointedAt_l5 N K L C h c n 1 w = 1 := by
    intro n
    induction n with
    | zero => intro _ hu; exact absurd hu up_no
    | succ n ih =>
      intro w hu
      rw [p5_isPointedAt_l5_s]
      by_cases c1 : N ≤ w
      · rw [if_pos c1]
      · rw [if_neg c1, if_neg (show ¬ (1 : Int32) = 0 by decide)]; exact ih _ (up_s hu c1)
  have key : ∀ (n : Nat) (w : Int32), up w N n → p5_isPointedAt_l5 N K L C h c n 0 w = p0_isPointedAt_l2 N K L C h c n w := by
    intro n
    induction n with
    | zero => intro _ hu; exact absurd hu up_no
    | succ n ih =>
      intro w hu
      rw [p5_isPointedAt_l5_s, p0_isPointedAt_l2_s, choice_eq hK hL hC hc]
      by_cases c1 : N ≤ w
      · rw [if_pos c1, if_pos c1]
      · rw [if_neg c1, if_neg c1, if_pos (show (0 : Int32) = 0 from rfl), ih _ (up_s hu c1), one _ _ (up_s hu c1)]
  exact key 7 0 (up_i 6 (by decide) hN)
theorem so_eq (hK : ∀ j : Nat, kinds3 (K j)) (hL : bd L) (hC : bd C) {GK : Int32} {GN GC GH : Nat → Int32} (hG : GK.toInt ≤ 8) (hcs : ∀ j : Nat, (j : Int) < GK.toInt → 0 ≤ (GC j).toInt ∧ (GC j).toInt ≤ 9) : p5_areSo N GK K L C GN GC GH = p1_holdIn GK GN GC GH N K L C := by
  have zero : ∀ (n : Nat) (w : Int32), up w GK n → p5_areSo_l4 N GK K L C GN GC GH n 0 w = 0 := by
    intro n
    induction n with
    | zero => intro _ hu; exact absurd hu up_no
    | succ n ih =>
      intro w hu
      rw [p5_areSo_l4_s]
      by_cases c1 : GK ≤ w
      · rw [if_pos c1]
      · rw [if_neg c1, if_pos (show (0 : Int32) = 0 from rfl)]; exact ih _ (up_s hu c1)
  have key : ∀ (n : Nat) (w : Int32), up w GK n → p5_areSo_l4 N GK K L C GN GC GH n 1 w = p1_holdIn_l2 GK GN GC GH N K L C n w := by
    intro n
    induction n with
    | zero => intro _ hu; exact absurd hu up_no
    | succ n ih =>
      intro w hu
      rw [p5_areSo_l4_s, p1_holdIn_l2_s]
      by_cases c1 : GK ≤ w
      · rw [if_pos c1, if_pos c1]
      · rw [if_neg c1, if_neg c1, if_neg (show ¬ (1 : Int32) = 0 by decide), choice_eq hK hL hC (hcs _ (up_ix hu c1)), ih _ (up_s hu c1), zero _ _ (up_s hu c1)]
  exact key 9 0 (up_i 8 (by decide) hG)
end PUR
theorem bd_upd {F : Nat → Int32} (h : bd F) {k : Nat} {x : Int32} (hx : 0 ≤ x.toInt ∧ x.toInt ≤ 100000) : bd (upd F k x) := by
  intro j
  by_cases e : j = k
  · rw [e, pk_us]; exact hx
  · rw [pk_un e]; exact h j
/-- a pair of a year, carried out -/
theorem goPair_all {K L C PY : Nat → Int32} {N ch fr c a b : Int32} (hK : ∀ j : Nat, kinds3 (K j)) (hL : bd L) (hC : bd C) (hc : 0 ≤ c.toInt ∧ c.toInt ≤ 9) :
    p5_goPair N ch fr K L C PY a b c = (p0_payer K L C a b c, (if p0_changes K L C a b c = 0 then ch else ch + 1), (if p0_isFair N K L C a b c = 0 then fr else fr + 1), (p0_carryOut K L C a b c).1, (p0_carryOut K L C a b c).2, upd PY (p0_payer K L C a b c).toNatClampNeg (PY (p0_payer K L C a b c).toNatClampNeg + 1)) := by
  have ex : p5_pay (upd (upd L a.toNatClampNeg (L b.toNatClampNeg)) b.toNatClampNeg (L a.toNatClampNeg)) (upd (upd C a.toNatClampNeg (C b.toNatClampNeg)) b.toNatClampNeg (C a.toNatClampNeg)) a c = p0_pay (p0_exchange L C a b).1 (p0_exchange L C a b).2 a c :=
    pay_eq (bd_upd (bd_upd hL (hL _)) (hL _) _) (bd_upd (bd_upd hC (hC _)) (hC _) _) hc
  have pb : ∀ h : Int32, p5_pay L C h c = p0_pay L C h c := fun h => pay_eq (hL _) (hC _) hc
  have fz : p0_isFair N K L C a b c = (if p0_payer K L C a b c = p0_richest N K L C then 1 else 0) := rfl
  have cz : p0_payer K L C a b c = (if p0_changes K L C a b c = 0 then b else a) := rfl
  have co : p0_carryOut K L C a b c = (if p0_changes K L C a b c = 0 then ((p0_pay L C b c).1, (p0_pay L C b c).2) else ((p0_pay (p0_exchange L C a b).1 (p0_exchange L C a b).2 a c).1, (p0_pay (p0_exchange L C a b).1 (p0_exchange L C a b).2 a c).2)) := rfl
  unfold p5_goPair
  rw [payer_eq hK hL hC hc, richest_eq hK, fz]
  by_cases hch : p0_changes K L C a b c = 0
  · have e1 : p0_payer K L C a b c = b := by rw [cz, if_pos hch]
    rw [co, if_pos hch, if_pos hch, e1, pb b]
    by_cases hf : b = p0_richest N K L C
    · rw [if_pos hf, if_pos hf, if_neg (show ¬ (1 : Int32) = 0 by decide)]
      by_cases hab : a = b
      · rw [if_pos hab]
      · rw [if_neg hab, if_neg (fun q => hab q.symm)]
    · rw [if_neg hf, if_neg hf, if_pos (show (0 : Int32) = 0 from rfl), p0i]
      by_cases hab : a = b
      · rw [if_pos hab]
      · rw [if_neg hab, if_neg (fun q => hab q.symm)]
  · have e1 : p0_payer K L C a b c = a := by rw [cz, if_neg hch]
    have hab : ¬ a = b := fun q => hch (by rw [q]; exact changes_self b c)
    rw [co, if_neg hch, if_neg hch, e1, if_neg hab, if_neg hab, if_pos rfl, if_pos rfl, ex]
    by_cases hf : a = p0_richest N K L C
    · rw [if_pos hf, if_pos hf, if_neg (show ¬ (1 : Int32) = 0 by decide)]
    · rw [if_neg hf, if_neg hf, if_pos (show (0 : Int32) = 0 from rfl), p0i]
section INV2
variable {t : Nat} {N : Int32} {K L C : Nat → Int32} {GK : Int32} {GN GC : Nat → Int32} {M : Nat → Nat → Int32} {LA LE SZ LN SH : Nat → Int32}
theorem Inv.bL (h : Inv t N K L C GK GN GC M LA LE SZ LN SH) : bd L := fun j => ⟨(h.L0 j).1, by have := (h.L0 j).2; omega⟩
theorem Inv.bC (h : Inv t N K L C GK GN GC M LA LE SZ LN SH) (ht : t ≤ 63) : bd C := fun j => ⟨(h.C0 j).1, by have := (h.C0 j).2; omega⟩
theorem Inv.setN (h : Inv t N K L C GK GN GC M LA LE SZ LN SH) {N' : Int32} (hn : 0 ≤ N'.toInt ∧ N'.toInt ≤ 6) : Inv t N' K L C GK GN GC M LA LE SZ LN SH := ⟨hn, h.2⟩
theorem Inv.setLC (h : Inv t N K L C GK GN GC M LA LE SZ LN SH) {L' C' : Nat → Int32} (hl : ∀ j : Nat, 0 ≤ (L' j).toInt ∧ (L' j).toInt ≤ 18) (hc : ∀ j : Nat, 0 ≤ (C' j).toInt ∧ (C' j).toInt ≤ 18 * (((t + 1 : Nat) : Int) + 1)) : Inv (t + 1) N K L' C' GK GN GC M LA LE SZ LN SH :=
  ⟨h.1, h.K3, hl, hc, h.G08, h.GA, h.LE60, h.SZ60, h.SR⟩
end INV2
theorem has_yes {N h : Int32} (c : ¬ p0_has N h = 0) : p5_noHouse N h = 0 := noHouse_iff.mpr (has_iff.mp c)
theorem cost_yes {h : Int32} (c : ¬ p4_isCost h = 0) : p5_noCost h = 0 := noCost_iff.mpr (isCost_iff.mp c)
theorem sheet_yes {h : Int32} (c : ¬ p2_isSheet h = 0) : p5_noSheet h = 0 := noSheet_iff.mpr (isSheet_iff.mp c)
theorem upd_self (f : Nat → Int32) (k : Nat) : upd f k (f k) = f := by
  funext j
  by_cases e : j = k
  · rw [e, pk_us]
  · rw [pk_un e]
theorem upd_upd (f : Nat → Int32) (k : Nat) (x y : Int32) : upd (upd f k x) k y = upd f k y := by
  funext j
  by_cases e : j = k
  · rw [e, pk_us, pk_us]
  · rw [pk_un e, pk_un e, pk_un e]
theorem upd_off {f g : Nat → Int32} {k : Nat} (h : ∀ j, j ≠ k → f j = g j) (x : Int32) : upd f k x = upd g k x := by
  funext j
  by_cases e : j = k
  · rw [e, pk_us, pk_us]
  · rw [pk_un e, pk_un e]; exact h j e
theorem all_upd {P : Int32 → Prop} {f : Nat → Int32} {k : Nat} {x : Int32} (h : ∀ j : Nat, P (f j)) (hx : P x) : ∀ j : Nat, P (upd f k x j) := by
  intro j
  by_cases e : j = k
  · rw [e, pk_us]; exact hx
  · rw [pk_un e]; exact h j
theorem cpy6 {f g : Nat → Int32} (hf : Z6 f) (hg : Z6 g) : va_cpy f g (0 : Int32).toNatClampNeg (0 : Int32).toNatClampNeg (6 : Int32).toNatClampNeg = f := by
  funext j
  have e0 : (0 : Int32).toNatClampNeg = 0 := by decide
  have e6 : (6 : Int32).toNatClampNeg = 6 := by decide
  rw [e0, e6]
  by_cases h : j < 6
  · rw [pk_cpy_in (by omega) (by omega)]; congr 1; omega
  · rw [pk_cpy_out (by omega), hf j (by omega), hg j (by omega)]
theorem like_eq {N2 N : Int32} {K2 L2 C2 K L C : Nat → Int32} (h : Z6 K ∧ Z6 L ∧ Z6 C) (h2 : Z6 K2 ∧ Z6 L2 ∧ Z6 C2) : p0_likeThat N2 K2 L2 C2 N K L C = (N, K, L, C) := by
  unfold p0_likeThat
  rw [cpy6 h.1 h2.1, cpy6 h.2.1 h2.2.1, cpy6 h.2.2 h2.2.2]
/-- what paying leaves is no more than what was there -/
theorem pay_bd {L C : Nat → Int32} {h c : Int32} {A B : Int} (hL : ∀ j : Nat, 0 ≤ (L j).toInt ∧ (L j).toInt ≤ A) (hC : ∀ j : Nat, 0 ≤ (C j).toInt ∧ (C j).toInt ≤ B) (hA : A ≤ 100000) (hB : B ≤ 100000) (hc : 0 ≤ c.toInt ∧ c.toInt ≤ 9) : (∀ j : Nat, 0 ≤ ((p0_pay L C h c).1 j).toInt ∧ ((p0_pay L C h c).1 j).toInt ≤ A) ∧ (∀ j : Nat, 0 ≤ ((p0_pay L C h c).2 j).toInt ∧ ((p0_pay L C h c).2 j).toInt ≤ B) := by
  have hx := hL h.toNatClampNeg
  have hy := hC h.toNatClampNeg
  rw [← pay_eq (L := L) (C := C) (h := h) ⟨hx.1, by omega⟩ ⟨hy.1, by omega⟩ hc]
  obtain ⟨e1, e2⟩ := left_eq (x := L h.toNatClampNeg) (y := C h.toNatClampNeg) (c := c) ⟨hx.1, by omega⟩ ⟨hy.1, by omega⟩ hc
  refine ⟨all_upd (P := fun x => 0 ≤ x.toInt ∧ x.toInt ≤ A) hL ?_, all_upd (P := fun x => 0 ≤ x.toInt ∧ x.toInt ≤ B) hC ?_⟩
  · show 0 ≤ (p5_landLeft _ _ _).toInt ∧ (p5_landLeft _ _ _).toInt ≤ A
    rw [e2]
    split
    · exact hx
    · split
      · omega
      · omega
  · show 0 ≤ (p5_coinLeft _ _).toInt ∧ (p5_coinLeft _ _).toInt ≤ B
    rw [e1]
    split
    · omega
    · omega
theorem carry_bd {K L C : Nat → Int32} {a b c : Int32} {A B : Int} (hL : ∀ j : Nat, 0 ≤ (L j).toInt ∧ (L j).toInt ≤ A) (hC : ∀ j : Nat, 0 ≤ (C j).toInt ∧ (C j).toInt ≤ B) (hA : A ≤ 100000) (hB : B ≤ 100000) (hc : 0 ≤ c.toInt ∧ c.toInt ≤ 9) : (∀ j : Nat, 0 ≤ ((p0_carryOut K L C a b c).1 j).toInt ∧ ((p0_carryOut K L C a b c).1 j).toInt ≤ A) ∧ (∀ j : Nat, 0 ≤ ((p0_carryOut K L C a b c).2 j).toInt ∧ ((p0_carryOut K L C a b c).2 j).toInt ≤ B) := by
  unfold p0_carryOut
  by_cases h : p0_changes K L C a b c = 0
  · rw [if_pos h]
    exact pay_bd hL hC hA hB hc
  · rw [if_neg h]
    exact pay_bd (all_upd (P := fun x => 0 ≤ x.toInt ∧ x.toInt ≤ A) (all_upd (P := fun x => 0 ≤ x.toInt ∧ x.toInt ≤ A) hL (hL _)) (hL _)) (all_upd (P := fun x => 0 ≤ x.toInt ∧ x.toInt ≤ B) (all_upd (P := fun x => 0 ≤ x.toInt ∧ x.toInt ≤ B) hC (hC _)) (hC _)) hA hB hc
theorem le_c {x : Int32} (n : Nat) (hn : n < 2147483648 := by decide) : x ≤ nI n ↔ x.toInt ≤ n := by
  rw [q_le, nI_toInt (by omega)]
theorem in_i {x : Int32} {a b : Int64} {A B : Int} (ha : a.toInt = A) (hb : b.toInt = B) : (¬ p5_in x.toInt64 a b = 0) ↔ A ≤ x.toInt ∧ x.toInt ≤ B := by
  rw [in_iff, w_toInt, ha, hb]
theorem in_no {x : Int32} {a b : Int64} {A B : Int} (ha : a.toInt = A) (hb : b.toInt = B) (h : ¬ (A ≤ x.toInt ∧ x.toInt ≤ B)) : p5_in x.toInt64 a b = 0 := by
  rcases iz (p5_in x.toInt64 a b) with q | q
  · exact q
  · exact absurd ((in_i ha hb).mp q) h
theorem ne_of {x y : Int32} (h : ¬ x.toInt = y.toInt) : ¬ x = y := fun q => h (q_eq.mp q)
theorem or0 (x : Int32) : x ||| 0 = x := Int32.or_zero
theorem gcd_up : ∀ k, k < 7 → ∀ m, m < 7 → 0 < m → (nI k / p4_commonPart (nI k) (nI m)).toInt64 = p5_share (nI k).toInt64 (nI m).toInt64 0 := by decide +kernel
theorem gcd_dn : ∀ k, k < 7 → ∀ m, m < 7 → 0 < m → (nI m / p4_commonPart (nI k) (nI m)).toInt64 = p5_share (nI k).toInt64 (nI m).toInt64 1 := by decide +kernel
theorem as_nI {x : Int32} (h : 0 ≤ x.toInt) {n : Nat} (hn : x.toInt < n) (hb : n ≤ 1000) : ∃ k, k < n ∧ x = nI k := vp_in_of (vi_c ⟨h, hn⟩) (by omega)
theorem odds_eq {K L C : Nat → Int32} {N c w : Int32} (hK : ∀ j : Nat, kinds3 (K j)) (hL : bd L) (hC : bd C) (hc : 0 ≤ c.toInt ∧ c.toInt ≤ 9) (hN : 0 < N.toInt ∧ N.toInt ≤ 6) (hw : w = 0 ∨ w = 1) : p4_odds_l35 N K L C c w 7 0 0 = p5_odds_l33 N K L C c w 7 0 0 := by
  have key : ∀ (n : Nat) (v x : Int32), up x N n → 0 ≤ v.toInt → v.toInt ≤ x.toInt → x.toInt ≤ N.toInt → p4_odds_l35 N K L C c w n v x = p5_odds_l33 N K L C c w n v.toInt64 x := by
    intro n
    induction n with
    | zero => intro _ _ hu; exact absurd hu up_no
    | succ n ih =>
      intro v x hu h0 h1 h2
      rw [p4_odds_l35_s, p5_odds_l33_s, choice_eq hK hL hC hc, fair_eq hK hL hC hc]
      by_cases c1 : N ≤ x
      · rw [if_pos c1, if_pos c1]
        obtain ⟨k, hk, ek⟩ := as_nI h0 (n := 7) (by omega) (by omega)
        obtain ⟨m, hm, em⟩ := as_nI (x := N) (by omega) (n := 7) (by omega) (by omega)
        have hm0 : 0 < m := by
          have := hN.1
          rw [em, nI_toInt (by omega)] at this
          omega
        rw [ek, em]
        rcases hw with e | e
        · rw [e, if_pos rfl]; exact gcd_up k hk m hm hm0
        · rw [e, if_neg (show ¬ (1 : Int32) = 0 by decide)]; exact gcd_dn k hk m hm hm0
      · rw [if_neg c1, if_neg c1]
        have h3 : ¬ N.toInt ≤ x.toInt := fun q => c1 (q_le.mpr q)
        have ex := p1i hu.1 (show x.toInt ≤ 1000 by omega)
        have ev := p1i h0 (show v.toInt ≤ 1000 by omega)
        have e1 : (v + 1).toInt64 = v.toInt64 + 1 := by
          rw [l_eq, w_toInt, ev, l_add (by rw [w_toInt, l_1]; omega) (by rw [w_toInt, l_1]; omega), w_toInt, l_1]
        have e0 : v.toInt64 + 0 = v.toInt64 := Int64.add_zero _
        rw [ih v (x + 1) (up_s hu c1) h0 (by omega) (by omega), ih (v + 1) (x + 1) (up_s hu c1) (by omega) (by omega) (by omega), e1, e0]
  exact key 7 0 0 (up_i 6 (by decide) hN.2) (by decide) (by decide) (by rw [q_0]; omega)

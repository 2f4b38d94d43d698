/-! one house of the text as the reference reads it -/
theorem readsHouse_facts {a h i n : Int32} {RK RL RC SH : Nat → Int32} (ha : 0 ≤ a.toInt ∧ a.toInt ≤ 100) (hh : 0 ≤ h.toInt ∧ h.toInt ≤ 6) :
    ((p5_readsHouse a h RK RL RC SH i n).1 = 0 ∧ a.toInt ≤ (p5_readsHouse a h RK RL RC SH i n).2.1.toInt ∧ (p5_readsHouse a h RK RL RC SH i n).2.1.toInt ≤ a.toInt + 4 ∧ (p5_readsHouse a h RK RL RC SH i n).2.2.1 = h) ∨
    ((p5_readsHouse a h RK RL RC SH i n).1 = 1 ∧ (p5_readsHouse a h RK RL RC SH i n).2.1.toInt = a.toInt + 4 ∧ (p5_readsHouse a h RK RL RC SH i n).2.2.1 = h + 1 ∧ ¬ h = 6) := by
  have e1 := p1i ha.1 (show a.toInt ≤ 1000 by omega)
  have e2 := ra2e ha
  have F1 := figure_2 (x := (a + 1) + 1) (i := i) (n := n) (SH := SH) (by omega) (by omega)
  have F2 : ∀ y : Int32, y.toInt = a.toInt + 3 → _ := fun y hy => figure_2 (x := y) (i := i) (n := n) (SH := SH) (by omega) (by omega)
  have neg9 : ¬ (0 : Int32) ≤ -9 := by decide
  have k : ∀ (R1 R2 R3 : Nat → Int32) (kk : Int32),
      (let T := (if 0 ≤ (p5_figure ((a + 1) + 1) SH i n).1 then
          if 0 ≤ (p5_figure (p5_figure ((a + 1) + 1) SH i n).2 SH i n).1 then
            ((1 : Int32), (p5_figure (p5_figure ((a + 1) + 1) SH i n).2 SH i n).2, h + 1, upd RK h.toNatClampNeg kk, upd RL h.toNatClampNeg (p5_figure ((a + 1) + 1) SH i n).1, upd RC h.toNatClampNeg (p5_figure (p5_figure ((a + 1) + 1) SH i n).2 SH i n).1)
          else (0, (p5_figure (p5_figure ((a + 1) + 1) SH i n).2 SH i n).2, h, RK, RL, RC)
        else (0, (p5_figure ((a + 1) + 1) SH i n).2, h, RK, RL, RC) : Int32 × Int32 × Int32 × (Nat → Int32) × (Nat → Int32) × (Nat → Int32))
       (T.1 = 0 ∧ a.toInt ≤ T.2.1.toInt ∧ T.2.1.toInt ≤ a.toInt + 4 ∧ T.2.2.1 = h) ∨ (T.1 = 1 ∧ T.2.1.toInt = a.toInt + 4 ∧ T.2.2.1 = h + 1)) := by
    intro _ _ _ kk
    rcases F1 with ⟨f1, f2⟩ | ⟨f1, f1b, _, f2⟩
    · rw [f1, if_neg neg9, f2]
      exact Or.inl ⟨rfl, by show a.toInt ≤ ((a + 1) + 1).toInt; omega, by show ((a + 1) + 1).toInt ≤ _; omega, rfl⟩
    · have g1 : 0 ≤ (p5_figure ((a + 1) + 1) SH i n).1 := q_le.mpr (by rw [q_0]; exact f1)
      rw [if_pos g1, f2]
      have e3 : (((a + 1) + 1) + 1).toInt = a.toInt + 3 := by rw [p1i (by omega) (by omega), e2]; omega
      rcases F2 _ e3 with ⟨f3, f4⟩ | ⟨f3, f3b, _, f4⟩
      · rw [f3, if_neg neg9, f4]
        exact Or.inl ⟨rfl, by show a.toInt ≤ (((a + 1) + 1) + 1).toInt; omega, by show (((a + 1) + 1) + 1).toInt ≤ _; omega, rfl⟩
      · have g2 : 0 ≤ (p5_figure (((a + 1) + 1) + 1) SH i n).1 := q_le.mpr (by rw [q_0]; exact f3)
        rw [if_pos g2, f4]
        exact Or.inr ⟨rfl, by show ((((a + 1) + 1) + 1) + 1).toInt = _; rw [p1i (by omega) (by omega), e3]; omega, rfl⟩
  unfold p5_readsHouse
  by_cases c0 : h = 6
  · rw [if_pos c0]; exact Or.inl ⟨rfl, Int.le_refl _, by show a.toInt ≤ a.toInt + 4; omega, rfl⟩
  · rw [if_neg c0]
    by_cases c1 : p5_codeAt a SH i n = 59
    · rw [if_pos c1]
      by_cases c2 : p5_codeAt (a + 1) SH i n = 104
      · rw [if_pos c2]
        rcases k RK RL RC 0 with q | q
        · exact Or.inl q
        · exact Or.inr ⟨q.1, q.2.1, q.2.2, c0⟩
      · rw [if_neg c2]
        by_cases c3 : p5_codeAt (a + 1) SH i n = 107
        · rw [if_pos c3]
          rcases k RK RL RC 1 with q | q
          · exact Or.inl q
          · exact Or.inr ⟨q.1, q.2.1, q.2.2, c0⟩
        · rw [if_neg c3]
          by_cases c4 : p5_codeAt (a + 1) SH i n = 116
          · rw [if_pos c4]
            rcases k RK RL RC 2 with q | q
            · exact Or.inl q
            · exact Or.inr ⟨q.1, q.2.1, q.2.2, c0⟩
          · rw [if_neg c4]
            exact Or.inl ⟨rfl, by show a.toInt ≤ (a + 1).toInt; omega, by show (a + 1).toInt ≤ _; omega, rfl⟩
    · rw [if_neg c1]; exact Or.inl ⟨rfl, Int.le_refl _, by show a.toInt ≤ a.toInt + 4; omega, rfl⟩
/-- the loop over the houses of a text -/
def rdi (v a h : Int32) (n : Nat) : Prop := 0 < n ∧ (v = 0 ∨ (v = 1 ∧ a.toInt ≤ 1 + 4 * h.toInt ∧ 8 - h.toInt ≤ n)) ∧ 0 ≤ a.toInt ∧ a.toInt ≤ 50 ∧ 0 ≤ h.toInt ∧ h.toInt ≤ 6
theorem rdi_no {v a h : Int32} : ¬ rdi v a h 0 := fun q => Nat.lt_irrefl 0 q.1
theorem rdi_1 : rdi 1 (0 + 1) 0 9 := ⟨by decide, Or.inr ⟨rfl, by decide, by decide⟩, by decide, by decide, by decide, by decide⟩
theorem rdi_0 : rdi 0 (0 + 0) 0 9 := ⟨by decide, Or.inl rfl, by decide, by decide, by decide, by decide⟩
theorem rdi_a {v a h : Int32} {n : Nat} (q : rdi v a h n) : 0 ≤ a.toInt ∧ a.toInt ≤ 100 := ⟨q.2.2.1, by have := q.2.2.2.1; omega⟩
theorem rdi_h {v a h : Int32} {n : Nat} (q : rdi v a h n) : 0 ≤ h.toInt ∧ h.toInt ≤ 6 := q.2.2.2.2
theorem rdi_b {v a h : Int32} {n : Nat} (q : rdi v a h n) : narrow .boolean (.int v) = .int v := nar_bool (by rcases q.2.1 with q | q; exact Or.inl q; exact Or.inr q.1)
theorem rdi_s {v a h a' h' r i m : Int32} {n : Nat} {RK RL RC SH : Nat → Int32} (q : rdi v a h (n + 1)) (c : ¬ v = 0) (ea : (p5_readsHouse a h RK RL RC SH i m).2.1 = a') (eh : (p5_readsHouse a h RK RL RC SH i m).2.2.1 = h') (er : (p5_readsHouse a h RK RL RC SH i m).1 = r) : rdi r a' h' n := by
  have F := readsHouse_facts (RK := RK) (RL := RL) (RC := RC) (SH := SH) (i := i) (n := m) (rdi_a q) (rdi_h q)
  rw [ea, eh, er] at F
  obtain ⟨q1, q2, q3, q4, q5, q6⟩ := q
  obtain ⟨_, p1, p2⟩ := q2.resolve_left c
  rcases F with ⟨f1, f2, f3, f4⟩ | ⟨f1, f2, f3, f4⟩
  · rw [f4]
    exact ⟨by omega, Or.inl f1, by omega, by omega, q5, q6⟩
  · have h6 : ¬ h.toInt = 6 := fun z => f4 (q_eq.mpr (by rw [z]; decide))
    have e : h'.toInt = h.toInt + 1 := by rw [f3, p1i q5 (by omega)]
    exact ⟨by omega, Or.inr ⟨f1, by omega, by omega⟩, by omega, by omega, by omega, by omega⟩

/-! what is asked of a copy of the city -/
theorem kinds_of {x : Int32} (h0 : 0 ≤ x.toInt) (h2 : x.toInt ≤ 2) : kinds3 x := by
  by_cases a : x.toInt = 0
  · exact Or.inl (q_eq.mpr (by rw [a, q_0]))
  · by_cases b : x.toInt = 1
    · exact Or.inr (Or.inl (q_eq.mpr (by rw [b, q_1])))
    · exact Or.inr (Or.inr (q_eq.mpr (by rw [show (2 : Int32).toInt = 2 by decide]; omega)))
theorem safe_eq {K L C : Nat → Int32} {N i1 i2 : Int32} (N2 : Int32) (K2 L2 C2 : Nat → Int32) (hK : ∀ j : Nat, kinds3 (K j)) (hL : bd L) (hC : ∀ j : Nat, 0 ≤ (C j).toInt ∧ (C j).toInt ≤ 90000) (hl : (L i1.toNatClampNeg).toInt ≤ 18) (hc : 0 ≤ i2.toInt ∧ i2.toInt ≤ 9) (hN : N.toInt ≤ 6) :
    (p4_safe_l47 N K L C N2 K2 L2 C2 i1 i2 20 0 N K L C).1 = (p5_safe_l42 N K L C i1 i2 20 (-9) 0 L C).1 ∧ (p5_safe_l42 N K L C i1 i2 20 (-9) 0 L C).2.1 = L ∧ (p5_safe_l42 N K L C i1 i2 20 (-9) 0 L C).2.2 = C := by
  have rL : ∀ F : Nat → Int32, (∀ j, j ≠ i1.toNatClampNeg → F j = L j) → upd F i1.toNatClampNeg (L i1.toNatClampNeg) = L := fun F hF => by rw [upd_off hF, upd_self]
  have rC : ∀ F : Nat → Int32, (∀ j, j ≠ i1.toNatClampNeg → F j = C j) → upd F i1.toNatClampNeg (C i1.toNatClampNeg) = C := fun F hF => by rw [upd_off hF, upd_self]
  have hbC : bd C := fun j => ⟨(hC j).1, by have := (hC j).2; omega⟩
  have key : ∀ (n : Nat) (v : Int32) (L_ C_ : Nat → Int32), 0 ≤ v.toInt → v.toInt ≤ (L i1.toNatClampNeg).toInt + 1 → (L i1.toNatClampNeg).toInt + 1 - v.toInt < n → (∀ j, j ≠ i1.toNatClampNeg → L_ j = L j) → (∀ j, j ≠ i1.toNatClampNeg → C_ j = C j) →
      (p4_safe_l47 N K L C N2 K2 L2 C2 i1 i2 n v N K (upd L i1.toNatClampNeg (L i1.toNatClampNeg - v)) (upd C i1.toNatClampNeg (C i1.toNatClampNeg + v))).1 = (p5_safe_l42 N K L C i1 i2 n (-9) v L_ C_).1 ∧ (p5_safe_l42 N K L C i1 i2 n (-9) v L_ C_).2.1 = L ∧ (p5_safe_l42 N K L C i1 i2 n (-9) v L_ C_).2.2 = C := by
    intro n
    induction n with
    | zero => intro v _ _ h0 h1 h2; exact absurd h2 (by omega)
    | succ n ih =>
      intro v L_ C_ h0 h1 h2 hl_ hc_
      rw [p4_safe_l47_s, p5_safe_l42_s]
      by_cases c1 : L i1.toNatClampNeg < v
      · rw [if_pos c1, if_pos c1]
        exact ⟨rfl, rL _ hl_, rC _ hc_⟩
      · have c2 : ¬ (L i1.toNatClampNeg).toInt < v.toInt := fun q => c1 (q_lt.mpr q)
        have l0 := (hL i1.toNatClampNeg).1
        have k0 := hC i1.toNatClampNeg
        rw [if_neg c1, if_neg c1, if_neg (show ¬ (0 : Int32) ≤ -9 by decide), upd_off hl_, upd_off hc_]
        have e1 : (L i1.toNatClampNeg - v).toInt = (L i1.toNatClampNeg).toInt - v.toInt := q_sub (by omega) (by omega)
        have e2 : (C i1.toNatClampNeg + v).toInt = (C i1.toNatClampNeg).toInt + v.toInt := q_add (by omega) (by omega)
        have ev := p1i h0 (show v.toInt ≤ 1000 by omega)
        have hL2 : bd (upd L i1.toNatClampNeg (L i1.toNatClampNeg - v)) := bd_upd hL (by rw [e1]; omega)
        have hC2 : bd (upd C i1.toNatClampNeg (C i1.toNatClampNeg + v)) := bd_upd hbC (by rw [e2]; omega)
        rw [pointed_eq hK hL2 hC2 hc hN]
        by_cases c3 : p0_isPointedAt N K (upd L i1.toNatClampNeg (L i1.toNatClampNeg - v)) (upd C i1.toNatClampNeg (C i1.toNatClampNeg + v)) i1 i2 = 0
        · rw [if_pos c3, if_pos c3]
          obtain ⟨n', hn'⟩ : ∃ n', n = n' + 1 := ⟨n - 1, by omega⟩
          rw [hn', p5_safe_l42_s]
          have hv : (0 : Int32) ≤ v := q_le.mpr (by rw [q_0]; exact h0)
          by_cases c4 : L i1.toNatClampNeg < v + 1
          · rw [if_pos c4]
            exact ⟨rfl, rL _ (fun j hj => pk_un hj), rC _ (fun j hj => pk_un hj)⟩
          · rw [if_neg c4, if_pos hv]
            exact ⟨rfl, rL _ (fun j hj => pk_un hj), rC _ (fun j hj => pk_un hj)⟩
        · rw [if_neg c3, if_neg c3]
          have e3 : L i1.toNatClampNeg - v - 1 = L i1.toNatClampNeg - (v + 1) := by
            rw [q_eq, q_sub (by rw [e1, q_1]; omega) (by rw [e1, q_1]; omega), e1, q_sub (by rw [ev]; omega) (by rw [ev]; omega), ev, q_1]
            omega
          have et : p0_turnToCoin (upd L i1.toNatClampNeg (L i1.toNatClampNeg - v)) (upd C i1.toNatClampNeg (C i1.toNatClampNeg + v)) i1 1 = (upd L i1.toNatClampNeg (L i1.toNatClampNeg - (v + 1)), upd C i1.toNatClampNeg (C i1.toNatClampNeg + (v + 1))) := by
            unfold p0_turnToCoin
            rw [pk_us, pk_us, upd_upd, upd_upd, e3, Int32.add_assoc]
          rw [et]
          exact ih (v + 1) _ _ (by omega) (by omega) (by omega) (fun j hj => pk_un hj) (fun j hj => pk_un hj)
  have k := key 20 0 L C (by decide) (by rw [q_0]; have := (hL i1.toNatClampNeg).1; omega) (by rw [q_0]; omega) (fun _ _ => rfl) (fun _ _ => rfl)
  rw [Int32.sub_zero, Int32.add_zero, upd_self, upd_self] at k
  exact k
theorem lands_eq {K L C GN GC GH : Nat → Int32} {N GK i1 : Int32} (N2 : Int32) (K2 L2 C2 : Nat → Int32) (hK : ∀ j : Nat, kinds3 (K j)) (hL : bd L) (hC : bd C) (hG : GK.toInt ≤ 8) (hcs : ∀ j : Nat, (j : Int) < GK.toInt → 0 ≤ (GC j).toInt ∧ (GC j).toInt ≤ 9) :
    (p4_possible_l17 N K L C N2 K2 L2 C2 GK GN GC GH i1 1 10 11 0 0 N K L C).1 = (p5_lands_l22 N GK K L C GN GC GH i1 11 0 0 L).1 ∧ (p5_lands_l22 N GK K L C GN GC GH i1 11 0 0 L).2 = L := by
  have tb : (10 : Int32).toInt = 10 := by decide
  have key : ∀ (n m : Nat) (w v : Int32) (F_ G_ : Nat → Int32), 0 ≤ v.toInt → v.toInt ≤ 10 → 10 - v.toInt < n → 10 - v.toInt < m → (∀ j, j ≠ i1.toNatClampNeg → F_ j = L j) → (∀ j, j ≠ i1.toNatClampNeg → G_ j = L j) →
      (p4_possible_l17 N K L C N2 K2 L2 C2 GK GN GC GH i1 1 10 n w v N K F_ C).1 = (p5_lands_l22 N GK K L C GN GC GH i1 m w v G_).1 ∧ (p5_lands_l22 N GK K L C GN GC GH i1 m w v G_).2 = L := by
    intro n
    induction n with
    | zero => intro m w v _ _ h0 h1 h2; exact absurd h2 (by omega)
    | succ n ih =>
      intro m w v F_ G_ h0 h1 h2 h3 hF hG_
      obtain ⟨m', hm'⟩ : ∃ m', m = m' + 1 := ⟨m - 1, by omega⟩
      rw [hm', p4_possible_l17_s, p5_lands_l22_s]
      by_cases c1 : 10 ≤ v
      · rw [if_pos c1, if_pos c1]
        exact ⟨rfl, by rw [upd_off hG_, upd_self]⟩
      · have c2 : ¬ 10 ≤ v.toInt := fun q => c1 (q_le.mpr (by rw [tb]; exact q))
        have ev := p1i h0 (show v.toInt ≤ 1000 by omega)
        have eb : ∀ F : Nat → Int32, p0_become K F C i1 1 v = (K, upd F i1.toNatClampNeg v, C) := by
          intro F
          unfold p0_become
          rw [if_neg (show ¬ (1 : Int32) = 0 by decide), if_pos (show (1 : Int32) = 1 from rfl)]
        rw [if_neg c1, if_neg c1, eb]
        dsimp only
        rw [upd_off hF, upd_off hG_, so_eq hK (bd_upd hL ⟨h0, by omega⟩) hC hG hcs, or0]
        by_cases c3 : p1_holdIn GK GN GC GH N K (upd L i1.toNatClampNeg v) C = 0
        · rw [if_pos c3, if_pos c3]
          exact ih m' _ (v + 1) _ _ (by omega) (by omega) (by omega) (by omega) (fun j hj => pk_un hj) (fun j hj => pk_un hj)
        · rw [if_neg c3, if_neg c3]
          exact ih m' _ (v + 1) _ _ (by omega) (by omega) (by omega) (by omega) (fun j hj => pk_un hj) (fun j hj => pk_un hj)
  exact key 11 11 0 0 L L (by decide) (by decide) (by decide) (by decide) (fun _ _ => rfl) (fun _ _ => rfl)
theorem coins_eq {K L C GN GC GH : Nat → Int32} {N GK i1 : Int32} (N2 : Int32) (K2 L2 C2 : Nat → Int32) (hK : ∀ j : Nat, kinds3 (K j)) (hL : bd L) (hC : bd C) (hG : GK.toInt ≤ 8) (hcs : ∀ j : Nat, (j : Int) < GK.toInt → 0 ≤ (GC j).toInt ∧ (GC j).toInt ≤ 9) :
    (p4_possible_l17 N K L C N2 K2 L2 C2 GK GN GC GH i1 2 10 11 0 0 N K L C).1 = (p5_coins_l22 N GK K L C GN GC GH i1 11 0 0 C).1 ∧ (p5_coins_l22 N GK K L C GN GC GH i1 11 0 0 C).2 = C := by
  have tb : (10 : Int32).toInt = 10 := by decide
  have key : ∀ (n m : Nat) (w v : Int32) (F_ G_ : Nat → Int32), 0 ≤ v.toInt → v.toInt ≤ 10 → 10 - v.toInt < n → 10 - v.toInt < m → (∀ j, j ≠ i1.toNatClampNeg → F_ j = C j) → (∀ j, j ≠ i1.toNatClampNeg → G_ j = C j) →
      (p4_possible_l17 N K L C N2 K2 L2 C2 GK GN GC GH i1 2 10 n w v N K L F_).1 = (p5_coins_l22 N GK K L C GN GC GH i1 m w v G_).1 ∧ (p5_coins_l22 N GK K L C GN GC GH i1 m w v G_).2 = C := by
    intro n
    induction n with
    | zero => intro m w v _ _ h0 h1 h2; exact absurd h2 (by omega)
    | succ n ih =>
      intro m w v F_ G_ h0 h1 h2 h3 hF hG_
      obtain ⟨m', hm'⟩ : ∃ m', m = m' + 1 := ⟨m - 1, by omega⟩
      rw [hm', p4_possible_l17_s, p5_coins_l22_s]
      by_cases c1 : 10 ≤ v
      · rw [if_pos c1, if_pos c1]
        exact ⟨rfl, by rw [upd_off hG_, upd_self]⟩
      · have c2 : ¬ 10 ≤ v.toInt := fun q => c1 (q_le.mpr (by rw [tb]; exact q))
        have ev := p1i h0 (show v.toInt ≤ 1000 by omega)
        have eb : ∀ F : Nat → Int32, p0_become K L F i1 2 v = (K, L, upd F i1.toNatClampNeg v) := by
          intro F
          unfold p0_become
          rw [if_neg (show ¬ (2 : Int32) = 0 by decide), if_neg (show ¬ (2 : Int32) = 1 by decide)]
        rw [if_neg c1, if_neg c1, eb]
        dsimp only
        rw [upd_off hF, upd_off hG_, so_eq hK hL (bd_upd hC ⟨h0, by omega⟩) hG hcs, or0]
        by_cases c3 : p1_holdIn GK GN GC GH N K L (upd C i1.toNatClampNeg v) = 0
        · rw [if_pos c3, if_pos c3]
          exact ih m' _ (v + 1) _ _ (by omega) (by omega) (by omega) (by omega) (fun j hj => pk_un hj) (fun j hj => pk_un hj)
        · rw [if_neg c3, if_neg c3]
          exact ih m' _ (v + 1) _ _ (by omega) (by omega) (by omega) (by omega) (fun j hj => pk_un hj) (fun j hj => pk_un hj)
  exact key 11 11 0 0 C C (by decide) (by decide) (by decide) (by decide) (fun _ _ => rfl) (fun _ _ => rfl)
theorem kinds_eq {K L C GN GC GH : Nat → Int32} {N GK i1 : Int32} (N2 : Int32) (K2 L2 C2 : Nat → Int32) (hK : ∀ j : Nat, kinds3 (K j)) (hL : bd L) (hC : bd C) (hG : GK.toInt ≤ 8) (hcs : ∀ j : Nat, (j : Int) < GK.toInt → 0 ≤ (GC j).toInt ∧ (GC j).toInt ≤ 9) :
    (p4_possible_l17 N K L C N2 K2 L2 C2 GK GN GC GH i1 0 3 11 0 0 N K L C).1 = (p5_kinds_l22 N GK K L C GN GC GH i1 4 0 0 K).1 ∧ (p5_kinds_l22 N GK K L C GN GC GH i1 4 0 0 K).2 = K := by
  have tb : (3 : Int32).toInt = 3 := by decide
  have key : ∀ (n m : Nat) (w v : Int32) (F_ G_ : Nat → Int32), 0 ≤ v.toInt → v.toInt ≤ 3 → 3 - v.toInt < n → 3 - v.toInt < m → (∀ j, j ≠ i1.toNatClampNeg → F_ j = K j) → (∀ j, j ≠ i1.toNatClampNeg → G_ j = K j) →
      (p4_possible_l17 N K L C N2 K2 L2 C2 GK GN GC GH i1 0 3 n w v N F_ L C).1 = (p5_kinds_l22 N GK K L C GN GC GH i1 m w v G_).1 ∧ (p5_kinds_l22 N GK K L C GN GC GH i1 m w v G_).2 = K := by
    intro n
    induction n with
    | zero => intro m w v _ _ h0 h1 h2; exact absurd h2 (by omega)
    | succ n ih =>
      intro m w v F_ G_ h0 h1 h2 h3 hF hG_
      obtain ⟨m', hm'⟩ : ∃ m', m = m' + 1 := ⟨m - 1, by omega⟩
      rw [hm', p4_possible_l17_s, p5_kinds_l22_s]
      by_cases c1 : 3 ≤ v
      · rw [if_pos c1, if_pos c1]
        exact ⟨rfl, by rw [upd_off hG_, upd_self]⟩
      · have c2 : ¬ 3 ≤ v.toInt := fun q => c1 (q_le.mpr (by rw [tb]; exact q))
        have ev := p1i h0 (show v.toInt ≤ 1000 by omega)
        have eb : ∀ F : Nat → Int32, p0_become F L C i1 0 v = (upd F i1.toNatClampNeg v, L, C) := by
          intro F
          unfold p0_become
          rw [if_pos (show (0 : Int32) = 0 from rfl)]
        rw [if_neg c1, if_neg c1, eb]
        dsimp only
        rw [upd_off hF, upd_off hG_, so_eq (all_upd hK (kinds_of h0 (by omega))) hL hC hG hcs, or0]
        by_cases c3 : p1_holdIn GK GN GC GH N (upd K i1.toNatClampNeg v) L C = 0
        · rw [if_pos c3, if_pos c3]
          exact ih m' _ (v + 1) _ _ (by omega) (by omega) (by omega) (by omega) (fun j hj => pk_un hj) (fun j hj => pk_un hj)
        · rw [if_neg c3, if_neg c3]
          exact ih m' _ (v + 1) _ _ (by omega) (by omega) (by omega) (by omega) (fun j hj => pk_un hj) (fun j hj => pk_un hj)
  exact key 11 4 0 0 K K (by decide) (by decide) (by decide) (by decide) (fun _ _ => rfl) (fun _ _ => rfl)

theorem E_endow {t : Nat} {M : Nat → Nat → Int32} {N : Int32} {K : Nat → Int32} {L : Nat → Int32} {C : Nat → Int32} {K2 : Nat → Int32} {L2 : Nat → Int32} {C2 : Nat → Int32} {K3 : Nat → Int32} {L3 : Nat → Int32} {C3 : Nat → Int32} {GK : Int32} {GN : Nat → Int32} {GC : Nat → Int32} {LA : Nat → Int32} {LE : Nat → Int32} {SZ : Nat → Int32} {LN : Nat → Int32} {SH : Nat → Int32} (hI : Inv t N K L C GK GN GC M LA LE SZ LN SH) (hZ : Zs K L C K2 L2 C2 K3 L3 C3) (ht : t ≤ 63) (i1 : Int32) (i2 : Int32) (i3 : Int32) {ra : Int32} {Ka : Nat → Int32} {La : Nat → Int32} {Ca : Nat → Int32} {rb : Int32} {qLb : Nat → Int32} {qCb : Nat → Int32} (era : (p4_endow N K L C i1 i2 i3).1 = ra) (eKa : (p4_endow N K L C i1 i2 i3).2.1 = Ka) (eLa : (p4_endow N K L C i1 i2 i3).2.2.1 = La) (eCa : (p4_endow N K L C i1 i2 i3).2.2.2 = Ca) (erb : (p5_endow N L C i1 i2 i3).1 = rb) (eqLb : (p5_endow N L C i1 i2 i3).2.1 = qLb) (eqCb : (p5_endow N L C i1 i2 i3).2.2 = qCb) : ra = rb ∧ nzn 6 Ka = nzn 6 K ∧ nzn 6 La = nzn 6 qLb ∧ nzn 6 Ca = nzn 6 qCb ∧ Inv (t + 1) N Ka La Ca GK GN GC M LA LE SZ LN SH := by
  subst era eKa eLa eCa erb eqLb eqCb
  unfold p4_endow p5_endow
  have t2 : (2 : Int64).toInt = 2 := by decide
  have t18 : (18 : Int64).toInt = 18 := by decide
  have z18 : (18 : Int32).toInt = 18 := by decide
  have z2 : (2 : Int32).toInt = 2 := by decide
  by_cases h : p0_has N i1 = 0
  · rw [if_pos h, if_neg (has_no.mp h)]
    exact ⟨rfl, rfl, rfl, rfl, hI.next⟩
  · rw [if_neg h, if_pos (has_yes h)]
    by_cases a1 : i2 = 1
    · have b1 : ¬ p5_in i2.toInt64 1 2 = 0 := (in_i l_1 t2).mpr (by rw [a1]; decide)
      rw [if_pos a1, if_neg b1]
      by_cases g : i3 < 0
      · have q := q_lt.mp g
        rw [q_0] at q
        rw [if_pos g, if_pos (in_no l_0 t18 (by omega))]
        exact ⟨rfl, rfl, rfl, rfl, hI.next⟩
      · have g0 := nn' g
        rw [if_neg g]
        by_cases g2 : i3 ≤ 18
        · have g3 := q_le.mp g2
          rw [z18] at g3
          have n2 : ¬ i2 = 2 := by rw [a1]; decide
          have eb : p0_become K L C i1 i2 i3 = (K, upd L i1.toNatClampNeg i3, C) := by
            unfold p0_become
            rw [if_neg (by rw [a1]; decide), if_pos a1]
          rw [if_pos g2, if_neg ((in_i l_0 t18).mpr ⟨g0, g3⟩), if_pos a1, if_neg n2, upd_self]
          rw [eb]
          exact ⟨rfl, rfl, rfl, rfl, hI.setLC (all_upd (P := fun x => 0 ≤ x.toInt ∧ x.toInt ≤ 18) hI.L0 ⟨g0, g3⟩) (fun j => ⟨(hI.C0 j).1, Int.le_trans (hI.C0 j).2 (by omega)⟩)⟩
        · have g3 : ¬ i3.toInt ≤ 18 := fun q => g2 (q_le.mpr (by rw [z18]; exact q))
          rw [if_neg g2, if_pos (in_no l_0 t18 (by omega))]
          exact ⟨rfl, rfl, rfl, rfl, hI.next⟩
    · by_cases a2 : i2 = 2
      · have b1 : ¬ p5_in i2.toInt64 1 2 = 0 := (in_i l_1 t2).mpr (by rw [a2]; decide)
        rw [if_neg a1, if_pos a2, if_neg b1]
        by_cases g : i3 < 0
        · have q := q_lt.mp g
          rw [q_0] at q
          rw [if_pos g, if_pos (in_no l_0 t18 (by omega))]
          exact ⟨rfl, rfl, rfl, rfl, hI.next⟩
        · have g0 := nn' g
          rw [if_neg g]
          by_cases g2 : i3 ≤ 18
          · have g3 := q_le.mp g2
            rw [z18] at g3
            have eb : p0_become K L C i1 i2 i3 = (K, L, upd C i1.toNatClampNeg i3) := by
              unfold p0_become
              rw [if_neg (by rw [a2]; decide), if_neg a1]
            rw [if_pos g2, if_neg ((in_i l_0 t18).mpr ⟨g0, g3⟩), if_neg a1, if_pos a2, upd_self]
            rw [eb]
            exact ⟨rfl, rfl, rfl, rfl, hI.setLC hI.L0 (all_upd (P := fun x => 0 ≤ x.toInt ∧ x.toInt ≤ 18 * (((t + 1 : Nat) : Int) + 1)) (fun j => ⟨(hI.C0 j).1, by have := (hI.C0 j).2; omega⟩) ⟨g0, by omega⟩)⟩
          · have g3 : ¬ i3.toInt ≤ 18 := fun q => g2 (q_le.mpr (by rw [z18]; exact q))
            rw [if_neg g2, if_pos (in_no l_0 t18 (by omega))]
            exact ⟨rfl, rfl, rfl, rfl, hI.next⟩
      · have w1 : ¬ i2.toInt = 1 := fun q => a1 (q_eq.mpr (by rw [q, q_1]))
        have w2 : ¬ i2.toInt = 2 := fun q => a2 (q_eq.mpr (by rw [q, z2]))
        rw [if_neg a1, if_neg a2, if_pos (in_no l_1 t2 (by omega))]
        exact ⟨rfl, rfl, rfl, rfl, hI.next⟩

theorem E_safe {t : Nat} {M : Nat → Nat → Int32} {N : Int32} {K : Nat → Int32} {L : Nat → Int32} {C : Nat → Int32} {N2 : Int32} {K2 : Nat → Int32} {L2 : Nat → Int32} {C2 : Nat → Int32} {K3 : Nat → Int32} {L3 : Nat → Int32} {C3 : Nat → Int32} {GK : Int32} {GN : Nat → Int32} {GC : Nat → Int32} {LA : Nat → Int32} {LE : Nat → Int32} {SZ : Nat → Int32} {LN : Nat → Int32} {SH : Nat → Int32} (hI : Inv t N K L C GK GN GC M LA LE SZ LN SH) (hZ : Zs K L C K2 L2 C2 K3 L3 C3) (ht : t ≤ 63) (i1 : Int32) (i2 : Int32) {ra : Int32} {N2a : Int32} {K2a : Nat → Int32} {L2a : Nat → Int32} {C2a : Nat → Int32} {rb : Int32} {qLb : Nat → Int32} {qCb : Nat → Int32} (era : (p4_safe N K L C N2 K2 L2 C2 i1 i2).1 = ra) (eN2a : (p4_safe N K L C N2 K2 L2 C2 i1 i2).2.1 = N2a) (eK2a : (p4_safe N K L C N2 K2 L2 C2 i1 i2).2.2.1 = K2a) (eL2a : (p4_safe N K L C N2 K2 L2 C2 i1 i2).2.2.2.1 = L2a) (eC2a : (p4_safe N K L C N2 K2 L2 C2 i1 i2).2.2.2.2 = C2a) (erb : (p5_safe N K L C i1 i2).1 = rb) (eqLb : (p5_safe N K L C i1 i2).2.1 = qLb) (eqCb : (p5_safe N K L C i1 i2).2.2 = qCb) : ra = rb ∧ nzn 6 L = nzn 6 qLb ∧ nzn 6 C = nzn 6 qCb ∧ Inv (t + 1) N K L C GK GN GC M LA LE SZ LN SH := by
  subst era eN2a eK2a eL2a eC2a erb eqLb eqCb
  unfold p4_safe p5_safe
  by_cases h : p0_has N i1 = 0
  · rw [if_pos h, if_neg (has_no.mp h)]
    exact ⟨rfl, rfl, rfl, hI.next⟩
  · rw [if_neg h, if_pos (has_yes h)]
    by_cases h5 : p4_isCost i2 = 0
    · rw [if_pos h5, if_neg (cost_no.mp h5)]
      exact ⟨rfl, rfl, rfl, hI.next⟩
    · rw [if_neg h5, if_pos (cost_yes h5)]
      rw [like_eq ⟨hZ.1, hZ.2.1, hZ.2.2.1⟩ ⟨hZ.2.2.2.1, hZ.2.2.2.2.1, hZ.2.2.2.2.2.1⟩]
      have k := safe_eq (N := N) (i1 := i1) (i2 := i2) N2 K2 L2 C2 hI.K3 hI.bL (fun j => ⟨(hI.C0 j).1, by have := (hI.C0 j).2; omega⟩) (hI.L18 _) (isCost_iff.mp h5) hI.N6
      exact ⟨k.1, by rw [k.2.1], by rw [k.2.2], hI.next⟩

theorem E_lands {t : Nat} {M : Nat → Nat → Int32} {N : Int32} {K : Nat → Int32} {L : Nat → Int32} {C : Nat → Int32} {N2 : Int32} {K2 : Nat → Int32} {L2 : Nat → Int32} {C2 : Nat → Int32} {K3 : Nat → Int32} {L3 : Nat → Int32} {C3 : Nat → Int32} {GK : Int32} {GN : Nat → Int32} {GC : Nat → Int32} {GH : Nat → Int32} {LA : Nat → Int32} {LE : Nat → Int32} {SZ : Nat → Int32} {LN : Nat → Int32} {SH : Nat → Int32} (hI : Inv t N K L C GK GN GC M LA LE SZ LN SH) (hZ : Zs K L C K2 L2 C2 K3 L3 C3) (ht : t ≤ 63) (i1 : Int32) {ra : Int32} {N2a : Int32} {K2a : Nat → Int32} {L2a : Nat → Int32} {C2a : Nat → Int32} {rb : Int32} {qLb : Nat → Int32} (era : (p4_lands N K L C N2 K2 L2 C2 GK GN GC GH i1).1 = ra) (eN2a : (p4_lands N K L C N2 K2 L2 C2 GK GN GC GH i1).2.1 = N2a) (eK2a : (p4_lands N K L C N2 K2 L2 C2 GK GN GC GH i1).2.2.1 = K2a) (eL2a : (p4_lands N K L C N2 K2 L2 C2 GK GN GC GH i1).2.2.2.1 = L2a) (eC2a : (p4_lands N K L C N2 K2 L2 C2 GK GN GC GH i1).2.2.2.2 = C2a) (erb : (p5_lands N GK K L C GN GC GH i1).1 = rb) (eqLb : (p5_lands N GK K L C GN GC GH i1).2 = qLb) : ra = rb ∧ nzn 6 L = nzn 6 qLb ∧ Inv (t + 1) N K L C GK GN GC M LA LE SZ LN SH := by
  subst era eN2a eK2a eL2a eC2a erb eqLb
  unfold p4_lands p5_lands
  by_cases h : p0_has N i1 = 0
  · rw [if_pos h, if_neg (has_no.mp h)]
    exact ⟨rfl, rfl, hI.next⟩
  · rw [if_neg h, if_pos (has_yes h)]
    unfold p4_possible
    rw [like_eq ⟨hZ.1, hZ.2.1, hZ.2.2.1⟩ ⟨hZ.2.2.2.1, hZ.2.2.2.2.1, hZ.2.2.2.2.2.1⟩]
    have k := lands_eq (N := N) (GK := GK) (GN := GN) (GC := GC) (GH := GH) (i1 := i1) N2 K2 L2 C2 hI.K3 hI.bL (hI.bC ht) hI.G8 (fun j hj => (hI.GA j hj).2)
    exact ⟨k.1, by rw [k.2], hI.next⟩

theorem E_coins {t : Nat} {M : Nat → Nat → Int32} {N : Int32} {K : Nat → Int32} {L : Nat → Int32} {C : Nat → Int32} {N2 : Int32} {K2 : Nat → Int32} {L2 : Nat → Int32} {C2 : Nat → Int32} {K3 : Nat → Int32} {L3 : Nat → Int32} {C3 : Nat → Int32} {GK : Int32} {GN : Nat → Int32} {GC : Nat → Int32} {GH : Nat → Int32} {LA : Nat → Int32} {LE : Nat → Int32} {SZ : Nat → Int32} {LN : Nat → Int32} {SH : Nat → Int32} (hI : Inv t N K L C GK GN GC M LA LE SZ LN SH) (hZ : Zs K L C K2 L2 C2 K3 L3 C3) (ht : t ≤ 63) (i1 : Int32) {ra : Int32} {N2a : Int32} {K2a : Nat → Int32} {L2a : Nat → Int32} {C2a : Nat → Int32} {rb : Int32} {qCb : Nat → Int32} (era : (p4_coins N K L C N2 K2 L2 C2 GK GN GC GH i1).1 = ra) (eN2a : (p4_coins N K L C N2 K2 L2 C2 GK GN GC GH i1).2.1 = N2a) (eK2a : (p4_coins N K L C N2 K2 L2 C2 GK GN GC GH i1).2.2.1 = K2a) (eL2a : (p4_coins N K L C N2 K2 L2 C2 GK GN GC GH i1).2.2.2.1 = L2a) (eC2a : (p4_coins N K L C N2 K2 L2 C2 GK GN GC GH i1).2.2.2.2 = C2a) (erb : (p5_coins N GK K L C GN GC GH i1).1 = rb) (eqCb : (p5_coins N GK K L C GN GC GH i1).2 = qCb) : ra = rb ∧ nzn 6 C = nzn 6 qCb ∧ Inv (t + 1) N K L C GK GN GC M LA LE SZ LN SH := by
  subst era eN2a eK2a eL2a eC2a erb eqCb
  unfold p4_coins p5_coins
  by_cases h : p0_has N i1 = 0
  · rw [if_pos h, if_neg (has_no.mp h)]
    exact ⟨rfl, rfl, hI.next⟩
  · rw [if_neg h, if_pos (has_yes h)]
    unfold p4_possible
    rw [like_eq ⟨hZ.1, hZ.2.1, hZ.2.2.1⟩ ⟨hZ.2.2.2.1, hZ.2.2.2.2.1, hZ.2.2.2.2.2.1⟩]
    have k := coins_eq (N := N) (GK := GK) (GN := GN) (GC := GC) (GH := GH) (i1 := i1) N2 K2 L2 C2 hI.K3 hI.bL (hI.bC ht) hI.G8 (fun j hj => (hI.GA j hj).2)
    exact ⟨k.1, by rw [k.2], hI.next⟩

theorem E_kinds {t : Nat} {M : Nat → Nat → Int32} {N : Int32} {K : Nat → Int32} {L : Nat → Int32} {C : Nat → Int32} {N2 : Int32} {K2 : Nat → Int32} {L2 : Nat → Int32} {C2 : Nat → Int32} {K3 : Nat → Int32} {L3 : Nat → Int32} {C3 : Nat → Int32} {GK : Int32} {GN : Nat → Int32} {GC : Nat → Int32} {GH : Nat → Int32} {LA : Nat → Int32} {LE : Nat → Int32} {SZ : Nat → Int32} {LN : Nat → Int32} {SH : Nat → Int32} (hI : Inv t N K L C GK GN GC M LA LE SZ LN SH) (hZ : Zs K L C K2 L2 C2 K3 L3 C3) (ht : t ≤ 63) (i1 : Int32) {ra : Int32} {N2a : Int32} {K2a : Nat → Int32} {L2a : Nat → Int32} {C2a : Nat → Int32} {rb : Int32} {qKb : Nat → Int32} (era : (p4_kinds N K L C N2 K2 L2 C2 GK GN GC GH i1).1 = ra) (eN2a : (p4_kinds N K L C N2 K2 L2 C2 GK GN GC GH i1).2.1 = N2a) (eK2a : (p4_kinds N K L C N2 K2 L2 C2 GK GN GC GH i1).2.2.1 = K2a) (eL2a : (p4_kinds N K L C N2 K2 L2 C2 GK GN GC GH i1).2.2.2.1 = L2a) (eC2a : (p4_kinds N K L C N2 K2 L2 C2 GK GN GC GH i1).2.2.2.2 = C2a) (erb : (p5_kinds N GK K L C GN GC GH i1).1 = rb) (eqKb : (p5_kinds N GK K L C GN GC GH i1).2 = qKb) : ra = rb ∧ nzn 6 K = nzn 6 qKb ∧ Inv (t + 1) N K L C GK GN GC M LA LE SZ LN SH := by
  subst era eN2a eK2a eL2a eC2a erb eqKb
  unfold p4_kinds p5_kinds
  by_cases h : p0_has N i1 = 0
  · rw [if_pos h, if_neg (has_no.mp h)]
    exact ⟨rfl, rfl, hI.next⟩
  · rw [if_neg h, if_pos (has_yes h)]
    unfold p4_possible
    rw [like_eq ⟨hZ.1, hZ.2.1, hZ.2.2.1⟩ ⟨hZ.2.2.2.1, hZ.2.2.2.2.1, hZ.2.2.2.2.2.1⟩]
    have k := kinds_eq (N := N) (GK := GK) (GN := GN) (GC := GC) (GH := GH) (i1 := i1) N2 K2 L2 C2 hI.K3 hI.bL (hI.bC ht) hI.G8 (fun j hj => (hI.GA j hj).2)
    exact ⟨k.1, by rw [k.2], hI.next⟩

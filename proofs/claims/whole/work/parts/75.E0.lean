theorem E_ofHouse {t : Nat} {M : Nat → Nat → Int32} {N : Int32} {K : Nat → Int32} {L : Nat → Int32} {C : Nat → Int32} {K2 : Nat → Int32} {L2 : Nat → Int32} {C2 : Nat → Int32} {K3 : Nat → Int32} {L3 : Nat → Int32} {C3 : Nat → Int32} {GK : Int32} {GN : Nat → Int32} {GC : Nat → Int32} {LA : Nat → Int32} {LE : Nat → Int32} {SZ : Nat → Int32} {LN : Nat → Int32} {SH : Nat → Int32} (hI : Inv t N K L C GK GN GC M LA LE SZ LN SH) (hZ : Zs K L C K2 L2 C2 K3 L3 C3) (ht : t ≤ 63) (i1 : Int32) (i2 : Int32)   : p4_ofHouse N K L C i1 i2 = p5_ofHouse N K L C i1 i2 ∧ Inv (t + 1) N K L C GK GN GC M LA LE SZ LN SH := by
  refine ⟨?_, hI.next⟩
  unfold p4_ofHouse p5_ofHouse
  by_cases h : p0_has N i1 = 0
  · rw [if_pos h, if_neg (has_no.mp h)]
  · rw [if_neg h, if_pos (has_yes h), worthOf_eq hI.K3]

theorem E_answer {t : Nat} {M : Nat → Nat → Int32} {N : Int32} {K : Nat → Int32} {L : Nat → Int32} {C : Nat → Int32} {K2 : Nat → Int32} {L2 : Nat → Int32} {C2 : Nat → Int32} {K3 : Nat → Int32} {L3 : Nat → Int32} {C3 : Nat → Int32} {GK : Int32} {GN : Nat → Int32} {GC : Nat → Int32} {LA : Nat → Int32} {LE : Nat → Int32} {SZ : Nat → Int32} {LN : Nat → Int32} {SH : Nat → Int32} (hI : Inv t N K L C GK GN GC M LA LE SZ LN SH) (hZ : Zs K L C K2 L2 C2 K3 L3 C3) (ht : t ≤ 63) (i1 : Int32) (i2 : Int32) (i3 : Int32)   : p4_answer N K L C i1 i2 i3 = p5_answer N K L C i1 i2 i3 ∧ Inv (t + 1) N K L C GK GN GC M LA LE SZ LN SH := by
  refine ⟨?_, hI.next⟩
  unfold p4_answer p5_answer
  by_cases h : p0_has N i1 = 0
  · rw [if_pos h, if_neg (has_no.mp h)]
  · rw [if_neg h, if_pos (has_yes h)]
    by_cases h2 : p0_has N i2 = 0
    · rw [if_pos h2, if_neg (has_no.mp h2)]
    · rw [if_neg h2, if_pos (has_yes h2), may_eq]
      by_cases h3 : i1 = i2
      · rw [if_pos h3, if_pos h3]
      · rw [if_neg h3, if_neg h3]
        by_cases h4 : p0_mayPoint L i1 i2 = 0
        · rw [if_pos h4, if_pos h4]
        · rw [if_neg h4, if_neg h4]
          by_cases h5 : p4_isCost i3 = 0
          · rw [if_pos h5, if_neg (cost_no.mp h5)]
          · rw [if_neg h5, if_pos (cost_yes h5), change_eq hI.K3 hI.bL (hI.bC ht) (isCost_iff.mp h5) h3]

theorem E_choice {t : Nat} {M : Nat → Nat → Int32} {N : Int32} {K : Nat → Int32} {L : Nat → Int32} {C : Nat → Int32} {K2 : Nat → Int32} {L2 : Nat → Int32} {C2 : Nat → Int32} {K3 : Nat → Int32} {L3 : Nat → Int32} {C3 : Nat → Int32} {GK : Int32} {GN : Nat → Int32} {GC : Nat → Int32} {LA : Nat → Int32} {LE : Nat → Int32} {SZ : Nat → Int32} {LN : Nat → Int32} {SH : Nat → Int32} (hI : Inv t N K L C GK GN GC M LA LE SZ LN SH) (hZ : Zs K L C K2 L2 C2 K3 L3 C3) (ht : t ≤ 63) (i1 : Int32) (i2 : Int32) (i3 : Int32)   : p4_choice N K L C i1 i2 i3 = p5_choice N K L C i1 i2 i3 ∧ Inv (t + 1) N K L C GK GN GC M LA LE SZ LN SH := by
  refine ⟨?_, hI.next⟩
  unfold p4_choice p5_choice
  by_cases h : p0_has N i1 = 0
  · rw [if_pos h, if_neg (has_no.mp h)]
  · rw [if_neg h, if_pos (has_yes h)]
    by_cases h5 : p4_isCost i2 = 0
    · rw [if_pos h5, if_neg (cost_no.mp h5)]
    · have hc := isCost_iff.mp h5
      have t3 : (3 : Int32).toInt = 3 := by decide
      rw [if_neg h5, if_pos (cost_yes h5), choice_eq hI.K3 hI.bL (hI.bC ht) hc, by_eq hI.K3 hI.bL (hI.bC ht) hc, payer_eq hI.K3 hI.bL (hI.bC ht) hc, fair_eq hI.K3 hI.bL (hI.bC ht) hc]
      by_cases h6 : i3 < 0
      · rw [if_pos h6]
        have := q_lt.mp h6
        rw [q_0] at this
        rw [if_neg (ne_of (by rw [q_0]; omega)), if_neg (ne_of (by rw [q_1]; omega)), if_neg (ne_of (by rw [show (2 : Int32).toInt = 2 by decide]; omega)), if_neg (ne_of (by rw [t3]; omega))]
      · rw [if_neg h6]
        have h7 := nn' h6
        by_cases h8 : i3 ≤ 3
        · rw [if_pos h8]
          have h9 := q_le.mp h8
          rw [t3] at h9
          by_cases e0 : i3 = 0
          · rw [if_pos e0, if_pos e0]
          · rw [if_neg e0, if_neg e0]
            by_cases e1 : i3 = 1
            · rw [if_pos e1, if_pos e1]
            · rw [if_neg e1, if_neg e1]
              by_cases e2 : i3 = 2
              · rw [if_pos e2, if_pos e2]
              · rw [if_neg e2, if_neg e2, if_pos (show i3 = 3 from q_eq.mpr (by
                  rw [t3]
                  have g0 : ¬ i3.toInt = 0 := fun q => e0 (q_eq.mpr (by rw [q, q_0]))
                  have g1 : ¬ i3.toInt = 1 := fun q => e1 (q_eq.mpr (by rw [q, q_1]))
                  have g2 : ¬ i3.toInt = 2 := fun q => e2 (q_eq.mpr (by rw [q]; decide))
                  omega))]
        · have h9 : ¬ i3.toInt ≤ 3 := fun q => h8 (q_le.mpr (by rw [t3]; exact q))
          rw [if_neg h8, if_neg (ne_of (by rw [q_0]; omega)), if_neg (ne_of (by rw [q_1]; omega)), if_neg (ne_of (by rw [show (2 : Int32).toInt = 2 by decide]; omega)), if_neg (ne_of (by rw [t3]; omega))]

theorem E_trace {t : Nat} {M : Nat → Nat → Int32} {TR : Int32} {N : Int32} {K : Nat → Int32} {L : Nat → Int32} {C : Nat → Int32} {K2 : Nat → Int32} {L2 : Nat → Int32} {C2 : Nat → Int32} {K3 : Nat → Int32} {L3 : Nat → Int32} {C3 : Nat → Int32} {GK : Int32} {GN : Nat → Int32} {GC : Nat → Int32} {LA : Nat → Int32} {LE : Nat → Int32} {SZ : Nat → Int32} {LN : Nat → Int32} {SH : Nat → Int32} (hI : Inv t N K L C GK GN GC M LA LE SZ LN SH) (hZ : Zs K L C K2 L2 C2 K3 L3 C3) (ht : t ≤ 63)    : p4_trace TR = p5_trace TR ∧ Inv (t + 1) N K L C GK GN GC M LA LE SZ LN SH := by
  exact ⟨rfl, hI.next⟩

theorem E_fault {t : Nat} {M : Nat → Nat → Int32} {LF : Int32} {N : Int32} {K : Nat → Int32} {L : Nat → Int32} {C : Nat → Int32} {K2 : Nat → Int32} {L2 : Nat → Int32} {C2 : Nat → Int32} {K3 : Nat → Int32} {L3 : Nat → Int32} {C3 : Nat → Int32} {GK : Int32} {GN : Nat → Int32} {GC : Nat → Int32} {LA : Nat → Int32} {LE : Nat → Int32} {SZ : Nat → Int32} {LN : Nat → Int32} {SH : Nat → Int32} (hI : Inv t N K L C GK GN GC M LA LE SZ LN SH) (hZ : Zs K L C K2 L2 C2 K3 L3 C3) (ht : t ≤ 63)    : p4_fault LF = p5_fault LF ∧ Inv (t + 1) N K L C GK GN GC M LA LE SZ LN SH := by
  exact ⟨rfl, hI.next⟩

theorem E_many {t : Nat} {M : Nat → Nat → Int32} {N : Int32} {K : Nat → Int32} {L : Nat → Int32} {C : Nat → Int32} {K2 : Nat → Int32} {L2 : Nat → Int32} {C2 : Nat → Int32} {K3 : Nat → Int32} {L3 : Nat → Int32} {C3 : Nat → Int32} {GK : Int32} {GN : Nat → Int32} {GC : Nat → Int32} {LA : Nat → Int32} {LE : Nat → Int32} {SZ : Nat → Int32} {LN : Nat → Int32} {SH : Nat → Int32} (hI : Inv t N K L C GK GN GC M LA LE SZ LN SH) (hZ : Zs K L C K2 L2 C2 K3 L3 C3) (ht : t ≤ 63) (i1 : Int32)   : p4_many N L C GK i1 = p5_many N GK L C i1 ∧ Inv (t + 1) N K L C GK GN GC M LA LE SZ LN SH := by
  refine ⟨?_, hI.next⟩
  unfold p4_many p5_many
  rw [sum_L, sum_C]

theorem E_odds {t : Nat} {M : Nat → Nat → Int32} {N : Int32} {K : Nat → Int32} {L : Nat → Int32} {C : Nat → Int32} {K2 : Nat → Int32} {L2 : Nat → Int32} {C2 : Nat → Int32} {K3 : Nat → Int32} {L3 : Nat → Int32} {C3 : Nat → Int32} {GK : Int32} {GN : Nat → Int32} {GC : Nat → Int32} {LA : Nat → Int32} {LE : Nat → Int32} {SZ : Nat → Int32} {LN : Nat → Int32} {SH : Nat → Int32} (hI : Inv t N K L C GK GN GC M LA LE SZ LN SH) (hZ : Zs K L C K2 L2 C2 K3 L3 C3) (ht : t ≤ 63) (i1 : Int32) (i2 : Int32)   : p4_odds N K L C i1 i2 = p5_odds N K L C i1 i2 ∧ Inv (t + 1) N K L C GK GN GC M LA LE SZ LN SH := by
  refine ⟨?_, hI.next⟩
  unfold p4_odds p5_odds
  have e : p5_lost = -9223372036854775808 := rfl
  rw [e]
  by_cases h0 : N = 0
  · rw [if_pos h0, if_pos h0]
  · rw [if_neg h0, if_neg h0]
    have hz : ¬ N.toInt = 0 := fun q => h0 (q_eq.mpr (by rw [q, q_0]))
    by_cases h5 : p4_isCost i1 = 0
    · rw [if_pos h5, if_neg (cost_no.mp h5)]
    · rw [if_neg h5, if_pos (cost_yes h5)]
      by_cases h6 : i2 < 0
      · have := q_lt.mp h6
        rw [q_0] at this
        have g : p5_in i2.toInt64 0 1 = 0 := by
          rcases iz (p5_in i2.toInt64 0 1) with q | q
          · exact q
          · have := (in_i l_0 l_1).mp q; omega
        rw [if_pos h6, if_pos g]
      · have h7 := nn' h6
        rw [if_neg h6]
        by_cases h8 : i2 ≤ 1
        · have h9 := q_le.mp h8
          rw [q_1] at h9
          rw [if_pos h8, if_neg ((in_i l_0 l_1).mpr ⟨h7, h9⟩)]
          refine odds_eq hI.K3 hI.bL (hI.bC ht) (isCost_iff.mp h5) ⟨by have := hI.N0; omega, hI.N6⟩ ?_
          by_cases z : i2.toInt = 0
          · exact Or.inl (q_eq.mpr (by rw [z, q_0]))
          · exact Or.inr (q_eq.mpr (by rw [q_1]; omega))
        · have h9 : ¬ i2.toInt ≤ 1 := fun q => h8 (q_le.mpr (by rw [q_1]; exact q))
          have g : p5_in i2.toInt64 0 1 = 0 := by
            rcases iz (p5_in i2.toInt64 0 1) with q | q
            · exact q
            · have := (in_i l_0 l_1).mp q; omega
          rw [if_neg h8, if_pos g]

theorem E_name {t : Nat} {M : Nat → Nat → Int32} {N : Int32} {K : Nat → Int32} {L : Nat → Int32} {C : Nat → Int32} {K2 : Nat → Int32} {L2 : Nat → Int32} {C2 : Nat → Int32} {K3 : Nat → Int32} {L3 : Nat → Int32} {C3 : Nat → Int32} {GK : Int32} {GN : Nat → Int32} {GC : Nat → Int32} {LA : Nat → Int32} {LE : Nat → Int32} {mch : Int32} {mfr : Int32} {PY : Nat → Int32} {SZ : Nat → Int32} {LN : Nat → Int32} {SH : Nat → Int32} (hI : Inv t N K L C GK GN GC M LA LE SZ LN SH) (hZ : Zs K L C K2 L2 C2 K3 L3 C3) (ht : t ≤ 63) (i1 : Int32) (i2 : Int32) {ra : Int32} {La : Nat → Int32} {Ca : Nat → Int32} {rb : Int32} {mchb : Int32} {mfrb : Int32} {qLb : Nat → Int32} {qCb : Nat → Int32} {PYb : Nat → Int32} (era : (p4_name N K L C i1 i2).1 = ra) (eLa : (p4_name N K L C i1 i2).2.1 = La) (eCa : (p4_name N K L C i1 i2).2.2 = Ca) (erb : (p5_name N mch mfr K L C PY i1 i2).1 = rb) (emchb : (p5_name N mch mfr K L C PY i1 i2).2.1 = mchb) (emfrb : (p5_name N mch mfr K L C PY i1 i2).2.2.1 = mfrb) (eqLb : (p5_name N mch mfr K L C PY i1 i2).2.2.2.1 = qLb) (eqCb : (p5_name N mch mfr K L C PY i1 i2).2.2.2.2.1 = qCb) (ePYb : (p5_name N mch mfr K L C PY i1 i2).2.2.2.2.2 = PYb) : ra = rb ∧ nzn 6 La = nzn 6 qLb ∧ nzn 6 Ca = nzn 6 qCb ∧ Inv (t + 1) N K La Ca GK GN GC M LA LE SZ LN SH := by
  subst era eLa eCa erb emchb emfrb eqLb eqCb ePYb
  unfold p4_name p5_name
  by_cases h : p0_has N i1 = 0
  · rw [if_pos h, if_neg (has_no.mp h)]
    exact ⟨rfl, rfl, rfl, hI.next⟩
  · rw [if_neg h, if_pos (has_yes h)]
    by_cases h5 : p4_isCost i2 = 0
    · rw [if_pos h5, if_neg (cost_no.mp h5)]
      exact ⟨rfl, rfl, rfl, hI.next⟩
    · have hc := isCost_iff.mp h5
      rw [if_neg h5, if_pos (cost_yes h5), choice_eq hI.K3 hI.bL (hI.bC ht) hc, goPair_all hI.K3 hI.bL (hI.bC ht) hc]
      refine ⟨rfl, rfl, rfl, ?_⟩
      have b := carry_bd (K := K) (L := L) (C := C) (a := i1) (b := p0_chosenBy N K L C i1 i2) (c := i2) hI.L0 hI.C0 (by decide) (by omega) hc
      exact hI.setLC b.1 (fun j => ⟨(b.2 j).1, Int.le_trans (b.2 j).2 (by omega)⟩)

theorem E_hide {t : Nat} {M : Nat → Nat → Int32} {N : Int32} {K : Nat → Int32} {L : Nat → Int32} {C : Nat → Int32} {K2 : Nat → Int32} {L2 : Nat → Int32} {C2 : Nat → Int32} {K3 : Nat → Int32} {L3 : Nat → Int32} {C3 : Nat → Int32} {GK : Int32} {GN : Nat → Int32} {GC : Nat → Int32} {LA : Nat → Int32} {LE : Nat → Int32} {SZ : Nat → Int32} {LN : Nat → Int32} {SH : Nat → Int32} (hI : Inv t N K L C GK GN GC M LA LE SZ LN SH) (hZ : Zs K L C K2 L2 C2 K3 L3 C3) (ht : t ≤ 63) (i1 : Int32) (i2 : Int32) {ra : Int32} {La : Nat → Int32} {Ca : Nat → Int32} {rb : Int32} {qLb : Nat → Int32} {qCb : Nat → Int32} (era : (p4_hide N L C i1 i2).1 = ra) (eLa : (p4_hide N L C i1 i2).2.1 = La) (eCa : (p4_hide N L C i1 i2).2.2 = Ca) (erb : (p5_hide N L C i1 i2).1 = rb) (eqLb : (p5_hide N L C i1 i2).2.1 = qLb) (eqCb : (p5_hide N L C i1 i2).2.2 = qCb) : ra = rb ∧ nzn 6 La = nzn 6 qLb ∧ nzn 6 Ca = nzn 6 qCb ∧ Inv (t + 1) N K La Ca GK GN GC M LA LE SZ LN SH := by
  subst era eLa eCa erb eqLb eqCb
  unfold p4_hide p5_hide
  by_cases h : p0_has N i1 = 0
  · rw [if_pos h, if_neg (has_no.mp h)]
    exact ⟨rfl, rfl, rfl, hI.next⟩
  · rw [if_neg h, if_pos (has_yes h)]
    have hin : (¬ p5_in i2.toInt64 0 (L i1.toNatClampNeg).toInt64 = 0) ↔ 0 ≤ i2.toInt ∧ i2.toInt ≤ (L i1.toNatClampNeg).toInt := in_i l_0 (w_toInt _)
    by_cases h1 : i2 < 0
    · have := q_lt.mp h1
      rw [q_0] at this
      rw [if_pos h1, if_pos (by
        rcases iz (p5_in i2.toInt64 0 (L i1.toNatClampNeg).toInt64) with q | q
        · exact q
        · have := hin.mp q; omega)]
      exact ⟨rfl, rfl, rfl, hI.next⟩
    · have h2 := nn' h1
      rw [if_neg h1]
      by_cases h3 : i2 ≤ L i1.toNatClampNeg
      · have h4 := q_le.mp h3
        rw [if_pos h3, if_neg (hin.mpr ⟨h2, h4⟩)]
        refine ⟨rfl, rfl, rfl, ?_⟩
        have l0 := hI.L0 i1.toNatClampNeg
        have c0 := hI.C0 i1.toNatClampNeg
        refine hI.setLC (all_upd (P := fun x => 0 ≤ x.toInt ∧ x.toInt ≤ 18) hI.L0 ?_) (all_upd (P := fun x => 0 ≤ x.toInt ∧ x.toInt ≤ 18 * (((t + 1 : Nat) : Int) + 1)) (fun j => ⟨(hI.C0 j).1, by have := (hI.C0 j).2; omega⟩) ?_)
        · show 0 ≤ (L i1.toNatClampNeg - i2).toInt ∧ (L i1.toNatClampNeg - i2).toInt ≤ 18
          rw [q_sub (by omega) (by omega)]
          omega
        · show 0 ≤ (C i1.toNatClampNeg + i2).toInt ∧ (C i1.toNatClampNeg + i2).toInt ≤ 18 * (((t + 1 : Nat) : Int) + 1)
          rw [q_add (by omega) (by omega)]
          omega
      · have h4 : ¬ i2.toInt ≤ (L i1.toNatClampNeg).toInt := fun q => h3 (q_le.mpr q)
        rw [if_neg h3, if_pos (by
          rcases iz (p5_in i2.toInt64 0 (L i1.toNatClampNeg).toInt64) with q | q
          · exact q
          · have := hin.mp q; omega)]
        exact ⟨rfl, rfl, rfl, hI.next⟩

theorem E_back {t : Nat} {M : Nat → Nat → Int32} {N : Int32} {K : Nat → Int32} {L : Nat → Int32} {C : Nat → Int32} {K2 : Nat → Int32} {L2 : Nat → Int32} {C2 : Nat → Int32} {K3 : Nat → Int32} {L3 : Nat → Int32} {C3 : Nat → Int32} {GK : Int32} {GN : Nat → Int32} {GC : Nat → Int32} {LA : Nat → Int32} {LE : Nat → Int32} {SZ : Nat → Int32} {LN : Nat → Int32} {SH : Nat → Int32} (hI : Inv t N K L C GK GN GC M LA LE SZ LN SH) (hZ : Zs K L C K2 L2 C2 K3 L3 C3) (ht : t ≤ 63) (i1 : Int32) {ra : Int32} {GKa : Int32} {rb : Int32} {mrdb : Int32} (era : (p4_back GK i1).1 = ra) (eGKa : (p4_back GK i1).2 = GKa) (erb : (p5_back GK i1).1 = rb) (emrdb : (p5_back GK i1).2 = mrdb) : ra = rb ∧ GKa = mrdb ∧ Inv (t + 1) N K L C GKa GN GC M LA LE SZ LN SH := by
  subst era eGKa erb emrdb
  unfold p4_back p5_back
  have hin : (¬ p5_in i1.toInt64 0 GK.toInt64 = 0) ↔ 0 ≤ i1.toInt ∧ i1.toInt ≤ GK.toInt := in_i l_0 (w_toInt _)
  by_cases h1 : i1 < 0
  · have := q_lt.mp h1
    rw [q_0] at this
    rw [if_pos h1, if_pos (by
      rcases iz (p5_in i1.toInt64 0 GK.toInt64) with q | q
      · exact q
      · have := hin.mp q; omega)]
    exact ⟨rfl, rfl, hI.next⟩
  · have h2 := nn' h1
    rw [if_neg h1]
    by_cases h3 : i1 ≤ GK
    · have h4 := q_le.mp h3
      rw [if_pos h3, if_neg (hin.mpr ⟨h2, h4⟩)]
      refine ⟨rfl, rfl, ?_⟩
      have g := hI.G08
      have e : (GK - i1).toInt = GK.toInt - i1.toInt := q_sub (by omega) (by omega)
      have hn := hI.next
      exact ⟨hn.1, hn.K3, hn.L0, hn.C0, ⟨by show 0 ≤ (GK - i1).toInt; omega, by show (GK - i1).toInt ≤ 8; omega⟩, fun j hj => hI.GA j (by have hj : (j : Int) < (GK - i1).toInt := hj; omega), hn.LE60, hn.SZ60, hn.SR⟩
    · have h4 : ¬ i1.toInt ≤ GK.toInt := fun q => h3 (q_le.mpr q)
      rw [if_neg h3, if_pos (by
        rcases iz (p5_in i1.toInt64 0 GK.toInt64) with q | q
        · exact q
        · have := hin.mp q; omega)]
      exact ⟨rfl, rfl, hI.next⟩

theorem E_reading {t : Nat} {M : Nat → Nat → Int32} {N : Int32} {K : Nat → Int32} {L : Nat → Int32} {C : Nat → Int32} {K2 : Nat → Int32} {L2 : Nat → Int32} {C2 : Nat → Int32} {K3 : Nat → Int32} {L3 : Nat → Int32} {C3 : Nat → Int32} {GK : Int32} {GN : Nat → Int32} {GC : Nat → Int32} {GH : Nat → Int32} {LA : Nat → Int32} {LE : Nat → Int32} {SZ : Nat → Int32} {LN : Nat → Int32} {SH : Nat → Int32} (hI : Inv t N K L C GK GN GC M LA LE SZ LN SH) (hZ : Zs K L C K2 L2 C2 K3 L3 C3) (ht : t ≤ 63) (i1 : Int32) (i2 : Int32) (i3 : Int32) {ra : Int32} {GKa : Int32} {GNa : Nat → Int32} {GCa : Nat → Int32} {GHa : Nat → Int32} {rb : Int32} {mrdb : Int32} {ROb : Nat → Int32} {RBb : Nat → Int32} {RTb : Nat → Int32} (era : (p4_reading N GK GN GC GH i1 i2 i3).1 = ra) (eGKa : (p4_reading N GK GN GC GH i1 i2 i3).2.1 = GKa) (eGNa : (p4_reading N GK GN GC GH i1 i2 i3).2.2.1 = GNa) (eGCa : (p4_reading N GK GN GC GH i1 i2 i3).2.2.2.1 = GCa) (eGHa : (p4_reading N GK GN GC GH i1 i2 i3).2.2.2.2 = GHa) (erb : (p5_reading N GK GN GC GH i1 i2 i3).1 = rb) (emrdb : (p5_reading N GK GN GC GH i1 i2 i3).2.1 = mrdb) (eROb : (p5_reading N GK GN GC GH i1 i2 i3).2.2.1 = ROb) (eRBb : (p5_reading N GK GN GC GH i1 i2 i3).2.2.2.1 = RBb) (eRTb : (p5_reading N GK GN GC GH i1 i2 i3).2.2.2.2 = RTb) : ra = rb ∧ GKa = mrdb ∧ nzn 8 GNa = nzn 8 ROb ∧ nzn 8 GCa = nzn 8 RBb ∧ nzn 8 GHa = nzn 8 RTb ∧ Inv (t + 1) N K L C GKa GNa GCa M LA LE SZ LN SH := by
  subst era eGKa eGNa eGCa eGHa erb emrdb eROb eRBb eRTb
  unfold p4_reading p5_reading
  by_cases h : p0_has N i1 = 0
  · rw [if_pos h, if_neg (has_no.mp h)]
    exact ⟨rfl, rfl, rfl, rfl, rfl, hI.next⟩
  · rw [if_neg h, if_pos (has_yes h)]
    by_cases h2 : p0_has N i3 = 0
    · rw [if_pos h2, if_neg (has_no.mp h2)]
      exact ⟨rfl, rfl, rfl, rfl, rfl, hI.next⟩
    · rw [if_neg h2, if_pos (has_yes h2)]
      by_cases h5 : p4_isCost i2 = 0
      · rw [if_pos h5, if_neg (cost_no.mp h5)]
        exact ⟨rfl, rfl, rfl, rfl, rfl, hI.next⟩
      · rw [if_neg h5, if_pos (cost_yes h5)]
        have g := hI.G08
        have t8 : (8 : Int32).toInt = 8 := by decide
        by_cases h6 : GK < 8
        · have h7 := q_lt.mp h6
          rw [t8] at h7
          rw [if_pos h6, if_neg (ne_of (by rw [t8]; omega))]
          have e : GK + 1 - 1 = GK := Int32.add_sub_cancel GK 1
          rw [e]
          refine ⟨rfl, rfl, rfl, rfl, rfl, ?_⟩
          have hn := hI.next
          have e1 : (GK + 1).toInt = GK.toInt + 1 := p1i g.1 (by omega)
          refine ⟨hn.1, hn.K3, hn.L0, hn.C0, ⟨by show 0 ≤ (GK + 1).toInt; omega, by show (GK + 1).toInt ≤ 8; omega⟩, fun j hj => ?_, hn.LE60, hn.SZ60, hn.SR⟩
          have hj : (j : Int) < (GK + 1).toInt := hj
          show vp_in (upd GN GK.toNatClampNeg i1 j) 6 ∧ 0 ≤ (upd GC GK.toNatClampNeg i2 j).toInt ∧ (upd GC GK.toNatClampNeg i2 j).toInt ≤ 9
          by_cases ej : j = GK.toNatClampNeg
          · rw [ej, pk_us, pk_us]
            exact ⟨has_in hI.N6 h, isCost_iff.mp h5⟩
          · rw [pk_un ej, pk_un ej]
            have := cl_nn g.1
            exact hI.GA j (by omega)
        · have h7 : ¬ GK.toInt < 8 := fun q => h6 (q_lt.mpr (by rw [t8]; exact q))
          rw [if_neg h6, if_pos (q_eq.mpr (by rw [t8]; omega))]
          exact ⟨rfl, rfl, rfl, rfl, rfl, hI.next⟩

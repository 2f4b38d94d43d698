theorem E_tell {t : Nat} {M : Nat → Nat → Int32} {TR : Int32} {N : Int32} {K : Nat → Int32} {L : Nat → Int32} {C : Nat → Int32} {K2 : Nat → Int32} {L2 : Nat → Int32} {C2 : Nat → Int32} {K3 : Nat → Int32} {L3 : Nat → Int32} {C3 : Nat → Int32} {GK : Int32} {GN : Nat → Int32} {GC : Nat → Int32} {LA : Nat → Int32} {LE : Nat → Int32} {SZ : Nat → Int32} {LN : Nat → Int32} {SH : Nat → Int32} (hI : Inv t N K L C GK GN GC M LA LE SZ LN SH) (hZ : Zs K L C K2 L2 C2 K3 L3 C3) (ht : t ≤ 63) (i1 : Int32) {ra : Int32} {TRa : Int32} {rb : Int32} {mtrb : Int32} (era : (p4_tell TR N K L i1).1 = ra) (eTRa : (p4_tell TR N K L i1).2 = TRa) (erb : (p5_tell N TR K L i1).1 = rb) (emtrb : (p5_tell N TR K L i1).2 = mtrb) : ra = rb ∧ TRa = mtrb ∧ Inv (t + 1) N K L C GK GN GC M LA LE SZ LN SH := by
  subst era eTRa erb emtrb
  unfold p4_tell p5_tell
  by_cases h : p0_has N i1 = 0
  · rw [if_pos h, if_neg (has_no.mp h)]
    exact ⟨rfl, rfl, hI.next⟩
  · rw [if_neg h, if_pos (has_yes h)]
    rcases hI.K3 i1.toNatClampNeg with e | e | e
    · rw [e, if_neg (show ¬ (0 : Int32) = 1 by decide), if_neg (show ¬ (0 : Int32) = 2 by decide), if_neg (show ¬ (0 : Int32) = 2 by decide), if_pos (show (0 : Int32) ≤ 0 by decide), if_pos (show (0 : Int32) = 0 from rfl)]
      exact ⟨rfl, rfl, hI.next⟩
    · rw [e, if_pos (show (1 : Int32) = 1 from rfl), if_neg (show ¬ (1 : Int32) = 2 by decide), if_neg (show ¬ (1 : Int32) ≤ 0 by decide), if_neg (show ¬ (1 : Int32) = 0 by decide), if_pos (show (1 : Int32) = 1 from rfl)]
      exact ⟨rfl, rfl, hI.next⟩
    · have l0 := hI.L0 i1.toNatClampNeg
      have t1 : (100 : Int32).toInt = 100 := by decide
      have t2 : (2 : Int32).toInt = 2 := by decide
      have a1 : (L i1.toNatClampNeg + 100).toInt = (L i1.toNatClampNeg).toInt + 100 := by rw [q_add (by rw [t1]; omega) (by rw [t1]; omega), t1]
      have a2 : (2 * L i1.toNatClampNeg).toInt = 2 * (L i1.toNatClampNeg).toInt := by rw [q_mul (by rw [t2]; omega) (by rw [t2]; omega), t2]
      have ee : L i1.toNatClampNeg + 100 + L i1.toNatClampNeg = 2 * L i1.toNatClampNeg + 100 := by
        rw [q_eq, q_add (by rw [a1]; omega) (by rw [a1]; omega), a1, q_add (by rw [a2, t1]; omega) (by rw [a2, t1]; omega), a2, t1]
        omega
      rw [e, if_neg (show ¬ (2 : Int32) = 1 by decide), if_pos (show (2 : Int32) = 2 from rfl), if_pos (show (2 : Int32) = 2 from rfl), if_neg (show ¬ (2 : Int32) ≤ 0 by decide), if_neg (show ¬ (2 : Int32) = 0 by decide), if_neg (show ¬ (2 : Int32) = 1 by decide)]
      exact ⟨ee, rfl, hI.next⟩

theorem E_seal {t : Nat} {M : Nat → Nat → Int32} {TR : Int32} {N : Int32} {K : Nat → Int32} {L : Nat → Int32} {C : Nat → Int32} {K2 : Nat → Int32} {L2 : Nat → Int32} {C2 : Nat → Int32} {K3 : Nat → Int32} {L3 : Nat → Int32} {C3 : Nat → Int32} {GK : Int32} {GN : Nat → Int32} {GC : Nat → Int32} {LA : Nat → Int32} {LE : Nat → Int32} {SZ : Nat → Int32} {LN : Nat → Int32} {SH : Nat → Int32} (hI : Inv t N K L C GK GN GC M LA LE SZ LN SH) (hZ : Zs K L C K2 L2 C2 K3 L3 C3) (ht : t ≤ 63) (i1 : Int32) {ra : Int32} {TRa : Int32} {rb : Int32} {mtrb : Int32} (era : (p4_seal TR N K i1).1 = ra) (eTRa : (p4_seal TR N K i1).2 = TRa) (erb : (p5_seal N TR K i1).1 = rb) (emtrb : (p5_seal N TR K i1).2 = mtrb) : ra = rb ∧ TRa = mtrb ∧ Inv (t + 1) N K L C GK GN GC M LA LE SZ LN SH := by
  subst era eTRa erb emtrb
  unfold p4_seal p5_seal
  by_cases h : p0_has N i1 = 0
  · rw [if_pos h, if_neg (has_no.mp h)]
    exact ⟨rfl, rfl, hI.next⟩
  · rw [if_neg h, if_pos (has_yes h)]
    by_cases e : K i1.toNatClampNeg = 2
    · rw [if_pos e, if_pos e]
      exact ⟨rfl, rfl, hI.next⟩
    · rw [if_neg e, if_neg e]
      exact ⟨rfl, rfl, hI.next⟩

theorem E_as {t : Nat} {M : Nat → Nat → Int32} {LF : Int32} {N : Int32} {K : Nat → Int32} {L : Nat → Int32} {C : Nat → Int32} {K2 : Nat → Int32} {L2 : Nat → Int32} {C2 : Nat → Int32} {K3 : Nat → Int32} {L3 : Nat → Int32} {C3 : Nat → Int32} {GK : Int32} {GN : Nat → Int32} {GC : Nat → Int32} {LA : Nat → Int32} {LE : Nat → Int32} {SZ : Nat → Int32} {LN : Nat → Int32} {SH : Nat → Int32} (hI : Inv t N K L C GK GN GC M LA LE SZ LN SH) (hZ : Zs K L C K2 L2 C2 K3 L3 C3) (ht : t ≤ 63) (i1 : Int32) (i2 : Int32) {ra : Int32} {LFa : Int32} {rb : Int32} {mfab : Int32} (era : (p4_as LF N K i1 i2).1 = ra) (eLFa : (p4_as LF N K i1 i2).2 = LFa) (erb : (p5_as LF N K i1 i2).1 = rb) (emfab : (p5_as LF N K i1 i2).2 = mfab) : ra = rb ∧ LFa = mfab ∧ Inv (t + 1) N K L C GK GN GC M LA LE SZ LN SH := by
  subst era eLFa erb emfab
  unfold p4_as p5_as
  have t2 : (2 : Int64).toInt = 2 := by decide
  have t3 : (3 : Int32).toInt = 3 := by decide
  by_cases h : p0_has N i1 = 0
  · rw [if_pos h, if_neg (has_no.mp h)]
    exact ⟨rfl, rfl, hI.next⟩
  · rw [if_neg h, if_pos (has_yes h)]
    by_cases h1 : i2 < 0
    · have := q_lt.mp h1
      rw [q_0] at this
      rw [if_pos h1, if_pos (in_no l_0 t2 (by omega))]
      exact ⟨rfl, rfl, hI.next⟩
    · have g1 := nn' h1
      rw [if_neg h1]
      by_cases h2 : i2 < 3
      · have g2 := q_lt.mp h2
        rw [t3] at g2
        rw [if_pos h2, if_neg ((in_i l_0 t2).mpr ⟨g1, by omega⟩)]
        by_cases e : K i1.toNatClampNeg < i2
        · rw [if_pos e, if_pos e]
          exact ⟨rfl, rfl, hI.next⟩
        · rw [if_neg e, if_neg e]
          exact ⟨rfl, rfl, hI.next⟩
      · have g2 : ¬ i2.toInt < 3 := fun q => h2 (q_lt.mpr (by rw [t3]; exact q))
        rw [if_neg h2, if_pos (in_no l_0 t2 (by omega))]
        exact ⟨rfl, rfl, hI.next⟩

theorem E_year {t : Nat} {M : Nat → Nat → Int32} {LF : Int32} {N : Int32} {K : Nat → Int32} {L : Nat → Int32} {C : Nat → Int32} {K2 : Nat → Int32} {L2 : Nat → Int32} {C2 : Nat → Int32} {YC : Int32} {YF : Int32} {N3 : Int32} {K3 : Nat → Int32} {L3 : Nat → Int32} {C3 : Nat → Int32} {P : Nat → Int32} {GK : Int32} {GN : Nat → Int32} {GC : Nat → Int32} {LA : Nat → Int32} {LE : Nat → Int32} {mch : Int32} {mfr : Int32} {mfw : Int32} {KL : Nat → Int32} {KC : Nat → Int32} {PY : Nat → Int32} {SZ : Nat → Int32} {LN : Nat → Int32} {SH : Nat → Int32} (hI : Inv t N K L C GK GN GC M LA LE SZ LN SH) (hZ : Zs K L C K2 L2 C2 K3 L3 C3) (ht : t ≤ 63) (i1 : Int32) (i2 : Int32) (i3 : Int32) (i4 : Int32) (i5 : Int32) (i6 : Int32) {ra : Int32} {LFa : Int32} {YCa : Int32} {YFa : Int32} {N3a : Int32} {K3a : Nat → Int32} {L3a : Nat → Int32} {C3a : Nat → Int32} {Pa : Nat → Int32} {rb : Int32} {mfab : Int32} {mchb : Int32} {mfrb : Int32} {mfwb : Int32} {qLb : Nat → Int32} {qCb : Nat → Int32} {KLb : Nat → Int32} {KCb : Nat → Int32} {PYb : Nat → Int32} (era : (p4_year M LF N K L C YC YF N3 K3 L3 C3 P LA LE i1 i2 i3 i4 i5 i6).1 = ra) (eLFa : (p4_year M LF N K L C YC YF N3 K3 L3 C3 P LA LE i1 i2 i3 i4 i5 i6).2.1 = LFa) (eYCa : (p4_year M LF N K L C YC YF N3 K3 L3 C3 P LA LE i1 i2 i3 i4 i5 i6).2.2.1 = YCa) (eYFa : (p4_year M LF N K L C YC YF N3 K3 L3 C3 P LA LE i1 i2 i3 i4 i5 i6).2.2.2.1 = YFa) (eN3a : (p4_year M LF N K L C YC YF N3 K3 L3 C3 P LA LE i1 i2 i3 i4 i5 i6).2.2.2.2.1 = N3a) (eK3a : (p4_year M LF N K L C YC YF N3 K3 L3 C3 P LA LE i1 i2 i3 i4 i5 i6).2.2.2.2.2.1 = K3a) (eL3a : (p4_year M LF N K L C YC YF N3 K3 L3 C3 P LA LE i1 i2 i3 i4 i5 i6).2.2.2.2.2.2.1 = L3a) (eC3a : (p4_year M LF N K L C YC YF N3 K3 L3 C3 P LA LE i1 i2 i3 i4 i5 i6).2.2.2.2.2.2.2.1 = C3a) (ePa : (p4_year M LF N K L C YC YF N3 K3 L3 C3 P LA LE i1 i2 i3 i4 i5 i6).2.2.2.2.2.2.2.2 = Pa) (erb : (p5_year LF N mch mfr mfw K L C KL KC PY SZ LN SH i1 i2 i3 i4 i5 i6).1 = rb) (emfab : (p5_year LF N mch mfr mfw K L C KL KC PY SZ LN SH i1 i2 i3 i4 i5 i6).2.1 = mfab) (emchb : (p5_year LF N mch mfr mfw K L C KL KC PY SZ LN SH i1 i2 i3 i4 i5 i6).2.2.1 = mchb) (emfrb : (p5_year LF N mch mfr mfw K L C KL KC PY SZ LN SH i1 i2 i3 i4 i5 i6).2.2.2.1 = mfrb) (emfwb : (p5_year LF N mch mfr mfw K L C KL KC PY SZ LN SH i1 i2 i3 i4 i5 i6).2.2.2.2.1 = mfwb) (eqLb : (p5_year LF N mch mfr mfw K L C KL KC PY SZ LN SH i1 i2 i3 i4 i5 i6).2.2.2.2.2.1 = qLb) (eqCb : (p5_year LF N mch mfr mfw K L C KL KC PY SZ LN SH i1 i2 i3 i4 i5 i6).2.2.2.2.2.2.1 = qCb) (eKLb : (p5_year LF N mch mfr mfw K L C KL KC PY SZ LN SH i1 i2 i3 i4 i5 i6).2.2.2.2.2.2.2.1 = KLb) (eKCb : (p5_year LF N mch mfr mfw K L C KL KC PY SZ LN SH i1 i2 i3 i4 i5 i6).2.2.2.2.2.2.2.2.1 = KCb) (ePYb : (p5_year LF N mch mfr mfw K L C KL KC PY SZ LN SH i1 i2 i3 i4 i5 i6).2.2.2.2.2.2.2.2.2 = PYb) : ra = rb ∧ LFa = mfab ∧ nzn 6 L = nzn 6 qLb ∧ nzn 6 C = nzn 6 qCb ∧ Inv (t + 1) N K L C GK GN GC M LA LE SZ LN SH := by
  subst era eLFa eYCa eYFa eN3a eK3a eL3a eC3a ePa erb emfab emchb emfrb emfwb eqLb eqCb eKLb eKCb ePYb
  have t2 : (2 : Int64).toInt = 2 := by decide
  have t3 : (3 : Int64).toInt = 3 := by decide
  have t10 : (10 : Int64).toInt = 10 := by decide
  have t15 : (15 : Int64).toInt = 15 := by decide
  have t20 : (20 : Int64).toInt = 20 := by decide
  have t25 : (25 : Int64).toInt = 25 := by decide
  have z20 : (20 : Int32).toInt = 20 := by decide
  by_cases h : p2_isSheet i2 = 0
  · have e5 : p5_year LF N mch mfr mfw K L C KL KC PY SZ LN SH i1 i2 i3 i4 i5 i6 = (-1, 0, mch, mfr, mfw, L, C, KL, KC, PY) := by
      unfold p5_year
      rw [if_neg (sheet_no.mp h)]; rfl
    unfold p4_year
    rw [if_pos h, e5]
    exact ⟨rfl, rfl, rfl, rfl, hI.next⟩
  · have ak : ((¬ p5_in i6.toInt64 0 3 = 0) ∨ (¬ p5_in i6.toInt64 10 15 = 0) ∨ (¬ p5_in i6.toInt64 20 25 = 0)) ↔ askd i6 := by
      rw [in_i (x := i6) l_0 t3, in_i (x := i6) t10 t15, in_i (x := i6) t20 t25]
      exact Iff.rfl
    by_cases ok : (¬ p4_isCost i1 = 0) ∧ (¬ p2_isLane i3 = 0) ∧ (0 ≤ i5.toInt ∧ i5.toInt ≤ 20) ∧ ¬ p3_isAsked i6 = 0
    · obtain ⟨c1, c2, c5, c6⟩ := ok
      have ask := asked_iff.mp c6
      rw [year5_ok (sheet_yes h) (cost_yes c1) (fun q => c2 (lane_no.mpr q)) ((in_i l_0 t20).mpr c5) (ak.mpr ask)]
      unfold p4_year
      rw [if_neg h, if_neg c1, if_neg c2, if_neg (nn c5.1), if_neg (show ¬ 20 < i5 from fun q => by have := q_lt.mp q; rw [z20] at this; omega), if_neg c6]
      by_cases hN : N = 0
      · rw [if_pos hN, if_pos hN]
        exact ⟨rfl, rfl, rfl, rfl, hI.next⟩
      · obtain ⟨hk, hk4, ck⟩ := sh_k h
        have rk := vi_e hk
        have hR := hI.SR _ hk4
        have cb := cb_eq (f := LF) (i3 := i3) (i4 := i4) (j := 2 * i5.toInt64) hR
        rw [if_neg hN, if_neg hN]
        by_cases n1 : p2_isNothing LA i2 = 0
        · have g0 := noth_iff.mp n1
          have g := hR.there g0
          have lf : p2_laneFault LA i2 i3 = if LA i2.toNatClampNeg = i3 then 0 else 2 := by
            unfold p2_laneFault
            rw [if_pos n1]
          rw [if_neg g0] at cb
          by_cases e : LA i2.toNatClampNeg = i3
          · rw [if_pos e] at cb lf
            have m2 := two_n c5
            have s := span_iff (LE := LE) (i1 := i2) (i2 := i4) (i3 := 2 * i5) ⟨g.2.2.2.2.1, g.2.2.2.2.2.1⟩
            rw [two_l c5, if_pos ((lg_cmp_ge (2 * i5).toInt64 0).mpr (l_le.mpr (by rw [l_0, w_toInt, m2]; omega)))] at cb
            rw [two_l c5, lf, if_pos (show (0 : Int32) = 0 from rfl)]
            by_cases f : p2_spanFault LE i2 i4 (2 * i5) = 0
            · rw [if_pos (s.mp f)] at cb
              rw [if_pos f, cb, if_pos (show (0 : Int32) ≤ ((0 : Int32), LF).1 by show (0 : Int32) ≤ 0; decide)]
              obtain ⟨x1, x2, x3⟩ := beyond_iff.mp (s.mp f)
              have hag : ∀ v : Int32, 0 ≤ v.toInt → v.toInt < (2 * i5).toInt → SH (((60 * i2) + i4) + v).toNatClampNeg = M i2.toNatClampNeg (i4 + v).toNatClampNeg := by
                intro v v0 v1
                have e1 := k60v hk x1 v0 (by omega)
                have e2 : (i4 + v).toInt = i4.toInt + v.toInt := q_add (by omega) (by omega)
                have y1 := cl_nn (x := ((60 * i2) + i4) + v) (by omega)
                have y2 := cl_nn (x := i4 + v) (by omega)
                rw [show (((60 * i2) + i4) + v).toNatClampNeg = 60 * i2.toNatClampNeg + (i4 + v).toNatClampNeg by omega]
                exact g.2.2.2.2.2.2 _ (by omega)
              unfold p4_yearOfPairs p4_areHouses
              rcases houses_eq (LF := LF) (N := N) (mch := mch) (mfr := mfr) (mfw := mfw) (i1 := i1) (i3 := i3) (i6 := i6) (K := K) (L := L) (C := C) (PY := PY) (KL := KL) (KC := KC) (SZ := SZ) (LN := LN) (f := ((0 : Int32), LF).2) (by omega) hag 61 41 0 (by decide) (by rw [q_0]; omega) (by rw [q_0]; omega) (by rw [q_0]; omega) with ⟨a1, a2⟩ | ⟨a1, a2⟩
              · rw [if_pos a1, a2]
                exact ⟨rfl, rfl, rfl, rfl, hI.next⟩
              · obtain ⟨P', eb, pb⟩ := begin_eq (YC := YC) (YF := YF) (N3 := N3) (K3 := K3) (L3 := L3) (C3 := C3) (P := P) (N := N) (K := K) (L := L) (C := C) 7 0 P (by decide) (by decide) (by decide) (fun j hj => by rw [q_0] at hj; omega)
                obtain ⟨Y', eg, yb⟩ := goYear_eq (N := N) (mch := mch) (mfr := mfr) (mfw := mfw) (K := K) (L := L) (C := C) (PY := PY) (SH := SH) (i1 := i1) (i5 := i5) (g := (60 * i2) + i4) 7 0 PY (by decide) (by decide) (by decide) (fun j hj => by rw [q_0] at hj; omega)
                rw [if_neg a1, a2, p5_year_l149_s, if_pos (Int32.le_refl _)]
                unfold p3_begin p5_goYear
                rw [like_eq ⟨hZ.1, hZ.2.1, hZ.2.2.1⟩ ⟨hZ.2.2.2.2.2.2.1, hZ.2.2.2.2.2.2.2.1, hZ.2.2.2.2.2.2.2.2⟩, eb, eg]
                have hsp : ∀ v : Int32, 0 ≤ v.toInt → v.toInt < i5.toInt → SH (((60 * i2) + i4) + (2 * v)).toNatClampNeg = M i2.toNatClampNeg (i4 + (2 * v)).toNatClampNeg ∧ SH ((((60 * i2) + i4) + (2 * v)) + 1).toNatClampNeg = M i2.toNatClampNeg ((i4 + (2 * v)) + 1).toNatClampNeg := by
                  intro v v0 v1
                  have w := two_n (n := v) ⟨v0, by omega⟩
                  have w1 := p1i (x := 2 * v) (by omega) (by omega)
                  refine ⟨hag _ (by omega) (by omega), ?_⟩
                  rw [Int32.add_assoc ((60 * i2) + i4), Int32.add_assoc i4]
                  exact hag _ (by omega) (by omega)
                have pe := pairs_eq (YC := YC) (YF := YF) (N3 := N3) (mch := mch) (mfr := mfr) (mfw := mfw) (L := L) (C := C) (K3 := K3) (L3 := L3) (C3 := C3) (P := P) (PY := PY) (B := 18 * ((t : Int) + 1)) (by omega) hI.K3 hI.N6 (isCost_iff.mp c1) ask c5.2 hsp 21 0 0 0 L C P' Y' (by decide) (by rw [q_0]; exact c5.1) (by rw [q_0]; omega) hI.L0 hI.C0 (fun j hj => by rw [pb j hj, yb j hj])
                have bk := back_eq (L := L) (C := C) (KL := KL) (KC := KC) (L_ := (p5_goYear_l43 N mch mfr mfw K L C PY SH i1 ((60 * i2) + i4) i5 21 0 0 0 (-9) L C Y').2.2.2.1) (C_ := (p5_goYear_l43 N mch mfr mfw K L C PY SH i1 ((60 * i2) + i4) i5 21 0 0 0 (-9) L C Y').2.2.2.2.1)
                exact ⟨pe, rfl, nzn_eq (fun j hj => (bk j hj).1), nzn_eq (fun j hj => (bk j hj).2), hI.next⟩
            · rw [if_neg (fun q => f (s.mpr q))] at cb
              rw [if_neg f, cb, if_neg (show ¬ (0 : Int32) ≤ ((-10 - 3 : Int32), (3 : Int32)).1 by show ¬ (0 : Int32) ≤ -10 - 3; decide), span_3 f]
              exact ⟨rfl, rfl, rfl, rfl, hI.next⟩
          · rw [if_neg e] at cb lf
            rw [lf, if_neg (show ¬ (2 : Int32) = 0 by decide), cb, if_neg (show ¬ (0 : Int32) ≤ ((-10 - 2 : Int32), (2 : Int32)).1 by show ¬ (0 : Int32) ≤ -10 - 2; decide)]
            exact ⟨rfl, rfl, rfl, rfl, hI.next⟩
        · have g : LA i2.toNatClampNeg = -1 := Classical.byContradiction (fun q => n1 (noth_iff.mpr q))
          have lf : p2_laneFault LA i2 i3 = 1 := by
            unfold p2_laneFault
            rw [if_neg n1]
          rw [if_pos g] at cb
          rw [lf, if_neg (show ¬ (1 : Int32) = 0 by decide), cb, if_neg (show ¬ (0 : Int32) ≤ ((-10 - 1 : Int32), (1 : Int32)).1 by show ¬ (0 : Int32) ≤ -10 - 1; decide)]
          exact ⟨rfl, rfl, rfl, rfl, hI.next⟩
    · rw [year4_no h ok, year5_no (sheet_yes h) (fun q => ok ⟨fun z => cost_no.mp z q.1, fun z => q.2.1 (lane_no.mp z), (in_i l_0 t20).mp q.2.2.1, asked_iff.mpr (ak.mp q.2.2.2)⟩)]
      exact ⟨rfl, rfl, rfl, rfl, hI.next⟩

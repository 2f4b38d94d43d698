theorem E_city {t : Nat} {M : Nat → Nat → Int32} {LF : Int32} {N : Int32} {K : Nat → Int32} {L : Nat → Int32} {C : Nat → Int32} {K2 : Nat → Int32} {L2 : Nat → Int32} {C2 : Nat → Int32} {K3 : Nat → Int32} {L3 : Nat → Int32} {C3 : Nat → Int32} {GK : Int32} {GN : Nat → Int32} {GC : Nat → Int32} {LA : Nat → Int32} {LE : Nat → Int32} {mra : Int32} {mrh : Int32} {RK : Nat → Int32} {RL : Nat → Int32} {RC : Nat → Int32} {SZ : Nat → Int32} {LN : Nat → Int32} {SH : Nat → Int32} (hI : Inv t N K L C GK GN GC M LA LE SZ LN SH) (hZ : Zs K L C K2 L2 C2 K3 L3 C3) (ht : t ≤ 63) (i1 : Int32) (i2 : Int32) (i3 : Int32) (i4 : Int32) {ra : Int32} {LFa : Int32} {Na : Int32} {Ka : Nat → Int32} {La : Nat → Int32} {Ca : Nat → Int32} {GKa : Int32} {rb : Int32} {mfab : Int32} {mhob : Int32} {mrab : Int32} {mrhb : Int32} {mrdb : Int32} {qKb : Nat → Int32} {qLb : Nat → Int32} {qCb : Nat → Int32} {RKb : Nat → Int32} {RLb : Nat → Int32} {RCb : Nat → Int32} (era : (p4_city M LF N K L C GK LA LE i1 i2 i3 i4).1 = ra) (eLFa : (p4_city M LF N K L C GK LA LE i1 i2 i3 i4).2.1 = LFa) (eNa : (p4_city M LF N K L C GK LA LE i1 i2 i3 i4).2.2.1 = Na) (eKa : (p4_city M LF N K L C GK LA LE i1 i2 i3 i4).2.2.2.1 = Ka) (eLa : (p4_city M LF N K L C GK LA LE i1 i2 i3 i4).2.2.2.2.1 = La) (eCa : (p4_city M LF N K L C GK LA LE i1 i2 i3 i4).2.2.2.2.2.1 = Ca) (eGKa : (p4_city M LF N K L C GK LA LE i1 i2 i3 i4).2.2.2.2.2.2 = GKa) (erb : (p5_city LF N mra mrh GK K L C RK RL RC SZ LN SH i1 i2 i3 i4).1 = rb) (emfab : (p5_city LF N mra mrh GK K L C RK RL RC SZ LN SH i1 i2 i3 i4).2.1 = mfab) (emhob : (p5_city LF N mra mrh GK K L C RK RL RC SZ LN SH i1 i2 i3 i4).2.2.1 = mhob) (emrab : (p5_city LF N mra mrh GK K L C RK RL RC SZ LN SH i1 i2 i3 i4).2.2.2.1 = mrab) (emrhb : (p5_city LF N mra mrh GK K L C RK RL RC SZ LN SH i1 i2 i3 i4).2.2.2.2.1 = mrhb) (emrdb : (p5_city LF N mra mrh GK K L C RK RL RC SZ LN SH i1 i2 i3 i4).2.2.2.2.2.1 = mrdb) (eqKb : (p5_city LF N mra mrh GK K L C RK RL RC SZ LN SH i1 i2 i3 i4).2.2.2.2.2.2.1 = qKb) (eqLb : (p5_city LF N mra mrh GK K L C RK RL RC SZ LN SH i1 i2 i3 i4).2.2.2.2.2.2.2.1 = qLb) (eqCb : (p5_city LF N mra mrh GK K L C RK RL RC SZ LN SH i1 i2 i3 i4).2.2.2.2.2.2.2.2.1 = qCb) (eRKb : (p5_city LF N mra mrh GK K L C RK RL RC SZ LN SH i1 i2 i3 i4).2.2.2.2.2.2.2.2.2.1 = RKb) (eRLb : (p5_city LF N mra mrh GK K L C RK RL RC SZ LN SH i1 i2 i3 i4).2.2.2.2.2.2.2.2.2.2.1 = RLb) (eRCb : (p5_city LF N mra mrh GK K L C RK RL RC SZ LN SH i1 i2 i3 i4).2.2.2.2.2.2.2.2.2.2.2 = RCb) : ra = rb ∧ LFa = mfab ∧ Na = mhob ∧ GKa = mrdb ∧ nzn 6 Ka = nzn 6 qKb ∧ nzn 6 La = nzn 6 qLb ∧ nzn 6 Ca = nzn 6 qCb ∧ Inv (t + 1) Na Ka La Ca GKa GN GC M LA LE SZ LN SH := by
  subst era eLFa eNa eKa eLa eCa eGKa erb emfab emhob emrab emrhb emrdb eqKb eqLb eqCb eRKb eRLb eRCb
  unfold p4_city p5_city
  by_cases h : p2_isSheet i1 = 0
  · rw [if_pos h, if_neg (sheet_no.mp h)]
    exact ⟨rfl, rfl, rfl, rfl, rfl, rfl, rfl, hI.next⟩
  · rw [if_neg h, if_pos (sheet_yes h)]
    by_cases c2 : p2_isLane i2 = 0
    · rw [if_pos c2, if_pos (lane_no.mp c2)]
      exact ⟨rfl, rfl, rfl, rfl, rfl, rfl, rfl, hI.next⟩
    · rw [if_neg c2, if_neg (fun q => c2 (lane_no.mpr q))]
      obtain ⟨hk, hk4, ck⟩ := sh_k h
      have rk := vi_e hk
      have hR := hI.SR _ hk4
      have cb := cb_eq (f := LF) (i2 := i1) (i3 := i2) (i4 := i3) (j := i4.toInt64) hR
      by_cases n1 : p2_isNothing LA i1 = 0
      · have g0 := noth_iff.mp n1
        have g := hR.there g0
        have lf : p2_laneFault LA i1 i2 = if LA i1.toNatClampNeg = i2 then 0 else 2 := by
          unfold p2_laneFault
          rw [if_pos n1]
        rw [if_neg g0] at cb
        by_cases e : LA i1.toNatClampNeg = i2
        · rw [if_pos e] at cb lf
          rw [lf, if_pos (show (0 : Int32) = 0 from rfl)]
          by_cases p4 : 0 ≤ i4
          · have q4 := q_le.mp p4
            rw [q_0] at q4
            have s := span_iff (LE := LE) (i1 := i1) (i2 := i3) (i3 := i4) ⟨g.2.2.2.2.1, g.2.2.2.2.2.1⟩
            rw [if_pos ((lg_cmp_ge i4.toInt64 0).mpr (l_le.mpr (by rw [l_0, w_toInt]; exact q4)))] at cb
            rw [if_pos p4]
            by_cases f : p2_spanFault LE i1 i3 i4 = 0
            · rw [if_pos (s.mp f)] at cb
              rw [if_pos f, cb, if_pos (show (0 : Int32) ≤ ((0 : Int32), LF).1 by show (0 : Int32) ≤ 0; decide)]
              obtain ⟨x1, x2, x3⟩ := beyond_iff.mp (s.mp f)
              obtain ⟨nn, hnn, e4⟩ := as_nI (x := i4) q4 (n := 61) (by omega) (by omega)
              have t4 : i4.toInt = nn := by rw [e4]; exact nI_toInt (by omega)
              have y3 := cl_nn x1
              have hc : ∀ x, x < nn → M i1.toNatClampNeg (i3.toNatClampNeg + x) = (fun x => M i1.toNatClampNeg (i3.toNatClampNeg + x)) x := fun _ _ => rfl
              have hM : ∀ x, x < nn → M i1.toNatClampNeg (i3 + nI x).toNatClampNeg = (fun x => M i1.toNatClampNeg (i3.toNatClampNeg + x)) x := by
                intro x hx
                have tx : (nI x).toInt = x := nI_toInt (by omega)
                have e2 : (i3 + nI x).toInt = i3.toInt + x := by rw [q_add (by rw [tx]; omega) (by rw [tx]; omega), tx]
                have y2 := cl_nn (x := i3 + nI x) (by omega)
                show M i1.toNatClampNeg (i3 + nI x).toNatClampNeg = M i1.toNatClampNeg (i3.toNatClampNeg + x)
                rw [show (i3 + nI x).toNatClampNeg = i3.toNatClampNeg + x by omega]
              have hS : ∀ x, x < nn → SH (((60 * i1) + i3) + nI x).toNatClampNeg = (fun x => M i1.toNatClampNeg (i3.toNatClampNeg + x)) x := by
                intro x hx
                have tx : (nI x).toInt = x := nI_toInt (by omega)
                have e2 := k60v hk x1 (v := nI x) (by omega) (by omega)
                have y2 := cl_nn (x := ((60 * i1) + i3) + nI x) (by omega)
                show SH (((60 * i1) + i3) + nI x).toNatClampNeg = M i1.toNatClampNeg (i3.toNatClampNeg + x)
                rw [show (((60 * i1) + i3) + nI x).toNatClampNeg = 60 * i1.toNatClampNeg + (i3.toNatClampNeg + x) by omega]
                exact g.2.2.2.2.2.2 _ (by omega)
              rw [e4]
              rcases city_eq (mra := mra) (mrh := mrh) (RK := RK) (RL := RL) (RC := RC) (by omega) hM hS with ⟨ff, a1, a2, a3, a4⟩ | ⟨H, S1, S2, S3, a1, a2, a3, a4, a5, a6⟩
              · rw [a3, if_neg (nI_not9 (a := ff) (by omega)), if_pos a1, a2]
                exact ⟨rfl, rfl, rfl, rfl, rfl, rfl, rfl, hI.next⟩
              · obtain ⟨K', L', C', b1, b2, b3, b4, b5⟩ := settle_eq (N := N) (GK := GK) (f := ((0 : Int32), LF).2) (LF := LF) (mra := mra) (mrh := mrh) (mrd := GK) (a := nI (4 * H + 1)) (b := nI H) (i2 := i2) (i4 := nI nn) (K := K) (L := L) (C := C) (RK := RK) (RL := RL) (RC := RC) (SZ := SZ) (LN := LN) (SH := SH) (B := 18 * (((t + 1 : Nat) : Int) + 1)) a3 a5 a4 ⟨x1, by omega⟩ hc (by omega) 7 0 K L C (by omega) (by omega) hI.K3 hI.L0 (fun j => ⟨(hI.C0 j).1, by have := (hI.C0 j).2; omega⟩)
                rw [nI_0] at b1 b2
                unfold p4_settle
                rw [a6, if_pos (show (-9 : Int32) = -9 from rfl), a1, if_neg (show ¬ ((1 : Int32), nI (4 * H + 1), nI H, S1, S2, S3).1 = 0 by show ¬ (1 : Int32) = 0; decide), b1]
                dsimp only at b2 ⊢
                rw [b2]
                have hH : (nI H).toInt = H := nI_toInt (by omega)
                exact ⟨rfl, rfl, rfl, rfl, rfl, rfl, rfl, ⟨⟨by omega, by omega⟩, b3, b4, b5, ⟨by decide, by decide⟩, fun j hj => by rw [q_0] at hj; omega, hI.LE60, hI.SZ60, hI.SR⟩⟩
            · rw [if_neg (fun q => f (s.mpr q))] at cb
              rw [if_neg f, cb, if_neg (show ¬ (0 : Int32) ≤ ((-10 - 3 : Int32), (3 : Int32)).1 by show ¬ (0 : Int32) ≤ -10 - 3; decide), span_3 f]
              exact ⟨rfl, rfl, rfl, rfl, rfl, rfl, rfl, hI.next⟩
          · have q4 : ¬ 0 ≤ i4.toInt := fun q => p4 (q_le.mpr (by rw [q_0]; exact q))
            rw [if_neg (show ¬ 0 ≤ lg_cmp i4.toInt64 0 from fun q => q4 (by have := l_le.mp ((lg_cmp_ge i4.toInt64 0).mp q); rwa [l_0, w_toInt] at this))] at cb
            rw [if_neg p4, cb, if_neg (show ¬ (0 : Int32) ≤ ((-10 - 4 : Int32), (4 : Int32)).1 by show ¬ (0 : Int32) ≤ -10 - 4; decide)]
            exact ⟨rfl, rfl, rfl, rfl, rfl, rfl, rfl, hI.next⟩
        · rw [if_neg e] at cb lf
          rw [lf, if_neg (show ¬ (2 : Int32) = 0 by decide), cb, if_neg (show ¬ (0 : Int32) ≤ ((-10 - 2 : Int32), (2 : Int32)).1 by show ¬ (0 : Int32) ≤ -10 - 2; decide)]
          exact ⟨rfl, rfl, rfl, rfl, rfl, rfl, rfl, hI.next⟩
      · have g : LA i1.toNatClampNeg = -1 := Classical.byContradiction (fun q => n1 (noth_iff.mpr q))
        have lf : p2_laneFault LA i1 i2 = 1 := by
          unfold p2_laneFault
          rw [if_neg n1]
        rw [if_pos g] at cb
        rw [lf, if_neg (show ¬ (1 : Int32) = 0 by decide), cb, if_neg (show ¬ (0 : Int32) ≤ ((-10 - 1 : Int32), (1 : Int32)).1 by show ¬ (0 : Int32) ≤ -10 - 1; decide)]
        exact ⟨rfl, rfl, rfl, rfl, rfl, rfl, rfl, hI.next⟩

theorem E_sheet {t : Nat} {M : Nat → Nat → Int32} {LF : Int32} {N : Int32} {K : Nat → Int32} {L : Nat → Int32} {C : Nat → Int32} {K2 : Nat → Int32} {L2 : Nat → Int32} {C2 : Nat → Int32} {K3 : Nat → Int32} {L3 : Nat → Int32} {C3 : Nat → Int32} {GK : Int32} {GN : Nat → Int32} {GC : Nat → Int32} {LA : Nat → Int32} {LE : Nat → Int32} {SZ : Nat → Int32} {LN : Nat → Int32} {SH : Nat → Int32} (hI : Inv t N K L C GK GN GC M LA LE SZ LN SH) (hZ : Zs K L C K2 L2 C2 K3 L3 C3) (ht : t ≤ 63) (i1 : Int32) (i2 : Int32) (i3 : Int32) {ra : Int32} {Ma : Nat → Nat → Int32} {LFa : Int32} {LAa : Nat → Int32} {LEa : Nat → Int32} {rb : Int32} {mfab : Int32} {SZb : Nat → Int32} {LNb : Nat → Int32} {SHb : Nat → Int32} (era : (p4_sheet M LF LA LE i1 i2 i3).1 = ra) (eMa : (p4_sheet M LF LA LE i1 i2 i3).2.1 = Ma) (eLFa : (p4_sheet M LF LA LE i1 i2 i3).2.2.1 = LFa) (eLAa : (p4_sheet M LF LA LE i1 i2 i3).2.2.2.1 = LAa) (eLEa : (p4_sheet M LF LA LE i1 i2 i3).2.2.2.2 = LEa) (erb : (p5_sheet LF SZ LN SH i1 i2 i3).1 = rb) (emfab : (p5_sheet LF SZ LN SH i1 i2 i3).2.1 = mfab) (eSZb : (p5_sheet LF SZ LN SH i1 i2 i3).2.2.1 = SZb) (eLNb : (p5_sheet LF SZ LN SH i1 i2 i3).2.2.2.1 = LNb) (eSHb : (p5_sheet LF SZ LN SH i1 i2 i3).2.2.2.2 = SHb) : ra = rb ∧ LFa = mfab ∧ Inv (t + 1) N K L C GK GN GC Ma LAa LEa SZb LNb SHb := by
  subst era eMa eLFa eLAa eLEa erb emfab eSZb eLNb eSHb
  unfold p4_sheet p5_sheet
  have t2 : (2 : Int64).toInt = 2 := by decide
  by_cases h : p2_isSheet i1 = 0
  · rw [if_pos h, if_neg (sheet_no.mp h)]
    exact ⟨rfl, rfl, hI.next⟩
  · rw [if_neg h, if_pos (sheet_yes h)]
    obtain ⟨hk, hk4, ck⟩ := sh_k h
    by_cases h2 : p2_isLane i2 = 0
    · rw [if_pos h2, if_pos (lane_no.mp h2)]
      exact ⟨rfl, rfl, hI.next⟩
    · rw [if_neg h2, if_neg (fun q => h2 (lane_no.mpr q))]
      have l2 := isLane_iff.mp h2
      by_cases h3 : i3 ≤ 60
      · have l3 := le60 h3
        rw [if_pos h3, if_pos h3]
        by_cases h4 : 0 ≤ i3
        · have l4 := q_le.mp h4
          rw [q_0] at l4
          rw [if_pos h4, if_pos h4]
          unfold p2_renew
          obtain ⟨M', e, g1, g2, g3⟩ := renew_eq (M := M) (LA := LA) (LE := LE) (i1 := i1) (i2 := i2) (i3 := i3) 61 0 M (by decide) (by decide) (by decide)
          obtain ⟨S', e', k1, k2, k3⟩ := clean_eq (f := LF) (SZ := SZ) (LN := LN) (SH := SH) (i2 := i2) hk l3 61 0 SH (by decide) (by rw [q_0]; exact l4) (by rw [q_0]; omega)
          rw [e, e']
          refine ⟨rfl, rfl, hI.setS (all_upd (P := fun x => x.toInt ≤ 60) hI.LE60 l3) (all_upd (P := fun x => x.toInt ≤ 60) hI.SZ60 l3) (fun k hk' => ?_)⟩
          show shR M' (upd LA i1.toNatClampNeg i2) (upd LE i1.toNatClampNeg i3) (upd SZ i1.toNatClampNeg i3) (upd LN i1.toNatClampNeg i2) S' k
          by_cases ek : k = i1.toNatClampNeg
          · rw [ek]
            unfold shR
            rw [pk_us, pk_us, pk_us, pk_us]
            refine Or.inr ⟨l2.1, l2.2, rfl, rfl, l4, l3, fun i hi => ?_⟩
            rw [g2 i (by rw [q_0]; omega) (by omega), k2 i (by rw [q_0]; omega) hi]
          · exact (hI.SR k hk').keep (k' := 0) (g1 k ek) (pk_un ek) (pk_un ek) (pk_un ek) (pk_un ek) rfl (fun i hi => k1 _ (by omega))
        · rw [if_neg h4, if_neg h4]
          exact ⟨rfl, rfl, hI.next⟩
      · rw [if_neg h3, if_neg h3]
        exact ⟨rfl, rfl, hI.next⟩

theorem E_lose {t : Nat} {M : Nat → Nat → Int32} {N : Int32} {K : Nat → Int32} {L : Nat → Int32} {C : Nat → Int32} {K2 : Nat → Int32} {L2 : Nat → Int32} {C2 : Nat → Int32} {K3 : Nat → Int32} {L3 : Nat → Int32} {C3 : Nat → Int32} {GK : Int32} {GN : Nat → Int32} {GC : Nat → Int32} {LA : Nat → Int32} {LE : Nat → Int32} {SZ : Nat → Int32} {LN : Nat → Int32} {SH : Nat → Int32} (hI : Inv t N K L C GK GN GC M LA LE SZ LN SH) (hZ : Zs K L C K2 L2 C2 K3 L3 C3) (ht : t ≤ 63) (i1 : Int32) {ra : Int32} {LAa : Nat → Int32} {LEa : Nat → Int32} {rb : Int32} {SZb : Nat → Int32} (era : (p4_lose LA LE i1).1 = ra) (eLAa : (p4_lose LA LE i1).2.1 = LAa) (eLEa : (p4_lose LA LE i1).2.2 = LEa) (erb : (p5_lose SZ i1).1 = rb) (eSZb : (p5_lose SZ i1).2 = SZb) : ra = rb ∧ Inv (t + 1) N K L C GK GN GC M LAa LEa SZb LN SH := by
  subst era eLAa eLEa erb eSZb
  unfold p4_lose p5_lose
  by_cases h : p2_isSheet i1 = 0
  · rw [if_pos h, if_neg (sheet_no.mp h)]
    exact ⟨rfl, hI.next⟩
  · rw [if_neg h, if_pos (sheet_yes h)]
    obtain ⟨hk, hk4, ck⟩ := sh_k h
    have hR := hI.SR _ hk4
    by_cases h2 : p2_isNothing LA i1 = 0
    · rw [if_pos h2, if_pos (hR.sz.2.mpr (noth_iff.mp h2))]
      refine ⟨rfl, hI.setS (all_upd (P := fun x => x.toInt ≤ 60) hI.LE60 (by decide)) (all_upd (P := fun x => x.toInt ≤ 60) hI.SZ60 (by decide)) (fun k hk' => ?_)⟩
      show shR M (upd LA i1.toNatClampNeg (-1)) (upd LE i1.toNatClampNeg 0) (upd SZ i1.toNatClampNeg (-1)) LN SH k
      by_cases ek : k = i1.toNatClampNeg
      · rw [ek]
        exact Or.inl ⟨pk_us, pk_us, pk_us⟩
      · exact (hI.SR k hk').keep (k' := 0) rfl (pk_un ek) (pk_un ek) (pk_un ek) rfl rfl (fun _ _ => rfl)
    · have g : LA i1.toNatClampNeg = -1 := Classical.byContradiction (fun q => h2 (noth_iff.mpr q))
      rw [if_neg h2, if_neg (fun q => hR.sz.2.mp q g)]
      refine ⟨rfl, ?_⟩
      show Inv (t + 1) N K L C GK GN GC M LA LE (upd SZ i1.toNatClampNeg (-1)) LN SH
      rw [← (hR.gone g).2, upd_self]
      exact hI.next

theorem E_put {t : Nat} {M : Nat → Nat → Int32} {LF : Int32} {N : Int32} {K : Nat → Int32} {L : Nat → Int32} {C : Nat → Int32} {K2 : Nat → Int32} {L2 : Nat → Int32} {C2 : Nat → Int32} {K3 : Nat → Int32} {L3 : Nat → Int32} {C3 : Nat → Int32} {GK : Int32} {GN : Nat → Int32} {GC : Nat → Int32} {LA : Nat → Int32} {LE : Nat → Int32} {SZ : Nat → Int32} {LN : Nat → Int32} {SH : Nat → Int32} (hI : Inv t N K L C GK GN GC M LA LE SZ LN SH) (hZ : Zs K L C K2 L2 C2 K3 L3 C3) (ht : t ≤ 63) (i1 : Int32) (i2 : Int32) (i3 : Int32) {ra : Int32} {Ma : Nat → Nat → Int32} {LFa : Int32} {rb : Int32} {mfab : Int32} {SHb : Nat → Int32} (era : (p4_put M LF LA LE i1 i2 i3).1 = ra) (eMa : (p4_put M LF LA LE i1 i2 i3).2.1 = Ma) (eLFa : (p4_put M LF LA LE i1 i2 i3).2.2 = LFa) (erb : (p5_put LF SZ LN SH i1 i2 i3).1 = rb) (emfab : (p5_put LF SZ LN SH i1 i2 i3).2.1 = mfab) (eSHb : (p5_put LF SZ LN SH i1 i2 i3).2.2 = SHb) : ra = rb ∧ LFa = mfab ∧ Inv (t + 1) N K L C GK GN GC Ma LA LE SZ LN SHb := by
  subst era eMa eLFa erb emfab eSHb
  unfold p4_put p5_put
  by_cases h : p2_isSheet i1 = 0
  · rw [if_pos h, if_neg (sheet_no.mp h)]
    exact ⟨rfl, rfl, hI.next⟩
  · rw [if_neg h, if_pos (sheet_yes h)]
    obtain ⟨hk, hk4, ck⟩ := sh_k h
    have hR := hI.SR _ hk4
    by_cases h2 : p2_isNothing LA i1 = 0
    · have g0 := noth_iff.mp h2
      have hz := hR.sz.2.mpr g0
      have g := hR.there g0
      rw [if_pos h2]
      rcases cellF_iff (LE := LE) (i1 := i1) (i2 := i2) with ⟨a1, a2⟩ | ⟨a1, a2⟩
      · rw [if_pos a1, if_pos (noCell_iff.mpr (by rw [g.2.2.2.1]; exact a2))]
        unfold p2_write p2_cut
        rw [g.2.2.1]
        by_cases b1 : LA i1.toNatClampNeg = 0
        · rw [if_pos b1, if_pos b1]
          exact ⟨rfl, rfl, write_keep hI hk g0 a2⟩
        · rw [if_neg b1, if_neg b1]
          by_cases b2 : LA i1.toNatClampNeg = 1
          · rw [if_pos b2, if_pos b2]
            exact ⟨rfl, rfl, write_keep hI hk g0 a2⟩
          · rw [if_neg b2, if_neg b2]
            exact ⟨rfl, rfl, write_keep hI hk g0 a2⟩
      · rcases noCell_3 (i2 := i2) hz with ⟨_, n2⟩ | ⟨n1, n2⟩
        · rw [g.2.2.2.1] at n2; exact absurd n2 a2
        · rw [a1, if_neg (show ¬ (3 : Int32) = 0 by decide), n1, if_neg (show ¬ (3 : Int32) ≤ 0 by decide)]
          exact ⟨rfl, rfl, hI.next⟩
    · have g : LA i1.toNatClampNeg = -1 := Classical.byContradiction (fun q => h2 (noth_iff.mpr q))
      have n1 : p5_noCell SZ i1 i2 = 1 := by
        unfold p5_noCell
        rw [if_neg (fun q => hR.sz.2.mp q g)]
      rw [if_neg h2, n1, if_neg (show ¬ (1 : Int32) ≤ 0 by decide)]
      exact ⟨rfl, rfl, hI.next⟩

theorem E_cell {t : Nat} {M : Nat → Nat → Int32} {LF : Int32} {N : Int32} {K : Nat → Int32} {L : Nat → Int32} {C : Nat → Int32} {K2 : Nat → Int32} {L2 : Nat → Int32} {C2 : Nat → Int32} {K3 : Nat → Int32} {L3 : Nat → Int32} {C3 : Nat → Int32} {GK : Int32} {GN : Nat → Int32} {GC : Nat → Int32} {LA : Nat → Int32} {LE : Nat → Int32} {SZ : Nat → Int32} {LN : Nat → Int32} {SH : Nat → Int32} (hI : Inv t N K L C GK GN GC M LA LE SZ LN SH) (hZ : Zs K L C K2 L2 C2 K3 L3 C3) (ht : t ≤ 63) (i1 : Int32) (i2 : Int32) (i3 : Int32) {ra : Int64} {LFa : Int32} {rb : Int64} {mfab : Int32} (era : (p4_cell M LF LA LE i1 i2 i3).1 = ra) (eLFa : (p4_cell M LF LA LE i1 i2 i3).2 = LFa) (erb : (p5_cell LF SZ LN SH i1 i2 i3).1 = rb) (emfab : (p5_cell LF SZ LN SH i1 i2 i3).2 = mfab) : ra = rb ∧ LFa = mfab ∧ Inv (t + 1) N K L C GK GN GC M LA LE SZ LN SH := by
  subst era eLFa erb emfab
  unfold p4_cell p5_cell
  by_cases h : p2_isSheet i1 = 0
  · rw [if_pos h, if_neg (sheet_no.mp h)]
    exact ⟨rfl, rfl, hI.next⟩
  · rw [if_neg h, if_pos (sheet_yes h)]
    obtain ⟨hk, hk4, ck⟩ := sh_k h
    have rk := vi_e hk
    have hR := hI.SR _ hk4
    by_cases h2 : p2_isLane i3 = 0
    · rw [if_pos h2, if_pos (lane_no.mp h2)]
      exact ⟨rfl, rfl, hI.next⟩
    · rw [if_neg h2, if_neg (fun q => h2 (lane_no.mpr q))]
      by_cases h3 : p2_isNothing LA i1 = 0
      · have g0 := noth_iff.mp h3
        have hz := hR.sz.2.mpr g0
        have g := hR.there g0
        have lf : p2_laneFault LA i1 i3 = if LA i1.toNatClampNeg = i3 then 0 else 2 := by
          unfold p2_laneFault
          rw [if_pos h3]
        rw [lf, if_neg (show ¬ SZ i1.toNatClampNeg < 0 from fun q => g0 (hR.sz.1.mp q)), g.2.2.1]
        by_cases h4 : LA i1.toNatClampNeg = i3
        · rw [if_pos h4, if_pos h4, if_pos (show (0 : Int32) = 0 from rfl)]
          rcases cellF_iff (LE := LE) (i1 := i1) (i2 := i2) with ⟨a1, a2⟩ | ⟨a1, a2⟩
          · rw [if_pos a1, if_pos (noCell_iff.mpr (by rw [g.2.2.2.1]; exact a2))]
            have e1 := k60i hk (i := i2) ⟨a2.1, by omega⟩
            have cx := cl_nn (x := (60 * i1) + i2) (by omega)
            have c2 := cl_nn a2.1
            have ee : SH ((60 * i1) + i2).toNatClampNeg = M i1.toNatClampNeg i2.toNatClampNeg := by
              rw [show ((60 * i1) + i2).toNatClampNeg = 60 * i1.toNatClampNeg + i2.toNatClampNeg by omega]
              exact g.2.2.2.2.2.2 _ (by omega)
            rw [ee]
            exact ⟨rfl, rfl, hI.next⟩
          · rcases noCell_3 (i2 := i2) hz with ⟨_, n2⟩ | ⟨n1, n2⟩
            · rw [g.2.2.2.1] at n2; exact absurd n2 a2
            · rw [a1, if_neg (show ¬ (3 : Int32) = 0 by decide), n1, if_neg (show ¬ (3 : Int32) ≤ 0 by decide)]
              exact ⟨rfl, rfl, hI.next⟩
        · rw [if_neg h4, if_neg h4, if_neg (show ¬ (2 : Int32) = 0 by decide)]
          exact ⟨rfl, rfl, hI.next⟩
      · have g : LA i1.toNatClampNeg = -1 := Classical.byContradiction (fun q => h3 (noth_iff.mpr q))
        have n1 : p5_noCell SZ i1 i2 = 1 := by
          unfold p5_noCell
          rw [if_neg (fun q => hR.sz.2.mp q g)]
        have lf : p2_laneFault LA i1 i3 = 1 := by
          unfold p2_laneFault
          rw [if_neg h3]
        rw [lf, if_neg (show ¬ (1 : Int32) = 0 by decide), if_pos (hR.sz.1.mpr g), n1, if_neg (show ¬ (1 : Int32) ≤ 0 by decide)]
        exact ⟨rfl, rfl, hI.next⟩

theorem E_copy {t : Nat} {M : Nat → Nat → Int32} {LF : Int32} {N : Int32} {K : Nat → Int32} {L : Nat → Int32} {C : Nat → Int32} {K2 : Nat → Int32} {L2 : Nat → Int32} {C2 : Nat → Int32} {K3 : Nat → Int32} {L3 : Nat → Int32} {C3 : Nat → Int32} {GK : Int32} {GN : Nat → Int32} {GC : Nat → Int32} {LA : Nat → Int32} {LE : Nat → Int32} {SZ : Nat → Int32} {LN : Nat → Int32} {SH : Nat → Int32} {HD : Nat → Int32} (hI : Inv t N K L C GK GN GC M LA LE SZ LN SH) (hZ : Zs K L C K2 L2 C2 K3 L3 C3) (ht : t ≤ 63) (i1 : Int32) (i2 : Int32) (i3 : Int32) (i4 : Int32) (i5 : Int32) {ra : Int32} {Ma : Nat → Nat → Int32} {LFa : Int32} {rb : Int32} {mfab : Int32} {SHb : Nat → Int32} {HDb : Nat → Int32} (era : (p4_copy M LF LA LE i1 i2 i3 i4 i5).1 = ra) (eMa : (p4_copy M LF LA LE i1 i2 i3 i4 i5).2.1 = Ma) (eLFa : (p4_copy M LF LA LE i1 i2 i3 i4 i5).2.2 = LFa) (erb : (p5_copy LF SZ LN SH HD i1 i2 i3 i4 i5).1 = rb) (emfab : (p5_copy LF SZ LN SH HD i1 i2 i3 i4 i5).2.1 = mfab) (eSHb : (p5_copy LF SZ LN SH HD i1 i2 i3 i4 i5).2.2.1 = SHb) (eHDb : (p5_copy LF SZ LN SH HD i1 i2 i3 i4 i5).2.2.2 = HDb) : ra = rb ∧ LFa = mfab ∧ Inv (t + 1) N K L C GK GN GC Ma LA LE SZ LN SHb := by
  subst era eMa eLFa erb emfab eSHb eHDb
  unfold p4_copy p5_copy
  by_cases h : p2_isSheet i1 = 0
  · rw [if_pos h, if_neg (sheet_no.mp h)]
    exact ⟨rfl, rfl, hI.next⟩
  · rw [if_neg h, if_pos (sheet_yes h)]
    by_cases h3 : p2_isSheet i3 = 0
    · rw [if_pos h3, if_neg (sheet_no.mp h3)]
      exact ⟨rfl, rfl, hI.next⟩
    · rw [if_neg h3, if_pos (sheet_yes h3)]
      obtain ⟨hk, hk4, ck⟩ := sh_k h
      obtain ⟨ho, ho4, co⟩ := sh_k h3
      have rk := vi_e hk
      have ro := vi_e ho
      have hR := hI.SR _ hk4
      have hO := hI.SR _ ho4
      by_cases n1 : p2_isNothing LA i1 = 0
      · have g1 := noth_iff.mp n1
        rw [if_pos n1, if_neg (show ¬ SZ i1.toNatClampNeg < 0 from fun q => g1 (hR.sz.1.mp q))]
        by_cases n3 : p2_isNothing LA i3 = 0
        · have g3 := noth_iff.mp n3
          have a := hR.there g1
          have b := hO.there g3
          rw [if_pos n3, if_pos (hO.sz.2.mpr g3), a.2.2.1, b.2.2.1, a.2.2.2.1, b.2.2.2.1]
          by_cases e : LA i1.toNatClampNeg = LA i3.toNatClampNeg
          · rw [if_pos e, if_pos e]
            have s1 := span_iff (LE := LE) (i1 := i1) (i2 := i2) (i3 := i5) ⟨a.2.2.2.2.1, a.2.2.2.2.2.1⟩
            have s3 := span_iff (LE := LE) (i1 := i3) (i2 := i4) (i3 := i5) ⟨b.2.2.2.2.1, b.2.2.2.2.2.1⟩
            by_cases f1 : p2_spanFault LE i1 i2 i5 = 0
            · rw [if_pos f1, if_pos (s1.mp f1)]
              by_cases f3 : p2_spanFault LE i3 i4 i5 = 0
              · rw [if_pos f3, if_pos (s3.mp f3)]
                have hq : cq i1 i2 i3 i4 i5 := cq_of (SZ := LE) hk ho (hI.LE60 _) (hI.LE60 _) (s1.mp f1) (s3.mp f3)
                obtain ⟨_, q1, _, q2, q3, q4, q5⟩ := id hq
                have x1 := beyond_iff.mp (s1.mp f1)
                have x3 := beyond_iff.mp (s3.mp f3)
                obtain ⟨H', e1, w1⟩ := take_eq (f := LF) (SZ := SZ) (LN := LN) (SH := SH) (HD := HD) hq 61 0 HD (by decide) (by rw [q_0]; exact q3) (by rw [q_0]; omega) (fun x hx => by rw [q_0] at hx; omega)
                obtain ⟨S', e2, w2, w3⟩ := give_eq (f := LF) (SZ := SZ) (LN := LN) (SH := SH) (HD := HD) hq (H' := H') 61 0 SH (by decide) (by rw [q_0]; exact q3) (by rw [q_0]; omega)
                rw [e1, e2]
                rw [q_0] at w2 w3
                have c2 := cl_nn q1
                have c4 := cl_nn q2
                have c5 := cl_nn q3
                refine ⟨rfl, rfl, hI.setS hI.LE60 hI.SZ60 (fun k hk' => ?_)⟩
                show shR (setr M i3.toNatClampNeg (va_cpy (M i1.toNatClampNeg) (M i3.toNatClampNeg) i2.toNatClampNeg i4.toNatClampNeg i5.toNatClampNeg)) LA LE SZ LN S' k
                by_cases ek : k = i3.toNatClampNeg
                · rw [ek]
                  refine Or.inr ⟨b.1, b.2.1, b.2.2.1, b.2.2.2.1, b.2.2.2.2.1, b.2.2.2.2.2.1, fun i hi => ?_⟩
                  rw [setr_s]
                  by_cases z : i4.toNatClampNeg ≤ i ∧ i < i4.toNatClampNeg + i5.toNatClampNeg
                  · rw [pk_cpy_in z.1 z.2, show 60 * i3.toNatClampNeg + i = 60 * i3.toNatClampNeg + i4.toNatClampNeg + (i - i4.toNatClampNeg) by omega, w2 _ (by omega) (by omega), w1 _ (by omega), Nat.add_assoc]
                    exact a.2.2.2.2.2.2 _ (by omega)
                  · rw [pk_cpy_out (by omega), w3 _ (by omega)]
                    exact b.2.2.2.2.2.2 i hi
                · exact (hI.SR k hk').keep (k' := 0) (setr_n ek) rfl rfl rfl rfl rfl (fun i hi => w3 _ (by omega))
              · rw [if_neg f3, if_neg (fun q => f3 (s3.mpr q))]
                exact ⟨rfl, rfl, hI.next⟩
            · rw [if_neg f1, if_neg (fun q => f1 (s1.mpr q))]
              exact ⟨rfl, rfl, hI.next⟩
          · rw [if_neg e, if_neg e]
            exact ⟨rfl, rfl, hI.next⟩
        · have g : LA i3.toNatClampNeg = -1 := Classical.byContradiction (fun q => n3 (noth_iff.mpr q))
          rw [if_neg n3, if_neg (fun q => hO.sz.2.mp q g)]
          exact ⟨rfl, rfl, hI.next⟩
      · have g : LA i1.toNatClampNeg = -1 := Classical.byContradiction (fun q => n1 (noth_iff.mpr q))
        rw [if_neg n1, if_pos (hR.sz.1.mpr g)]
        exact ⟨rfl, rfl, hI.next⟩

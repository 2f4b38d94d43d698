/-! a year that is told -/
theorem ofOne_iff {i a : Int32} {A : Int} (ha : a.toInt = A) (hb : (a + 6).toInt = A + 6) : (¬ p3_isOfOne i a = 0) ↔ A ≤ i.toInt ∧ i.toInt ≤ A + 5 := by
  unfold p3_isOfOne
  by_cases c1 : i < a
  · have := q_lt.mp c1
    rw [ha] at this
    rw [if_pos c1]; exact ⟨fun q => absurd rfl q, fun q => by omega⟩
  · have h1 : ¬ i.toInt < A := fun q => c1 (q_lt.mpr (by rw [ha]; exact q))
    rw [if_neg c1]
    by_cases c2 : a + 6 ≤ i
    · have := q_le.mp c2
      rw [hb] at this
      rw [if_pos c2]; exact ⟨fun q => absurd rfl q, fun q => by omega⟩
    · have h2 : ¬ A + 6 ≤ i.toInt := fun q => c2 (q_le.mpr (by rw [hb]; exact q))
      rw [if_neg c2]; exact ⟨fun _ => ⟨by omega, by omega⟩, fun _ => by decide⟩
def askd (i : Int32) : Prop := (0 ≤ i.toInt ∧ i.toInt ≤ 3) ∨ (10 ≤ i.toInt ∧ i.toInt ≤ 15) ∨ (20 ≤ i.toInt ∧ i.toInt ≤ 25)
theorem asked_iff {i : Int32} : (¬ p3_isAsked i = 0) ↔ askd i := by
  have a1 := ofOne_iff (i := i) (a := 10) (A := 10) (by decide) (by decide)
  have a2 := ofOne_iff (i := i) (a := 20) (A := 20) (by decide) (by decide)
  have t3 : (3 : Int32).toInt = 3 := by decide
  unfold p3_isAsked askd
  have tail : (¬ (if p3_isOfOne i 10 = 0 then if p3_isOfOne i 20 = 0 then (0 : Int32) else 1 else 1) = 0) ↔ (10 ≤ i.toInt ∧ i.toInt ≤ 15) ∨ (20 ≤ i.toInt ∧ i.toInt ≤ 25) := by
    by_cases c1 : p3_isOfOne i 10 = 0
    · rw [if_pos c1]
      have n1 : ¬ (10 ≤ i.toInt ∧ i.toInt ≤ 10 + 5) := fun q => (a1.mpr q) c1
      by_cases c2 : p3_isOfOne i 20 = 0
      · rw [if_pos c2]
        have n2 : ¬ (20 ≤ i.toInt ∧ i.toInt ≤ 20 + 5) := fun q => (a2.mpr q) c2
        exact ⟨fun q => absurd rfl q, fun q => by omega⟩
      · rw [if_neg c2]
        have y2 := a2.mp c2
        exact ⟨fun _ => Or.inr ⟨y2.1, by omega⟩, fun _ => by decide⟩
    · rw [if_neg c1]
      have y1 := a1.mp c1
      exact ⟨fun _ => Or.inl ⟨y1.1, by omega⟩, fun _ => by decide⟩
  by_cases c : i < 0
  · have := q_lt.mp c
    rw [q_0] at this
    rw [if_pos c]
    exact tail.trans ⟨fun q => Or.inr q, fun q => by omega⟩
  · have g := nn' c
    rw [if_neg c]
    by_cases c3 : i ≤ 3
    · have := q_le.mp c3
      rw [t3] at this
      rw [if_pos c3]
      exact ⟨fun _ => Or.inl ⟨g, this⟩, fun _ => by decide⟩
    · have : ¬ i.toInt ≤ 3 := fun q => c3 (q_le.mpr (by rw [t3]; exact q))
      rw [if_neg c3]
      exact tail.trans ⟨fun q => Or.inr q, fun q => by omega⟩
theorem mod10 : ∀ k, k < 26 → 10 ≤ k → (k ≤ 15 → nI k - nI k / 10 * 10 = nI k - 10) ∧ (20 ≤ k → nI k - nI k / 10 * 10 = nI k - 20) := by decide +kernel
def yB (N : Int32) (K : Nat → Int32) (i : Int32) (r : Int32 × Int32 × Int32 × (Nat → Int32) × (Nat → Int32) × (Nat → Int32)) : Int32 := p5_yearBy N r.1 r.2.1 r.2.2.1 K r.2.2.2.1 r.2.2.2.2.1 r.2.2.2.2.2 i
theorem result_eq {N yc yf i : Int32} {K L C P Y : Nat → Int32} (hK : ∀ j : Nat, kinds3 (K j)) (hN : N.toInt ≤ 6) (ask : askd i) (hP : ∀ j, j < 6 → P j = Y j) : p3_result yc yf N K L C P i = yB N K i (yc, yf, -9, L, C, Y) := by
  show _ = p5_yearBy N yc yf (-9) K L C Y i
  unfold p3_result p5_yearBy
  have t10 : (10 : Int32).toInt = 10 := by decide
  have t20 : (20 : Int32).toInt = 20 := by decide
  rw [if_pos (show (-9 : Int32) < 0 by decide)]
  by_cases c0 : i = 0
  · rw [if_pos c0, if_neg (show ¬ i = 1 by rw [c0]; decide), if_neg (show ¬ 10 ≤ i by rw [c0]; decide), if_pos c0, all_eq hK]
  · rw [if_neg c0]
    by_cases c1 : i = 1
    · rw [if_pos c1, if_pos c1]
    · rw [if_neg c1, if_neg c1]
      by_cases c2 : i = 2
      · rw [if_pos c2, if_neg (show ¬ 10 ≤ i by rw [c2]; decide), if_neg c0, if_pos c2]
      · rw [if_neg c2]
        by_cases c3 : i = 3
        · rw [if_pos c3, if_neg (show ¬ 10 ≤ i by rw [c3]; decide), if_neg c0, if_neg c2]
        · rw [if_neg c3]
          have g0 : ¬ i.toInt = 0 := fun q => c0 (q_eq.mpr (by rw [q, q_0]))
          have g1 : ¬ i.toInt = 1 := fun q => c1 (q_eq.mpr (by rw [q, q_1]))
          have g2 : ¬ i.toInt = 2 := fun q => c2 (q_eq.mpr (by rw [q]; decide))
          have g3 : ¬ i.toInt = 3 := fun q => c3 (q_eq.mpr (by rw [q]; decide))
          unfold askd at ask
          obtain ⟨k, hk, ek⟩ := as_nI (x := i) (by omega) (n := 26) (by omega) (by omega)
          have hk2 : i.toInt = k := by rw [ek]; exact nI_toInt (by omega)
          rw [if_pos (show 10 ≤ i from q_le.mpr (by rw [t10]; omega))]
          unfold p3_ofOne
          by_cases c4 : i < 20
          · have := q_lt.mp c4
            rw [t20] at this
            have e1 : i - i / 10 * 10 = i - 10 := by rw [ek]; exact (mod10 k hk (by omega)).1 (by omega)
            rw [if_pos c4, if_neg (show ¬ 20 ≤ i from fun q => by have := q_le.mp q; rw [t20] at this; omega), e1]
            by_cases h : p0_has N (i - 10) = 0
            · rw [if_pos h, if_neg (has_no.mp h)]
            · rw [if_neg h, if_pos (has_yes h)]
          · have : ¬ i.toInt < 20 := fun q => c4 (q_lt.mpr (by rw [t20]; exact q))
            have e1 : i - i / 10 * 10 = i - 20 := by rw [ek]; exact (mod10 k hk (by omega)).2 (by omega)
            rw [if_neg c4, if_pos (show 20 ≤ i from q_le.mpr (by rw [t20]; omega)), e1]
            by_cases h : p0_has N (i - 20) = 0
            · rw [if_pos h, if_neg (has_no.mp h)]
            · rw [if_neg h, if_pos (has_yes h)]
              exact hP _ (vp_lt (has_in hN h))
theorem pass_all {YC YF N a b c : Int32} {K L C P : Nat → Int32} : p3_pass YC YF N K L C P a b c = ((if p0_changes K L C a b c = 0 then YC else YC + 1), (if p0_isFair N K L C a b c = 0 then YF else YF + 1), (p0_carryOut K L C a b c).1, (p0_carryOut K L C a b c).2, upd P (p0_payer K L C a b c).toNatClampNeg (P (p0_payer K L C a b c).toNatClampNeg + 1)) := by
  unfold p3_pass
  by_cases c1 : p0_changes K L C a b c = 0
  · rw [if_pos c1, if_pos c1]
    by_cases c2 : p0_isFair N K L C a b c = 0
    · rw [if_pos c2, if_pos c2]
    · rw [if_neg c2, if_neg c2]
  · rw [if_neg c1, if_neg c1]
    by_cases c2 : p0_isFair N K L C a b c = 0
    · rw [if_pos c2, if_pos c2]
    · rw [if_neg c2, if_neg c2]
theorem pairs_eq {M : Nat → Nat → Int32} {N YC YF N3 mch mfr mfw i1 i2 i4 i5 i6 g : Int32} {K L C K3 L3 C3 P PY SH : Nat → Int32} {B : Int} (hB : B ≤ 100000) (hK : ∀ j : Nat, kinds3 (K j)) (hN : N.toInt ≤ 6) (hc : 0 ≤ i1.toInt ∧ i1.toInt ≤ 9) (ask : askd i6) (h5 : i5.toInt ≤ 20)
    (hsp : ∀ v : Int32, 0 ≤ v.toInt → v.toInt < i5.toInt → SH (g + (2 * v)).toNatClampNeg = M i2.toNatClampNeg (i4 + (2 * v)).toNatClampNeg ∧ SH ((g + (2 * v)) + 1).toNatClampNeg = M i2.toNatClampNeg ((i4 + (2 * v)) + 1).toNatClampNeg) :
    ∀ (n : Nat) (v yc yf : Int32) (L_ C_ P_ Y_ : Nat → Int32), 0 ≤ v.toInt → v.toInt ≤ i5.toInt → i5.toInt - v.toInt < n → (∀ j : Nat, 0 ≤ (L_ j).toInt ∧ (L_ j).toInt ≤ 18) → (∀ j : Nat, 0 ≤ (C_ j).toInt ∧ (C_ j).toInt ≤ B) → (∀ j, j < 6 → P_ j = Y_ j) →
      (p4_yearOfPairs_l40 M N K L C YC YF N3 K3 L3 C3 P i1 i2 i4 i5 i6 n v yc yf N K L_ C_ P_).1 = yB N K i6 (p5_goYear_l43 N mch mfr mfw K L C PY SH i1 g i5 n v yc yf (-9) L_ C_ Y_) := by
  intro n
  induction n with
  | zero => intro v _ _ _ _ _ _ h0 h1 h2; exact absurd h2 (by omega)
  | succ n ih =>
    intro v yc yf L_ C_ P_ Y_ h0 h1 h2 hL_ hC_ hP
    rw [p4_yearOfPairs_l40_s, p5_goYear_l43_s]
    by_cases c1 : i5 ≤ v
    · rw [if_pos c1, if_pos c1]
      exact result_eq hK hN ask hP
    · have c2 : ¬ i5.toInt ≤ v.toInt := fun q => c1 (q_le.mpr q)
      have e := hsp v h0 (by omega)
      have ev := p1i h0 (show v.toInt ≤ 1000 by omega)
      rw [if_neg c1, if_neg c1, if_neg (show ¬ (0 : Int32) ≤ -9 by decide), e.1, e.2]
      generalize M i2.toNatClampNeg (i4 + (2 * v)).toNatClampNeg = a
      generalize M i2.toNatClampNeg ((i4 + (2 * v)) + 1).toNatClampNeg = b
      have bL : bd L_ := fun j => ⟨(hL_ j).1, by have := (hL_ j).2; omega⟩
      have bC : bd C_ := fun j => ⟨(hC_ j).1, by have := (hC_ j).2; omega⟩
      have cb := carry_bd (K := K) (L := L_) (C := C_) (a := a) (b := b) (c := i1) hL_ hC_ (by decide) hB hc
      have hP' : ∀ x : Nat, ∀ j, j < 6 → upd P_ x (P_ x + 1) j = upd Y_ x (Y_ x + 1) j := by
        intro x j hj
        by_cases z : j = x
        · rw [← z, pk_us, pk_us, hP j hj]
        · rw [pk_un z, pk_un z, hP j hj]
      by_cases c3 : a = b
      · rw [if_pos c3, if_pos c3, pass_all, goPair_all hK bL bC hc]
        exact ih (v + 1) _ _ _ _ _ _ (by omega) (by omega) (by omega) cb.1 cb.2 (hP' _)
      · rw [if_neg c3, if_neg c3, may_eq]
        by_cases c4 : p0_mayPoint L_ a b = 0
        · rw [if_pos c4, if_pos c4]
          obtain ⟨n', hn'⟩ : ∃ n', n = n' + 1 := ⟨n - 1, by omega⟩
          rw [hn', p5_goYear_l43_s]
          have hv : (0 : Int32) ≤ v := q_le.mpr (by rw [q_0]; exact h0)
          have fin : (if i6 = 1 then (v, yc, yf, N, K, L_, C_, P_) else (-100 - v, yc, yf, N, K, L_, C_, P_) : Int32 × Int32 × Int32 × Int32 × (Nat → Int32) × (Nat → Int32) × (Nat → Int32) × (Nat → Int32)).1 = yB N K i6 (yc, yf, v, L_, C_, Y_) := by
            show _ = p5_yearBy N yc yf v K L_ C_ Y_ i6
            unfold p5_yearBy
            by_cases c6 : i6 = 1
            · rw [if_pos c6, if_pos c6]
            · rw [if_neg c6, if_neg c6, if_neg (nn h0)]
          by_cases c5 : i5 ≤ v + 1
          · rw [if_pos c5]; exact fin
          · rw [if_neg c5, if_pos hv]; exact fin
        · rw [if_neg c4, if_neg c4, pass_all, goPair_all hK bL bC hc]
          exact ih (v + 1) _ _ _ _ _ _ (by omega) (by omega) (by omega) cb.1 cb.2 (hP' _)
section YEA
variable {M : Nat → Nat → Int32} {LF N YC YF N3 mch mfr mfw i1 i2 i3 i4 i5 i6 : Int32} {K L C K3 L3 C3 P PY KL KC LA LE SZ LN SH : Nat → Int32}
theorem begin_eq : ∀ (n : Nat) (v : Int32) (P_ : Nat → Int32), 0 ≤ v.toInt → v.toInt ≤ 6 → 6 - v.toInt < n → (∀ j : Nat, (j : Int) < v.toInt → P_ j = 0) → ∃ P', p3_begin_l10 YC YF N3 K3 L3 C3 P N K L C n v P_ N K L C = (0, 0, N, K, L, C, P') ∧ ∀ j, j < 6 → P' j = 0 := by
  intro n
  have t6 : (6 : Int32).toInt = 6 := by decide
  induction n with
  | zero => intro v _ h0 h1 h2; exact absurd h2 (by omega)
  | succ n ih =>
    intro v P_ h0 h1 h2 hP
    rw [p3_begin_l10_s]
    by_cases c : 6 ≤ v
    · have := q_le.mp c
      rw [t6] at this
      rw [if_pos c]
      exact ⟨P_, rfl, fun j hj => hP j (by omega)⟩
    · have c2 : ¬ 6 ≤ v.toInt := fun q => c (q_le.mpr (by rw [t6]; exact q))
      have ev := p1i h0 (show v.toInt ≤ 1000 by omega)
      have cv := cl_nn h0
      rw [if_neg c]
      refine ih (v + 1) _ (by omega) (by omega) (by omega) (fun j hj => ?_)
      by_cases z : j = v.toNatClampNeg
      · rw [z, pk_us]
      · rw [pk_un z]; exact hP j (by omega)
theorem goYear_eq {g : Int32} : ∀ (n : Nat) (v : Int32) (P_ : Nat → Int32), 0 ≤ v.toInt → v.toInt ≤ 6 → 6 - v.toInt < n → (∀ j : Nat, (j : Int) < v.toInt → P_ j = 0) → ∃ P', p5_goYear_l19 N mch mfr mfw K L C PY SH i1 g i5 n v P_ = p5_goYear_l43 N mch mfr mfw K L C PY SH i1 g i5 21 0 0 0 (-9) L C P' ∧ ∀ j, j < 6 → P' j = 0 := by
  intro n
  have t6 : (6 : Int32).toInt = 6 := by decide
  induction n with
  | zero => intro v _ h0 h1 h2; exact absurd h2 (by omega)
  | succ n ih =>
    intro v P_ h0 h1 h2 hP
    rw [p5_goYear_l19_s]
    by_cases c : 6 ≤ v
    · have := q_le.mp c
      rw [t6] at this
      rw [if_pos c]
      exact ⟨P_, rfl, fun j hj => hP j (by omega)⟩
    · have c2 : ¬ 6 ≤ v.toInt := fun q => c (q_le.mpr (by rw [t6]; exact q))
      have ev := p1i h0 (show v.toInt ≤ 1000 by omega)
      have cv := cl_nn h0
      rw [if_neg c]
      refine ih (v + 1) _ (by omega) (by omega) (by omega) (fun j hj => ?_)
      by_cases z : j = v.toNatClampNeg
      · rw [z, pk_us]
      · rw [pk_un z]; exact hP j (by omega)
theorem keep_eq : ∀ (n : Nat) (v : Int32) (A_ B_ : Nat → Int32), 0 ≤ v.toInt → v.toInt ≤ 6 → 6 - v.toInt < n → (∀ j : Nat, (j : Int) < v.toInt → A_ j = L j ∧ B_ j = C j) → ∀ j, j < 6 → (p5_keep_l2 L C KL KC n v A_ B_).1 j = L j ∧ (p5_keep_l2 L C KL KC n v A_ B_).2 j = C j := by
  intro n
  have t6 : (6 : Int32).toInt = 6 := by decide
  induction n with
  | zero => intro v _ _ h0 h1 h2; exact absurd h2 (by omega)
  | succ n ih =>
    intro v A_ B_ h0 h1 h2 hP
    rw [p5_keep_l2_s]
    by_cases c : 6 ≤ v
    · have := q_le.mp c
      rw [t6] at this
      rw [if_pos c]
      exact fun j hj => hP j (by omega)
    · have c2 : ¬ 6 ≤ v.toInt := fun q => c (q_le.mpr (by rw [t6]; exact q))
      have ev := p1i h0 (show v.toInt ≤ 1000 by omega)
      have cv := cl_nn h0
      rw [if_neg c]
      refine ih (v + 1) _ _ (by omega) (by omega) (by omega) (fun j hj => ?_)
      by_cases z : j = v.toNatClampNeg
      · rw [z, pk_us, pk_us]; exact ⟨rfl, rfl⟩
      · rw [pk_un z, pk_un z]; exact hP j (by omega)
theorem putBack_eq : ∀ (n : Nat) (v : Int32) (A_ B_ : Nat → Int32), 0 ≤ v.toInt → v.toInt ≤ 6 → 6 - v.toInt < n → (∀ j : Nat, (j : Int) < v.toInt → A_ j = KL j ∧ B_ j = KC j) → ∀ j, j < 6 → (p5_putBack_l2 L C KL KC n v A_ B_).1 j = KL j ∧ (p5_putBack_l2 L C KL KC n v A_ B_).2 j = KC j := by
  intro n
  have t6 : (6 : Int32).toInt = 6 := by decide
  induction n with
  | zero => intro v _ _ h0 h1 h2; exact absurd h2 (by omega)
  | succ n ih =>
    intro v A_ B_ h0 h1 h2 hP
    rw [p5_putBack_l2_s]
    by_cases c : 6 ≤ v
    · have := q_le.mp c
      rw [t6] at this
      rw [if_pos c]
      exact fun j hj => hP j (by omega)
    · have c2 : ¬ 6 ≤ v.toInt := fun q => c (q_le.mpr (by rw [t6]; exact q))
      have ev := p1i h0 (show v.toInt ≤ 1000 by omega)
      have cv := cl_nn h0
      rw [if_neg c]
      refine ih (v + 1) _ _ (by omega) (by omega) (by omega) (fun j hj => ?_)
      by_cases z : j = v.toNatClampNeg
      · rw [z, pk_us, pk_us]; exact ⟨rfl, rfl⟩
      · rw [pk_un z, pk_un z]; exact hP j (by omega)
theorem back_eq {L_ C_ : Nat → Int32} : ∀ j, j < 6 → L j = (p5_putBack L_ C_ (p5_keep L C KL KC).1 (p5_keep L C KL KC).2).1 j ∧ C j = (p5_putBack L_ C_ (p5_keep L C KL KC).1 (p5_keep L C KL KC).2).2 j := by
  intro j hj
  have a := keep_eq (L := L) (C := C) (KL := KL) (KC := KC) 7 0 KL KC (by decide) (by decide) (by decide) (fun j hj => by rw [q_0] at hj; omega) j hj
  have b := putBack_eq (L := L_) (C := C_) (KL := (p5_keep L C KL KC).1) (KC := (p5_keep L C KL KC).2) 7 0 L_ C_ (by decide) (by decide) (by decide) (fun j hj => by rw [q_0] at hj; omega) j hj
  unfold p5_putBack
  rw [b.1, b.2]
  exact ⟨a.1.symm, a.2.symm⟩
theorem houses_eq {f : Int32} (hn : (2 * i5).toInt ≤ 40) (hag : ∀ v : Int32, 0 ≤ v.toInt → v.toInt < (2 * i5).toInt → SH (((60 * i2) + i4) + v).toNatClampNeg = M i2.toNatClampNeg (i4 + v).toNatClampNeg) :
    ∀ (m m2 : Nat) (v : Int32), 0 ≤ v.toInt → v.toInt ≤ (2 * i5).toInt → (2 * i5).toInt - v.toInt < m → (2 * i5).toInt - v.toInt < m2 →
      (p4_areHouses_l3 M N i2 i4 (2 * i5) m v = 0 ∧ p5_year_l149 LF N mch mfr mfw K L C KL KC PY SZ LN SH i1 i2 i3 i4 i5 i6 m2 v f = (-1, 0, mch, mfr, mfw, L, C, KL, KC, PY)) ∨ ((¬ p4_areHouses_l3 M N i2 i4 (2 * i5) m v = 0) ∧ p5_year_l149 LF N mch mfr mfw K L C KL KC PY SZ LN SH i1 i2 i3 i4 i5 i6 m2 v f = p5_year_l149 LF N mch mfr mfw K L C KL KC PY SZ LN SH i1 i2 i3 i4 i5 i6 (0 + 1) (2 * i5) f) := by
  intro m
  induction m with
  | zero => intro m2 v h0 h1 h2; exact absurd h2 (by omega)
  | succ m ih =>
    intro m2 v h0 h1 h2 h3
    obtain ⟨m', hm'⟩ : ∃ m', m2 = m' + 1 := ⟨m2 - 1, by omega⟩
    rw [hm']
    by_cases c : 2 * i5 ≤ v
    · refine Or.inr ⟨?_, ?_⟩
      · rw [p4_areHouses_l3_s, if_pos c]; decide
      · rw [p5_year_l149_s, p5_year_l149_s, if_pos c, if_pos (Int32.le_refl _)]
    · have c2 : ¬ (2 * i5).toInt ≤ v.toInt := fun q => c (q_le.mpr q)
      have e := hag v h0 (by omega)
      have ev := p1i h0 (show v.toInt ≤ 1000 by omega)
      by_cases h : p0_has N (M i2.toNatClampNeg (i4 + v).toNatClampNeg) = 0
      · refine Or.inl ⟨?_, ?_⟩
        · rw [p4_areHouses_l3_s, if_neg c, if_pos h]
        · rw [p5_year_l149_s, if_neg c, e, if_neg (has_no.mp h)]; rfl
      · have k := ih m' (v + 1) (by omega) (by omega) (by omega) (by omega)
        have x1 : p4_areHouses_l3 M N i2 i4 (2 * i5) (m + 1) v = p4_areHouses_l3 M N i2 i4 (2 * i5) m (v + 1) := by
          rw [p4_areHouses_l3_s, if_neg c, if_neg h]
        have x2 : p5_year_l149 LF N mch mfr mfw K L C KL KC PY SZ LN SH i1 i2 i3 i4 i5 i6 (m' + 1) v f = p5_year_l149 LF N mch mfr mfw K L C KL KC PY SZ LN SH i1 i2 i3 i4 i5 i6 m' (v + 1) f := by
          rw [p5_year_l149_s, if_neg c, e, if_pos (has_yes h)]
        rw [x1, x2]
        exact k
theorem cb_eq {f : Int32} {j : Int64} (hR : shR M LA LE SZ LN SH i2.toNatClampNeg) : p5_cellsBarred f SZ LN i2 i3 i4 j = if LA i2.toNatClampNeg = -1 then (-10 - 1, 1) else if LA i2.toNatClampNeg = i3 then (if 0 ≤ lg_cmp j 0 then if p5_isBeyond i4 j (LE i2.toNatClampNeg) = 0 then (0, f) else (-10 - 3, 3) else (-10 - 4, 4)) else (-10 - 2, 2) := by
  unfold p5_cellsBarred
  by_cases g : LA i2.toNatClampNeg = -1
  · rw [if_pos (hR.sz.1.mpr g), if_neg (fun q => hR.sz.2.mp q g), if_pos g]; rfl
  · have a := hR.there g
    rw [if_neg (fun q => g (hR.sz.1.mp q)), if_neg g, a.2.2.1]
    by_cases e : LA i2.toNatClampNeg = i3
    · rw [if_pos e, if_pos e, if_pos (hR.sz.2.mpr g), a.2.2.2.1]; rfl
    · rw [if_neg e, if_neg e]; rfl
theorem span_3 {i1 i2 i3 : Int32} (h : ¬ p2_spanFault LE i1 i2 i3 = 0) : p2_spanFault LE i1 i2 i3 = 3 := by
  unfold p2_spanFault at h ⊢
  by_cases c1 : i2 < 0
  · rw [if_pos c1]
  · rw [if_neg c1] at h ⊢
    by_cases c2 : LE i1.toNatClampNeg < i2
    · rw [if_pos c2]
    · rw [if_neg c2] at h ⊢
      by_cases c3 : i3 < 0
      · rw [if_pos c3]
      · rw [if_neg c3] at h ⊢
        by_cases c4 : LE i1.toNatClampNeg - i2 < i3
        · rw [if_pos c4]
        · rw [if_neg c4] at h; exact absurd rfl h
theorem year4_no (hs : ¬ p2_isSheet i2 = 0) (h : ¬ ((¬ p4_isCost i1 = 0) ∧ (¬ p2_isLane i3 = 0) ∧ (0 ≤ i5.toInt ∧ i5.toInt ≤ 20) ∧ ¬ p3_isAsked i6 = 0)) : p4_year M LF N K L C YC YF N3 K3 L3 C3 P LA LE i1 i2 i3 i4 i5 i6 = (-2, 0, YC, YF, N3, K3, L3, C3, P) := by
  unfold p4_year
  have t20 : (20 : Int32).toInt = 20 := by decide
  rw [if_neg hs]
  by_cases c1 : p4_isCost i1 = 0
  · rw [if_pos c1]
  · rw [if_neg c1]
    by_cases c2 : p2_isLane i3 = 0
    · rw [if_pos c2]
    · rw [if_neg c2]
      by_cases c3 : i5 < 0
      · rw [if_pos c3]
      · rw [if_neg c3]
        by_cases c4 : 20 < i5
        · rw [if_pos c4]
        · rw [if_neg c4]
          by_cases c5 : p3_isAsked i6 = 0
          · rw [if_pos c5]
          · have g : ¬ (20 : Int32).toInt < i5.toInt := fun q => c4 (q_lt.mpr q)
            rw [t20] at g
            exact absurd ⟨c1, c2, ⟨nn' c3, by omega⟩, c5⟩ h
theorem year5_no (hs : p5_noSheet i2 = 0) (h : ¬ (p5_noCost i1 = 0 ∧ (¬ p5_in i3.toInt64 0 2 = 0) ∧ (¬ p5_in i5.toInt64 0 20 = 0) ∧ ((¬ p5_in i6.toInt64 0 3 = 0) ∨ (¬ p5_in i6.toInt64 10 15 = 0) ∨ (¬ p5_in i6.toInt64 20 25 = 0)))) : p5_year LF N mch mfr mfw K L C KL KC PY SZ LN SH i1 i2 i3 i4 i5 i6 = (-2, 0, mch, mfr, mfw, L, C, KL, KC, PY) := by
  unfold p5_year
  rw [if_pos hs]
  by_cases a1 : p5_in i6.toInt64 0 3 = 0
  · rw [if_pos a1]
    by_cases a2 : p5_in i6.toInt64 10 15 = 0
    · rw [if_pos a2]
      by_cases a3 : p5_in i6.toInt64 20 25 = 0
      · rw [if_pos a3]
        by_cases b1 : p5_noCost i1 = 0
        · rw [if_pos b1]
          by_cases b2 : p5_in i3.toInt64 0 2 = 0
          · rw [if_pos b2]; rfl
          · rw [if_neg b2]
            by_cases b3 : p5_in i5.toInt64 0 20 = 0
            · rw [if_pos b3]; rfl
            · rw [if_neg b3]; rfl
        · rw [if_neg b1]; rfl
      · rw [if_neg a3]
        by_cases b1 : p5_noCost i1 = 0
        · rw [if_pos b1]
          by_cases b2 : p5_in i3.toInt64 0 2 = 0
          · rw [if_pos b2]; rfl
          · rw [if_neg b2]
            by_cases b3 : p5_in i5.toInt64 0 20 = 0
            · rw [if_pos b3]; rfl
            · exact absurd ⟨b1, b2, b3, Or.inr (Or.inr a3)⟩ h
        · rw [if_neg b1]; rfl
    · rw [if_neg a2]
      by_cases b1 : p5_noCost i1 = 0
      · rw [if_pos b1]
        by_cases b2 : p5_in i3.toInt64 0 2 = 0
        · rw [if_pos b2]; rfl
        · rw [if_neg b2]
          by_cases b3 : p5_in i5.toInt64 0 20 = 0
          · rw [if_pos b3]; rfl
          · exact absurd ⟨b1, b2, b3, Or.inr (Or.inl a2)⟩ h
      · rw [if_neg b1]; rfl
  · rw [if_neg a1]
    by_cases b1 : p5_noCost i1 = 0
    · rw [if_pos b1]
      by_cases b2 : p5_in i3.toInt64 0 2 = 0
      · rw [if_pos b2]; rfl
      · rw [if_neg b2]
        by_cases b3 : p5_in i5.toInt64 0 20 = 0
        · rw [if_pos b3]; rfl
        · exact absurd ⟨b1, b2, b3, Or.inl a1⟩ h
    · rw [if_neg b1]; rfl
theorem year5_ok (hs : p5_noSheet i2 = 0) (b1 : p5_noCost i1 = 0) (b2 : ¬ p5_in i3.toInt64 0 2 = 0) (b3 : ¬ p5_in i5.toInt64 0 20 = 0) (h : (¬ p5_in i6.toInt64 0 3 = 0) ∨ (¬ p5_in i6.toInt64 10 15 = 0) ∨ (¬ p5_in i6.toInt64 20 25 = 0)) : p5_year LF N mch mfr mfw K L C KL KC PY SZ LN SH i1 i2 i3 i4 i5 i6 =
    (if N = 0 then (-3, 0, mch, mfr, mfw, L, C, KL, KC, PY) else
      if 0 ≤ (p5_cellsBarred LF SZ LN i2 i3 i4 (2 * i5.toInt64)).1 then p5_year_l149 LF N mch mfr mfw K L C KL KC PY SZ LN SH i1 i2 i3 i4 i5 i6 41 0 (p5_cellsBarred LF SZ LN i2 i3 i4 (2 * i5.toInt64)).2
      else ((p5_cellsBarred LF SZ LN i2 i3 i4 (2 * i5.toInt64)).1, (p5_cellsBarred LF SZ LN i2 i3 i4 (2 * i5.toInt64)).2, mch, mfr, mfw, L, C, KL, KC, PY)) := by
  unfold p5_year
  rw [if_pos hs]
  by_cases a1 : p5_in i6.toInt64 0 3 = 0
  · rw [if_pos a1]
    by_cases a2 : p5_in i6.toInt64 10 15 = 0
    · rw [if_pos a2]
      by_cases a3 : p5_in i6.toInt64 20 25 = 0
      · rcases h with h | h | h
        · exact absurd a1 h
        · exact absurd a2 h
        · exact absurd a3 h
      · rw [if_neg a3, if_pos b1, if_neg b2, if_neg b3]; rfl
    · rw [if_neg a2, if_pos b1, if_neg b2, if_neg b3]; rfl
  · rw [if_neg a1, if_pos b1, if_neg b2, if_neg b3]; rfl
end YEA

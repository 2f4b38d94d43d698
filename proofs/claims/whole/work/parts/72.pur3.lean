/-! the sheets -/
theorem setr_s {M : Nat → Nat → Int32} {k : Nat} {f : Nat → Int32} : setr M k f k = f := if_pos rfl
theorem setr_n {M : Nat → Nat → Int32} {k j : Nat} {f : Nat → Int32} (h : j ≠ k) : setr M k f j = M j := if_neg h
section SHE
variable {t : Nat} {N : Int32} {K L C : Nat → Int32} {GK : Int32} {GN GC : Nat → Int32} {M : Nat → Nat → Int32} {LA LE SZ LN SH : Nat → Int32}
theorem Inv.setS (h : Inv t N K L C GK GN GC M LA LE SZ LN SH) {M' : Nat → Nat → Int32} {LA' LE' SZ' LN' SH' : Nat → Int32} (h1 : ∀ j : Nat, (LE' j).toInt ≤ 60) (h2 : ∀ j : Nat, (SZ' j).toInt ≤ 60) (h3 : ∀ k : Nat, k < 4 → shR M' LA' LE' SZ' LN' SH' k) : Inv (t + 1) N K L C GK GN GC M' LA' LE' SZ' LN' SH' :=
  ⟨h.next.1, h.next.K3, h.next.L0, h.next.C0, h.G08, h.GA, h1, h2, h3⟩
theorem sh_k {i : Int32} (h : ¬ p2_isSheet i = 0) : vp_in i 4 ∧ i.toNatClampNeg < 4 ∧ (i.toNatClampNeg : Int) = i.toInt := by
  have a := isSheet_iff.mp h
  have b : vp_in i 4 := vi_c ⟨a.1, by omega⟩
  exact ⟨b, vp_lt b, vi_cl b⟩
/-- a sheet that is there -/
theorem shR.there {k : Nat} (h : shR M LA LE SZ LN SH k) (c : ¬ LA k = -1) : 0 ≤ (LA k).toInt ∧ (LA k).toInt ≤ 2 ∧ LN k = LA k ∧ SZ k = LE k ∧ 0 ≤ (LE k).toInt ∧ (LE k).toInt ≤ 60 ∧ ∀ i : Nat, (i : Int) < (LE k).toInt → SH (60 * k + i) = M k i :=
  h.resolve_left (fun q => c q.1)
theorem shR.gone {k : Nat} (h : shR M LA LE SZ LN SH k) (c : LA k = -1) : LE k = 0 ∧ SZ k = -1 := by
  rcases h with h | h
  · exact h.2
  · have := h.1
    rw [c] at this
    exact absurd this (by decide)
theorem shR.sz {k : Nat} (h : shR M LA LE SZ LN SH k) : (SZ k < 0 ↔ LA k = -1) ∧ (0 ≤ SZ k ↔ ¬ LA k = -1) := by
  by_cases c : LA k = -1
  · have g := h.gone c
    rw [g.2]
    exact ⟨⟨fun _ => c, fun _ => by decide⟩, ⟨fun q => absurd q (by decide), fun q => absurd c q⟩⟩
  · have g := h.there c
    rw [g.2.2.2.1]
    exact ⟨⟨fun q => absurd q (nn g.2.2.2.2.1), fun q => absurd q c⟩, ⟨fun _ => c, fun _ => q_le.mpr (by rw [q_0]; exact g.2.2.2.2.1)⟩⟩
/-- what a sheet is does not change where another one does -/
theorem shR.keep {k k' : Nat} {M' : Nat → Nat → Int32} {LA' LE' SZ' LN' SH' : Nat → Int32} (h : shR M LA LE SZ LN SH k) (e0 : M' k = M k) (e1 : LA' k = LA k) (e2 : LE' k = LE k) (e3 : SZ' k = SZ k) (e4 : LN' k = LN k) (_hk : k' = k') (e5 : ∀ i : Nat, i < 60 → SH' (60 * k + i) = SH (60 * k + i)) : shR M' LA' LE' SZ' LN' SH' k := by
  unfold shR at h ⊢
  rw [e0, e1, e2, e3, e4]
  rcases h with h | ⟨a, b, d, f, g, p, q⟩
  · exact Or.inl h
  · exact Or.inr ⟨a, b, d, f, g, p, fun i hi => by rw [e5 i (by omega)]; exact q i hi⟩
theorem noth_iff {i1 : Int32} : p2_isNothing LA i1 = 0 ↔ ¬ LA i1.toNatClampNeg = -1 := by
  unfold p2_isNothing
  by_cases c : LA i1.toNatClampNeg = -1
  · rw [if_pos c]; exact ⟨fun q => absurd q (by decide), fun q => absurd c q⟩
  · rw [if_neg c]; exact ⟨fun _ => c, fun _ => rfl⟩
theorem noCell_3 {i1 i2 : Int32} (hz : 0 ≤ SZ i1.toNatClampNeg) : (p5_noCell SZ i1 i2 ≤ 0 ∧ 0 ≤ i2.toInt ∧ i2.toInt < (SZ i1.toNatClampNeg).toInt) ∨ (p5_noCell SZ i1 i2 = 3 ∧ ¬ (0 ≤ i2.toInt ∧ i2.toInt < (SZ i1.toNatClampNeg).toInt)) := by
  by_cases c : p5_noCell SZ i1 i2 ≤ 0
  · exact Or.inl ⟨c, noCell_iff.mp c⟩
  · refine Or.inr ⟨?_, fun q => c (noCell_iff.mpr q)⟩
    unfold p5_noCell at c ⊢
    rw [if_pos hz] at c ⊢
    by_cases c2 : p5_in i2.toInt64 0 ((SZ i1.toNatClampNeg).toInt64 - 1) = 0
    · rw [if_pos c2]
    · rw [if_neg c2] at c
      exact absurd (by decide) c
theorem cellF_iff {i1 i2 : Int32} : (p2_cellFault LE i1 i2 = 0 ∧ 0 ≤ i2.toInt ∧ i2.toInt < (LE i1.toNatClampNeg).toInt) ∨ (p2_cellFault LE i1 i2 = 3 ∧ ¬ (0 ≤ i2.toInt ∧ i2.toInt < (LE i1.toNatClampNeg).toInt)) := by
  unfold p2_cellFault
  by_cases c1 : i2 < 0
  · have := q_lt.mp c1
    rw [q_0] at this
    rw [if_pos c1]; exact Or.inr ⟨rfl, by omega⟩
  · have h1 := nn' c1
    rw [if_neg c1]
    by_cases c2 : LE i1.toNatClampNeg ≤ i2
    · have := q_le.mp c2
      rw [if_pos c2]; exact Or.inr ⟨rfl, by omega⟩
    · have : ¬ (LE i1.toNatClampNeg).toInt ≤ i2.toInt := fun q => c2 (q_le.mpr q)
      rw [if_neg c2]; exact Or.inl ⟨rfl, h1, by omega⟩
theorem span_iff {i1 i2 i3 : Int32} (h : 0 ≤ (LE i1.toNatClampNeg).toInt ∧ (LE i1.toNatClampNeg).toInt ≤ 60) : p2_spanFault LE i1 i2 i3 = 0 ↔ p5_isBeyond i2 i3.toInt64 (LE i1.toNatClampNeg) = 0 := by
  rw [beyond_iff]
  unfold p2_spanFault
  by_cases c1 : i2 < 0
  · have := q_lt.mp c1
    rw [q_0] at this
    rw [if_pos c1]; exact ⟨fun q => absurd q (by decide), fun q => by omega⟩
  · have h1 := nn' c1
    rw [if_neg c1]
    by_cases c2 : LE i1.toNatClampNeg < i2
    · have := q_lt.mp c2
      rw [if_pos c2]; exact ⟨fun q => absurd q (by decide), fun q => by omega⟩
    · have h2 : ¬ (LE i1.toNatClampNeg).toInt < i2.toInt := fun q => c2 (q_lt.mpr q)
      rw [if_neg c2]
      by_cases c3 : i3 < 0
      · have := q_lt.mp c3
        rw [q_0] at this
        rw [if_pos c3]; exact ⟨fun q => absurd q (by decide), fun q => by omega⟩
      · have h3 := nn' c3
        have e : (LE i1.toNatClampNeg - i2).toInt = (LE i1.toNatClampNeg).toInt - i2.toInt := q_sub (by omega) (by omega)
        rw [if_neg c3]
        by_cases c4 : LE i1.toNatClampNeg - i2 < i3
        · have := q_lt.mp c4
          rw [e] at this
          rw [if_pos c4]; exact ⟨fun q => absurd q (by decide), fun q => by omega⟩
        · have h4 : ¬ (LE i1.toNatClampNeg).toInt - i2.toInt < i3.toInt := fun q => c4 (q_lt.mpr (by rw [e]; exact q))
          rw [if_neg c4]; exact ⟨fun _ => ⟨h1, h3, by omega⟩, fun _ => rfl⟩
theorem renew_eq {i1 i2 i3 : Int32} : ∀ (n : Nat) (v : Int32) (M_ : Nat → Nat → Int32), 0 ≤ v.toInt → v.toInt ≤ 60 → 60 - v.toInt < n → ∃ M', p2_renew_l3 M LA LE i1 i2 i3 n v M_ = (M', upd LA i1.toNatClampNeg i2, upd LE i1.toNatClampNeg i3) ∧ (∀ j, j ≠ i1.toNatClampNeg → M' j = M_ j) ∧ (∀ i : Nat, v.toInt ≤ i → i < 60 → M' i1.toNatClampNeg i = 0) ∧ (∀ i : Nat, (i : Int) < v.toInt → M' i1.toNatClampNeg i = M_ i1.toNatClampNeg i) := by
  intro n
  have t60 : (60 : Int32).toInt = 60 := by decide
  induction n with
  | zero => intro v M_ h0 h1 h2; exact absurd h2 (by omega)
  | succ n ih =>
    intro v M_ h0 h1 h2
    rw [p2_renew_l3_s]
    by_cases c : 60 ≤ v
    · have := q_le.mp c
      rw [t60] at this
      rw [if_pos c]
      exact ⟨M_, rfl, fun _ _ => rfl, fun i a b => by omega, fun _ _ => rfl⟩
    · have h3 : ¬ 60 ≤ v.toInt := fun q => c (q_le.mpr (by rw [t60]; exact q))
      have ev := p1i h0 (show v.toInt ≤ 1000 by omega)
      have cv := cl_nn h0
      rw [if_neg c]
      obtain ⟨M', e, g1, g2, g3⟩ := ih (v + 1) (setr M_ i1.toNatClampNeg (upd (M_ i1.toNatClampNeg) v.toNatClampNeg 0)) (by omega) (by omega) (by omega)
      refine ⟨M', e, fun j hj => by rw [g1 j hj, setr_n hj], fun i a b => ?_, fun i a => ?_⟩
      · by_cases z : (i : Int) = v.toInt
        · rw [g3 i (by omega), setr_s, show i = v.toNatClampNeg by omega, pk_us]
        · exact g2 i (by omega) b
      · rw [g3 i (by omega), setr_s, pk_un (by omega)]
theorem clean_eq {f i1 i2 i3 : Int32} (hk : vp_in i1 4) (hn : i3.toInt ≤ 60) : ∀ (n : Nat) (v : Int32) (S_ : Nat → Int32), 0 ≤ v.toInt → v.toInt ≤ i3.toInt → i3.toInt - v.toInt < n → ∃ S', p5_sheet_l65 f SZ LN SH i1 i2 i3 n v S_ = (1, 0, upd SZ i1.toNatClampNeg i3, upd LN i1.toNatClampNeg i2, S') ∧ (∀ x : Nat, x < 60 * i1.toNatClampNeg ∨ 60 * i1.toNatClampNeg + 60 ≤ x → S' x = S_ x) ∧ (∀ i : Nat, v.toInt ≤ i → (i : Int) < i3.toInt → S' (60 * i1.toNatClampNeg + i) = 0) ∧ (∀ i : Nat, (i : Int) < v.toInt → S' (60 * i1.toNatClampNeg + i) = S_ (60 * i1.toNatClampNeg + i)) := by
  intro n
  have ck := vi_cl hk
  have rk := vi_e hk
  induction n with
  | zero => intro v S_ h0 h1 h2; exact absurd h2 (by omega)
  | succ n ih =>
    intro v S_ h0 h1 h2
    rw [p5_sheet_l65_s]
    by_cases c : i3 ≤ v
    · have := q_le.mp c
      rw [if_pos c]
      exact ⟨S_, rfl, fun _ _ => rfl, fun i a b => by omega, fun _ _ => rfl⟩
    · have h3 : ¬ i3.toInt ≤ v.toInt := fun q => c (q_le.mpr q)
      have ev := p1i h0 (show v.toInt ≤ 1000 by omega)
      have e1 := k60i hk (i := v) ⟨h0, by omega⟩
      have cx := cl_nn (x := (60 * i1) + v) (by omega)
      rw [if_neg c]
      obtain ⟨S', e, g1, g2, g3⟩ := ih (v + 1) (upd S_ ((60 * i1) + v).toNatClampNeg 0) (by omega) (by omega) (by omega)
      refine ⟨S', e, fun x hx => ?_, fun i a b => ?_, fun i a => ?_⟩
      · rw [g1 x hx, pk_un (by omega)]
      · by_cases z : (i : Int) = v.toInt
        · rw [g3 i (by omega), show 60 * i1.toNatClampNeg + i = ((60 * i1) + v).toNatClampNeg by omega, pk_us]
        · exact g2 i (by omega) b
      · rw [g3 i (by omega), pk_un (by omega)]
/-- the first of the two loops of a copy: the cells are read -/
theorem take_eq {f k i o j n : Int32} {HD : Nat → Int32} (hq : cq k i o j n) : ∀ (m : Nat) (v : Int32) (H_ : Nat → Int32), 0 ≤ v.toInt → v.toInt ≤ n.toInt → n.toInt - v.toInt < m → (∀ x : Nat, (x : Int) < v.toInt → H_ x = SH (60 * k.toNatClampNeg + i.toNatClampNeg + x)) → ∃ H', p5_copy_l107 f SZ LN SH HD k i o j n m v H_ = p5_copy_l144 f SZ LN SH HD k i o j n 61 0 SH H' ∧ (∀ x : Nat, (x : Int) < n.toInt → H' x = SH (60 * k.toNatClampNeg + i.toNatClampNeg + x)) := by
  obtain ⟨hk, hi, ho, hj, hn, s1, s2⟩ := hq
  intro m
  have ck := vi_cl hk
  have rk := vi_e hk
  have ci := cl_nn hi
  induction m with
  | zero => intro v H_ h0 h1 h2; exact absurd h2 (by omega)
  | succ m ih =>
    intro v H_ h0 h1 h2 hH
    rw [p5_copy_l107_s]
    by_cases c : n ≤ v
    · have := q_le.mp c
      rw [if_pos c]
      exact ⟨H_, rfl, fun x hx => hH x (by omega)⟩
    · have h3 : ¬ n.toInt ≤ v.toInt := fun q => c (q_le.mpr q)
      have ev := p1i h0 (show v.toInt ≤ 1000 by omega)
      have e1 := k60v hk hi h0 (by omega)
      have cx := cl_nn (x := ((60 * k) + i) + v) (by omega)
      have cv := cl_nn h0
      rw [if_neg c]
      refine ih (v + 1) _ (by omega) (by omega) (by omega) (fun x hx => ?_)
      by_cases z : (x : Int) = v.toInt
      · rw [show x = v.toNatClampNeg by omega, pk_us]
        congr 1
        omega
      · rw [pk_un (by omega)]
        exact hH x (by omega)
/-- the second one: they are written -/
theorem give_eq {f k i o j n : Int32} {HD : Nat → Int32} (hq : cq k i o j n) {H' : Nat → Int32} : ∀ (m : Nat) (v : Int32) (S_ : Nat → Int32), 0 ≤ v.toInt → v.toInt ≤ n.toInt → n.toInt - v.toInt < m → ∃ S', p5_copy_l144 f SZ LN SH HD k i o j n m v S_ H' = (n, 0, S', H') ∧ (∀ x : Nat, v.toInt ≤ x → (x : Int) < n.toInt → S' (60 * o.toNatClampNeg + j.toNatClampNeg + x) = H' x) ∧ (∀ y : Nat, (y : Int) < 60 * o.toInt + j.toInt + v.toInt ∨ 60 * o.toInt + j.toInt + n.toInt ≤ y → S' y = S_ y) := by
  obtain ⟨_, _, ho, hj, hn, s1, s2⟩ := hq
  intro m
  have ck := vi_cl ho
  have rk := vi_e ho
  have ci := cl_nn hj
  induction m with
  | zero => intro v S_ h0 h1 h2; exact absurd h2 (by omega)
  | succ m ih =>
    intro v S_ h0 h1 h2
    rw [p5_copy_l144_s]
    by_cases c : n ≤ v
    · have := q_le.mp c
      rw [if_pos c]
      exact ⟨S_, rfl, fun x a b => by omega, fun _ _ => rfl⟩
    · have h3 : ¬ n.toInt ≤ v.toInt := fun q => c (q_le.mpr q)
      have ev := p1i h0 (show v.toInt ≤ 1000 by omega)
      have e1 := k60v ho hj h0 (by omega)
      have cx := cl_nn (x := ((60 * o) + j) + v) (by omega)
      have cv := cl_nn h0
      rw [if_neg c]
      obtain ⟨S', e, g1, g2⟩ := ih (v + 1) (upd S_ (((60 * o) + j) + v).toNatClampNeg (H' v.toNatClampNeg)) (by omega) (by omega) (by omega)
      refine ⟨S', e, fun x a b => ?_, fun y hy => ?_⟩
      · by_cases z : (x : Int) = v.toInt
        · rw [g2 _ (by omega), show 60 * o.toNatClampNeg + j.toNatClampNeg + x = (((60 * o) + j) + v).toNatClampNeg by omega, pk_us, show x = v.toNatClampNeg by omega]
        · exact g1 x (by omega) b
      · rw [g2 y (by omega), pk_un (by omega)]
theorem write_keep {LA : Nat → Int32} {i1 i2 x : Int32} (hI : Inv t N K L C GK GN GC M LA LE SZ LN SH) (hk : vp_in i1 4) (h : ¬ LA i1.toNatClampNeg = -1) (h2 : 0 ≤ i2.toInt ∧ i2.toInt < (LE i1.toNatClampNeg).toInt) : Inv (t + 1) N K L C GK GN GC (setr M i1.toNatClampNeg (upd (M i1.toNatClampNeg) i2.toNatClampNeg x)) LA LE SZ LN (upd SH ((60 * i1) + i2).toNatClampNeg x) := by
  have ck := vi_cl hk
  have rk := vi_e hk
  have g := (hI.SR i1.toNatClampNeg (vp_lt hk)).there h
  have e1 := k60i hk (i := i2) ⟨h2.1, by omega⟩
  have cx := cl_nn (x := (60 * i1) + i2) (by omega)
  have c2 := cl_nn h2.1
  refine hI.setS hI.LE60 hI.SZ60 (fun k hk4 => ?_)
  by_cases e : k = i1.toNatClampNeg
  · rw [e]
    obtain ⟨a, b, d, f, p, q, r⟩ := g
    refine Or.inr ⟨a, b, d, f, p, q, fun i hi => ?_⟩
    rw [setr_s]
    by_cases z : i = i2.toNatClampNeg
    · rw [z, pk_us, show 60 * i1.toNatClampNeg + i2.toNatClampNeg = ((60 * i1) + i2).toNatClampNeg by omega, pk_us]
    · rw [pk_un z, pk_un (by omega)]
      exact r i hi
  · exact (hI.SR k hk4).keep (k' := 0) (setr_n e) rfl rfl rfl rfl rfl (fun i hi => pk_un (by omega))
end SHE

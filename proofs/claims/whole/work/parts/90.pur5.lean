/-! the text of a city -/
theorem nI_s (x : Nat) : nI x + 1 = nI (x + 1) := nI_add x 1
theorem nI_leN {a b : Nat} (ha : a ≤ 1000) (hb : b ≤ 1000) : nI a ≤ nI b ↔ a ≤ b := by
  rw [q_le, nI_toInt (by omega), nI_toInt (by omega)]
  omega
theorem nI_ltN {a b : Nat} (ha : a ≤ 1000) (hb : b ≤ 1000) : nI a < nI b ↔ a < b := by
  rw [q_lt, nI_toInt (by omega), nI_toInt (by omega)]
  omega
theorem nI_eqN {a b : Nat} (ha : a ≤ 1000) (hb : b ≤ 1000) : nI a = nI b ↔ a = b := by
  rw [q_eq, nI_toInt (by omega), nI_toInt (by omega)]
  omega
theorem nI_not9 {a : Nat} (ha : a ≤ 1000) : ¬ nI a = -9 := fun q => by
  have := q_eq.mp q
  rw [nI_toInt (by omega), show (-9 : Int32).toInt = -9 by decide] at this
  omega
theorem pos4 : ∀ x, x < 61 → 0 < x → (nI x - 1) - (nI x - 1) / 4 * 4 = nI ((x - 1) % 4) := by decide +kernel
theorem rem4 : ∀ x, x < 61 → ((nI x - nI x / 4 * 4 = 1) ↔ x % 4 = 1) := by decide +kernel
theorem quo4 : ∀ H, H < 7 → (nI (4 * H + 1) - 1) / 4 = nI H := by decide +kernel
theorem go1 {x : Nat} {c : Int32} (hx : x < 61) (h : x % 4 = 1) : p4_goesOn (nI x) c = if c = 59 then if 24 ≤ nI x then 0 else 1 else 0 := by
  unfold p4_goesOn
  rw [if_neg (show ¬ nI x = 0 from fun q => by have := (nI_eqN (a := x) (b := 0) (by omega) (by omega)).mp q; omega), pos4 x hx (by omega), show (x - 1) % 4 = 0 by omega, if_pos nI_0]
theorem go2 {x : Nat} {c : Int32} (hx : x < 61) (h : x % 4 = 2) : p4_goesOn (nI x) c = if c = 104 then 1 else if c = 107 then 1 else if c = 116 then 1 else 0 := by
  unfold p4_goesOn
  rw [if_neg (show ¬ nI x = 0 from fun q => by have := (nI_eqN (a := x) (b := 0) (by omega) (by omega)).mp q; omega), pos4 x hx (by omega), show (x - 1) % 4 = 1 by omega, if_neg (show ¬ nI 1 = 0 by decide), if_pos (show nI 1 = 1 by decide)]
theorem go3 {x : Nat} {c : Int32} (hx : x < 61) (h0 : 0 < x) (h : x % 4 = 3 ∨ x % 4 = 0) : p4_goesOn (nI x) c = if c < 48 then 0 else if 57 < c then 0 else 1 := by
  unfold p4_goesOn
  rw [if_neg (show ¬ nI x = 0 from fun q => by have := (nI_eqN (a := x) (b := 0) (by omega) (by omega)).mp q; omega), pos4 x hx h0]
  rcases h with h | h
  · rw [show (x - 1) % 4 = 2 by omega, if_neg (show ¬ nI 2 = 0 by decide), if_neg (show ¬ nI 2 = 1 by decide)]
  · rw [show (x - 1) % 4 = 3 by omega, if_neg (show ¬ nI 3 = 0 by decide), if_neg (show ¬ nI 3 = 1 by decide)]
def dg (c : Int32) : Prop := 48 ≤ c.toInt ∧ c.toInt ≤ 57
theorem dg_i {c : Int32} : (0 ≤ (c - 48).toInt ∧ (c - 48).toInt ≤ 9) ↔ dg c := by
  have t : (48 : Int32).toInt = 48 := by decide
  constructor
  · intro q
    have e : c - 48 + 48 = c := Int32.sub_add_cancel c 48
    have e2 : (c - 48 + 48).toInt = (c - 48).toInt + 48 := by rw [q_add (by rw [t]; omega) (by rw [t]; omega), t]
    rw [e] at e2
    exact ⟨by omega, by omega⟩
  · intro q
    obtain ⟨q1, q2⟩ := q
    rw [q_sub (by rw [t]; omega) (by rw [t]; omega), t]
    omega
theorem go3_y {x : Nat} {c : Int32} (hx : x < 61) (h0 : 0 < x) (h : x % 4 = 3 ∨ x % 4 = 0) (hd : dg c) : ¬ p4_goesOn (nI x) c = 0 := by
  have t : (48 : Int32).toInt = 48 := by decide
  have t2 : (57 : Int32).toInt = 57 := by decide
  obtain ⟨d1, d2⟩ := hd
  rw [go3 hx h0 h, if_neg (fun q => by have := q_lt.mp q; rw [t] at this; omega), if_neg (fun q => by have := q_lt.mp q; rw [t2] at this; omega)]
  decide
theorem go3_n {x : Nat} {c : Int32} (hx : x < 61) (h0 : 0 < x) (h : x % 4 = 3 ∨ x % 4 = 0) (hd : ¬ dg c) : p4_goesOn (nI x) c = 0 := by
  have t : (48 : Int32).toInt = 48 := by decide
  have t2 : (57 : Int32).toInt = 57 := by decide
  rw [go3 hx h0 h]
  by_cases c1 : c < 48
  · rw [if_pos c1]
  · rw [if_neg c1]
    by_cases c2 : 57 < c
    · rw [if_pos c2]
    · have d1 : ¬ c.toInt < (48 : Int32).toInt := fun q => c1 (q_lt.mpr q)
      have d2 : ¬ (57 : Int32).toInt < c.toInt := fun q => c2 (q_lt.mpr q)
      rw [t] at d1
      rw [t2] at d2
      exact absurd ⟨by omega, by omega⟩ hd
section CIT
variable {M : Nat → Nat → Int32} {i1 i3 g : Int32} {SH cd : Nat → Int32} {nn : Nat}
theorem ff_go (hnn : nn ≤ 60) (hM : ∀ x, x < nn → M i1.toNatClampNeg (i3 + nI x).toNatClampNeg = cd x) {m x : Nat} (hx : x < nn) (hg : ¬ p4_goesOn (nI x) (cd x) = 0) : p4_firstFault_l3 M i1 i3 (nI nn) (m + 1) (nI x) = p4_firstFault_l3 M i1 i3 (nI nn) m (nI (x + 1)) := by
  rw [p4_firstFault_l3_s, if_neg (fun q => by have := (nI_leN (by omega) (by omega)).mp q; omega), hM x hx, if_neg hg, nI_s]
theorem ff_at (hnn : nn ≤ 60) (hM : ∀ x, x < nn → M i1.toNatClampNeg (i3 + nI x).toNatClampNeg = cd x) {m x : Nat} (hx : x < nn) (hg : p4_goesOn (nI x) (cd x) = 0) : p4_firstFault_l3 M i1 i3 (nI nn) (m + 1) (nI x) = nI x := by
  rw [p4_firstFault_l3_s, if_neg (fun q => by have := (nI_leN (by omega) (by omega)).mp q; omega), hM x hx, if_pos hg]
theorem ff_end (hnn : nn ≤ 60) {m x : Nat} (hx : x = nn) (h : nn ≤ 8 ∨ ¬ nn % 4 = 1) : p4_firstFault_l3 M i1 i3 (nI nn) (m + 1) (nI x) = nI x := by
  rw [hx, p4_firstFault_l3_s, if_pos (Int32.le_refl _)]
  by_cases c : nn ≤ 8
  · rw [if_pos (show nI nn ≤ 8 from (nI_leN (b := 8) (by omega) (by omega)).mpr c)]
  · rw [if_neg (show ¬ nI nn ≤ 8 from fun q => c ((nI_leN (b := 8) (by omega) (by omega)).mp q)), if_neg (fun q => by have := (rem4 nn (by omega)).mp q; omega)]
theorem ff_ok (hnn : nn ≤ 60) {m x : Nat} (hx : x = nn) (h : 9 ≤ nn ∧ nn % 4 = 1) : p4_firstFault_l3 M i1 i3 (nI nn) (m + 1) (nI x) = -9 := by
  rw [hx, p4_firstFault_l3_s, if_pos (Int32.le_refl _), if_neg (show ¬ nI nn ≤ 8 from fun q => by have := (nI_leN (b := 8) (by omega) (by omega)).mp q; omega), if_pos ((rem4 nn (by omega)).mpr h.2)]
theorem code_lt (hnn : nn ≤ 60) (hS : ∀ x, x < nn → SH (g + nI x).toNatClampNeg = cd x) {a : Nat} (h : a < nn) : p5_codeAt (nI a) SH g (nI nn) = cd a := by
  unfold p5_codeAt
  rw [if_neg (fun q => by have := (nI_leN (by omega) (by omega)).mp q; omega), hS a h]
theorem code_ge (hnn : nn ≤ 60) {a : Nat} (h : a = nn) : p5_codeAt (nI a) SH g (nI nn) = -9 := by
  unfold p5_codeAt
  rw [h, if_pos (Int32.le_refl _)]
theorem fig_eq (hnn : nn ≤ 60) (hS : ∀ x, x < nn → SH (g + nI x).toNatClampNeg = cd x) {a : Nat} (h : a ≤ nn) : (a < nn ∧ dg (cd a) ∧ p5_figure (nI a) SH g (nI nn) = (cd a - 48, nI (a + 1))) ∨ ((a = nn ∨ (a < nn ∧ ¬ dg (cd a))) ∧ p5_figure (nI a) SH g (nI nn) = (-9, nI a)) := by
  have t9 : (9 : Int64).toInt = 9 := by decide
  unfold p5_figure
  by_cases c : a < nn
  · rw [code_lt hnn hS c]
    by_cases d : dg (cd a)
    · rw [if_neg ((in_i l_0 t9).mpr (dg_i.mpr d)), nI_s]
      exact Or.inl ⟨c, d, rfl⟩
    · rw [if_pos (in_no l_0 t9 (fun q => d (dg_i.mp q))), p0i]
      exact Or.inr ⟨Or.inr ⟨c, d⟩, rfl⟩
  · rw [code_ge hnn (show a = nn by omega), if_pos (in_no (x := (-9 : Int32) - 48) l_0 t9 (by decide)), p0i]
    exact Or.inr ⟨Or.inl (by omega), rfl⟩
/-- the two figures of a house -/
def figT (x h kk : Int32) (R1 R2 R3 SH : Nat → Int32) (g n : Int32) : Int32 × Int32 × Int32 × (Nat → Int32) × (Nat → Int32) × (Nat → Int32) :=
  if 0 ≤ (p5_figure x SH g n).1 then
    if 0 ≤ (p5_figure (p5_figure x SH g n).2 SH g n).1 then
      (1, (p5_figure (p5_figure x SH g n).2 SH g n).2, h + 1, upd R1 h.toNatClampNeg kk, upd R2 h.toNatClampNeg (p5_figure x SH g n).1, upd R3 h.toNatClampNeg (p5_figure (p5_figure x SH g n).2 SH g n).1)
    else (0, (p5_figure (p5_figure x SH g n).2 SH g n).2, h, R1, R2, R3)
  else (0, (p5_figure x SH g n).2, h, R1, R2, R3)
theorem readsHouse_T {a h i n : Int32} {R1 R2 R3 SH : Nat → Int32} : p5_readsHouse a h R1 R2 R3 SH i n = (if h = 6 then (0, a, h, R1, R2, R3) else if p5_codeAt a SH i n = 59 then (if p5_codeAt (a + 1) SH i n = 104 then figT ((a + 1) + 1) h 0 R1 R2 R3 SH i n else if p5_codeAt (a + 1) SH i n = 107 then figT ((a + 1) + 1) h 1 R1 R2 R3 SH i n else if p5_codeAt (a + 1) SH i n = 116 then figT ((a + 1) + 1) h 2 R1 R2 R3 SH i n else (0, a + 1, h, R1, R2, R3)) else (0, a, h, R1, R2, R3)) := rfl
theorem fig_tail (hnn : nn ≤ 60) (hM : ∀ x, x < nn → M i1.toNatClampNeg (i3 + nI x).toNatClampNeg = cd x) (hS : ∀ x, x < nn → SH (g + nI x).toNatClampNeg = cd x) {h a m : Nat} (ha : a = 4 * h + 1) (hn : a + 2 ≤ nn) (R1 R2 R3 : Nat → Int32) (kk : Int32) :
     (∃ f : Nat, (figT (nI (a + 2)) (nI h) kk R1 R2 R3 SH g (nI nn)).1 = 0 ∧ (figT (nI (a + 2)) (nI h) kk R1 R2 R3 SH g (nI nn)).2.1 = nI f ∧ p4_firstFault_l3 M i1 i3 (nI nn) (m + 2) (nI (a + 2)) = nI f ∧ f ≤ nn) ∨
     (a + 4 ≤ nn ∧ figT (nI (a + 2)) (nI h) kk R1 R2 R3 SH g (nI nn) = (1, nI (a + 4), nI (h + 1), upd R1 (nI h).toNatClampNeg kk, upd R2 (nI h).toNatClampNeg (cd (a + 2) - 48), upd R3 (nI h).toNatClampNeg (cd (a + 3) - 48)) ∧ dg (cd (a + 2)) ∧ dg (cd (a + 3)) ∧ p4_firstFault_l3 M i1 i3 (nI nn) (m + 2) (nI (a + 2)) = p4_firstFault_l3 M i1 i3 (nI nn) m (nI (a + 4))) := by
  have neg9 : ¬ (0 : Int32) ≤ -9 := by decide
  unfold figT
  rcases fig_eq hnn hS (a := a + 2) hn with ⟨c, d, e⟩ | ⟨c, e⟩
  · have dd := dg_i.mpr d
    rw [e]
    dsimp only
    rw [if_pos (show 0 ≤ cd (a + 2) - 48 from q_le.mpr (by rw [q_0]; exact dd.1))]
    have s1 : p4_firstFault_l3 M i1 i3 (nI nn) (m + 2) (nI (a + 2)) = p4_firstFault_l3 M i1 i3 (nI nn) (m + 1) (nI (a + 3)) := ff_go hnn hM (m := m + 1) (x := a + 2) c (go3_y (by omega) (by omega) (by omega) d)
    rw [s1]
    rcases fig_eq hnn hS (a := a + 3) (by omega) with ⟨c2, d2, e2⟩ | ⟨c2, e2⟩
    · have dd2 := dg_i.mpr d2
      rw [e2]
      dsimp only
      rw [if_pos (show 0 ≤ cd (a + 3) - 48 from q_le.mpr (by rw [q_0]; exact dd2.1)), nI_s h]
      refine Or.inr ⟨by omega, rfl, d, d2, ?_⟩
      exact ff_go hnn hM (m := m) (x := a + 3) c2 (go3_y (by omega) (by omega) (by omega) d2)
    · rw [e2]
      dsimp only
      rw [if_neg neg9]
      refine Or.inl ⟨a + 3, rfl, rfl, ?_, by omega⟩
      rcases c2 with c2 | ⟨c2, d2⟩
      · exact ff_end hnn (m := m) (x := a + 3) c2 (Or.inr (by omega))
      · exact ff_at hnn hM (m := m) (x := a + 3) c2 (go3_n (by omega) (by omega) (by omega) d2)
  · rw [e]
    dsimp only
    rw [if_neg neg9]
    refine Or.inl ⟨a + 2, rfl, rfl, ?_, hn⟩
    rcases c with c | ⟨c, d⟩
    · exact ff_end hnn (m := m + 1) (x := a + 2) c (Or.inr (by omega))
    · exact ff_at hnn hM (m := m + 1) (x := a + 2) c (go3_n (by omega) (by omega) (by omega) d)
theorem house_eq (hnn : nn ≤ 60) (hM : ∀ x, x < nn → M i1.toNatClampNeg (i3 + nI x).toNatClampNeg = cd x) (hS : ∀ x, x < nn → SH (g + nI x).toNatClampNeg = cd x) {h a m : Nat} (ha : a = 4 * h + 1) (hh : h ≤ 6) (hn : a ≤ nn) (hs : a < nn ∨ h < 2) (R1 R2 R3 : Nat → Int32) :
    (∃ f : Nat, (p5_readsHouse (nI a) (nI h) R1 R2 R3 SH g (nI nn)).1 = 0 ∧ (p5_readsHouse (nI a) (nI h) R1 R2 R3 SH g (nI nn)).2.1 = nI f ∧ p4_firstFault_l3 M i1 i3 (nI nn) (m + 4) (nI a) = nI f ∧ f ≤ nn) ∨
    (h < 6 ∧ a + 4 ≤ nn ∧ p5_readsHouse (nI a) (nI h) R1 R2 R3 SH g (nI nn) = (1, nI (a + 4), nI (h + 1), upd R1 (nI h).toNatClampNeg (p4_kindOf (cd (a + 1))), upd R2 (nI h).toNatClampNeg (cd (a + 2) - 48), upd R3 (nI h).toNatClampNeg (cd (a + 3) - 48)) ∧ dg (cd (a + 2)) ∧ dg (cd (a + 3)) ∧ p4_firstFault_l3 M i1 i3 (nI nn) (m + 4) (nI a) = p4_firstFault_l3 M i1 i3 (nI nn) m (nI (a + 4))) := by
  have g1 := go1 (x := a) (c := cd a) (by omega) (by omega)
  rw [readsHouse_T]
  by_cases c0 : h = 6
  · rw [if_pos (show nI h = 6 from (nI_eqN (b := 6) (by omega) (by omega)).mpr c0)]
    refine Or.inl ⟨a, rfl, rfl, ff_at hnn hM (m := m + 3) (by omega) ?_, hn⟩
    rw [g1, if_pos (show 24 ≤ nI a from (nI_leN (a := 24) (by omega) (by omega)).mpr (by omega))]
    by_cases z : cd a = 59
    · rw [if_pos z]
    · rw [if_neg z]
  · rw [if_neg (show ¬ nI h = 6 from fun q => c0 ((nI_eqN (b := 6) (by omega) (by omega)).mp q))]
    rw [if_neg (show ¬ 24 ≤ nI a from fun q => by have := (nI_leN (a := 24) (by omega) (by omega)).mp q; omega)] at g1
    have e11 : nI a + 1 + 1 = nI (a + 2) := by rw [nI_s a, nI_s (a + 1)]
    rw [e11, nI_s a]
    by_cases c1 : a < nn ∧ cd a = 59
    · obtain ⟨c1, c59⟩ := c1
      rw [if_pos c59] at g1
      have s0 : p4_firstFault_l3 M i1 i3 (nI nn) (m + 4) (nI a) = p4_firstFault_l3 M i1 i3 (nI nn) (m + 3) (nI (a + 1)) := ff_go hnn hM (m := m + 3) c1 (by rw [g1]; decide)
      rw [code_lt hnn hS c1, if_pos c59, s0]
      by_cases c2 : a + 1 < nn
      · rw [code_lt hnn hS c2]
        have g2 := go2 (x := a + 1) (c := cd (a + 1)) (by omega) (by omega)
        have st : ¬ p4_goesOn (nI (a + 1)) (cd (a + 1)) = 0 → p4_firstFault_l3 M i1 i3 (nI nn) (m + 3) (nI (a + 1)) = p4_firstFault_l3 M i1 i3 (nI nn) (m + 2) (nI (a + 2)) := fun q => ff_go hnn hM (m := m + 2) c2 q
        have FT := fun kk : Int32 => fig_tail hnn hM hS (m := m) ha (show a + 2 ≤ nn by omega) R1 R2 R3 kk
        by_cases k1 : cd (a + 1) = 104
        · rw [if_pos k1] at g2
          have ek : p4_kindOf (cd (a + 1)) = 0 := by rw [k1]; decide
          rw [if_pos k1, st (by rw [g2]; decide), ek]
          rcases FT 0 with q | q
          · exact Or.inl q
          · exact Or.inr ⟨by omega, q⟩
        · rw [if_neg k1] at g2
          rw [if_neg k1]
          by_cases k2 : cd (a + 1) = 107
          · rw [if_pos k2] at g2
            have ek : p4_kindOf (cd (a + 1)) = 1 := by rw [k2]; decide
            rw [if_pos k2, st (by rw [g2]; decide), ek]
            rcases FT 1 with q | q
            · exact Or.inl q
            · exact Or.inr ⟨by omega, q⟩
          · rw [if_neg k2] at g2
            rw [if_neg k2]
            by_cases k3 : cd (a + 1) = 116
            · rw [if_pos k3] at g2
              have ek : p4_kindOf (cd (a + 1)) = 2 := by rw [k3]; decide
              rw [if_pos k3, st (by rw [g2]; decide), ek]
              rcases FT 2 with q | q
              · exact Or.inl q
              · exact Or.inr ⟨by omega, q⟩
            · rw [if_neg k3] at g2
              rw [if_neg k3]
              exact Or.inl ⟨a + 1, rfl, rfl, ff_at hnn hM (m := m + 2) c2 g2, by omega⟩
      · rw [code_ge hnn (show a + 1 = nn by omega), if_neg (show ¬ (-9 : Int32) = 104 by decide), if_neg (show ¬ (-9 : Int32) = 107 by decide), if_neg (show ¬ (-9 : Int32) = 116 by decide)]
        exact Or.inl ⟨a + 1, rfl, rfl, ff_end hnn (m := m + 2) (by omega) (Or.inr (by omega)), by omega⟩
    · have c59 : ¬ p5_codeAt (nI a) SH g (nI nn) = 59 := by
        by_cases z : a < nn
        · rw [code_lt hnn hS z]; exact fun q => c1 ⟨z, q⟩
        · rw [code_ge hnn (show a = nn by omega)]; decide
      rw [if_neg c59]
      refine Or.inl ⟨a, rfl, rfl, ?_, hn⟩
      by_cases z : a < nn
      · rw [if_neg (fun q => c1 ⟨z, q⟩)] at g1
        exact ff_at hnn hM (m := m + 3) z g1
      · exact ff_end hnn (m := m + 3) (show a = nn by omega) (Or.inl (by omega))
def Rok (cd : Nat → Int32) (h : Nat) (R1 R2 R3 : Nat → Int32) : Prop := ∀ j, j < h → R1 j = p4_kindOf (cd (4 * j + 2)) ∧ R2 j = cd (4 * j + 3) - 48 ∧ R3 j = cd (4 * j + 4) - 48 ∧ dg (cd (4 * j + 3)) ∧ dg (cd (4 * j + 4))
theorem cityLoop {mra mrh : Int32} {RK RL RC : Nat → Int32} (hnn : nn ≤ 60) (hM : ∀ x, x < nn → M i1.toNatClampNeg (i3 + nI x).toNatClampNeg = cd x) (hS : ∀ x, x < nn → SH (g + nI x).toNatClampNeg = cd x) :
    ∀ (q h m : Nat) (R1 R2 R3 : Nat → Int32), h ≤ 6 → 9 ≤ q + h → 4 * h + 1 ≤ nn → 61 ≤ m + (4 * h + 1) → Rok cd h R1 R2 R3 →
      (∃ f : Nat, (p5_readsCity_l45 mra mrh RK RL RC SH g (nI nn) q 1 (nI (4 * h + 1)) (nI h) R1 R2 R3).1 = 0 ∧ (p5_readsCity_l45 mra mrh RK RL RC SH g (nI nn) q 1 (nI (4 * h + 1)) (nI h) R1 R2 R3).2.1 = nI f ∧ p4_firstFault_l3 M i1 i3 (nI nn) m (nI (4 * h + 1)) = nI f ∧ f ≤ nn) ∨
      (∃ (H : Nat) (S1 S2 S3 : Nat → Int32), p5_readsCity_l45 mra mrh RK RL RC SH g (nI nn) q 1 (nI (4 * h + 1)) (nI h) R1 R2 R3 = (1, nI (4 * H + 1), nI H, S1, S2, S3) ∧ 2 ≤ H ∧ H ≤ 6 ∧ 4 * H + 1 = nn ∧ Rok cd H S1 S2 S3 ∧ p4_firstFault_l3 M i1 i3 (nI nn) m (nI (4 * h + 1)) = -9) := by
  intro q
  induction q with
  | zero => intro h m R1 R2 R3 h1 h2; exact absurd h2 (by omega)
  | succ q ih =>
    intro h m R1 R2 R3 h1 h2 h3 h4 hR
    rw [p5_readsCity_l45_s, if_neg (show ¬ (1 : Int32) = 0 by decide)]
    obtain ⟨m', hm'⟩ : ∃ m', m = m' + 4 := ⟨m - 4, by omega⟩
    obtain ⟨q', hq'⟩ : ∃ q', q = q' + 1 := ⟨q - 1, by omega⟩
    by_cases c : nI nn ≤ nI (4 * h + 1) ∧ ¬ nI h < 2
    · have e := (nI_leN (by omega) (by omega)).mp c.1
      have c2 : ¬ h < 2 := fun z => c.2 ((nI_ltN (b := 2) (by omega) (by omega)).mpr z)
      rw [if_neg c.2, if_pos c.1]
      obtain ⟨m'', hm''⟩ : ∃ m'', m = m'' + 1 := ⟨m - 1, by omega⟩
      refine Or.inr ⟨h, R1, R2, R3, rfl, by omega, h1, by omega, hR, ?_⟩
      rw [hm'']
      exact ff_ok hnn (by omega) ⟨by omega, by omega⟩
    · have hs : 4 * h + 1 < nn ∨ h < 2 := by
        by_cases z : h < 2
        · exact Or.inr z
        · refine Or.inl ?_
          by_cases z2 : 4 * h + 1 < nn
          · exact z2
          · exact absurd ⟨(nI_leN (by omega) (by omega)).mpr (by omega), fun y => z ((nI_ltN (b := 2) (by omega) (by omega)).mp y)⟩ c
      have goal : (if nI h < 2 then p5_readsCity_l45 mra mrh RK RL RC SH g (nI nn) q (p5_readsHouse (nI (4 * h + 1)) (nI h) R1 R2 R3 SH g (nI nn)).1 (p5_readsHouse (nI (4 * h + 1)) (nI h) R1 R2 R3 SH g (nI nn)).2.1 (p5_readsHouse (nI (4 * h + 1)) (nI h) R1 R2 R3 SH g (nI nn)).2.2.1 (p5_readsHouse (nI (4 * h + 1)) (nI h) R1 R2 R3 SH g (nI nn)).2.2.2.1 (p5_readsHouse (nI (4 * h + 1)) (nI h) R1 R2 R3 SH g (nI nn)).2.2.2.2.1 (p5_readsHouse (nI (4 * h + 1)) (nI h) R1 R2 R3 SH g (nI nn)).2.2.2.2.2
          else if nI nn ≤ nI (4 * h + 1) then (1, nI (4 * h + 1), nI h, R1, R2, R3) else p5_readsCity_l45 mra mrh RK RL RC SH g (nI nn) q (p5_readsHouse (nI (4 * h + 1)) (nI h) R1 R2 R3 SH g (nI nn)).1 (p5_readsHouse (nI (4 * h + 1)) (nI h) R1 R2 R3 SH g (nI nn)).2.1 (p5_readsHouse (nI (4 * h + 1)) (nI h) R1 R2 R3 SH g (nI nn)).2.2.1 (p5_readsHouse (nI (4 * h + 1)) (nI h) R1 R2 R3 SH g (nI nn)).2.2.2.1 (p5_readsHouse (nI (4 * h + 1)) (nI h) R1 R2 R3 SH g (nI nn)).2.2.2.2.1 (p5_readsHouse (nI (4 * h + 1)) (nI h) R1 R2 R3 SH g (nI nn)).2.2.2.2.2)
          = p5_readsCity_l45 mra mrh RK RL RC SH g (nI nn) q (p5_readsHouse (nI (4 * h + 1)) (nI h) R1 R2 R3 SH g (nI nn)).1 (p5_readsHouse (nI (4 * h + 1)) (nI h) R1 R2 R3 SH g (nI nn)).2.1 (p5_readsHouse (nI (4 * h + 1)) (nI h) R1 R2 R3 SH g (nI nn)).2.2.1 (p5_readsHouse (nI (4 * h + 1)) (nI h) R1 R2 R3 SH g (nI nn)).2.2.2.1 (p5_readsHouse (nI (4 * h + 1)) (nI h) R1 R2 R3 SH g (nI nn)).2.2.2.2.1 (p5_readsHouse (nI (4 * h + 1)) (nI h) R1 R2 R3 SH g (nI nn)).2.2.2.2.2 := by
        by_cases z : nI h < 2
        · rw [if_pos z]
        · rw [if_neg z, if_neg (fun y => c ⟨y, z⟩)]
      rw [goal]
      rcases house_eq hnn hM hS (m := m') rfl h1 h3 hs R1 R2 R3 with ⟨f, e1, e2, e3, e4⟩ | ⟨h6, hn4, e, d1, d2, e3⟩
      · rw [e1, e2, hq', p5_readsCity_l45_s, if_pos (show (0 : Int32) = 0 from rfl), hm']
        exact Or.inl ⟨f, rfl, rfl, e3, e4⟩
      · have e5 : 4 * h + 1 + 4 = 4 * (h + 1) + 1 := by omega
        rw [e5] at e e3
        rw [e, hm', e3]
        dsimp only
        have ch : (nI h).toNatClampNeg = h := nI_clamp (by omega)
        refine ih (h + 1) m' _ _ _ (by omega) (by omega) (by omega) (by omega) (fun j hj => ?_)
        rw [ch]
        by_cases z : j = h
        · rw [z, pk_us, pk_us, pk_us]
          exact ⟨rfl, rfl, rfl, d1, d2⟩
        · rw [pk_un z, pk_un z, pk_un z]
          exact hR j (by omega)
theorem city_eq {mra mrh : Int32} {RK RL RC : Nat → Int32} (hnn : nn ≤ 60) (hM : ∀ x, x < nn → M i1.toNatClampNeg (i3 + nI x).toNatClampNeg = cd x) (hS : ∀ x, x < nn → SH (g + nI x).toNatClampNeg = cd x) :
    (∃ f : Nat, (p5_readsCity mra mrh RK RL RC SH g (nI nn)).1 = 0 ∧ (p5_readsCity mra mrh RK RL RC SH g (nI nn)).2.1 = nI f ∧ p4_firstFault M i1 i3 (nI nn) = nI f ∧ f ≤ nn) ∨
    (∃ (H : Nat) (S1 S2 S3 : Nat → Int32), p5_readsCity mra mrh RK RL RC SH g (nI nn) = (1, nI (4 * H + 1), nI H, S1, S2, S3) ∧ 2 ≤ H ∧ H ≤ 6 ∧ 4 * H + 1 = nn ∧ Rok cd H S1 S2 S3 ∧ p4_firstFault M i1 i3 (nI nn) = -9) := by
  have z0 : p5_codeAt 0 SH g (nI nn) = p5_codeAt (nI 0) SH g (nI nn) := by rw [nI_0]
  have f0 : p4_firstFault_l3 M i1 i3 (nI nn) 61 0 = p4_firstFault_l3 M i1 i3 (nI nn) 61 (nI 0) := by rw [nI_0]
  have bad : ∀ (k : Nat), (p5_readsCity_l45 mra mrh RK RL RC SH g (nI nn) (k + 1) 0 (0 + 0) 0 RK RL RC).1 = 0 ∧ (p5_readsCity_l45 mra mrh RK RL RC SH g (nI nn) (k + 1) 0 (0 + 0) 0 RK RL RC).2.1 = nI 0 := by
    intro k
    rw [p5_readsCity_l45_s, if_pos (show (0 : Int32) = 0 from rfl)]
    exact ⟨rfl, by show (0 + 0 : Int32) = nI 0; decide⟩
  unfold p5_readsCity p4_firstFault
  rw [z0, f0]
  by_cases c : 0 < nn
  · rw [code_lt hnn hS c]
    by_cases c1 : cd 0 = 113
    · rw [if_pos c1]
      have g0 : ¬ p4_goesOn (nI 0) (cd 0) = 0 := by
        unfold p4_goesOn
        rw [if_pos nI_0, if_pos c1]; decide
      rw [ff_go hnn hM (m := 60) c g0]
      have CL := cityLoop (mra := mra) (mrh := mrh) (RK := RK) (RL := RL) (RC := RC) hnn hM hS 9 0 60 RK RL RC (by omega) (by omega) (by omega) (by omega) (fun j hj => by omega)
      rw [show (0 + 1 : Int32) = nI (4 * 0 + 1) by decide]
      rw [nI_0] at CL
      exact CL
    · rw [if_neg c1]
      have g0 : p4_goesOn (nI 0) (cd 0) = 0 := by
        unfold p4_goesOn
        rw [if_pos nI_0, if_neg c1]
      exact Or.inl ⟨0, (bad 8).1, (bad 8).2, ff_at hnn hM (m := 60) c g0, by omega⟩
  · have e : nn = 0 := by omega
    rw [code_ge hnn (show 0 = nn by omega), if_neg (show ¬ (-9 : Int32) = 113 by decide)]
    exact Or.inl ⟨0, (bad 8).1, (bad 8).2, ff_end hnn (m := 60) (by omega) (Or.inl (by omega)), by omega⟩
theorem kindOf_3 (c : Int32) : kinds3 (p4_kindOf c) := by
  unfold p4_kindOf
  by_cases c1 : c = 116
  · rw [if_pos c1]; exact Or.inr (Or.inr rfl)
  · rw [if_neg c1]
    by_cases c2 : c = 107
    · rw [if_pos c2]; exact Or.inr (Or.inl rfl)
    · rw [if_neg c2]; exact Or.inl rfl
/-- both settle the same houses -/
theorem settle_eq {N GK f LF mra mrh mrd a b i2 i4 : Int32} {K L C RK RL RC SZ LN S1 S2 S3 : Nat → Int32} {H : Nat} {B : Int} (hH : H ≤ 6) (hR : Rok cd H S1 S2 S3) (hn : 4 * H + 1 = nn) (h3 : 0 ≤ i3.toInt ∧ i3.toInt + nn ≤ 60) (hc : ∀ x, x < nn → M i1.toNatClampNeg (i3.toNatClampNeg + x) = cd x) (hB : 9 ≤ B) :
    ∀ (q x : Nat) (K_ L_ C_ : Nat → Int32), x ≤ H → H - x < q → (∀ j : Nat, kinds3 (K_ j)) → (∀ j : Nat, 0 ≤ (L_ j).toInt ∧ (L_ j).toInt ≤ 18) → (∀ j : Nat, 0 ≤ (C_ j).toInt ∧ (C_ j).toInt ≤ B) →
      ∃ K' L' C' : Nat → Int32, p4_settle_l26 M N K L C GK i1 i3 (nI nn) q (nI x) K_ L_ C_ = (nI H, K', L', C', 0) ∧ p5_city_l90 LF N mra mrh mrd K L C RK RL RC SZ LN SH i1 i2 i3 i4 q (nI x) f (nI H) a b K_ L_ C_ S1 S2 S3 = (nI H, 0, nI H, a, b, 0, K', L', C', S1, S2, S3) ∧ (∀ j : Nat, kinds3 (K' j)) ∧ (∀ j : Nat, 0 ≤ (L' j).toInt ∧ (L' j).toInt ≤ 18) ∧ (∀ j : Nat, 0 ≤ (C' j).toInt ∧ (C' j).toInt ≤ B) := by
  have eH : (if 6 < (nI nn - 1) / 4 then 6 else (nI nn - 1) / 4) = nI H := by
    rw [← hn, quo4 H (by omega), if_neg (fun q => by have := (nI_ltN (a := 6) (by omega) (by omega)).mp q; omega)]
  intro q
  induction q with
  | zero => intro x _ _ _ h1 h2; exact absurd h2 (by omega)
  | succ q ih =>
    intro x K_ L_ C_ h1 h2 bK bL bC
    rw [p4_settle_l26_s, p5_city_l90_s, eH]
    by_cases c : nI H ≤ nI x
    · rw [if_pos c, if_pos c]
      exact ⟨K_, L_, C_, rfl, rfl, bK, bL, bC⟩
    · have c2 : ¬ H ≤ x := fun z => c ((nI_leN (by omega) (by omega)).mpr z)
      have cx : (nI x).toNatClampNeg = x := nI_clamp (by omega)
      have tx : (nI x).toInt = x := nI_toInt (by omega)
      have t1 : (1 : Int32).toInt = 1 := by decide
      have t2 : (2 : Int32).toInt = 2 := by decide
      have t4 : (4 : Int32).toInt = 4 := by decide
      have y4 : (4 * nI x).toInt = 4 * x := by rw [q_mul (by rw [t4, tx]; omega) (by rw [t4, tx]; omega), t4, tx]
      have y2 : (i3 + 2).toInt = i3.toInt + 2 := by rw [q_add (by rw [t2]; omega) (by rw [t2]; omega), t2]
      have w0 : ((i3 + 2) + (4 * nI x)).toInt = i3.toInt + 2 + 4 * x := by rw [q_add (by rw [y2, y4]; omega) (by rw [y2, y4]; omega), y2, y4]
      have w1 : (((i3 + 2) + (4 * nI x)) + 1).toInt = i3.toInt + 2 + 4 * x + 1 := by rw [q_add (by rw [w0, t1]; omega) (by rw [w0, t1]; omega), w0, t1]
      have w2 : (((i3 + 2) + (4 * nI x)) + 2).toInt = i3.toInt + 2 + 4 * x + 2 := by rw [q_add (by rw [w0, t2]; omega) (by rw [w0, t2]; omega), w0, t2]
      have u := cl_nn h3.1
      have u0 := cl_nn (x := (i3 + 2) + (4 * nI x)) (by omega)
      have u1 := cl_nn (x := ((i3 + 2) + (4 * nI x)) + 1) (by omega)
      have u2 := cl_nn (x := ((i3 + 2) + (4 * nI x)) + 2) (by omega)
      have m0 : M i1.toNatClampNeg ((i3 + 2) + (4 * nI x)).toNatClampNeg = cd (4 * x + 2) := by
        rw [show ((i3 + 2) + (4 * nI x)).toNatClampNeg = i3.toNatClampNeg + (4 * x + 2) by omega]
        exact hc _ (by omega)
      have m1 : M i1.toNatClampNeg (((i3 + 2) + (4 * nI x)) + 1).toNatClampNeg = cd (4 * x + 3) := by
        rw [show (((i3 + 2) + (4 * nI x)) + 1).toNatClampNeg = i3.toNatClampNeg + (4 * x + 3) by omega]
        exact hc _ (by omega)
      have m2 : M i1.toNatClampNeg (((i3 + 2) + (4 * nI x)) + 2).toNatClampNeg = cd (4 * x + 4) := by
        rw [show (((i3 + 2) + (4 * nI x)) + 2).toNatClampNeg = i3.toNatClampNeg + (4 * x + 4) by omega]
        exact hc _ (by omega)
      obtain ⟨r1, r2, r3, d1, d2⟩ := hR x (by omega)
      have e1 := dg_i.mpr d1
      have e2 := dg_i.mpr d2
      rw [if_neg c, if_neg c, nI_s x, m0, m1, m2, cx, r1, r2, r3]
      exact ih (x + 1) _ _ _ (by omega) (by omega) (all_upd bK (kindOf_3 _)) (all_upd (P := fun x => 0 ≤ x.toInt ∧ x.toInt ≤ 18) bL ⟨e1.1, by omega⟩) (all_upd (P := fun x => 0 ≤ x.toInt ∧ x.toInt ≤ B) bC ⟨e2.1, by omega⟩)
end CIT

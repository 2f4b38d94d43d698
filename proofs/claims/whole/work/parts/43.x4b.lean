def p4_ofHouse (N : Int32) (K : Nat → Int32) (L : Nat → Int32) (C : Nat → Int32) (i1 : Int32) (i2 : Int32) : Int32 :=
  if (p0_has N i1) = 0 then
    (-1)
  else
    if i2 = 0 then
      (K i1.toNatClampNeg)
    else
      if i2 = 1 then
        (L i1.toNatClampNeg)
      else
        if i2 = 2 then
          (C i1.toNatClampNeg)
        else
          if i2 = 3 then
            (p0_worthOf K L C i1)
          else
            (-2)
abbrev rmX4_ofHouse : Room := { frames := 2, cells := 0, slots := 0, locals := 43 }
abbrev QX4_ofHouse (dC : Nat → ClassId) (dI : Nat → Nat → Nat) (A : Nat → Prop) (cI : ClassId) (x0 : Nat) (t0 : Nat) (r0 : Nat) (y0 : Nat) (g0 : Nat) (w0 : Nat) (tk : Nat) (tl : Nat) (tc : Nat) (TR : Int32) (LF : Int32) (N : Int32) (K : Nat → Int32) (L : Nat → Int32) (C : Nat → Int32) (i1 : Int32) (i2 : Int32) : Array Value → State → Outcome → State → Prop := va_Qi (fun (r : Int32) (_ : Unit) => r = p4_ofHouse N K L C i1 i2) (fun (_ : Unit) (t : State) => va_P (dC, dI) vwCl ([(x0, .inr (4, [.ref t0, .ref r0, .ref y0, .ref g0, .ref w0, .int TR, .int LF])), (t0, .inr (0, [.ref tk, .ref tl, .ref tc, .int N])), (tk, .inl (cI, 6, .inl K)), (tl, .inl (cI, 6, .inl L)), (tc, .inl (cI, 6, .inl C))]) t.heap) A
set_option maxHeartbeats 4000000 in
set_option maxRecDepth 100000 in
theorem ctX4_ofHouse (l : Launch) (dC : Nat → ClassId) (dI : Nat → Nat → Nat) (cI : ClassId) (x0 : Nat) (t0 : Nat) (r0 : Nat) (y0 : Nat) (g0 : Nat) (w0 : Nat) (tk : Nat) (tl : Nat) (tc : Nat) (sz : Nat) (TR : Int32) (LF : Int32) (N : Int32) (K : Nat → Int32) (L : Nat → Int32) (C : Nat → Int32) (i1 : Int32) (i2 : Int32) (hNb : N.toInt ≤ 6) : Met l yX4_ofHouse wsX4_ofHouse rmX4_ofHouse (va_Pc [.ref x0, .int i1, .int i2] (cP dC dI [(cI, .int)] ([(x0, .inr (4, [.ref t0, .ref r0, .ref y0, .ref g0, .ref w0, .int TR, .int LF])), (t0, .inr (0, [.ref tk, .ref tl, .ref tc, .int N])), (tk, .inl (cI, 6, .inl K)), (tl, .inl (cI, 6, .inl L)), (tc, .inl (cI, 6, .inl C))]) sz)) (QX4_ofHouse dC dI (va_A ([(x0, .inr (4, [.ref t0, .ref r0, .ref y0, .ref g0, .ref w0, .int TR, .int LF])), (t0, .inr (0, [.ref tk, .ref tl, .ref tc, .int N])), (tk, .inl (cI, 6, .inl K)), (tl, .inl (cI, 6, .inl L)), (tc, .inl (cI, 6, .inl C))]) sz) cI x0 t0 r0 y0 g0 w0 tk tl tc TR LF N K L C i1 i2) 0 0 (va_A ([(x0, .inr (4, [.ref t0, .ref r0, .ref y0, .ref g0, .ref w0, .int TR, .int LF])), (t0, .inr (0, [.ref tk, .ref tl, .ref tc, .int N])), (tk, .inl (cI, 6, .inl K)), (tl, .inl (cI, 6, .inl L)), (tc, .inl (cI, 6, .inl C))]) sz) := by
  refine Met.ofW (cc := cX4_ofHouse) (maxL := 3) (ret := (some .int)) (by decide) rfl ?_
  intro p e s m args below meth c s₁ B hml hv
  obtain ⟨rfl, hsz, hP, hK, hD0, hN⟩ := hv
  have hx := B.exec
  have hb := B.bytes
  have hr := B.returns
  have hts := atoms_spec (ws := wsX4_ofHouse) B.pre
  have hown : s.vm.findClass RX4 = some m.cls := findClass_of_methodNamed B.named
  have hlocks := B.notSynchronized
  subst hsz
  have hD := hD0.self (sz := s.heap.size)
  generalize hAe : va_A ([(x0, .inr (4, [.ref t0, .ref r0, .ref y0, .ref g0, .ref w0, .int TR, .int LF])), (t0, .inr (0, [.ref tk, .ref tl, .ref tc, .int N])), (tk, .inl (cI, 6, .inl K)), (tl, .inl (cI, 6, .inl L)), (tc, .inl (cI, 6, .inl C))]) s.heap.size = A at hD ⊢
  have hA : ∀ q : Nat, s.heap.size ≤ q → A q := fun q h => by rw [← hAe]; exact Or.inr h
  have hS : va_S A s.heap s.heap [] := va_S.rf
  have hP : va_P (dC, dI) vwCl ([(x0, .inr (4, [.ref t0, .ref r0, .ref y0, .ref g0, .ref w0, .int TR, .int LF])), (t0, .inr (0, [.ref tk, .ref tl, .ref tc, .int N])), (tk, .inl (cI, 6, .inl K)), (tl, .inl (cI, 6, .inl L)), (tc, .inl (cI, 6, .inl C))]) s.heap := hP
  have hin0 : ∀ w ∈ wsX00, w ∈ wsX4_ofHouse := by decide +kernel
  have hin4 : ∀ w ∈ wsX40, w ∈ wsX4_ofHouse := by decide +kernel
  have kf_12 := hts (.fieldLink RX4 12 "RicherChange" "town" "LRicherChange$City;") (by decide +kernel)
  have hn_78 := va_Nw.use (A := [.ref x0, .int i1, .int i2].toArray) rfl hN.1
  have hn_82 := va_Nw.use (A := [.ref x0, .int i1, .int i2].toArray) rfl hN.2.1
  have hn_85 := va_Nw.use (A := [.ref x0, .int i1, .int i2].toArray) rfl hN.2.2.1
  have hl := lv_entry ([.ref x0, .int i1, .int i2]) (n := 3) (Nat.le_of_ble_eq_true rfl)
  rw [lg_entry_eq]
  generalize (lg_sl ([.ref x0, .int i1, .int i2]) ++ List.replicate (3 - (lg_sl ([.ref x0, .int i1, .int i2])).length) Slot.unset).toArray = ls at hl ⊢
  have hl : lv_has ls 3 [(0, .ref x0), (1, .int i1), (2, .int i2)] := hl
  refine lv_aload_n hx hb dX4_ofHouse_0 rfl (lv_at hl 0 rfl) ?_
  refine va_get (D := (dC, dI)) (ci := 4) (v := .ref t0) (C := RX4) (T := TX4) (N := 7) hx hb hts hin4 hown hK hP 0 rfl rfl 0 (by decide) kf_12 (fun _ h9 => h9) rfl dX4_ofHouse_1 ?_
  refine lv_iload_n hx hb dX4_ofHouse_4 rfl (lv_at hl 1 rfl) ?_
  have hPc := hP.sub (ws' := [(t0, .inr (0, [.ref tk, .ref tl, .ref tc, .int N]))]) [1] rfl
  have hDc := hD.sub (ws' := [(t0, .inr (0, [.ref tk, .ref tl, .ref tc, .int N]))]) [1] (by decide) rfl
  have hKc := hK.sub (tys' := [(cI, .int)]) [0] rfl
  have hFc := va_free (wc := [(t0, .inr (0, [.ref tk, .ref tl, .ref tc, .int N]))]) hD hS hA [1] rfl
  refine va_calli (va_runV (As := [.int i1]) (rest := []) ⟨hx, hb, hml, hown, hts⟩ (ctX0_has l dC dI cI t0 tk tl tc s.heap.size N i1) (cwV 1 hts gX4_ofHouse_X0_has rfl rfl rfl (by decide +kernel) ⟨Nat.le_of_ble_eq_true rfl, Nat.le_of_ble_eq_true rfl⟩) (pre_V hKc hN hPc hDc (RX0, TX0, 4) 0 0 rfl rfl) rfl rfl hl.1 rfl (lv_room (Nat.le_of_ble_eq_true rfl)) dX4_ofHouse_5 ⟨Nat.le_of_ble_eq_true rfl, Nat.le_of_ble_eq_true rfl⟩) hS (fun q _ h => hFc q h) hFc (fun r _ t H locs ht hvm hw hB hz1 hk1 hS => ?_)
  try dsimp only at hw
  subst hw
  rw [ht] at hB
  obtain ⟨hP, hD⟩ := rw_join ([(x0, .inr (4, [.ref t0, .ref r0, .ref y0, .ref g0, .ref w0, .int TR, .int LF])), (t0, .inr (0, [.ref tk, .ref tl, .ref tc, .int N])), (tk, .inl (cI, 6, .inl K)), (tl, .inl (cI, 6, .inl L)), (tc, .inl (cI, 6, .inl C))]) ([(x0, .inr (4, [.ref t0, .ref r0, .ref y0, .ref g0, .ref w0, .int TR, .int LF])), (t0, .inr (0, [.ref tk, .ref tl, .ref tc, .int N])), (tk, .inl (cI, 6, .inl K)), (tl, .inl (cI, 6, .inl L)), (tc, .inl (cI, 6, .inl C))]) ([(t0, .inr (0, [.ref tk, .ref tl, .ref tc, .int N]))]) ([(t0, .inr (0, [.ref tk, .ref tl, .ref tc, .int N]))]) ([(x0, .inr (4, [.ref t0, .ref r0, .ref y0, .ref g0, .ref w0, .int TR, .int LF])), (tk, .inl (cI, 6, .inl K)), (tl, .inl (cI, 6, .inl L)), (tc, .inl (cI, 6, .inl C))]) hP hD [1] [0, 2, 3, 4] [x0, t0, tk, tl, tc] 5 rfl rfl rfl rfl rfl (by decide) rfl rfl hk1 hB
  refine lv_if_ne (tgt := 13) hx hb dX4_ofHouse_8 (by decide) (fun c_8 => ?_) (fun c_8 => ?_)
  · skip
    have j1 : vp_in i1 6 := has_in hNb c_8
    refine lv_iload_n hx hb dX4_ofHouse_13 rfl (lv_at hl 2 rfl) ?_
    by_cases c_14_0 : i2 = 0
    · skip
      refine lv_tableIn (off := 30) (tgt := 44) hx hb dX4_ofHouse_14 (by rw [c_14_0]; decide) (by rw [c_14_0]; decide) (by rw [c_14_0]; decide) (by decide) ?_
      refine lv_aload_n hx hb dX4_ofHouse_44 rfl (lv_at hl 0 rfl) ?_
      refine va_get (D := (dC, dI)) (ci := 4) (v := .ref t0) (C := RX4) (T := TX4) (N := 7) hx hb hts hin4 hown hK hP 0 rfl rfl 0 (by decide) kf_12 (fun _ h9 => h9) rfl dX4_ofHouse_45 ?_
      refine va_getN (D := (dC, dI)) (ci := 0) (v := .ref tk) (C := RX0) (T := TX0) (N := 4) hx hb hts hin0 hown hK hP 1 rfl rfl 0 (by decide) hn_78 (fun _ h9 => h9) rfl dX4_ofHouse_48 ?_
      refine lv_iload_n hx hb dX4_ofHouse_51 rfl (lv_at hl 1 rfl) ?_
      refine va_iald hx hb hK hP 2 0 rfl rfl (by assumption) dX4_ofHouse_52 ?_
      have hE9 : p4_ofHouse N K L C i1 i2 = (K i1.toNatClampNeg) := by unfold p4_ofHouse; rw [if_neg c_8, if_pos c_14_0]
      exact W.iret (v := (K i1.toNatClampNeg)) hx hb hr (fun t ht hW => ⟨⟨_, (), rfl, by rw [hE9], by show va_P (dC, dI) vwCl _ t.heap; rw [ht]; exact hP⟩, hS.F ht⟩) hS.2.2 dX4_ofHouse_53
    · skip
      by_cases c_14_1 : i2 = 1
      · skip
        refine lv_tableIn (off := 40) (tgt := 54) hx hb dX4_ofHouse_14 (by rw [c_14_1]; decide) (by rw [c_14_1]; decide) (by rw [c_14_1]; decide) (by decide) ?_
        refine lv_aload_n hx hb dX4_ofHouse_54 rfl (lv_at hl 0 rfl) ?_
        refine va_get (D := (dC, dI)) (ci := 4) (v := .ref t0) (C := RX4) (T := TX4) (N := 7) hx hb hts hin4 hown hK hP 0 rfl rfl 0 (by decide) kf_12 (fun _ h9 => h9) rfl dX4_ofHouse_55 ?_
        refine va_getN (D := (dC, dI)) (ci := 0) (v := .ref tl) (C := RX0) (T := TX0) (N := 4) hx hb hts hin0 hown hK hP 1 rfl rfl 1 (by decide) hn_82 (fun _ h9 => h9) rfl dX4_ofHouse_58 ?_
        refine lv_iload_n hx hb dX4_ofHouse_61 rfl (lv_at hl 1 rfl) ?_
        refine va_iald hx hb hK hP 3 0 rfl rfl (by assumption) dX4_ofHouse_62 ?_
        have hE9 : p4_ofHouse N K L C i1 i2 = (L i1.toNatClampNeg) := by unfold p4_ofHouse; rw [if_neg c_8, if_neg c_14_0, if_pos c_14_1]
        exact W.iret (v := (L i1.toNatClampNeg)) hx hb hr (fun t ht hW => ⟨⟨_, (), rfl, by rw [hE9], by show va_P (dC, dI) vwCl _ t.heap; rw [ht]; exact hP⟩, hS.F ht⟩) hS.2.2 dX4_ofHouse_63
      · skip
        by_cases c_14_2 : i2 = 2
        · skip
          refine lv_tableIn (off := 50) (tgt := 64) hx hb dX4_ofHouse_14 (by rw [c_14_2]; decide) (by rw [c_14_2]; decide) (by rw [c_14_2]; decide) (by decide) ?_
          refine lv_aload_n hx hb dX4_ofHouse_64 rfl (lv_at hl 0 rfl) ?_
          refine va_get (D := (dC, dI)) (ci := 4) (v := .ref t0) (C := RX4) (T := TX4) (N := 7) hx hb hts hin4 hown hK hP 0 rfl rfl 0 (by decide) kf_12 (fun _ h9 => h9) rfl dX4_ofHouse_65 ?_
          refine va_getN (D := (dC, dI)) (ci := 0) (v := .ref tc) (C := RX0) (T := TX0) (N := 4) hx hb hts hin0 hown hK hP 1 rfl rfl 2 (by decide) hn_85 (fun _ h9 => h9) rfl dX4_ofHouse_68 ?_
          refine lv_iload_n hx hb dX4_ofHouse_71 rfl (lv_at hl 1 rfl) ?_
          refine va_iald hx hb hK hP 4 0 rfl rfl (by assumption) dX4_ofHouse_72 ?_
          have hE9 : p4_ofHouse N K L C i1 i2 = (C i1.toNatClampNeg) := by unfold p4_ofHouse; rw [if_neg c_8, if_neg c_14_0, if_neg c_14_1, if_pos c_14_2]
          exact W.iret (v := (C i1.toNatClampNeg)) hx hb hr (fun t ht hW => ⟨⟨_, (), rfl, by rw [hE9], by show va_P (dC, dI) vwCl _ t.heap; rw [ht]; exact hP⟩, hS.F ht⟩) hS.2.2 dX4_ofHouse_73
        · skip
          by_cases c_14_3 : i2 = 3
          · skip
            refine lv_tableIn (off := 60) (tgt := 74) hx hb dX4_ofHouse_14 (by rw [c_14_3]; decide) (by rw [c_14_3]; decide) (by rw [c_14_3]; decide) (by decide) ?_
            refine lv_aload_n hx hb dX4_ofHouse_74 rfl (lv_at hl 0 rfl) ?_
            refine va_get (D := (dC, dI)) (ci := 4) (v := .ref t0) (C := RX4) (T := TX4) (N := 7) hx hb hts hin4 hown hK hP 0 rfl rfl 0 (by decide) kf_12 (fun _ h9 => h9) rfl dX4_ofHouse_75 ?_
            refine lv_iload_n hx hb dX4_ofHouse_78 rfl (lv_at hl 1 rfl) ?_
            have hPc := hP.sub (ws' := [(t0, .inr (0, [.ref tk, .ref tl, .ref tc, .int N])), (tk, .inl (cI, 6, .inl K)), (tl, .inl (cI, 6, .inl L)), (tc, .inl (cI, 6, .inl C))]) [1, 2, 3, 4] rfl
            have hDc := hD.sub (ws' := [(t0, .inr (0, [.ref tk, .ref tl, .ref tc, .int N])), (tk, .inl (cI, 6, .inl K)), (tl, .inl (cI, 6, .inl L)), (tc, .inl (cI, 6, .inl C))]) [1, 2, 3, 4] (by decide) rfl
            have hKc := hK.sub (tys' := [(cI, .int)]) [0] rfl
            have hFc := va_free (wc := [(t0, .inr (0, [.ref tk, .ref tl, .ref tc, .int N])), (tk, .inl (cI, 6, .inl K)), (tl, .inl (cI, 6, .inl L)), (tc, .inl (cI, 6, .inl C))]) hD hS hA [1, 2, 3, 4] rfl
            refine va_calli (va_runV (As := [.int i1]) (rest := []) ⟨hx, hb, hml, hown, hts⟩ (ctX0_worthOf l dC dI cI t0 tk tl tc H.size N K L C i1 (by assumption)) (cwV 1 hts gX4_ofHouse_X0_worthOf rfl rfl rfl (by decide +kernel) ⟨Nat.le_of_ble_eq_true rfl, Nat.le_of_ble_eq_true rfl⟩) (pre_V hKc hN hPc hDc (RX0, TX0, 4) 0 0 rfl rfl) rfl rfl hl.1 rfl (lv_room (Nat.le_of_ble_eq_true rfl)) dX4_ofHouse_79 ⟨Nat.le_of_ble_eq_true rfl, Nat.le_of_ble_eq_true rfl⟩) hS (fun q _ h => hFc q h) hFc (fun r _ t H locs ht hvm hw hB hz1 hk1 hS => ?_)
            try dsimp only at hw
            subst hw
            rw [ht] at hB
            obtain ⟨hP, hD⟩ := rw_join ([(x0, .inr (4, [.ref t0, .ref r0, .ref y0, .ref g0, .ref w0, .int TR, .int LF])), (t0, .inr (0, [.ref tk, .ref tl, .ref tc, .int N])), (tk, .inl (cI, 6, .inl K)), (tl, .inl (cI, 6, .inl L)), (tc, .inl (cI, 6, .inl C))]) ([(x0, .inr (4, [.ref t0, .ref r0, .ref y0, .ref g0, .ref w0, .int TR, .int LF])), (t0, .inr (0, [.ref tk, .ref tl, .ref tc, .int N])), (tk, .inl (cI, 6, .inl K)), (tl, .inl (cI, 6, .inl L)), (tc, .inl (cI, 6, .inl C))]) ([(t0, .inr (0, [.ref tk, .ref tl, .ref tc, .int N])), (tk, .inl (cI, 6, .inl K)), (tl, .inl (cI, 6, .inl L)), (tc, .inl (cI, 6, .inl C))]) ([(t0, .inr (0, [.ref tk, .ref tl, .ref tc, .int N])), (tk, .inl (cI, 6, .inl K)), (tl, .inl (cI, 6, .inl L)), (tc, .inl (cI, 6, .inl C))]) ([(x0, .inr (4, [.ref t0, .ref r0, .ref y0, .ref g0, .ref w0, .int TR, .int LF]))]) hP hD [1, 2, 3, 4] [0] [x0, t0, tk, tl, tc] 5 rfl rfl rfl rfl rfl (by decide) rfl rfl hk1 hB
            have hE9 : p4_ofHouse N K L C i1 i2 = (p0_worthOf K L C i1) := by unfold p4_ofHouse; rw [if_neg c_8, if_neg c_14_0, if_neg c_14_1, if_neg c_14_2, if_pos c_14_3]
            exact W.iret (v := (p0_worthOf K L C i1)) hx hb hr (fun t ht hW => ⟨⟨_, (), rfl, by rw [hE9], by show va_P (dC, dI) vwCl _ t.heap; rw [ht]; exact hP⟩, hS.F ht⟩) hS.2.2 dX4_ofHouse_82
          · skip
            refine lv_tableOut (tgt := 83) hx hb dX4_ofHouse_14 (sw_out4 c_14_0 c_14_1 c_14_2 c_14_3) (by decide) ?_
            refine lv_bipush (v := (-2)) hx hb dX4_ofHouse_83 (by decide) ?_
            have hE9 : p4_ofHouse N K L C i1 i2 = (-2) := by unfold p4_ofHouse; rw [if_neg c_8, if_neg c_14_0, if_neg c_14_1, if_neg c_14_2, if_neg c_14_3]
            exact W.iret (v := (-2)) hx hb hr (fun t ht hW => ⟨⟨_, (), rfl, by rw [hE9], by show va_P (dC, dI) vwCl _ t.heap; rw [ht]; exact hP⟩, hS.F ht⟩) hS.2.2 dX4_ofHouse_85
  · skip
    refine lv_iconst (v := (-1)) hx hb dX4_ofHouse_11 (by decide) ?_
    have hE9 : p4_ofHouse N K L C i1 i2 = (-1) := by unfold p4_ofHouse; rw [if_pos c_8]
    exact W.iret (v := (-1)) hx hb hr (fun t ht hW => ⟨⟨_, (), rfl, by rw [hE9], by show va_P (dC, dI) vwCl _ t.heap; rw [ht]; exact hP⟩, hS.F ht⟩) hS.2.2 dX4_ofHouse_12

def p4_endow (N : Int32) (K : Nat → Int32) (L : Nat → Int32) (C : Nat → Int32) (i1 : Int32) (i2 : Int32) (i3 : Int32) : Int32 × (Nat → Int32) × (Nat → Int32) × (Nat → Int32) :=
  if (p0_has N i1) = 0 then
    ((-1), K, L, C)
  else
    if i2 = 1 then
      if i3 < 0 then
        ((-2), K, L, C)
      else
        if i3 ≤ 18 then
          ((L i1.toNatClampNeg), ((p0_become K L C i1 i2 i3).1), ((p0_become K L C i1 i2 i3).2.1), ((p0_become K L C i1 i2 i3).2.2))
        else
          ((-2), K, L, C)
    else
      if i2 = 2 then
        if i3 < 0 then
          ((-2), K, L, C)
        else
          if i3 ≤ 18 then
            ((C i1.toNatClampNeg), ((p0_become K L C i1 i2 i3).1), ((p0_become K L C i1 i2 i3).2.1), ((p0_become K L C i1 i2 i3).2.2))
          else
            ((-2), K, L, C)
      else
        ((-2), K, L, C)
abbrev rmX4_endow : Room := { frames := 1, cells := 0, slots := 0, locals := 23 }
abbrev QX4_endow (dC : Nat → ClassId) (dI : Nat → Nat → Nat) (A : Nat → Prop) (cI : ClassId) (x0 : Nat) (t0 : Nat) (r0 : Nat) (y0 : Nat) (g0 : Nat) (w0 : Nat) (tk : Nat) (tl : Nat) (tc : Nat) (TR : Int32) (LF : Int32) (N : Int32) (K : Nat → Int32) (L : Nat → Int32) (C : Nat → Int32) (i1 : Int32) (i2 : Int32) (i3 : Int32) : Array Value → State → Outcome → State → Prop := va_Qi (fun (r : Int32) (_ : Unit) => r = (p4_endow N K L C i1 i2 i3).1) (fun (_ : Unit) (t : State) => va_P (dC, dI) vwCl ([(x0, .inr (4, [.ref t0, .ref r0, .ref y0, .ref g0, .ref w0, .int TR, .int LF])), (t0, .inr (0, [.ref tk, .ref tl, .ref tc, .int N])), (tk, .inl (cI, 6, .inl ((p4_endow N K L C i1 i2 i3).2.1))), (tl, .inl (cI, 6, .inl ((p4_endow N K L C i1 i2 i3).2.2.1))), (tc, .inl (cI, 6, .inl ((p4_endow N K L C i1 i2 i3).2.2.2)))]) t.heap) A
set_option maxHeartbeats 4000000 in
set_option maxRecDepth 100000 in
theorem ctX4_endow (l : Launch) (dC : Nat → ClassId) (dI : Nat → Nat → Nat) (cI : ClassId) (x0 : Nat) (t0 : Nat) (r0 : Nat) (y0 : Nat) (g0 : Nat) (w0 : Nat) (tk : Nat) (tl : Nat) (tc : Nat) (sz : Nat) (TR : Int32) (LF : Int32) (N : Int32) (K : Nat → Int32) (L : Nat → Int32) (C : Nat → Int32) (i1 : Int32) (i2 : Int32) (i3 : Int32) (hNb : N.toInt ≤ 6) : Met l yX4_endow wsX4_endow rmX4_endow (va_Pc [.ref x0, .int i1, .int i2, .int i3] (cP dC dI [(cI, .int)] ([(x0, .inr (4, [.ref t0, .ref r0, .ref y0, .ref g0, .ref w0, .int TR, .int LF])), (t0, .inr (0, [.ref tk, .ref tl, .ref tc, .int N])), (tk, .inl (cI, 6, .inl K)), (tl, .inl (cI, 6, .inl L)), (tc, .inl (cI, 6, .inl C))]) sz)) (QX4_endow dC dI (va_A ([(x0, .inr (4, [.ref t0, .ref r0, .ref y0, .ref g0, .ref w0, .int TR, .int LF])), (t0, .inr (0, [.ref tk, .ref tl, .ref tc, .int N])), (tk, .inl (cI, 6, .inl K)), (tl, .inl (cI, 6, .inl L)), (tc, .inl (cI, 6, .inl C))]) sz) cI x0 t0 r0 y0 g0 w0 tk tl tc TR LF N K L C i1 i2 i3) 0 0 (va_A ([(x0, .inr (4, [.ref t0, .ref r0, .ref y0, .ref g0, .ref w0, .int TR, .int LF])), (t0, .inr (0, [.ref tk, .ref tl, .ref tc, .int N])), (tk, .inl (cI, 6, .inl K)), (tl, .inl (cI, 6, .inl L)), (tc, .inl (cI, 6, .inl C))]) sz) := by
  refine Met.ofW (cc := cX4_endow) (maxL := 5) (ret := (some .int)) (by decide) rfl ?_
  intro p e s m args below meth c s₁ B hml hv
  obtain ⟨rfl, hsz, hP, hK, hD0, hN⟩ := hv
  have hx := B.exec
  have hb := B.bytes
  have hr := B.returns
  have hts := atoms_spec (ws := wsX4_endow) B.pre
  have hown : s.vm.findClass RX4 = some m.cls := findClass_of_methodNamed B.named
  have hlocks := B.notSynchronized
  subst hsz
  have hD := hD0.self (sz := s.heap.size)
  generalize hAe : va_A ([(x0, .inr (4, [.ref t0, .ref r0, .ref y0, .ref g0, .ref w0, .int TR, .int LF])), (t0, .inr (0, [.ref tk, .ref tl, .ref tc, .int N])), (tk, .inl (cI, 6, .inl K)), (tl, .inl (cI, 6, .inl L)), (tc, .inl (cI, 6, .inl C))]) s.heap.size = A at hD ⊢
  have hA : ∀ q : Nat, s.heap.size ≤ q → A q := fun q h => by rw [← hAe]; exact Or.inr h
  have hS : va_S A s.heap s.heap [] := va_S.rf
  have hP : va_P (dC, dI) vwCl ([(x0, .inr (4, [.ref t0, .ref r0, .ref y0, .ref g0, .ref w0, .int TR, .int LF])), (t0, .inr (0, [.ref tk, .ref tl, .ref tc, .int N])), (tk, .inl (cI, 6, .inl K)), (tl, .inl (cI, 6, .inl L)), (tc, .inl (cI, 6, .inl C))]) s.heap := hP
  have hin0 : ∀ w ∈ wsX00, w ∈ wsX4_endow := by decide +kernel
  have hin4 : ∀ w ∈ wsX40, w ∈ wsX4_endow := by decide +kernel
  have kf_12 := hts (.fieldLink RX4 12 "RicherChange" "town" "LRicherChange$City;") (by decide +kernel)
  have hn_82 := va_Nw.use (A := [.ref x0, .int i1, .int i2, .int i3].toArray) rfl hN.2.1
  have hn_85 := va_Nw.use (A := [.ref x0, .int i1, .int i2, .int i3].toArray) rfl hN.2.2.1
  have hl := lv_entry ([.ref x0, .int i1, .int i2, .int i3]) (n := 5) (Nat.le_of_ble_eq_true rfl)
  rw [lg_entry_eq]
  generalize (lg_sl ([.ref x0, .int i1, .int i2, .int i3]) ++ List.replicate (5 - (lg_sl ([.ref x0, .int i1, .int i2, .int i3])).length) Slot.unset).toArray = ls at hl ⊢
  have hl : lv_has ls 5 [(0, .ref x0), (1, .int i1), (2, .int i2), (3, .int i3)] := hl
  refine lv_aload_n hx hb dX4_endow_0 rfl (lv_at hl 0 rfl) ?_
  refine va_get (D := (dC, dI)) (ci := 4) (v := .ref t0) (C := RX4) (T := TX4) (N := 7) hx hb hts hin4 hown hK hP 0 rfl rfl 0 (by decide) kf_12 (fun _ h9 => h9) rfl dX4_endow_1 ?_
  refine lv_iload_n hx hb dX4_endow_4 rfl (lv_at hl 1 rfl) ?_
  have hPc := hP.sub (ws' := [(t0, .inr (0, [.ref tk, .ref tl, .ref tc, .int N]))]) [1] rfl
  have hDc := hD.sub (ws' := [(t0, .inr (0, [.ref tk, .ref tl, .ref tc, .int N]))]) [1] (by decide) rfl
  have hKc := hK.sub (tys' := [(cI, .int)]) [0] rfl
  have hFc := va_free (wc := [(t0, .inr (0, [.ref tk, .ref tl, .ref tc, .int N]))]) hD hS hA [1] rfl
  refine va_calli (va_runV (As := [.int i1]) (rest := []) ⟨hx, hb, hml, hown, hts⟩ (ctX0_has l dC dI cI t0 tk tl tc s.heap.size N i1) (cwV 1 hts gX4_endow_X0_has rfl rfl rfl (by decide +kernel) ⟨Nat.le_of_ble_eq_true rfl, Nat.le_of_ble_eq_true rfl⟩) (pre_V hKc hN hPc hDc (RX0, TX0, 4) 0 0 rfl rfl) rfl rfl hl.1 rfl (lv_room (Nat.le_of_ble_eq_true rfl)) dX4_endow_5 ⟨Nat.le_of_ble_eq_true rfl, Nat.le_of_ble_eq_true rfl⟩) hS (fun q _ h => hFc q h) hFc (fun r _ t H locs ht hvm hw hB hz1 hk1 hS => ?_)
  try dsimp only at hw
  subst hw
  rw [ht] at hB
  obtain ⟨hP, hD⟩ := rw_join ([(x0, .inr (4, [.ref t0, .ref r0, .ref y0, .ref g0, .ref w0, .int TR, .int LF])), (t0, .inr (0, [.ref tk, .ref tl, .ref tc, .int N])), (tk, .inl (cI, 6, .inl K)), (tl, .inl (cI, 6, .inl L)), (tc, .inl (cI, 6, .inl C))]) ([(x0, .inr (4, [.ref t0, .ref r0, .ref y0, .ref g0, .ref w0, .int TR, .int LF])), (t0, .inr (0, [.ref tk, .ref tl, .ref tc, .int N])), (tk, .inl (cI, 6, .inl K)), (tl, .inl (cI, 6, .inl L)), (tc, .inl (cI, 6, .inl C))]) ([(t0, .inr (0, [.ref tk, .ref tl, .ref tc, .int N]))]) ([(t0, .inr (0, [.ref tk, .ref tl, .ref tc, .int N]))]) ([(x0, .inr (4, [.ref t0, .ref r0, .ref y0, .ref g0, .ref w0, .int TR, .int LF])), (tk, .inl (cI, 6, .inl K)), (tl, .inl (cI, 6, .inl L)), (tc, .inl (cI, 6, .inl C))]) hP hD [1] [0, 2, 3, 4] [x0, t0, tk, tl, tc] 5 rfl rfl rfl rfl rfl (by decide) rfl rfl hk1 hB
  refine lv_if_ne (tgt := 13) hx hb dX4_endow_8 (by decide) (fun c_8 => ?_) (fun c_8 => ?_)
  · skip
    have j1 : vp_in i1 6 := has_in hNb c_8
    refine lv_iload_n hx hb dX4_endow_13 rfl (lv_at hl 2 rfl) ?_
    refine lv_iconst (v := 1) hx hb dX4_endow_14 (by decide) ?_
    refine lv_icmp_eq (tgt := 23) hx hb dX4_endow_15 (by decide) (fun c_15 => ?_) (fun c_15 => ?_)
    · skip
      refine lv_iload_n hx hb dX4_endow_23 rfl (lv_at hl 3 rfl) ?_
      refine lv_if_lt (tgt := 33) hx hb dX4_endow_24 (by decide) (fun c_24 => ?_) (fun c_24 => ?_)
      · skip
        refine lv_bipush (v := (-2)) hx hb dX4_endow_33 (by decide) ?_
        have hE9 : p4_endow N K L C i1 i2 i3 = ((-2), K, L, C) := by unfold p4_endow; rw [if_neg c_8, if_pos c_15, if_pos c_24]
        exact W.iret (v := (-2)) hx hb hr (fun t ht hW => ⟨⟨_, (), rfl, by rw [hE9], by show va_P (dC, dI) vwCl _ t.heap; rw [ht, hE9]; exact hP⟩, hS.F ht⟩) hS.2.2 dX4_endow_35
      · skip
        refine lv_iload_n hx hb dX4_endow_27 rfl (lv_at hl 3 rfl) ?_
        refine lv_bipush (v := 18) hx hb dX4_endow_28 (by decide) ?_
        refine lv_icmp_le (tgt := 36) hx hb dX4_endow_30 (by decide) (fun c_30 => ?_) (fun c_30 => ?_)
        · skip
          refine lv_iload_n hx hb dX4_endow_36 rfl (lv_at hl 2 rfl) ?_
          refine lv_iconst (v := 1) hx hb dX4_endow_37 (by decide) ?_
          refine lv_icmp_ne (tgt := 53) hx hb dX4_endow_38 (by decide) (fun c_38 => ?_) (fun c_38 => ?_)
          · exact absurd c_15 c_38
          · skip
            refine lv_aload_n hx hb dX4_endow_41 rfl (lv_at hl 0 rfl) ?_
            refine va_get (D := (dC, dI)) (ci := 4) (v := .ref t0) (C := RX4) (T := TX4) (N := 7) hx hb hts hin4 hown hK hP 0 rfl rfl 0 (by decide) kf_12 (fun _ h9 => h9) rfl dX4_endow_42 ?_
            refine va_getN (D := (dC, dI)) (ci := 0) (v := .ref tl) (C := RX0) (T := TX0) (N := 4) hx hb hts hin0 hown hK hP 1 rfl rfl 1 (by decide) hn_82 (fun _ h9 => h9) rfl dX4_endow_45 ?_
            refine lv_iload_n hx hb dX4_endow_48 rfl (lv_at hl 1 rfl) ?_
            refine va_iald hx hb hK hP 3 0 rfl rfl (by assumption) dX4_endow_49 ?_
            refine lv_goto (tgt := 62) hx hb dX4_endow_50 (by decide) ?_
            refine lv_istore (lv' := [(4, .int (L i1.toNatClampNeg)), (0, .ref x0), (1, .int i1), (2, .int i2), (3, .int i3)]) hx hb dX4_endow_62 hl (by decide) rfl (fun ls hl => ?_)
            refine lv_aload_n hx hb dX4_endow_64 rfl (lv_at hl 1 rfl) ?_
            refine va_get (D := (dC, dI)) (ci := 4) (v := .ref t0) (C := RX4) (T := TX4) (N := 7) hx hb hts hin4 hown hK hP 0 rfl rfl 0 (by decide) kf_12 (fun _ h9 => h9) rfl dX4_endow_65 ?_
            refine lv_iload_n hx hb dX4_endow_68 rfl (lv_at hl 2 rfl) ?_
            refine lv_iload_n hx hb dX4_endow_69 rfl (lv_at hl 3 rfl) ?_
            refine lv_iload_n hx hb dX4_endow_70 rfl (lv_at hl 4 rfl) ?_
            have hPc := hP.sub (ws' := [(t0, .inr (0, [.ref tk, .ref tl, .ref tc, .int N])), (tk, .inl (cI, 6, .inl K)), (tl, .inl (cI, 6, .inl L)), (tc, .inl (cI, 6, .inl C))]) [1, 2, 3, 4] rfl
            have hDc := hD.sub (ws' := [(t0, .inr (0, [.ref tk, .ref tl, .ref tc, .int N])), (tk, .inl (cI, 6, .inl K)), (tl, .inl (cI, 6, .inl L)), (tc, .inl (cI, 6, .inl C))]) [1, 2, 3, 4] (by decide) rfl
            have hKc := hK.sub (tys' := [(cI, .int)]) [0] rfl
            have hFc := va_free (wc := [(t0, .inr (0, [.ref tk, .ref tl, .ref tc, .int N])), (tk, .inl (cI, 6, .inl K)), (tl, .inl (cI, 6, .inl L)), (tc, .inl (cI, 6, .inl C))]) hD hS hA [1, 2, 3, 4] rfl
            refine va_callv (va_runV (As := [.int i1, .int i2, .int i3]) (rest := []) ⟨hx, hb, hml, hown, hts⟩ (ctX0_become l dC dI cI t0 tk tl tc H.size N K L C i1 i2 i3 (by assumption)) (cwV 3 hts gX4_endow_X0_become rfl rfl rfl (by decide +kernel) ⟨Nat.le_of_ble_eq_true rfl, Nat.le_of_ble_eq_true rfl⟩) (pre_V hKc hN hPc hDc (RX0, TX0, 4) 0 0 rfl rfl) rfl rfl hl.1 rfl (lv_room (Nat.le_of_ble_eq_true rfl)) dX4_endow_71 ⟨Nat.le_of_ble_eq_true rfl, Nat.le_of_ble_eq_true rfl⟩) hS (fun q _ h => hFc q h) hFc (fun _ t H locs ht hvm hw hB hz1 hk1 hS => ?_)
            rw [ht] at hB
            refine nm_gen ((p0_become K L C i1 i2 i3).1) (fun K_71 eK_71 => ?_)
            rw [eK_71] at hB
            refine nm_gen ((p0_become K L C i1 i2 i3).2.1) (fun L_71 eL_71 => ?_)
            rw [eL_71] at hB
            refine nm_gen ((p0_become K L C i1 i2 i3).2.2) (fun C_71 eC_71 => ?_)
            rw [eC_71] at hB
            obtain ⟨hP, hD⟩ := rw_join ([(x0, .inr (4, [.ref t0, .ref r0, .ref y0, .ref g0, .ref w0, .int TR, .int LF])), (t0, .inr (0, [.ref tk, .ref tl, .ref tc, .int N])), (tk, .inl (cI, 6, .inl K)), (tl, .inl (cI, 6, .inl L)), (tc, .inl (cI, 6, .inl C))]) ([(x0, .inr (4, [.ref t0, .ref r0, .ref y0, .ref g0, .ref w0, .int TR, .int LF])), (t0, .inr (0, [.ref tk, .ref tl, .ref tc, .int N])), (tk, .inl (cI, 6, .inl K_71)), (tl, .inl (cI, 6, .inl L_71)), (tc, .inl (cI, 6, .inl C_71))]) ([(t0, .inr (0, [.ref tk, .ref tl, .ref tc, .int N])), (tk, .inl (cI, 6, .inl K)), (tl, .inl (cI, 6, .inl L)), (tc, .inl (cI, 6, .inl C))]) ([(t0, .inr (0, [.ref tk, .ref tl, .ref tc, .int N])), (tk, .inl (cI, 6, .inl K_71)), (tl, .inl (cI, 6, .inl L_71)), (tc, .inl (cI, 6, .inl C_71))]) ([(x0, .inr (4, [.ref t0, .ref r0, .ref y0, .ref g0, .ref w0, .int TR, .int LF]))]) hP hD [1, 2, 3, 4] [0] [x0, t0, tk, tl, tc] 5 rfl rfl rfl rfl rfl (by decide) rfl rfl hk1 hB
            refine lv_iload hx hb dX4_endow_74 (lv_at hl 0 rfl) ?_
            have hE9 : p4_endow N K L C i1 i2 i3 = ((L i1.toNatClampNeg), K_71, L_71, C_71) := by unfold p4_endow; simp only [eK_71, eL_71, eC_71]; rw [if_neg c_8, if_pos c_15, if_neg c_24, if_pos c_30]
            exact W.iret (v := (L i1.toNatClampNeg)) hx hb hr (fun t ht hW => ⟨⟨_, (), rfl, by rw [hE9], by show va_P (dC, dI) vwCl _ t.heap; rw [ht, hE9]; exact hP⟩, hS.F ht⟩) hS.2.2 dX4_endow_76
        · skip
          refine lv_bipush (v := (-2)) hx hb dX4_endow_33 (by decide) ?_
          have hE9 : p4_endow N K L C i1 i2 i3 = ((-2), K, L, C) := by unfold p4_endow; rw [if_neg c_8, if_pos c_15, if_neg c_24, if_neg c_30]
          exact W.iret (v := (-2)) hx hb hr (fun t ht hW => ⟨⟨_, (), rfl, by rw [hE9], by show va_P (dC, dI) vwCl _ t.heap; rw [ht, hE9]; exact hP⟩, hS.F ht⟩) hS.2.2 dX4_endow_35
    · skip
      refine lv_iload_n hx hb dX4_endow_18 rfl (lv_at hl 2 rfl) ?_
      refine lv_iconst (v := 2) hx hb dX4_endow_19 (by decide) ?_
      refine lv_icmp_ne (tgt := 33) hx hb dX4_endow_20 (by decide) (fun c_20 => ?_) (fun c_20 => ?_)
      · skip
        refine lv_bipush (v := (-2)) hx hb dX4_endow_33 (by decide) ?_
        have hE9 : p4_endow N K L C i1 i2 i3 = ((-2), K, L, C) := by unfold p4_endow; rw [if_neg c_8, if_neg c_15, if_neg c_20]
        exact W.iret (v := (-2)) hx hb hr (fun t ht hW => ⟨⟨_, (), rfl, by rw [hE9], by show va_P (dC, dI) vwCl _ t.heap; rw [ht, hE9]; exact hP⟩, hS.F ht⟩) hS.2.2 dX4_endow_35
      · skip
        refine lv_iload_n hx hb dX4_endow_23 rfl (lv_at hl 3 rfl) ?_
        refine lv_if_lt (tgt := 33) hx hb dX4_endow_24 (by decide) (fun c_24 => ?_) (fun c_24 => ?_)
        · skip
          refine lv_bipush (v := (-2)) hx hb dX4_endow_33 (by decide) ?_
          have hE9 : p4_endow N K L C i1 i2 i3 = ((-2), K, L, C) := by unfold p4_endow; rw [if_neg c_8, if_neg c_15, if_pos c_20, if_pos c_24]
          exact W.iret (v := (-2)) hx hb hr (fun t ht hW => ⟨⟨_, (), rfl, by rw [hE9], by show va_P (dC, dI) vwCl _ t.heap; rw [ht, hE9]; exact hP⟩, hS.F ht⟩) hS.2.2 dX4_endow_35
        · skip
          refine lv_iload_n hx hb dX4_endow_27 rfl (lv_at hl 3 rfl) ?_
          refine lv_bipush (v := 18) hx hb dX4_endow_28 (by decide) ?_
          refine lv_icmp_le (tgt := 36) hx hb dX4_endow_30 (by decide) (fun c_30 => ?_) (fun c_30 => ?_)
          · skip
            refine lv_iload_n hx hb dX4_endow_36 rfl (lv_at hl 2 rfl) ?_
            refine lv_iconst (v := 1) hx hb dX4_endow_37 (by decide) ?_
            refine lv_icmp_ne (tgt := 53) hx hb dX4_endow_38 (by decide) (fun c_38 => ?_) (fun c_38 => ?_)
            · skip
              refine lv_aload_n hx hb dX4_endow_53 rfl (lv_at hl 0 rfl) ?_
              refine va_get (D := (dC, dI)) (ci := 4) (v := .ref t0) (C := RX4) (T := TX4) (N := 7) hx hb hts hin4 hown hK hP 0 rfl rfl 0 (by decide) kf_12 (fun _ h9 => h9) rfl dX4_endow_54 ?_
              refine va_getN (D := (dC, dI)) (ci := 0) (v := .ref tc) (C := RX0) (T := TX0) (N := 4) hx hb hts hin0 hown hK hP 1 rfl rfl 2 (by decide) hn_85 (fun _ h9 => h9) rfl dX4_endow_57 ?_
              refine lv_iload_n hx hb dX4_endow_60 rfl (lv_at hl 1 rfl) ?_
              refine va_iald hx hb hK hP 4 0 rfl rfl (by assumption) dX4_endow_61 ?_
              refine lv_istore (lv' := [(4, .int (C i1.toNatClampNeg)), (0, .ref x0), (1, .int i1), (2, .int i2), (3, .int i3)]) hx hb dX4_endow_62 hl (by decide) rfl (fun ls hl => ?_)
              refine lv_aload_n hx hb dX4_endow_64 rfl (lv_at hl 1 rfl) ?_
              refine va_get (D := (dC, dI)) (ci := 4) (v := .ref t0) (C := RX4) (T := TX4) (N := 7) hx hb hts hin4 hown hK hP 0 rfl rfl 0 (by decide) kf_12 (fun _ h9 => h9) rfl dX4_endow_65 ?_
              refine lv_iload_n hx hb dX4_endow_68 rfl (lv_at hl 2 rfl) ?_
              refine lv_iload_n hx hb dX4_endow_69 rfl (lv_at hl 3 rfl) ?_
              refine lv_iload_n hx hb dX4_endow_70 rfl (lv_at hl 4 rfl) ?_
              have hPc := hP.sub (ws' := [(t0, .inr (0, [.ref tk, .ref tl, .ref tc, .int N])), (tk, .inl (cI, 6, .inl K)), (tl, .inl (cI, 6, .inl L)), (tc, .inl (cI, 6, .inl C))]) [1, 2, 3, 4] rfl
              have hDc := hD.sub (ws' := [(t0, .inr (0, [.ref tk, .ref tl, .ref tc, .int N])), (tk, .inl (cI, 6, .inl K)), (tl, .inl (cI, 6, .inl L)), (tc, .inl (cI, 6, .inl C))]) [1, 2, 3, 4] (by decide) rfl
              have hKc := hK.sub (tys' := [(cI, .int)]) [0] rfl
              have hFc := va_free (wc := [(t0, .inr (0, [.ref tk, .ref tl, .ref tc, .int N])), (tk, .inl (cI, 6, .inl K)), (tl, .inl (cI, 6, .inl L)), (tc, .inl (cI, 6, .inl C))]) hD hS hA [1, 2, 3, 4] rfl
              refine va_callv (va_runV (As := [.int i1, .int i2, .int i3]) (rest := []) ⟨hx, hb, hml, hown, hts⟩ (ctX0_become l dC dI cI t0 tk tl tc H.size N K L C i1 i2 i3 (by assumption)) (cwV 3 hts gX4_endow_X0_become rfl rfl rfl (by decide +kernel) ⟨Nat.le_of_ble_eq_true rfl, Nat.le_of_ble_eq_true rfl⟩) (pre_V hKc hN hPc hDc (RX0, TX0, 4) 0 0 rfl rfl) rfl rfl hl.1 rfl (lv_room (Nat.le_of_ble_eq_true rfl)) dX4_endow_71 ⟨Nat.le_of_ble_eq_true rfl, Nat.le_of_ble_eq_true rfl⟩) hS (fun q _ h => hFc q h) hFc (fun _ t H locs ht hvm hw hB hz1 hk1 hS => ?_)
              rw [ht] at hB
              refine nm_gen ((p0_become K L C i1 i2 i3).1) (fun K_71 eK_71 => ?_)
              rw [eK_71] at hB
              refine nm_gen ((p0_become K L C i1 i2 i3).2.1) (fun L_71 eL_71 => ?_)
              rw [eL_71] at hB
              refine nm_gen ((p0_become K L C i1 i2 i3).2.2) (fun C_71 eC_71 => ?_)
              rw [eC_71] at hB
              obtain ⟨hP, hD⟩ := rw_join ([(x0, .inr (4, [.ref t0, .ref r0, .ref y0, .ref g0, .ref w0, .int TR, .int LF])), (t0, .inr (0, [.ref tk, .ref tl, .ref tc, .int N])), (tk, .inl (cI, 6, .inl K)), (tl, .inl (cI, 6, .inl L)), (tc, .inl (cI, 6, .inl C))]) ([(x0, .inr (4, [.ref t0, .ref r0, .ref y0, .ref g0, .ref w0, .int TR, .int LF])), (t0, .inr (0, [.ref tk, .ref tl, .ref tc, .int N])), (tk, .inl (cI, 6, .inl K_71)), (tl, .inl (cI, 6, .inl L_71)), (tc, .inl (cI, 6, .inl C_71))]) ([(t0, .inr (0, [.ref tk, .ref tl, .ref tc, .int N])), (tk, .inl (cI, 6, .inl K)), (tl, .inl (cI, 6, .inl L)), (tc, .inl (cI, 6, .inl C))]) ([(t0, .inr (0, [.ref tk, .ref tl, .ref tc, .int N])), (tk, .inl (cI, 6, .inl K_71)), (tl, .inl (cI, 6, .inl L_71)), (tc, .inl (cI, 6, .inl C_71))]) ([(x0, .inr (4, [.ref t0, .ref r0, .ref y0, .ref g0, .ref w0, .int TR, .int LF]))]) hP hD [1, 2, 3, 4] [0] [x0, t0, tk, tl, tc] 5 rfl rfl rfl rfl rfl (by decide) rfl rfl hk1 hB
              refine lv_iload hx hb dX4_endow_74 (lv_at hl 0 rfl) ?_
              have hE9 : p4_endow N K L C i1 i2 i3 = ((C i1.toNatClampNeg), K_71, L_71, C_71) := by unfold p4_endow; simp only [eK_71, eL_71, eC_71]; rw [if_neg c_8, if_neg c_15, if_pos c_20, if_neg c_24, if_pos c_30]
              exact W.iret (v := (C i1.toNatClampNeg)) hx hb hr (fun t ht hW => ⟨⟨_, (), rfl, by rw [hE9], by show va_P (dC, dI) vwCl _ t.heap; rw [ht, hE9]; exact hP⟩, hS.F ht⟩) hS.2.2 dX4_endow_76
            · exact absurd c_38 c_15
          · skip
            refine lv_bipush (v := (-2)) hx hb dX4_endow_33 (by decide) ?_
            have hE9 : p4_endow N K L C i1 i2 i3 = ((-2), K, L, C) := by unfold p4_endow; rw [if_neg c_8, if_neg c_15, if_pos c_20, if_neg c_24, if_neg c_30]
            exact W.iret (v := (-2)) hx hb hr (fun t ht hW => ⟨⟨_, (), rfl, by rw [hE9], by show va_P (dC, dI) vwCl _ t.heap; rw [ht, hE9]; exact hP⟩, hS.F ht⟩) hS.2.2 dX4_endow_35
  · skip
    refine lv_iconst (v := (-1)) hx hb dX4_endow_11 (by decide) ?_
    have hE9 : p4_endow N K L C i1 i2 i3 = ((-1), K, L, C) := by unfold p4_endow; rw [if_pos c_8]
    exact W.iret (v := (-1)) hx hb hr (fun t ht hW => ⟨⟨_, (), rfl, by rw [hE9], by show va_P (dC, dI) vwCl _ t.heap; rw [ht, hE9]; exact hP⟩, hS.F ht⟩) hS.2.2 dX4_endow_12

def p4_hide (N : Int32) (L : Nat → Int32) (C : Nat → Int32) (i1 : Int32) (i2 : Int32) : Int32 × (Nat → Int32) × (Nat → Int32) :=
  if (p0_has N i1) = 0 then
    ((-1), L, C)
  else
    if i2 < 0 then
      ((-2), L, C)
    else
      if i2 ≤ (L i1.toNatClampNeg) then
        ((((p0_turnToCoin L C i1 i2).1) i1.toNatClampNeg), ((p0_turnToCoin L C i1 i2).1), ((p0_turnToCoin L C i1 i2).2))
      else
        ((-2), L, C)
abbrev rmX4_hide : Room := { frames := 1, cells := 0, slots := 0, locals := 22 }
abbrev QX4_hide (dC : Nat → ClassId) (dI : Nat → Nat → Nat) (A : Nat → Prop) (cI : ClassId) (x0 : Nat) (t0 : Nat) (r0 : Nat) (y0 : Nat) (g0 : Nat) (w0 : Nat) (tk : Nat) (tl : Nat) (tc : Nat) (TR : Int32) (LF : Int32) (N : Int32) (K : Nat → Int32) (L : Nat → Int32) (C : Nat → Int32) (i1 : Int32) (i2 : Int32) : Array Value → State → Outcome → State → Prop := va_Qi (fun (r : Int32) (_ : Unit) => r = (p4_hide N L C i1 i2).1) (fun (_ : Unit) (t : State) => va_P (dC, dI) vwCl ([(x0, .inr (4, [.ref t0, .ref r0, .ref y0, .ref g0, .ref w0, .int TR, .int LF])), (t0, .inr (0, [.ref tk, .ref tl, .ref tc, .int N])), (tk, .inl (cI, 6, .inl K)), (tl, .inl (cI, 6, .inl ((p4_hide N L C i1 i2).2.1))), (tc, .inl (cI, 6, .inl ((p4_hide N L C i1 i2).2.2)))]) t.heap) A
set_option maxHeartbeats 4000000 in
set_option maxRecDepth 100000 in
theorem ctX4_hide (l : Launch) (dC : Nat → ClassId) (dI : Nat → Nat → Nat) (cI : ClassId) (x0 : Nat) (t0 : Nat) (r0 : Nat) (y0 : Nat) (g0 : Nat) (w0 : Nat) (tk : Nat) (tl : Nat) (tc : Nat) (sz : Nat) (TR : Int32) (LF : Int32) (N : Int32) (K : Nat → Int32) (L : Nat → Int32) (C : Nat → Int32) (i1 : Int32) (i2 : Int32) (hNb : N.toInt ≤ 6) : Met l yX4_hide wsX4_hide rmX4_hide (va_Pc [.ref x0, .int i1, .int i2] (cP dC dI [(cI, .int)] ([(x0, .inr (4, [.ref t0, .ref r0, .ref y0, .ref g0, .ref w0, .int TR, .int LF])), (t0, .inr (0, [.ref tk, .ref tl, .ref tc, .int N])), (tk, .inl (cI, 6, .inl K)), (tl, .inl (cI, 6, .inl L)), (tc, .inl (cI, 6, .inl C))]) sz)) (QX4_hide dC dI (va_A ([(x0, .inr (4, [.ref t0, .ref r0, .ref y0, .ref g0, .ref w0, .int TR, .int LF])), (t0, .inr (0, [.ref tk, .ref tl, .ref tc, .int N])), (tk, .inl (cI, 6, .inl K)), (tl, .inl (cI, 6, .inl L)), (tc, .inl (cI, 6, .inl C))]) sz) cI x0 t0 r0 y0 g0 w0 tk tl tc TR LF N K L C i1 i2) 0 0 (va_A ([(x0, .inr (4, [.ref t0, .ref r0, .ref y0, .ref g0, .ref w0, .int TR, .int LF])), (t0, .inr (0, [.ref tk, .ref tl, .ref tc, .int N])), (tk, .inl (cI, 6, .inl K)), (tl, .inl (cI, 6, .inl L)), (tc, .inl (cI, 6, .inl C))]) sz) := by
  refine Met.ofW (cc := cX4_hide) (maxL := 3) (ret := (some .int)) (by decide) rfl ?_
  intro p e s m args below meth c s₁ B hml hv
  obtain ⟨rfl, hsz, hP, hK, hD0, hN⟩ := hv
  have hx := B.exec
  have hb := B.bytes
  have hr := B.returns
  have hts := atoms_spec (ws := wsX4_hide) B.pre
  have hown : s.vm.findClass RX4 = some m.cls := findClass_of_methodNamed B.named
  have hlocks := B.notSynchronized
  subst hsz
  have hD := hD0.self (sz := s.heap.size)
  generalize hAe : va_A ([(x0, .inr (4, [.ref t0, .ref r0, .ref y0, .ref g0, .ref w0, .int TR, .int LF])), (t0, .inr (0, [.ref tk, .ref tl, .ref tc, .int N])), (tk, .inl (cI, 6, .inl K)), (tl, .inl (cI, 6, .inl L)), (tc, .inl (cI, 6, .inl C))]) s.heap.size = A at hD ⊢
  have hA : ∀ q : Nat, s.heap.size ≤ q → A q := fun q h => by rw [← hAe]; exact Or.inr h
  have hS : va_S A s.heap s.heap [] := va_S.rf
  have hP : va_P (dC, dI) vwCl ([(x0, .inr (4, [.ref t0, .ref r0, .ref y0, .ref g0, .ref w0, .int TR, .int LF])), (t0, .inr (0, [.ref tk, .ref tl, .ref tc, .int N])), (tk, .inl (cI, 6, .inl K)), (tl, .inl (cI, 6, .inl L)), (tc, .inl (cI, 6, .inl C))]) s.heap := hP
  have hin0 : ∀ w ∈ wsX00, w ∈ wsX4_hide := by decide +kernel
  have hin4 : ∀ w ∈ wsX40, w ∈ wsX4_hide := by decide +kernel
  have kf_12 := hts (.fieldLink RX4 12 "RicherChange" "town" "LRicherChange$City;") (by decide +kernel)
  have hn_82 := va_Nw.use (A := [.ref x0, .int i1, .int i2].toArray) rfl hN.2.1
  have hl := lv_entry ([.ref x0, .int i1, .int i2]) (n := 3) (Nat.le_of_ble_eq_true rfl)
  rw [lg_entry_eq]
  generalize (lg_sl ([.ref x0, .int i1, .int i2]) ++ List.replicate (3 - (lg_sl ([.ref x0, .int i1, .int i2])).length) Slot.unset).toArray = ls at hl ⊢
  have hl : lv_has ls 3 [(0, .ref x0), (1, .int i1), (2, .int i2)] := hl
  refine lv_aload_n hx hb dX4_hide_0 rfl (lv_at hl 0 rfl) ?_
  refine va_get (D := (dC, dI)) (ci := 4) (v := .ref t0) (C := RX4) (T := TX4) (N := 7) hx hb hts hin4 hown hK hP 0 rfl rfl 0 (by decide) kf_12 (fun _ h9 => h9) rfl dX4_hide_1 ?_
  refine lv_iload_n hx hb dX4_hide_4 rfl (lv_at hl 1 rfl) ?_
  have hPc := hP.sub (ws' := [(t0, .inr (0, [.ref tk, .ref tl, .ref tc, .int N]))]) [1] rfl
  have hDc := hD.sub (ws' := [(t0, .inr (0, [.ref tk, .ref tl, .ref tc, .int N]))]) [1] (by decide) rfl
  have hKc := hK.sub (tys' := [(cI, .int)]) [0] rfl
  have hFc := va_free (wc := [(t0, .inr (0, [.ref tk, .ref tl, .ref tc, .int N]))]) hD hS hA [1] rfl
  refine va_calli (va_runV (As := [.int i1]) (rest := []) ⟨hx, hb, hml, hown, hts⟩ (ctX0_has l dC dI cI t0 tk tl tc s.heap.size N i1) (cwV 1 hts gX4_hide_X0_has rfl rfl rfl (by decide +kernel) ⟨Nat.le_of_ble_eq_true rfl, Nat.le_of_ble_eq_true rfl⟩) (pre_V hKc hN hPc hDc (RX0, TX0, 4) 0 0 rfl rfl) rfl rfl hl.1 rfl (lv_room (Nat.le_of_ble_eq_true rfl)) dX4_hide_5 ⟨Nat.le_of_ble_eq_true rfl, Nat.le_of_ble_eq_true rfl⟩) hS (fun q _ h => hFc q h) hFc (fun r _ t H locs ht hvm hw hB hz1 hk1 hS => ?_)
  try dsimp only at hw
  subst hw
  rw [ht] at hB
  obtain ⟨hP, hD⟩ := rw_join ([(x0, .inr (4, [.ref t0, .ref r0, .ref y0, .ref g0, .ref w0, .int TR, .int LF])), (t0, .inr (0, [.ref tk, .ref tl, .ref tc, .int N])), (tk, .inl (cI, 6, .inl K)), (tl, .inl (cI, 6, .inl L)), (tc, .inl (cI, 6, .inl C))]) ([(x0, .inr (4, [.ref t0, .ref r0, .ref y0, .ref g0, .ref w0, .int TR, .int LF])), (t0, .inr (0, [.ref tk, .ref tl, .ref tc, .int N])), (tk, .inl (cI, 6, .inl K)), (tl, .inl (cI, 6, .inl L)), (tc, .inl (cI, 6, .inl C))]) ([(t0, .inr (0, [.ref tk, .ref tl, .ref tc, .int N]))]) ([(t0, .inr (0, [.ref tk, .ref tl, .ref tc, .int N]))]) ([(x0, .inr (4, [.ref t0, .ref r0, .ref y0, .ref g0, .ref w0, .int TR, .int LF])), (tk, .inl (cI, 6, .inl K)), (tl, .inl (cI, 6, .inl L)), (tc, .inl (cI, 6, .inl C))]) hP hD [1] [0, 2, 3, 4] [x0, t0, tk, tl, tc] 5 rfl rfl rfl rfl rfl (by decide) rfl rfl hk1 hB
  refine lv_if_ne (tgt := 13) hx hb dX4_hide_8 (by decide) (fun c_8 => ?_) (fun c_8 => ?_)
  · skip
    have j1 : vp_in i1 6 := has_in hNb c_8
    refine lv_iload_n hx hb dX4_hide_13 rfl (lv_at hl 2 rfl) ?_
    refine lv_if_lt (tgt := 30) hx hb dX4_hide_14 (by decide) (fun c_14 => ?_) (fun c_14 => ?_)
    · skip
      refine lv_bipush (v := (-2)) hx hb dX4_hide_30 (by decide) ?_
      have hE9 : p4_hide N L C i1 i2 = ((-2), L, C) := by unfold p4_hide; rw [if_neg c_8, if_pos c_14]
      exact W.iret (v := (-2)) hx hb hr (fun t ht hW => ⟨⟨_, (), rfl, by rw [hE9], by show va_P (dC, dI) vwCl _ t.heap; rw [ht, hE9]; exact hP⟩, hS.F ht⟩) hS.2.2 dX4_hide_32
    · skip
      refine lv_iload_n hx hb dX4_hide_17 rfl (lv_at hl 2 rfl) ?_
      refine lv_aload_n hx hb dX4_hide_18 rfl (lv_at hl 0 rfl) ?_
      refine va_get (D := (dC, dI)) (ci := 4) (v := .ref t0) (C := RX4) (T := TX4) (N := 7) hx hb hts hin4 hown hK hP 0 rfl rfl 0 (by decide) kf_12 (fun _ h9 => h9) rfl dX4_hide_19 ?_
      refine va_getN (D := (dC, dI)) (ci := 0) (v := .ref tl) (C := RX0) (T := TX0) (N := 4) hx hb hts hin0 hown hK hP 1 rfl rfl 1 (by decide) hn_82 (fun _ h9 => h9) rfl dX4_hide_22 ?_
      refine lv_iload_n hx hb dX4_hide_25 rfl (lv_at hl 1 rfl) ?_
      refine va_iald hx hb hK hP 3 0 rfl rfl (by assumption) dX4_hide_26 ?_
      refine lv_icmp_le (tgt := 33) hx hb dX4_hide_27 (by decide) (fun c_27 => ?_) (fun c_27 => ?_)
      · skip
        refine lv_aload_n hx hb dX4_hide_33 rfl (lv_at hl 0 rfl) ?_
        refine va_get (D := (dC, dI)) (ci := 4) (v := .ref t0) (C := RX4) (T := TX4) (N := 7) hx hb hts hin4 hown hK hP 0 rfl rfl 0 (by decide) kf_12 (fun _ h9 => h9) rfl dX4_hide_34 ?_
        refine lv_iload_n hx hb dX4_hide_37 rfl (lv_at hl 1 rfl) ?_
        refine lv_iload_n hx hb dX4_hide_38 rfl (lv_at hl 2 rfl) ?_
        have hPc := hP.sub (ws' := [(t0, .inr (0, [.ref tk, .ref tl, .ref tc, .int N])), (tk, .inl (cI, 6, .inl K)), (tl, .inl (cI, 6, .inl L)), (tc, .inl (cI, 6, .inl C))]) [1, 2, 3, 4] rfl
        have hDc := hD.sub (ws' := [(t0, .inr (0, [.ref tk, .ref tl, .ref tc, .int N])), (tk, .inl (cI, 6, .inl K)), (tl, .inl (cI, 6, .inl L)), (tc, .inl (cI, 6, .inl C))]) [1, 2, 3, 4] (by decide) rfl
        have hKc := hK.sub (tys' := [(cI, .int)]) [0] rfl
        have hFc := va_free (wc := [(t0, .inr (0, [.ref tk, .ref tl, .ref tc, .int N])), (tk, .inl (cI, 6, .inl K)), (tl, .inl (cI, 6, .inl L)), (tc, .inl (cI, 6, .inl C))]) hD hS hA [1, 2, 3, 4] rfl
        refine va_callv (va_runV (As := [.int i1, .int i2]) (rest := []) ⟨hx, hb, hml, hown, hts⟩ (ctX0_turnToCoin l dC dI cI t0 tk tl tc H.size N K L C i1 i2 (by assumption)) (cwV 2 hts gX4_hide_X0_turnToCoin rfl rfl rfl (by decide +kernel) ⟨Nat.le_of_ble_eq_true rfl, Nat.le_of_ble_eq_true rfl⟩) (pre_V hKc hN hPc hDc (RX0, TX0, 4) 0 0 rfl rfl) rfl rfl hl.1 rfl (lv_room (Nat.le_of_ble_eq_true rfl)) dX4_hide_39 ⟨Nat.le_of_ble_eq_true rfl, Nat.le_of_ble_eq_true rfl⟩) hS (fun q _ h => hFc q h) hFc (fun _ t H locs ht hvm hw hB hz1 hk1 hS => ?_)
        rw [ht] at hB
        refine nm_gen ((p0_turnToCoin L C i1 i2).1) (fun L_39 eL_39 => ?_)
        rw [eL_39] at hB
        refine nm_gen ((p0_turnToCoin L C i1 i2).2) (fun C_39 eC_39 => ?_)
        rw [eC_39] at hB
        obtain ⟨hP, hD⟩ := rw_join ([(x0, .inr (4, [.ref t0, .ref r0, .ref y0, .ref g0, .ref w0, .int TR, .int LF])), (t0, .inr (0, [.ref tk, .ref tl, .ref tc, .int N])), (tk, .inl (cI, 6, .inl K)), (tl, .inl (cI, 6, .inl L)), (tc, .inl (cI, 6, .inl C))]) ([(x0, .inr (4, [.ref t0, .ref r0, .ref y0, .ref g0, .ref w0, .int TR, .int LF])), (t0, .inr (0, [.ref tk, .ref tl, .ref tc, .int N])), (tk, .inl (cI, 6, .inl K)), (tl, .inl (cI, 6, .inl L_39)), (tc, .inl (cI, 6, .inl C_39))]) ([(t0, .inr (0, [.ref tk, .ref tl, .ref tc, .int N])), (tk, .inl (cI, 6, .inl K)), (tl, .inl (cI, 6, .inl L)), (tc, .inl (cI, 6, .inl C))]) ([(t0, .inr (0, [.ref tk, .ref tl, .ref tc, .int N])), (tk, .inl (cI, 6, .inl K)), (tl, .inl (cI, 6, .inl L_39)), (tc, .inl (cI, 6, .inl C_39))]) ([(x0, .inr (4, [.ref t0, .ref r0, .ref y0, .ref g0, .ref w0, .int TR, .int LF]))]) hP hD [1, 2, 3, 4] [0] [x0, t0, tk, tl, tc] 5 rfl rfl rfl rfl rfl (by decide) rfl rfl hk1 hB
        refine lv_aload_n hx hb dX4_hide_42 rfl (lv_at hl 0 rfl) ?_
        refine va_get (D := (dC, dI)) (ci := 4) (v := .ref t0) (C := RX4) (T := TX4) (N := 7) hx hb hts hin4 hown hK hP 0 rfl rfl 0 (by decide) kf_12 (fun _ h9 => h9) rfl dX4_hide_43 ?_
        refine va_getN (D := (dC, dI)) (ci := 0) (v := .ref tl) (C := RX0) (T := TX0) (N := 4) hx hb hts hin0 hown hK hP 1 rfl rfl 1 (by decide) hn_82 (fun _ h9 => h9) rfl dX4_hide_46 ?_
        refine lv_iload_n hx hb dX4_hide_49 rfl (lv_at hl 1 rfl) ?_
        refine va_iald hx hb hK hP 3 0 rfl rfl (by assumption) dX4_hide_50 ?_
        have hE9 : p4_hide N L C i1 i2 = ((L_39 i1.toNatClampNeg), L_39, C_39) := by unfold p4_hide; simp only [eL_39, eC_39]; rw [if_neg c_8, if_neg c_14, if_pos c_27]
        exact W.iret (v := (L_39 i1.toNatClampNeg)) hx hb hr (fun t ht hW => ⟨⟨_, (), rfl, by rw [hE9], by show va_P (dC, dI) vwCl _ t.heap; rw [ht, hE9]; exact hP⟩, hS.F ht⟩) hS.2.2 dX4_hide_51
      · skip
        refine lv_bipush (v := (-2)) hx hb dX4_hide_30 (by decide) ?_
        have hE9 : p4_hide N L C i1 i2 = ((-2), L, C) := by unfold p4_hide; rw [if_neg c_8, if_neg c_14, if_neg c_27]
        exact W.iret (v := (-2)) hx hb hr (fun t ht hW => ⟨⟨_, (), rfl, by rw [hE9], by show va_P (dC, dI) vwCl _ t.heap; rw [ht, hE9]; exact hP⟩, hS.F ht⟩) hS.2.2 dX4_hide_32
  · skip
    refine lv_iconst (v := (-1)) hx hb dX4_hide_11 (by decide) ?_
    have hE9 : p4_hide N L C i1 i2 = ((-1), L, C) := by unfold p4_hide; rw [if_pos c_8]
    exact W.iret (v := (-1)) hx hb hr (fun t ht hW => ⟨⟨_, (), rfl, by rw [hE9], by show va_P (dC, dI) vwCl _ t.heap; rw [ht, hE9]; exact hP⟩, hS.F ht⟩) hS.2.2 dX4_hide_12

def p4_answer (N : Int32) (K : Nat → Int32) (L : Nat → Int32) (C : Nat → Int32) (i1 : Int32) (i2 : Int32) (i3 : Int32) : Int32 :=
  if (p0_has N i1) = 0 then
    (-1)
  else
    if (p0_has N i2) = 0 then
      (-1)
    else
      if i1 = i2 then
        (-1)
      else
        if (p0_mayPoint L i1 i2) = 0 then
          (-3)
        else
          if (p4_isCost i3) = 0 then
            (-2)
          else
            if (p0_changes K L C i1 i2 i3) = 0 then
              0
            else
              1
abbrev rmX4_answer : Room := { frames := 2, cells := 0, slots := 0, locals := 46 }
abbrev QX4_answer (dC : Nat → ClassId) (dI : Nat → Nat → Nat) (A : Nat → Prop) (cI : ClassId) (x0 : Nat) (t0 : Nat) (r0 : Nat) (y0 : Nat) (g0 : Nat) (w0 : Nat) (tk : Nat) (tl : Nat) (tc : Nat) (TR : Int32) (LF : Int32) (N : Int32) (K : Nat → Int32) (L : Nat → Int32) (C : Nat → Int32) (i1 : Int32) (i2 : Int32) (i3 : Int32) : Array Value → State → Outcome → State → Prop := va_Qi (fun (r : Int32) (_ : Unit) => r = p4_answer N K L C i1 i2 i3) (fun (_ : Unit) (t : State) => va_P (dC, dI) vwCl ([(x0, .inr (4, [.ref t0, .ref r0, .ref y0, .ref g0, .ref w0, .int TR, .int LF])), (t0, .inr (0, [.ref tk, .ref tl, .ref tc, .int N])), (tk, .inl (cI, 6, .inl K)), (tl, .inl (cI, 6, .inl L)), (tc, .inl (cI, 6, .inl C))]) t.heap) A
set_option maxHeartbeats 4000000 in
set_option maxRecDepth 100000 in
theorem ctX4_answer (l : Launch) (dC : Nat → ClassId) (dI : Nat → Nat → Nat) (cI : ClassId) (x0 : Nat) (t0 : Nat) (r0 : Nat) (y0 : Nat) (g0 : Nat) (w0 : Nat) (tk : Nat) (tl : Nat) (tc : Nat) (sz : Nat) (TR : Int32) (LF : Int32) (N : Int32) (K : Nat → Int32) (L : Nat → Int32) (C : Nat → Int32) (i1 : Int32) (i2 : Int32) (i3 : Int32) (hNb : N.toInt ≤ 6) : Met l yX4_answer wsX4_answer rmX4_answer (va_Pc [.ref x0, .int i1, .int i2, .int i3] (cP dC dI [(cI, .int)] ([(x0, .inr (4, [.ref t0, .ref r0, .ref y0, .ref g0, .ref w0, .int TR, .int LF])), (t0, .inr (0, [.ref tk, .ref tl, .ref tc, .int N])), (tk, .inl (cI, 6, .inl K)), (tl, .inl (cI, 6, .inl L)), (tc, .inl (cI, 6, .inl C))]) sz)) (QX4_answer dC dI (va_A ([(x0, .inr (4, [.ref t0, .ref r0, .ref y0, .ref g0, .ref w0, .int TR, .int LF])), (t0, .inr (0, [.ref tk, .ref tl, .ref tc, .int N])), (tk, .inl (cI, 6, .inl K)), (tl, .inl (cI, 6, .inl L)), (tc, .inl (cI, 6, .inl C))]) sz) cI x0 t0 r0 y0 g0 w0 tk tl tc TR LF N K L C i1 i2 i3) 0 0 (va_A ([(x0, .inr (4, [.ref t0, .ref r0, .ref y0, .ref g0, .ref w0, .int TR, .int LF])), (t0, .inr (0, [.ref tk, .ref tl, .ref tc, .int N])), (tk, .inl (cI, 6, .inl K)), (tl, .inl (cI, 6, .inl L)), (tc, .inl (cI, 6, .inl C))]) sz) := by
  refine Met.ofW (cc := cX4_answer) (maxL := 4) (ret := (some .int)) (by decide) rfl ?_
  intro p e s m args below meth c s₁ B hml hv
  obtain ⟨rfl, hsz, hP, hK, hD0, hN⟩ := hv
  have hx := B.exec
  have hb := B.bytes
  have hr := B.returns
  have hts := atoms_spec (ws := wsX4_answer) B.pre
  have hown : s.vm.findClass RX4 = some m.cls := findClass_of_methodNamed B.named
  have hlocks := B.notSynchronized
  subst hsz
  have hD := hD0.self (sz := s.heap.size)
  generalize hAe : va_A ([(x0, .inr (4, [.ref t0, .ref r0, .ref y0, .ref g0, .ref w0, .int TR, .int LF])), (t0, .inr (0, [.ref tk, .ref tl, .ref tc, .int N])), (tk, .inl (cI, 6, .inl K)), (tl, .inl (cI, 6, .inl L)), (tc, .inl (cI, 6, .inl C))]) s.heap.size = A at hD ⊢
  have hA : ∀ q : Nat, s.heap.size ≤ q → A q := fun q h => by rw [← hAe]; exact Or.inr h
  have hS : va_S A s.heap s.heap [] := va_S.rf
  have hP : va_P (dC, dI) vwCl ([(x0, .inr (4, [.ref t0, .ref r0, .ref y0, .ref g0, .ref w0, .int TR, .int LF])), (t0, .inr (0, [.ref tk, .ref tl, .ref tc, .int N])), (tk, .inl (cI, 6, .inl K)), (tl, .inl (cI, 6, .inl L)), (tc, .inl (cI, 6, .inl C))]) s.heap := hP
  have hin4 : ∀ w ∈ wsX40, w ∈ wsX4_answer := by decide +kernel
  have kf_12 := hts (.fieldLink RX4 12 "RicherChange" "town" "LRicherChange$City;") (by decide +kernel)
  have hl := lv_entry ([.ref x0, .int i1, .int i2, .int i3]) (n := 4) (Nat.le_of_ble_eq_true rfl)
  rw [lg_entry_eq]
  generalize (lg_sl ([.ref x0, .int i1, .int i2, .int i3]) ++ List.replicate (4 - (lg_sl ([.ref x0, .int i1, .int i2, .int i3])).length) Slot.unset).toArray = ls at hl ⊢
  have hl : lv_has ls 4 [(0, .ref x0), (1, .int i1), (2, .int i2), (3, .int i3)] := hl
  refine lv_aload_n hx hb dX4_answer_0 rfl (lv_at hl 0 rfl) ?_
  refine va_get (D := (dC, dI)) (ci := 4) (v := .ref t0) (C := RX4) (T := TX4) (N := 7) hx hb hts hin4 hown hK hP 0 rfl rfl 0 (by decide) kf_12 (fun _ h9 => h9) rfl dX4_answer_1 ?_
  refine lv_iload_n hx hb dX4_answer_4 rfl (lv_at hl 1 rfl) ?_
  have hPc := hP.sub (ws' := [(t0, .inr (0, [.ref tk, .ref tl, .ref tc, .int N]))]) [1] rfl
  have hDc := hD.sub (ws' := [(t0, .inr (0, [.ref tk, .ref tl, .ref tc, .int N]))]) [1] (by decide) rfl
  have hKc := hK.sub (tys' := [(cI, .int)]) [0] rfl
  have hFc := va_free (wc := [(t0, .inr (0, [.ref tk, .ref tl, .ref tc, .int N]))]) hD hS hA [1] rfl
  refine va_calli (va_runV (As := [.int i1]) (rest := []) ⟨hx, hb, hml, hown, hts⟩ (ctX0_has l dC dI cI t0 tk tl tc s.heap.size N i1) (cwV 1 hts gX4_answer_X0_has rfl rfl rfl (by decide +kernel) ⟨Nat.le_of_ble_eq_true rfl, Nat.le_of_ble_eq_true rfl⟩) (pre_V hKc hN hPc hDc (RX0, TX0, 4) 0 0 rfl rfl) rfl rfl hl.1 rfl (lv_room (Nat.le_of_ble_eq_true rfl)) dX4_answer_5 ⟨Nat.le_of_ble_eq_true rfl, Nat.le_of_ble_eq_true rfl⟩) hS (fun q _ h => hFc q h) hFc (fun r _ t H locs ht hvm hw hB hz1 hk1 hS => ?_)
  try dsimp only at hw
  subst hw
  rw [ht] at hB
  obtain ⟨hP, hD⟩ := rw_join ([(x0, .inr (4, [.ref t0, .ref r0, .ref y0, .ref g0, .ref w0, .int TR, .int LF])), (t0, .inr (0, [.ref tk, .ref tl, .ref tc, .int N])), (tk, .inl (cI, 6, .inl K)), (tl, .inl (cI, 6, .inl L)), (tc, .inl (cI, 6, .inl C))]) ([(x0, .inr (4, [.ref t0, .ref r0, .ref y0, .ref g0, .ref w0, .int TR, .int LF])), (t0, .inr (0, [.ref tk, .ref tl, .ref tc, .int N])), (tk, .inl (cI, 6, .inl K)), (tl, .inl (cI, 6, .inl L)), (tc, .inl (cI, 6, .inl C))]) ([(t0, .inr (0, [.ref tk, .ref tl, .ref tc, .int N]))]) ([(t0, .inr (0, [.ref tk, .ref tl, .ref tc, .int N]))]) ([(x0, .inr (4, [.ref t0, .ref r0, .ref y0, .ref g0, .ref w0, .int TR, .int LF])), (tk, .inl (cI, 6, .inl K)), (tl, .inl (cI, 6, .inl L)), (tc, .inl (cI, 6, .inl C))]) hP hD [1] [0, 2, 3, 4] [x0, t0, tk, tl, tc] 5 rfl rfl rfl rfl rfl (by decide) rfl rfl hk1 hB
  refine lv_if_eq (tgt := 27) hx hb dX4_answer_8 (by decide) (fun c_8 => ?_) (fun c_8 => ?_)
  · skip
    refine lv_iconst (v := (-1)) hx hb dX4_answer_27 (by decide) ?_
    have hE9 : p4_answer N K L C i1 i2 i3 = (-1) := by unfold p4_answer; rw [if_pos c_8]
    exact W.iret (v := (-1)) hx hb hr (fun t ht hW => ⟨⟨_, (), rfl, by rw [hE9], by show va_P (dC, dI) vwCl _ t.heap; rw [ht]; exact hP⟩, hS.F ht⟩) hS.2.2 dX4_answer_28
  · skip
    have j1 : vp_in i1 6 := has_in hNb c_8
    refine lv_aload_n hx hb dX4_answer_11 rfl (lv_at hl 0 rfl) ?_
    refine va_get (D := (dC, dI)) (ci := 4) (v := .ref t0) (C := RX4) (T := TX4) (N := 7) hx hb hts hin4 hown hK hP 0 rfl rfl 0 (by decide) kf_12 (fun _ h9 => h9) rfl dX4_answer_12 ?_
    refine lv_iload_n hx hb dX4_answer_15 rfl (lv_at hl 2 rfl) ?_
    have hPc := hP.sub (ws' := [(t0, .inr (0, [.ref tk, .ref tl, .ref tc, .int N]))]) [1] rfl
    have hDc := hD.sub (ws' := [(t0, .inr (0, [.ref tk, .ref tl, .ref tc, .int N]))]) [1] (by decide) rfl
    have hKc := hK.sub (tys' := [(cI, .int)]) [0] rfl
    have hFc := va_free (wc := [(t0, .inr (0, [.ref tk, .ref tl, .ref tc, .int N]))]) hD hS hA [1] rfl
    refine va_calli (va_runV (As := [.int i2]) (rest := []) ⟨hx, hb, hml, hown, hts⟩ (ctX0_has l dC dI cI t0 tk tl tc H.size N i2) (cwV 1 hts gX4_answer_X0_has rfl rfl rfl (by decide +kernel) ⟨Nat.le_of_ble_eq_true rfl, Nat.le_of_ble_eq_true rfl⟩) (pre_V hKc hN hPc hDc (RX0, TX0, 4) 0 0 rfl rfl) rfl rfl hl.1 rfl (lv_room (Nat.le_of_ble_eq_true rfl)) dX4_answer_16 ⟨Nat.le_of_ble_eq_true rfl, Nat.le_of_ble_eq_true rfl⟩) hS (fun q _ h => hFc q h) hFc (fun r _ t H locs ht hvm hw hB hz1 hk1 hS => ?_)
    try dsimp only at hw
    subst hw
    rw [ht] at hB
    obtain ⟨hP, hD⟩ := rw_join ([(x0, .inr (4, [.ref t0, .ref r0, .ref y0, .ref g0, .ref w0, .int TR, .int LF])), (t0, .inr (0, [.ref tk, .ref tl, .ref tc, .int N])), (tk, .inl (cI, 6, .inl K)), (tl, .inl (cI, 6, .inl L)), (tc, .inl (cI, 6, .inl C))]) ([(x0, .inr (4, [.ref t0, .ref r0, .ref y0, .ref g0, .ref w0, .int TR, .int LF])), (t0, .inr (0, [.ref tk, .ref tl, .ref tc, .int N])), (tk, .inl (cI, 6, .inl K)), (tl, .inl (cI, 6, .inl L)), (tc, .inl (cI, 6, .inl C))]) ([(t0, .inr (0, [.ref tk, .ref tl, .ref tc, .int N]))]) ([(t0, .inr (0, [.ref tk, .ref tl, .ref tc, .int N]))]) ([(x0, .inr (4, [.ref t0, .ref r0, .ref y0, .ref g0, .ref w0, .int TR, .int LF])), (tk, .inl (cI, 6, .inl K)), (tl, .inl (cI, 6, .inl L)), (tc, .inl (cI, 6, .inl C))]) hP hD [1] [0, 2, 3, 4] [x0, t0, tk, tl, tc] 5 rfl rfl rfl rfl rfl (by decide) rfl rfl hk1 hB
    refine lv_if_eq (tgt := 27) hx hb dX4_answer_19 (by decide) (fun c_19 => ?_) (fun c_19 => ?_)
    · skip
      refine lv_iconst (v := (-1)) hx hb dX4_answer_27 (by decide) ?_
      have hE9 : p4_answer N K L C i1 i2 i3 = (-1) := by unfold p4_answer; rw [if_neg c_8, if_pos c_19]
      exact W.iret (v := (-1)) hx hb hr (fun t ht hW => ⟨⟨_, (), rfl, by rw [hE9], by show va_P (dC, dI) vwCl _ t.heap; rw [ht]; exact hP⟩, hS.F ht⟩) hS.2.2 dX4_answer_28
    · skip
      have j2 : vp_in i2 6 := has_in hNb c_19
      refine lv_iload_n hx hb dX4_answer_22 rfl (lv_at hl 1 rfl) ?_
      refine lv_iload_n hx hb dX4_answer_23 rfl (lv_at hl 2 rfl) ?_
      refine lv_icmp_ne (tgt := 29) hx hb dX4_answer_24 (by decide) (fun c_24 => ?_) (fun c_24 => ?_)
      · skip
        refine lv_aload_n hx hb dX4_answer_29 rfl (lv_at hl 0 rfl) ?_
        refine va_get (D := (dC, dI)) (ci := 4) (v := .ref t0) (C := RX4) (T := TX4) (N := 7) hx hb hts hin4 hown hK hP 0 rfl rfl 0 (by decide) kf_12 (fun _ h9 => h9) rfl dX4_answer_30 ?_
        refine lv_iload_n hx hb dX4_answer_33 rfl (lv_at hl 1 rfl) ?_
        refine lv_iload_n hx hb dX4_answer_34 rfl (lv_at hl 2 rfl) ?_
        have hPc := hP.sub (ws' := [(t0, .inr (0, [.ref tk, .ref tl, .ref tc, .int N])), (tk, .inl (cI, 6, .inl K)), (tl, .inl (cI, 6, .inl L)), (tc, .inl (cI, 6, .inl C))]) [1, 2, 3, 4] rfl
        have hDc := hD.sub (ws' := [(t0, .inr (0, [.ref tk, .ref tl, .ref tc, .int N])), (tk, .inl (cI, 6, .inl K)), (tl, .inl (cI, 6, .inl L)), (tc, .inl (cI, 6, .inl C))]) [1, 2, 3, 4] (by decide) rfl
        have hKc := hK.sub (tys' := [(cI, .int)]) [0] rfl
        have hFc := va_free (wc := [(t0, .inr (0, [.ref tk, .ref tl, .ref tc, .int N])), (tk, .inl (cI, 6, .inl K)), (tl, .inl (cI, 6, .inl L)), (tc, .inl (cI, 6, .inl C))]) hD hS hA [1, 2, 3, 4] rfl
        refine va_calli (va_runV (As := [.int i1, .int i2]) (rest := []) ⟨hx, hb, hml, hown, hts⟩ (ctX0_mayPoint l dC dI cI t0 tk tl tc H.size N K L C i1 i2 (by assumption) (by assumption)) (cwV 2 hts gX4_answer_X0_mayPoint rfl rfl rfl (by decide +kernel) ⟨Nat.le_of_ble_eq_true rfl, Nat.le_of_ble_eq_true rfl⟩) (pre_V hKc hN hPc hDc (RX0, TX0, 4) 0 0 rfl rfl) rfl rfl hl.1 rfl (lv_room (Nat.le_of_ble_eq_true rfl)) dX4_answer_35 ⟨Nat.le_of_ble_eq_true rfl, Nat.le_of_ble_eq_true rfl⟩) hS (fun q _ h => hFc q h) hFc (fun r _ t H locs ht hvm hw hB hz1 hk1 hS => ?_)
        try dsimp only at hw
        subst hw
        rw [ht] at hB
        obtain ⟨hP, hD⟩ := rw_join ([(x0, .inr (4, [.ref t0, .ref r0, .ref y0, .ref g0, .ref w0, .int TR, .int LF])), (t0, .inr (0, [.ref tk, .ref tl, .ref tc, .int N])), (tk, .inl (cI, 6, .inl K)), (tl, .inl (cI, 6, .inl L)), (tc, .inl (cI, 6, .inl C))]) ([(x0, .inr (4, [.ref t0, .ref r0, .ref y0, .ref g0, .ref w0, .int TR, .int LF])), (t0, .inr (0, [.ref tk, .ref tl, .ref tc, .int N])), (tk, .inl (cI, 6, .inl K)), (tl, .inl (cI, 6, .inl L)), (tc, .inl (cI, 6, .inl C))]) ([(t0, .inr (0, [.ref tk, .ref tl, .ref tc, .int N])), (tk, .inl (cI, 6, .inl K)), (tl, .inl (cI, 6, .inl L)), (tc, .inl (cI, 6, .inl C))]) ([(t0, .inr (0, [.ref tk, .ref tl, .ref tc, .int N])), (tk, .inl (cI, 6, .inl K)), (tl, .inl (cI, 6, .inl L)), (tc, .inl (cI, 6, .inl C))]) ([(x0, .inr (4, [.ref t0, .ref r0, .ref y0, .ref g0, .ref w0, .int TR, .int LF]))]) hP hD [1, 2, 3, 4] [0] [x0, t0, tk, tl, tc] 5 rfl rfl rfl rfl rfl (by decide) rfl rfl hk1 hB
        refine lv_if_ne (tgt := 44) hx hb dX4_answer_38 (by decide) (fun c_38 => ?_) (fun c_38 => ?_)
        · skip
          refine lv_iload_n hx hb dX4_answer_44 rfl (lv_at hl 3 rfl) ?_
          have hPc : va_P (dC, dI) vwCl [] H := hP.sub (ws' := []) [] rfl
          have hDc : va_D A [] := hD.sub (ws' := []) [] (by decide) rfl
          have hKc := hK.sub (tys' := [(cI, .int)]) [0] rfl
          have hFc := va_free (wc := []) hD hS hA [] rfl
          refine va_calli (va_runS (As := [.int i3]) (rest := []) ⟨hx, hb, hml, hown, hts⟩ (ctX4_isCost l dC dI cI H.size i3) (va_cwS 1 hts gX4_answer_X4_isCost rfl rfl rfl (by decide +kernel) ⟨Nat.le_of_ble_eq_true rfl, Nat.le_of_ble_eq_true rfl⟩) (pre_S hKc hN hPc hDc) rfl rfl hl.1 rfl (lv_room (Nat.le_of_ble_eq_true rfl)) dX4_answer_45 ⟨Nat.le_of_ble_eq_true rfl, Nat.le_of_ble_eq_true rfl⟩) hS (fun q _ h => hFc q h) hFc (fun r _ t H locs ht hvm hw hB hz1 hk1 hS => ?_)
          try dsimp only at hw
          subst hw
          rw [ht] at hB
          obtain ⟨hP, hD⟩ := rw_join ([(x0, .inr (4, [.ref t0, .ref r0, .ref y0, .ref g0, .ref w0, .int TR, .int LF])), (t0, .inr (0, [.ref tk, .ref tl, .ref tc, .int N])), (tk, .inl (cI, 6, .inl K)), (tl, .inl (cI, 6, .inl L)), (tc, .inl (cI, 6, .inl C))]) ([(x0, .inr (4, [.ref t0, .ref r0, .ref y0, .ref g0, .ref w0, .int TR, .int LF])), (t0, .inr (0, [.ref tk, .ref tl, .ref tc, .int N])), (tk, .inl (cI, 6, .inl K)), (tl, .inl (cI, 6, .inl L)), (tc, .inl (cI, 6, .inl C))]) ([]) ([]) ([(x0, .inr (4, [.ref t0, .ref r0, .ref y0, .ref g0, .ref w0, .int TR, .int LF])), (t0, .inr (0, [.ref tk, .ref tl, .ref tc, .int N])), (tk, .inl (cI, 6, .inl K)), (tl, .inl (cI, 6, .inl L)), (tc, .inl (cI, 6, .inl C))]) hP hD [] [0, 1, 2, 3, 4] [x0, t0, tk, tl, tc] 5 rfl rfl rfl rfl rfl (by decide) rfl rfl hk1 hB
          refine lv_if_ne (tgt := 54) hx hb dX4_answer_48 (by decide) (fun c_48 => ?_) (fun c_48 => ?_)
          · skip
            refine lv_aload_n hx hb dX4_answer_54 rfl (lv_at hl 0 rfl) ?_
            refine va_get (D := (dC, dI)) (ci := 4) (v := .ref t0) (C := RX4) (T := TX4) (N := 7) hx hb hts hin4 hown hK hP 0 rfl rfl 0 (by decide) kf_12 (fun _ h9 => h9) rfl dX4_answer_55 ?_
            refine lv_iload_n hx hb dX4_answer_58 rfl (lv_at hl 1 rfl) ?_
            refine lv_iload_n hx hb dX4_answer_59 rfl (lv_at hl 2 rfl) ?_
            refine lv_iload_n hx hb dX4_answer_60 rfl (lv_at hl 3 rfl) ?_
            have hPc := hP.sub (ws' := [(t0, .inr (0, [.ref tk, .ref tl, .ref tc, .int N])), (tk, .inl (cI, 6, .inl K)), (tl, .inl (cI, 6, .inl L)), (tc, .inl (cI, 6, .inl C))]) [1, 2, 3, 4] rfl
            have hDc := hD.sub (ws' := [(t0, .inr (0, [.ref tk, .ref tl, .ref tc, .int N])), (tk, .inl (cI, 6, .inl K)), (tl, .inl (cI, 6, .inl L)), (tc, .inl (cI, 6, .inl C))]) [1, 2, 3, 4] (by decide) rfl
            have hKc := hK.sub (tys' := [(cI, .int)]) [0] rfl
            have hFc := va_free (wc := [(t0, .inr (0, [.ref tk, .ref tl, .ref tc, .int N])), (tk, .inl (cI, 6, .inl K)), (tl, .inl (cI, 6, .inl L)), (tc, .inl (cI, 6, .inl C))]) hD hS hA [1, 2, 3, 4] rfl
            refine va_calli (va_runV (As := [.int i1, .int i2, .int i3]) (rest := []) ⟨hx, hb, hml, hown, hts⟩ (ctX0_changes l dC dI cI t0 tk tl tc H.size N K L C i1 i2 i3 (by assumption) (by assumption)) (cwV 3 hts gX4_answer_X0_changes rfl rfl rfl (by decide +kernel) ⟨Nat.le_of_ble_eq_true rfl, Nat.le_of_ble_eq_true rfl⟩) (pre_V hKc hN hPc hDc (RX0, TX0, 4) 0 0 rfl rfl) rfl rfl hl.1 rfl (lv_room (Nat.le_of_ble_eq_true rfl)) dX4_answer_61 ⟨Nat.le_of_ble_eq_true rfl, Nat.le_of_ble_eq_true rfl⟩) hS (fun q _ h => hFc q h) hFc (fun r _ t H locs ht hvm hw hB hz1 hk1 hS => ?_)
            try dsimp only at hw
            subst hw
            rw [ht] at hB
            obtain ⟨hP, hD⟩ := rw_join ([(x0, .inr (4, [.ref t0, .ref r0, .ref y0, .ref g0, .ref w0, .int TR, .int LF])), (t0, .inr (0, [.ref tk, .ref tl, .ref tc, .int N])), (tk, .inl (cI, 6, .inl K)), (tl, .inl (cI, 6, .inl L)), (tc, .inl (cI, 6, .inl C))]) ([(x0, .inr (4, [.ref t0, .ref r0, .ref y0, .ref g0, .ref w0, .int TR, .int LF])), (t0, .inr (0, [.ref tk, .ref tl, .ref tc, .int N])), (tk, .inl (cI, 6, .inl K)), (tl, .inl (cI, 6, .inl L)), (tc, .inl (cI, 6, .inl C))]) ([(t0, .inr (0, [.ref tk, .ref tl, .ref tc, .int N])), (tk, .inl (cI, 6, .inl K)), (tl, .inl (cI, 6, .inl L)), (tc, .inl (cI, 6, .inl C))]) ([(t0, .inr (0, [.ref tk, .ref tl, .ref tc, .int N])), (tk, .inl (cI, 6, .inl K)), (tl, .inl (cI, 6, .inl L)), (tc, .inl (cI, 6, .inl C))]) ([(x0, .inr (4, [.ref t0, .ref r0, .ref y0, .ref g0, .ref w0, .int TR, .int LF]))]) hP hD [1, 2, 3, 4] [0] [x0, t0, tk, tl, tc] 5 rfl rfl rfl rfl rfl (by decide) rfl rfl hk1 hB
            refine lv_if_eq (tgt := 71) hx hb dX4_answer_64 (by decide) (fun c_64 => ?_) (fun c_64 => ?_)
            · skip
              refine lv_iconst (v := 0) hx hb dX4_answer_71 (by decide) ?_
              have hE9 : p4_answer N K L C i1 i2 i3 = 0 := by unfold p4_answer; rw [if_neg c_8, if_neg c_19, if_neg c_24, if_neg c_38, if_neg c_48, if_pos c_64]
              exact W.iret (v := 0) hx hb hr (fun t ht hW => ⟨⟨_, (), rfl, by rw [hE9], by show va_P (dC, dI) vwCl _ t.heap; rw [ht]; exact hP⟩, hS.F ht⟩) hS.2.2 dX4_answer_72
            · skip
              refine lv_iconst (v := 1) hx hb dX4_answer_67 (by decide) ?_
              refine lv_goto (tgt := 72) hx hb dX4_answer_68 (by decide) ?_
              have hE9 : p4_answer N K L C i1 i2 i3 = 1 := by unfold p4_answer; rw [if_neg c_8, if_neg c_19, if_neg c_24, if_neg c_38, if_neg c_48, if_neg c_64]
              exact W.iret (v := 1) hx hb hr (fun t ht hW => ⟨⟨_, (), rfl, by rw [hE9], by show va_P (dC, dI) vwCl _ t.heap; rw [ht]; exact hP⟩, hS.F ht⟩) hS.2.2 dX4_answer_72
          · skip
            refine lv_bipush (v := (-2)) hx hb dX4_answer_51 (by decide) ?_
            have hE9 : p4_answer N K L C i1 i2 i3 = (-2) := by unfold p4_answer; rw [if_neg c_8, if_neg c_19, if_neg c_24, if_neg c_38, if_pos c_48]
            exact W.iret (v := (-2)) hx hb hr (fun t ht hW => ⟨⟨_, (), rfl, by rw [hE9], by show va_P (dC, dI) vwCl _ t.heap; rw [ht]; exact hP⟩, hS.F ht⟩) hS.2.2 dX4_answer_53
        · skip
          refine lv_bipush (v := (-3)) hx hb dX4_answer_41 (by decide) ?_
          have hE9 : p4_answer N K L C i1 i2 i3 = (-3) := by unfold p4_answer; rw [if_neg c_8, if_neg c_19, if_neg c_24, if_pos c_38]
          exact W.iret (v := (-3)) hx hb hr (fun t ht hW => ⟨⟨_, (), rfl, by rw [hE9], by show va_P (dC, dI) vwCl _ t.heap; rw [ht]; exact hP⟩, hS.F ht⟩) hS.2.2 dX4_answer_43
      · skip
        refine lv_iconst (v := (-1)) hx hb dX4_answer_27 (by decide) ?_
        have hE9 : p4_answer N K L C i1 i2 i3 = (-1) := by unfold p4_answer; rw [if_neg c_8, if_neg c_19, if_pos c_24]
        exact W.iret (v := (-1)) hx hb hr (fun t ht hW => ⟨⟨_, (), rfl, by rw [hE9], by show va_P (dC, dI) vwCl _ t.heap; rw [ht]; exact hP⟩, hS.F ht⟩) hS.2.2 dX4_answer_28

def p4_choice (N : Int32) (K : Nat → Int32) (L : Nat → Int32) (C : Nat → Int32) (i1 : Int32) (i2 : Int32) (i3 : Int32) : Int32 :=
  if (p0_has N i1) = 0 then
    (-1)
  else
    if (p4_isCost i2) = 0 then
      (-2)
    else
      if i3 < 0 then
        (-2)
      else
        if i3 ≤ 3 then
          if i3 = 0 then
            (p0_chosenBy N K L C i1 i2)
          else
            if i3 = 1 then
              (p0_worthAtEnd K L C i1 (p0_chosenBy N K L C i1 i2) i2)
            else
              if i3 = 2 then
                (p0_payer K L C i1 (p0_chosenBy N K L C i1 i2) i2)
              else
                if (p0_isFair N K L C i1 (p0_chosenBy N K L C i1 i2) i2) = 0 then
                  0
                else
                  1
        else
          (-2)
abbrev rmX4_choice : Room := { frames := 4, cells := 0, slots := 0, locals := 95 }
abbrev QX4_choice (dC : Nat → ClassId) (dI : Nat → Nat → Nat) (A : Nat → Prop) (cI : ClassId) (x0 : Nat) (t0 : Nat) (r0 : Nat) (y0 : Nat) (g0 : Nat) (w0 : Nat) (tk : Nat) (tl : Nat) (tc : Nat) (TR : Int32) (LF : Int32) (N : Int32) (K : Nat → Int32) (L : Nat → Int32) (C : Nat → Int32) (i1 : Int32) (i2 : Int32) (i3 : Int32) : Array Value → State → Outcome → State → Prop := va_Qi (fun (r : Int32) (_ : Unit) => r = p4_choice N K L C i1 i2 i3) (fun (_ : Unit) (t : State) => va_P (dC, dI) vwCl ([(x0, .inr (4, [.ref t0, .ref r0, .ref y0, .ref g0, .ref w0, .int TR, .int LF])), (t0, .inr (0, [.ref tk, .ref tl, .ref tc, .int N])), (tk, .inl (cI, 6, .inl K)), (tl, .inl (cI, 6, .inl L)), (tc, .inl (cI, 6, .inl C))]) t.heap) A
set_option maxHeartbeats 4000000 in
set_option maxRecDepth 100000 in
theorem ctX4_choice (l : Launch) (dC : Nat → ClassId) (dI : Nat → Nat → Nat) (cI : ClassId) (x0 : Nat) (t0 : Nat) (r0 : Nat) (y0 : Nat) (g0 : Nat) (w0 : Nat) (tk : Nat) (tl : Nat) (tc : Nat) (sz : Nat) (TR : Int32) (LF : Int32) (N : Int32) (K : Nat → Int32) (L : Nat → Int32) (C : Nat → Int32) (i1 : Int32) (i2 : Int32) (i3 : Int32) (hNb : N.toInt ≤ 6) : Met l yX4_choice wsX4_choice rmX4_choice (va_Pc [.ref x0, .int i1, .int i2, .int i3] (cP dC dI [(cI, .int)] ([(x0, .inr (4, [.ref t0, .ref r0, .ref y0, .ref g0, .ref w0, .int TR, .int LF])), (t0, .inr (0, [.ref tk, .ref tl, .ref tc, .int N])), (tk, .inl (cI, 6, .inl K)), (tl, .inl (cI, 6, .inl L)), (tc, .inl (cI, 6, .inl C))]) sz)) (QX4_choice dC dI (va_A ([(x0, .inr (4, [.ref t0, .ref r0, .ref y0, .ref g0, .ref w0, .int TR, .int LF])), (t0, .inr (0, [.ref tk, .ref tl, .ref tc, .int N])), (tk, .inl (cI, 6, .inl K)), (tl, .inl (cI, 6, .inl L)), (tc, .inl (cI, 6, .inl C))]) sz) cI x0 t0 r0 y0 g0 w0 tk tl tc TR LF N K L C i1 i2 i3) 0 0 (va_A ([(x0, .inr (4, [.ref t0, .ref r0, .ref y0, .ref g0, .ref w0, .int TR, .int LF])), (t0, .inr (0, [.ref tk, .ref tl, .ref tc, .int N])), (tk, .inl (cI, 6, .inl K)), (tl, .inl (cI, 6, .inl L)), (tc, .inl (cI, 6, .inl C))]) sz) := by
  refine Met.ofW (cc := cX4_choice) (maxL := 5) (ret := (some .int)) (by decide) rfl ?_
  intro p e s m args below meth c s₁ B hml hv
  obtain ⟨rfl, hsz, hP, hK, hD0, hN⟩ := hv
  have hx := B.exec
  have hb := B.bytes
  have hr := B.returns
  have hts := atoms_spec (ws := wsX4_choice) B.pre
  have hown : s.vm.findClass RX4 = some m.cls := findClass_of_methodNamed B.named
  have hlocks := B.notSynchronized
  subst hsz
  have hD := hD0.self (sz := s.heap.size)
  generalize hAe : va_A ([(x0, .inr (4, [.ref t0, .ref r0, .ref y0, .ref g0, .ref w0, .int TR, .int LF])), (t0, .inr (0, [.ref tk, .ref tl, .ref tc, .int N])), (tk, .inl (cI, 6, .inl K)), (tl, .inl (cI, 6, .inl L)), (tc, .inl (cI, 6, .inl C))]) s.heap.size = A at hD ⊢
  have hA : ∀ q : Nat, s.heap.size ≤ q → A q := fun q h => by rw [← hAe]; exact Or.inr h
  have hS : va_S A s.heap s.heap [] := va_S.rf
  have hP : va_P (dC, dI) vwCl ([(x0, .inr (4, [.ref t0, .ref r0, .ref y0, .ref g0, .ref w0, .int TR, .int LF])), (t0, .inr (0, [.ref tk, .ref tl, .ref tc, .int N])), (tk, .inl (cI, 6, .inl K)), (tl, .inl (cI, 6, .inl L)), (tc, .inl (cI, 6, .inl C))]) s.heap := hP
  have hin4 : ∀ w ∈ wsX40, w ∈ wsX4_choice := by decide +kernel
  have kf_12 := hts (.fieldLink RX4 12 "RicherChange" "town" "LRicherChange$City;") (by decide +kernel)
  have hl := lv_entry ([.ref x0, .int i1, .int i2, .int i3]) (n := 5) (Nat.le_of_ble_eq_true rfl)
  rw [lg_entry_eq]
  generalize (lg_sl ([.ref x0, .int i1, .int i2, .int i3]) ++ List.replicate (5 - (lg_sl ([.ref x0, .int i1, .int i2, .int i3])).length) Slot.unset).toArray = ls at hl ⊢
  have hl : lv_has ls 5 [(0, .ref x0), (1, .int i1), (2, .int i2), (3, .int i3)] := hl
  refine lv_aload_n hx hb dX4_choice_0 rfl (lv_at hl 0 rfl) ?_
  refine va_get (D := (dC, dI)) (ci := 4) (v := .ref t0) (C := RX4) (T := TX4) (N := 7) hx hb hts hin4 hown hK hP 0 rfl rfl 0 (by decide) kf_12 (fun _ h9 => h9) rfl dX4_choice_1 ?_
  refine lv_iload_n hx hb dX4_choice_4 rfl (lv_at hl 1 rfl) ?_
  have hPc := hP.sub (ws' := [(t0, .inr (0, [.ref tk, .ref tl, .ref tc, .int N]))]) [1] rfl
  have hDc := hD.sub (ws' := [(t0, .inr (0, [.ref tk, .ref tl, .ref tc, .int N]))]) [1] (by decide) rfl
  have hKc := hK.sub (tys' := [(cI, .int)]) [0] rfl
  have hFc := va_free (wc := [(t0, .inr (0, [.ref tk, .ref tl, .ref tc, .int N]))]) hD hS hA [1] rfl
  refine va_calli (va_runV (As := [.int i1]) (rest := []) ⟨hx, hb, hml, hown, hts⟩ (ctX0_has l dC dI cI t0 tk tl tc s.heap.size N i1) (cwV 1 hts gX4_choice_X0_has rfl rfl rfl (by decide +kernel) ⟨Nat.le_of_ble_eq_true rfl, Nat.le_of_ble_eq_true rfl⟩) (pre_V hKc hN hPc hDc (RX0, TX0, 4) 0 0 rfl rfl) rfl rfl hl.1 rfl (lv_room (Nat.le_of_ble_eq_true rfl)) dX4_choice_5 ⟨Nat.le_of_ble_eq_true rfl, Nat.le_of_ble_eq_true rfl⟩) hS (fun q _ h => hFc q h) hFc (fun r _ t H locs ht hvm hw hB hz1 hk1 hS => ?_)
  try dsimp only at hw
  subst hw
  rw [ht] at hB
  obtain ⟨hP, hD⟩ := rw_join ([(x0, .inr (4, [.ref t0, .ref r0, .ref y0, .ref g0, .ref w0, .int TR, .int LF])), (t0, .inr (0, [.ref tk, .ref tl, .ref tc, .int N])), (tk, .inl (cI, 6, .inl K)), (tl, .inl (cI, 6, .inl L)), (tc, .inl (cI, 6, .inl C))]) ([(x0, .inr (4, [.ref t0, .ref r0, .ref y0, .ref g0, .ref w0, .int TR, .int LF])), (t0, .inr (0, [.ref tk, .ref tl, .ref tc, .int N])), (tk, .inl (cI, 6, .inl K)), (tl, .inl (cI, 6, .inl L)), (tc, .inl (cI, 6, .inl C))]) ([(t0, .inr (0, [.ref tk, .ref tl, .ref tc, .int N]))]) ([(t0, .inr (0, [.ref tk, .ref tl, .ref tc, .int N]))]) ([(x0, .inr (4, [.ref t0, .ref r0, .ref y0, .ref g0, .ref w0, .int TR, .int LF])), (tk, .inl (cI, 6, .inl K)), (tl, .inl (cI, 6, .inl L)), (tc, .inl (cI, 6, .inl C))]) hP hD [1] [0, 2, 3, 4] [x0, t0, tk, tl, tc] 5 rfl rfl rfl rfl rfl (by decide) rfl rfl hk1 hB
  refine lv_if_ne (tgt := 13) hx hb dX4_choice_8 (by decide) (fun c_8 => ?_) (fun c_8 => ?_)
  · skip
    have j1 : vp_in i1 6 := has_in hNb c_8
    refine lv_iload_n hx hb dX4_choice_13 rfl (lv_at hl 2 rfl) ?_
    have hPc : va_P (dC, dI) vwCl [] H := hP.sub (ws' := []) [] rfl
    have hDc : va_D A [] := hD.sub (ws' := []) [] (by decide) rfl
    have hKc := hK.sub (tys' := [(cI, .int)]) [0] rfl
    have hFc := va_free (wc := []) hD hS hA [] rfl
    refine va_calli (va_runS (As := [.int i2]) (rest := []) ⟨hx, hb, hml, hown, hts⟩ (ctX4_isCost l dC dI cI H.size i2) (va_cwS 1 hts gX4_choice_X4_isCost rfl rfl rfl (by decide +kernel) ⟨Nat.le_of_ble_eq_true rfl, Nat.le_of_ble_eq_true rfl⟩) (pre_S hKc hN hPc hDc) rfl rfl hl.1 rfl (lv_room (Nat.le_of_ble_eq_true rfl)) dX4_choice_14 ⟨Nat.le_of_ble_eq_true rfl, Nat.le_of_ble_eq_true rfl⟩) hS (fun q _ h => hFc q h) hFc (fun r _ t H locs ht hvm hw hB hz1 hk1 hS => ?_)
    try dsimp only at hw
    subst hw
    rw [ht] at hB
    obtain ⟨hP, hD⟩ := rw_join ([(x0, .inr (4, [.ref t0, .ref r0, .ref y0, .ref g0, .ref w0, .int TR, .int LF])), (t0, .inr (0, [.ref tk, .ref tl, .ref tc, .int N])), (tk, .inl (cI, 6, .inl K)), (tl, .inl (cI, 6, .inl L)), (tc, .inl (cI, 6, .inl C))]) ([(x0, .inr (4, [.ref t0, .ref r0, .ref y0, .ref g0, .ref w0, .int TR, .int LF])), (t0, .inr (0, [.ref tk, .ref tl, .ref tc, .int N])), (tk, .inl (cI, 6, .inl K)), (tl, .inl (cI, 6, .inl L)), (tc, .inl (cI, 6, .inl C))]) ([]) ([]) ([(x0, .inr (4, [.ref t0, .ref r0, .ref y0, .ref g0, .ref w0, .int TR, .int LF])), (t0, .inr (0, [.ref tk, .ref tl, .ref tc, .int N])), (tk, .inl (cI, 6, .inl K)), (tl, .inl (cI, 6, .inl L)), (tc, .inl (cI, 6, .inl C))]) hP hD [] [0, 1, 2, 3, 4] [x0, t0, tk, tl, tc] 5 rfl rfl rfl rfl rfl (by decide) rfl rfl hk1 hB
    refine lv_if_eq (tgt := 29) hx hb dX4_choice_17 (by decide) (fun c_17 => ?_) (fun c_17 => ?_)
    · skip
      refine lv_bipush (v := (-2)) hx hb dX4_choice_29 (by decide) ?_
      have hE9 : p4_choice N K L C i1 i2 i3 = (-2) := by unfold p4_choice; rw [if_neg c_8, if_pos c_17]
      exact W.iret (v := (-2)) hx hb hr (fun t ht hW => ⟨⟨_, (), rfl, by rw [hE9], by show va_P (dC, dI) vwCl _ t.heap; rw [ht]; exact hP⟩, hS.F ht⟩) hS.2.2 dX4_choice_31
    · skip
      refine lv_iload_n hx hb dX4_choice_20 rfl (lv_at hl 3 rfl) ?_
      refine lv_if_lt (tgt := 29) hx hb dX4_choice_21 (by decide) (fun c_21 => ?_) (fun c_21 => ?_)
      · skip
        refine lv_bipush (v := (-2)) hx hb dX4_choice_29 (by decide) ?_
        have hE9 : p4_choice N K L C i1 i2 i3 = (-2) := by unfold p4_choice; rw [if_neg c_8, if_neg c_17, if_pos c_21]
        exact W.iret (v := (-2)) hx hb hr (fun t ht hW => ⟨⟨_, (), rfl, by rw [hE9], by show va_P (dC, dI) vwCl _ t.heap; rw [ht]; exact hP⟩, hS.F ht⟩) hS.2.2 dX4_choice_31
      · skip
        refine lv_iload_n hx hb dX4_choice_24 rfl (lv_at hl 3 rfl) ?_
        refine lv_iconst (v := 3) hx hb dX4_choice_25 (by decide) ?_
        refine lv_icmp_le (tgt := 32) hx hb dX4_choice_26 (by decide) (fun c_26 => ?_) (fun c_26 => ?_)
        · skip
          refine lv_aload_n hx hb dX4_choice_32 rfl (lv_at hl 0 rfl) ?_
          refine va_get (D := (dC, dI)) (ci := 4) (v := .ref t0) (C := RX4) (T := TX4) (N := 7) hx hb hts hin4 hown hK hP 0 rfl rfl 0 (by decide) kf_12 (fun _ h9 => h9) rfl dX4_choice_33 ?_
          refine lv_iload_n hx hb dX4_choice_36 rfl (lv_at hl 1 rfl) ?_
          refine lv_iload_n hx hb dX4_choice_37 rfl (lv_at hl 2 rfl) ?_
          have hPc := hP.sub (ws' := [(t0, .inr (0, [.ref tk, .ref tl, .ref tc, .int N])), (tk, .inl (cI, 6, .inl K)), (tl, .inl (cI, 6, .inl L)), (tc, .inl (cI, 6, .inl C))]) [1, 2, 3, 4] rfl
          have hDc := hD.sub (ws' := [(t0, .inr (0, [.ref tk, .ref tl, .ref tc, .int N])), (tk, .inl (cI, 6, .inl K)), (tl, .inl (cI, 6, .inl L)), (tc, .inl (cI, 6, .inl C))]) [1, 2, 3, 4] (by decide) rfl
          have hKc := hK.sub (tys' := [(cI, .int)]) [0] rfl
          have hFc := va_free (wc := [(t0, .inr (0, [.ref tk, .ref tl, .ref tc, .int N])), (tk, .inl (cI, 6, .inl K)), (tl, .inl (cI, 6, .inl L)), (tc, .inl (cI, 6, .inl C))]) hD hS hA [1, 2, 3, 4] rfl
          refine va_calli (va_runV (As := [.int i1, .int i2]) (rest := []) ⟨hx, hb, hml, hown, hts⟩ (ctX0_chosenBy l dC dI cI t0 tk tl tc H.size N K L C i1 i2 (by assumption) (by assumption)) (cwV 2 hts gX4_choice_X0_chosenBy rfl rfl rfl (by decide +kernel) ⟨Nat.le_of_ble_eq_true rfl, Nat.le_of_ble_eq_true rfl⟩) (pre_V hKc hN hPc hDc (RX0, TX0, 4) 0 0 rfl rfl) rfl rfl hl.1 rfl (lv_room (Nat.le_of_ble_eq_true rfl)) dX4_choice_38 ⟨Nat.le_of_ble_eq_true rfl, Nat.le_of_ble_eq_true rfl⟩) hS (fun q _ h => hFc q h) hFc (fun r _ t H locs ht hvm hw hB hz1 hk1 hS => ?_)
          try dsimp only at hw
          subst hw
          rw [ht] at hB
          obtain ⟨hP, hD⟩ := rw_join ([(x0, .inr (4, [.ref t0, .ref r0, .ref y0, .ref g0, .ref w0, .int TR, .int LF])), (t0, .inr (0, [.ref tk, .ref tl, .ref tc, .int N])), (tk, .inl (cI, 6, .inl K)), (tl, .inl (cI, 6, .inl L)), (tc, .inl (cI, 6, .inl C))]) ([(x0, .inr (4, [.ref t0, .ref r0, .ref y0, .ref g0, .ref w0, .int TR, .int LF])), (t0, .inr (0, [.ref tk, .ref tl, .ref tc, .int N])), (tk, .inl (cI, 6, .inl K)), (tl, .inl (cI, 6, .inl L)), (tc, .inl (cI, 6, .inl C))]) ([(t0, .inr (0, [.ref tk, .ref tl, .ref tc, .int N])), (tk, .inl (cI, 6, .inl K)), (tl, .inl (cI, 6, .inl L)), (tc, .inl (cI, 6, .inl C))]) ([(t0, .inr (0, [.ref tk, .ref tl, .ref tc, .int N])), (tk, .inl (cI, 6, .inl K)), (tl, .inl (cI, 6, .inl L)), (tc, .inl (cI, 6, .inl C))]) ([(x0, .inr (4, [.ref t0, .ref r0, .ref y0, .ref g0, .ref w0, .int TR, .int LF]))]) hP hD [1, 2, 3, 4] [0] [x0, t0, tk, tl, tc] 5 rfl rfl rfl rfl rfl (by decide) rfl rfl hk1 hB
          refine lv_istore (lv' := [(4, .int (p0_chosenBy N K L C i1 i2)), (0, .ref x0), (1, .int i1), (2, .int i2), (3, .int i3)]) hx hb dX4_choice_41 hl (by decide) rfl (fun ls hl => ?_)
          have j4 : vp_in (p0_chosenBy N K L C i1 i2) 6 := chosenBy_in j1 hNb
          refine lv_iload_n hx hb dX4_choice_43 rfl (lv_at hl 4 rfl) ?_
          by_cases c_44_0 : i3 = 0
          · skip
            refine lv_tableIn (off := 28) (tgt := 72) hx hb dX4_choice_44 (by rw [c_44_0]; decide) (by rw [c_44_0]; decide) (by rw [c_44_0]; decide) (by decide) ?_
            refine lv_iload hx hb dX4_choice_72 (lv_at hl 0 rfl) ?_
            have hE9 : p4_choice N K L C i1 i2 i3 = (p0_chosenBy N K L C i1 i2) := by unfold p4_choice; rw [if_neg c_8, if_neg c_17, if_neg c_21, if_pos c_26, if_pos c_44_0]
            exact W.iret (v := (p0_chosenBy N K L C i1 i2)) hx hb hr (fun t ht hW => ⟨⟨_, (), rfl, by rw [hE9], by show va_P (dC, dI) vwCl _ t.heap; rw [ht]; exact hP⟩, hS.F ht⟩) hS.2.2 dX4_choice_74
          · skip
            by_cases c_44_1 : i3 = 1
            · skip
              refine lv_tableIn (off := 31) (tgt := 75) hx hb dX4_choice_44 (by rw [c_44_1]; decide) (by rw [c_44_1]; decide) (by rw [c_44_1]; decide) (by decide) ?_
              refine lv_aload_n hx hb dX4_choice_75 rfl (lv_at hl 1 rfl) ?_
              refine va_get (D := (dC, dI)) (ci := 4) (v := .ref t0) (C := RX4) (T := TX4) (N := 7) hx hb hts hin4 hown hK hP 0 rfl rfl 0 (by decide) kf_12 (fun _ h9 => h9) rfl dX4_choice_76 ?_
              refine lv_iload_n hx hb dX4_choice_79 rfl (lv_at hl 2 rfl) ?_
              refine lv_iload hx hb dX4_choice_80 (lv_at hl 0 rfl) ?_
              refine lv_iload_n hx hb dX4_choice_82 rfl (lv_at hl 3 rfl) ?_
              have hPc := hP.sub (ws' := [(t0, .inr (0, [.ref tk, .ref tl, .ref tc, .int N])), (tk, .inl (cI, 6, .inl K)), (tl, .inl (cI, 6, .inl L)), (tc, .inl (cI, 6, .inl C))]) [1, 2, 3, 4] rfl
              have hDc := hD.sub (ws' := [(t0, .inr (0, [.ref tk, .ref tl, .ref tc, .int N])), (tk, .inl (cI, 6, .inl K)), (tl, .inl (cI, 6, .inl L)), (tc, .inl (cI, 6, .inl C))]) [1, 2, 3, 4] (by decide) rfl
              have hKc := hK.sub (tys' := [(cI, .int)]) [0] rfl
              have hFc := va_free (wc := [(t0, .inr (0, [.ref tk, .ref tl, .ref tc, .int N])), (tk, .inl (cI, 6, .inl K)), (tl, .inl (cI, 6, .inl L)), (tc, .inl (cI, 6, .inl C))]) hD hS hA [1, 2, 3, 4] rfl
              refine va_calli (va_runV (As := [.int i1, .int (p0_chosenBy N K L C i1 i2), .int i2]) (rest := []) ⟨hx, hb, hml, hown, hts⟩ (ctX0_worthAtEnd l dC dI cI t0 tk tl tc H.size N K L C i1 (p0_chosenBy N K L C i1 i2) i2 (by assumption) (by assumption)) (cwV 3 hts gX4_choice_X0_worthAtEnd rfl rfl rfl (by decide +kernel) ⟨Nat.le_of_ble_eq_true rfl, Nat.le_of_ble_eq_true rfl⟩) (pre_V hKc hN hPc hDc (RX0, TX0, 4) 0 0 rfl rfl) rfl rfl hl.1 rfl (lv_room (Nat.le_of_ble_eq_true rfl)) dX4_choice_83 ⟨Nat.le_of_ble_eq_true rfl, Nat.le_of_ble_eq_true rfl⟩) hS (fun q _ h => hFc q h) hFc (fun r _ t H locs ht hvm hw hB hz1 hk1 hS => ?_)
              try dsimp only at hw
              subst hw
              rw [ht] at hB
              obtain ⟨hP, hD⟩ := rw_join ([(x0, .inr (4, [.ref t0, .ref r0, .ref y0, .ref g0, .ref w0, .int TR, .int LF])), (t0, .inr (0, [.ref tk, .ref tl, .ref tc, .int N])), (tk, .inl (cI, 6, .inl K)), (tl, .inl (cI, 6, .inl L)), (tc, .inl (cI, 6, .inl C))]) ([(x0, .inr (4, [.ref t0, .ref r0, .ref y0, .ref g0, .ref w0, .int TR, .int LF])), (t0, .inr (0, [.ref tk, .ref tl, .ref tc, .int N])), (tk, .inl (cI, 6, .inl K)), (tl, .inl (cI, 6, .inl L)), (tc, .inl (cI, 6, .inl C))]) ([(t0, .inr (0, [.ref tk, .ref tl, .ref tc, .int N])), (tk, .inl (cI, 6, .inl K)), (tl, .inl (cI, 6, .inl L)), (tc, .inl (cI, 6, .inl C))]) ([(t0, .inr (0, [.ref tk, .ref tl, .ref tc, .int N])), (tk, .inl (cI, 6, .inl K)), (tl, .inl (cI, 6, .inl L)), (tc, .inl (cI, 6, .inl C))]) ([(x0, .inr (4, [.ref t0, .ref r0, .ref y0, .ref g0, .ref w0, .int TR, .int LF]))]) hP hD [1, 2, 3, 4] [0] [x0, t0, tk, tl, tc] 5 rfl rfl rfl rfl rfl (by decide) rfl rfl hk1 hB
              have hE9 : p4_choice N K L C i1 i2 i3 = (p0_worthAtEnd K L C i1 (p0_chosenBy N K L C i1 i2) i2) := by unfold p4_choice; rw [if_neg c_8, if_neg c_17, if_neg c_21, if_pos c_26, if_neg c_44_0, if_pos c_44_1]
              exact W.iret (v := (p0_worthAtEnd K L C i1 (p0_chosenBy N K L C i1 i2) i2)) hx hb hr (fun t ht hW => ⟨⟨_, (), rfl, by rw [hE9], by show va_P (dC, dI) vwCl _ t.heap; rw [ht]; exact hP⟩, hS.F ht⟩) hS.2.2 dX4_choice_86
            · skip
              by_cases c_44_2 : i3 = 2
              · skip
                refine lv_tableIn (off := 43) (tgt := 87) hx hb dX4_choice_44 (by rw [c_44_2]; decide) (by rw [c_44_2]; decide) (by rw [c_44_2]; decide) (by decide) ?_
                refine lv_aload_n hx hb dX4_choice_87 rfl (lv_at hl 1 rfl) ?_
                refine va_get (D := (dC, dI)) (ci := 4) (v := .ref t0) (C := RX4) (T := TX4) (N := 7) hx hb hts hin4 hown hK hP 0 rfl rfl 0 (by decide) kf_12 (fun _ h9 => h9) rfl dX4_choice_88 ?_
                refine lv_iload_n hx hb dX4_choice_91 rfl (lv_at hl 2 rfl) ?_
                refine lv_iload hx hb dX4_choice_92 (lv_at hl 0 rfl) ?_
                refine lv_iload_n hx hb dX4_choice_94 rfl (lv_at hl 3 rfl) ?_
                have hPc := hP.sub (ws' := [(t0, .inr (0, [.ref tk, .ref tl, .ref tc, .int N])), (tk, .inl (cI, 6, .inl K)), (tl, .inl (cI, 6, .inl L)), (tc, .inl (cI, 6, .inl C))]) [1, 2, 3, 4] rfl
                have hDc := hD.sub (ws' := [(t0, .inr (0, [.ref tk, .ref tl, .ref tc, .int N])), (tk, .inl (cI, 6, .inl K)), (tl, .inl (cI, 6, .inl L)), (tc, .inl (cI, 6, .inl C))]) [1, 2, 3, 4] (by decide) rfl
                have hKc := hK.sub (tys' := [(cI, .int)]) [0] rfl
                have hFc := va_free (wc := [(t0, .inr (0, [.ref tk, .ref tl, .ref tc, .int N])), (tk, .inl (cI, 6, .inl K)), (tl, .inl (cI, 6, .inl L)), (tc, .inl (cI, 6, .inl C))]) hD hS hA [1, 2, 3, 4] rfl
                refine va_calli (va_runV (As := [.int i1, .int (p0_chosenBy N K L C i1 i2), .int i2]) (rest := []) ⟨hx, hb, hml, hown, hts⟩ (ctX0_payer l dC dI cI t0 tk tl tc H.size N K L C i1 (p0_chosenBy N K L C i1 i2) i2 (by assumption) (by assumption)) (cwV 3 hts gX4_choice_X0_payer rfl rfl rfl (by decide +kernel) ⟨Nat.le_of_ble_eq_true rfl, Nat.le_of_ble_eq_true rfl⟩) (pre_V hKc hN hPc hDc (RX0, TX0, 4) 0 0 rfl rfl) rfl rfl hl.1 rfl (lv_room (Nat.le_of_ble_eq_true rfl)) dX4_choice_95 ⟨Nat.le_of_ble_eq_true rfl, Nat.le_of_ble_eq_true rfl⟩) hS (fun q _ h => hFc q h) hFc (fun r _ t H locs ht hvm hw hB hz1 hk1 hS => ?_)
                try dsimp only at hw
                subst hw
                rw [ht] at hB
                obtain ⟨hP, hD⟩ := rw_join ([(x0, .inr (4, [.ref t0, .ref r0, .ref y0, .ref g0, .ref w0, .int TR, .int LF])), (t0, .inr (0, [.ref tk, .ref tl, .ref tc, .int N])), (tk, .inl (cI, 6, .inl K)), (tl, .inl (cI, 6, .inl L)), (tc, .inl (cI, 6, .inl C))]) ([(x0, .inr (4, [.ref t0, .ref r0, .ref y0, .ref g0, .ref w0, .int TR, .int LF])), (t0, .inr (0, [.ref tk, .ref tl, .ref tc, .int N])), (tk, .inl (cI, 6, .inl K)), (tl, .inl (cI, 6, .inl L)), (tc, .inl (cI, 6, .inl C))]) ([(t0, .inr (0, [.ref tk, .ref tl, .ref tc, .int N])), (tk, .inl (cI, 6, .inl K)), (tl, .inl (cI, 6, .inl L)), (tc, .inl (cI, 6, .inl C))]) ([(t0, .inr (0, [.ref tk, .ref tl, .ref tc, .int N])), (tk, .inl (cI, 6, .inl K)), (tl, .inl (cI, 6, .inl L)), (tc, .inl (cI, 6, .inl C))]) ([(x0, .inr (4, [.ref t0, .ref r0, .ref y0, .ref g0, .ref w0, .int TR, .int LF]))]) hP hD [1, 2, 3, 4] [0] [x0, t0, tk, tl, tc] 5 rfl rfl rfl rfl rfl (by decide) rfl rfl hk1 hB
                have hE9 : p4_choice N K L C i1 i2 i3 = (p0_payer K L C i1 (p0_chosenBy N K L C i1 i2) i2) := by unfold p4_choice; rw [if_neg c_8, if_neg c_17, if_neg c_21, if_pos c_26, if_neg c_44_0, if_neg c_44_1, if_pos c_44_2]
                exact W.iret (v := (p0_payer K L C i1 (p0_chosenBy N K L C i1 i2) i2)) hx hb hr (fun t ht hW => ⟨⟨_, (), rfl, by rw [hE9], by show va_P (dC, dI) vwCl _ t.heap; rw [ht]; exact hP⟩, hS.F ht⟩) hS.2.2 dX4_choice_98
              · skip
                refine lv_tableOut (tgt := 99) hx hb dX4_choice_44 (sw_out3 c_44_0 c_44_1 c_44_2) (by decide) ?_
                refine lv_aload_n hx hb dX4_choice_99 rfl (lv_at hl 1 rfl) ?_
                refine va_get (D := (dC, dI)) (ci := 4) (v := .ref t0) (C := RX4) (T := TX4) (N := 7) hx hb hts hin4 hown hK hP 0 rfl rfl 0 (by decide) kf_12 (fun _ h9 => h9) rfl dX4_choice_100 ?_
                refine lv_iload_n hx hb dX4_choice_103 rfl (lv_at hl 2 rfl) ?_
                refine lv_iload hx hb dX4_choice_104 (lv_at hl 0 rfl) ?_
                refine lv_iload_n hx hb dX4_choice_106 rfl (lv_at hl 3 rfl) ?_
                have hPc := hP.sub (ws' := [(t0, .inr (0, [.ref tk, .ref tl, .ref tc, .int N])), (tk, .inl (cI, 6, .inl K)), (tl, .inl (cI, 6, .inl L)), (tc, .inl (cI, 6, .inl C))]) [1, 2, 3, 4] rfl
                have hDc := hD.sub (ws' := [(t0, .inr (0, [.ref tk, .ref tl, .ref tc, .int N])), (tk, .inl (cI, 6, .inl K)), (tl, .inl (cI, 6, .inl L)), (tc, .inl (cI, 6, .inl C))]) [1, 2, 3, 4] (by decide) rfl
                have hKc := hK.sub (tys' := [(cI, .int)]) [0] rfl
                have hFc := va_free (wc := [(t0, .inr (0, [.ref tk, .ref tl, .ref tc, .int N])), (tk, .inl (cI, 6, .inl K)), (tl, .inl (cI, 6, .inl L)), (tc, .inl (cI, 6, .inl C))]) hD hS hA [1, 2, 3, 4] rfl
                refine va_calli (va_runV (As := [.int i1, .int (p0_chosenBy N K L C i1 i2), .int i2]) (rest := []) ⟨hx, hb, hml, hown, hts⟩ (ctX0_isFair l dC dI cI t0 tk tl tc H.size N K L C i1 (p0_chosenBy N K L C i1 i2) i2 (by assumption) (by assumption) (by assumption)) (cwV 3 hts gX4_choice_X0_isFair rfl rfl rfl (by decide +kernel) ⟨Nat.le_of_ble_eq_true rfl, Nat.le_of_ble_eq_true rfl⟩) (pre_V hKc hN hPc hDc (RX0, TX0, 4) 0 0 rfl rfl) rfl rfl hl.1 rfl (lv_room (Nat.le_of_ble_eq_true rfl)) dX4_choice_107 ⟨Nat.le_of_ble_eq_true rfl, Nat.le_of_ble_eq_true rfl⟩) hS (fun q _ h => hFc q h) hFc (fun r _ t H locs ht hvm hw hB hz1 hk1 hS => ?_)
                try dsimp only at hw
                subst hw
                rw [ht] at hB
                obtain ⟨hP, hD⟩ := rw_join ([(x0, .inr (4, [.ref t0, .ref r0, .ref y0, .ref g0, .ref w0, .int TR, .int LF])), (t0, .inr (0, [.ref tk, .ref tl, .ref tc, .int N])), (tk, .inl (cI, 6, .inl K)), (tl, .inl (cI, 6, .inl L)), (tc, .inl (cI, 6, .inl C))]) ([(x0, .inr (4, [.ref t0, .ref r0, .ref y0, .ref g0, .ref w0, .int TR, .int LF])), (t0, .inr (0, [.ref tk, .ref tl, .ref tc, .int N])), (tk, .inl (cI, 6, .inl K)), (tl, .inl (cI, 6, .inl L)), (tc, .inl (cI, 6, .inl C))]) ([(t0, .inr (0, [.ref tk, .ref tl, .ref tc, .int N])), (tk, .inl (cI, 6, .inl K)), (tl, .inl (cI, 6, .inl L)), (tc, .inl (cI, 6, .inl C))]) ([(t0, .inr (0, [.ref tk, .ref tl, .ref tc, .int N])), (tk, .inl (cI, 6, .inl K)), (tl, .inl (cI, 6, .inl L)), (tc, .inl (cI, 6, .inl C))]) ([(x0, .inr (4, [.ref t0, .ref r0, .ref y0, .ref g0, .ref w0, .int TR, .int LF]))]) hP hD [1, 2, 3, 4] [0] [x0, t0, tk, tl, tc] 5 rfl rfl rfl rfl rfl (by decide) rfl rfl hk1 hB
                refine lv_if_eq (tgt := 117) hx hb dX4_choice_110 (by decide) (fun c_110 => ?_) (fun c_110 => ?_)
                · skip
                  refine lv_iconst (v := 0) hx hb dX4_choice_117 (by decide) ?_
                  have hE9 : p4_choice N K L C i1 i2 i3 = 0 := by unfold p4_choice; rw [if_neg c_8, if_neg c_17, if_neg c_21, if_pos c_26, if_neg c_44_0, if_neg c_44_1, if_neg c_44_2, if_pos c_110]
                  exact W.iret (v := 0) hx hb hr (fun t ht hW => ⟨⟨_, (), rfl, by rw [hE9], by show va_P (dC, dI) vwCl _ t.heap; rw [ht]; exact hP⟩, hS.F ht⟩) hS.2.2 dX4_choice_118
                · skip
                  refine lv_iconst (v := 1) hx hb dX4_choice_113 (by decide) ?_
                  refine lv_goto (tgt := 118) hx hb dX4_choice_114 (by decide) ?_
                  have hE9 : p4_choice N K L C i1 i2 i3 = 1 := by unfold p4_choice; rw [if_neg c_8, if_neg c_17, if_neg c_21, if_pos c_26, if_neg c_44_0, if_neg c_44_1, if_neg c_44_2, if_neg c_110]
                  exact W.iret (v := 1) hx hb hr (fun t ht hW => ⟨⟨_, (), rfl, by rw [hE9], by show va_P (dC, dI) vwCl _ t.heap; rw [ht]; exact hP⟩, hS.F ht⟩) hS.2.2 dX4_choice_118
        · skip
          refine lv_bipush (v := (-2)) hx hb dX4_choice_29 (by decide) ?_
          have hE9 : p4_choice N K L C i1 i2 i3 = (-2) := by unfold p4_choice; rw [if_neg c_8, if_neg c_17, if_neg c_21, if_neg c_26]
          exact W.iret (v := (-2)) hx hb hr (fun t ht hW => ⟨⟨_, (), rfl, by rw [hE9], by show va_P (dC, dI) vwCl _ t.heap; rw [ht]; exact hP⟩, hS.F ht⟩) hS.2.2 dX4_choice_31
  · skip
    refine lv_iconst (v := (-1)) hx hb dX4_choice_11 (by decide) ?_
    have hE9 : p4_choice N K L C i1 i2 i3 = (-1) := by unfold p4_choice; rw [if_pos c_8]
    exact W.iret (v := (-1)) hx hb hr (fun t ht hW => ⟨⟨_, (), rfl, by rw [hE9], by show va_P (dC, dI) vwCl _ t.heap; rw [ht]; exact hP⟩, hS.F ht⟩) hS.2.2 dX4_choice_12

def p4_name (N : Int32) (K : Nat → Int32) (L : Nat → Int32) (C : Nat → Int32) (i1 : Int32) (i2 : Int32) : Int32 × (Nat → Int32) × (Nat → Int32) :=
  if (p0_has N i1) = 0 then
    ((-1), L, C)
  else
    if (p4_isCost i2) = 0 then
      ((-2), L, C)
    else
      ((p0_payer K L C i1 (p0_chosenBy N K L C i1 i2) i2), ((p0_carryOut K L C i1 (p0_chosenBy N K L C i1 i2) i2).1), ((p0_carryOut K L C i1 (p0_chosenBy N K L C i1 i2) i2).2))
abbrev rmX4_name : Room := { frames := 4, cells := 0, slots := 0, locals := 95 }
abbrev QX4_name (dC : Nat → ClassId) (dI : Nat → Nat → Nat) (A : Nat → Prop) (cI : ClassId) (x0 : Nat) (t0 : Nat) (r0 : Nat) (y0 : Nat) (g0 : Nat) (w0 : Nat) (tk : Nat) (tl : Nat) (tc : Nat) (TR : Int32) (LF : Int32) (N : Int32) (K : Nat → Int32) (L : Nat → Int32) (C : Nat → Int32) (i1 : Int32) (i2 : Int32) : Array Value → State → Outcome → State → Prop := va_Qi (fun (r : Int32) (_ : Unit) => r = (p4_name N K L C i1 i2).1) (fun (_ : Unit) (t : State) => va_P (dC, dI) vwCl ([(x0, .inr (4, [.ref t0, .ref r0, .ref y0, .ref g0, .ref w0, .int TR, .int LF])), (t0, .inr (0, [.ref tk, .ref tl, .ref tc, .int N])), (tk, .inl (cI, 6, .inl K)), (tl, .inl (cI, 6, .inl ((p4_name N K L C i1 i2).2.1))), (tc, .inl (cI, 6, .inl ((p4_name N K L C i1 i2).2.2)))]) t.heap) A
set_option maxHeartbeats 4000000 in
set_option maxRecDepth 100000 in
theorem ctX4_name (l : Launch) (dC : Nat → ClassId) (dI : Nat → Nat → Nat) (cI : ClassId) (x0 : Nat) (t0 : Nat) (r0 : Nat) (y0 : Nat) (g0 : Nat) (w0 : Nat) (tk : Nat) (tl : Nat) (tc : Nat) (sz : Nat) (TR : Int32) (LF : Int32) (N : Int32) (K : Nat → Int32) (L : Nat → Int32) (C : Nat → Int32) (i1 : Int32) (i2 : Int32) (hNb : N.toInt ≤ 6) : Met l yX4_name wsX4_name rmX4_name (va_Pc [.ref x0, .int i1, .int i2] (cP dC dI [(cI, .int)] ([(x0, .inr (4, [.ref t0, .ref r0, .ref y0, .ref g0, .ref w0, .int TR, .int LF])), (t0, .inr (0, [.ref tk, .ref tl, .ref tc, .int N])), (tk, .inl (cI, 6, .inl K)), (tl, .inl (cI, 6, .inl L)), (tc, .inl (cI, 6, .inl C))]) sz)) (QX4_name dC dI (va_A ([(x0, .inr (4, [.ref t0, .ref r0, .ref y0, .ref g0, .ref w0, .int TR, .int LF])), (t0, .inr (0, [.ref tk, .ref tl, .ref tc, .int N])), (tk, .inl (cI, 6, .inl K)), (tl, .inl (cI, 6, .inl L)), (tc, .inl (cI, 6, .inl C))]) sz) cI x0 t0 r0 y0 g0 w0 tk tl tc TR LF N K L C i1 i2) 0 0 (va_A ([(x0, .inr (4, [.ref t0, .ref r0, .ref y0, .ref g0, .ref w0, .int TR, .int LF])), (t0, .inr (0, [.ref tk, .ref tl, .ref tc, .int N])), (tk, .inl (cI, 6, .inl K)), (tl, .inl (cI, 6, .inl L)), (tc, .inl (cI, 6, .inl C))]) sz) := by
  refine Met.ofW (cc := cX4_name) (maxL := 5) (ret := (some .int)) (by decide) rfl ?_
  intro p e s m args below meth c s₁ B hml hv
  obtain ⟨rfl, hsz, hP, hK, hD0, hN⟩ := hv
  have hx := B.exec
  have hb := B.bytes
  have hr := B.returns
  have hts := atoms_spec (ws := wsX4_name) B.pre
  have hown : s.vm.findClass RX4 = some m.cls := findClass_of_methodNamed B.named
  have hlocks := B.notSynchronized
  subst hsz
  have hD := hD0.self (sz := s.heap.size)
  generalize hAe : va_A ([(x0, .inr (4, [.ref t0, .ref r0, .ref y0, .ref g0, .ref w0, .int TR, .int LF])), (t0, .inr (0, [.ref tk, .ref tl, .ref tc, .int N])), (tk, .inl (cI, 6, .inl K)), (tl, .inl (cI, 6, .inl L)), (tc, .inl (cI, 6, .inl C))]) s.heap.size = A at hD ⊢
  have hA : ∀ q : Nat, s.heap.size ≤ q → A q := fun q h => by rw [← hAe]; exact Or.inr h
  have hS : va_S A s.heap s.heap [] := va_S.rf
  have hP : va_P (dC, dI) vwCl ([(x0, .inr (4, [.ref t0, .ref r0, .ref y0, .ref g0, .ref w0, .int TR, .int LF])), (t0, .inr (0, [.ref tk, .ref tl, .ref tc, .int N])), (tk, .inl (cI, 6, .inl K)), (tl, .inl (cI, 6, .inl L)), (tc, .inl (cI, 6, .inl C))]) s.heap := hP
  have hin4 : ∀ w ∈ wsX40, w ∈ wsX4_name := by decide +kernel
  have kf_12 := hts (.fieldLink RX4 12 "RicherChange" "town" "LRicherChange$City;") (by decide +kernel)
  have hl := lv_entry ([.ref x0, .int i1, .int i2]) (n := 5) (Nat.le_of_ble_eq_true rfl)
  rw [lg_entry_eq]
  generalize (lg_sl ([.ref x0, .int i1, .int i2]) ++ List.replicate (5 - (lg_sl ([.ref x0, .int i1, .int i2])).length) Slot.unset).toArray = ls at hl ⊢
  have hl : lv_has ls 5 [(0, .ref x0), (1, .int i1), (2, .int i2)] := hl
  refine lv_aload_n hx hb dX4_name_0 rfl (lv_at hl 0 rfl) ?_
  refine va_get (D := (dC, dI)) (ci := 4) (v := .ref t0) (C := RX4) (T := TX4) (N := 7) hx hb hts hin4 hown hK hP 0 rfl rfl 0 (by decide) kf_12 (fun _ h9 => h9) rfl dX4_name_1 ?_
  refine lv_iload_n hx hb dX4_name_4 rfl (lv_at hl 1 rfl) ?_
  have hPc := hP.sub (ws' := [(t0, .inr (0, [.ref tk, .ref tl, .ref tc, .int N]))]) [1] rfl
  have hDc := hD.sub (ws' := [(t0, .inr (0, [.ref tk, .ref tl, .ref tc, .int N]))]) [1] (by decide) rfl
  have hKc := hK.sub (tys' := [(cI, .int)]) [0] rfl
  have hFc := va_free (wc := [(t0, .inr (0, [.ref tk, .ref tl, .ref tc, .int N]))]) hD hS hA [1] rfl
  refine va_calli (va_runV (As := [.int i1]) (rest := []) ⟨hx, hb, hml, hown, hts⟩ (ctX0_has l dC dI cI t0 tk tl tc s.heap.size N i1) (cwV 1 hts gX4_name_X0_has rfl rfl rfl (by decide +kernel) ⟨Nat.le_of_ble_eq_true rfl, Nat.le_of_ble_eq_true rfl⟩) (pre_V hKc hN hPc hDc (RX0, TX0, 4) 0 0 rfl rfl) rfl rfl hl.1 rfl (lv_room (Nat.le_of_ble_eq_true rfl)) dX4_name_5 ⟨Nat.le_of_ble_eq_true rfl, Nat.le_of_ble_eq_true rfl⟩) hS (fun q _ h => hFc q h) hFc (fun r _ t H locs ht hvm hw hB hz1 hk1 hS => ?_)
  try dsimp only at hw
  subst hw
  rw [ht] at hB
  obtain ⟨hP, hD⟩ := rw_join ([(x0, .inr (4, [.ref t0, .ref r0, .ref y0, .ref g0, .ref w0, .int TR, .int LF])), (t0, .inr (0, [.ref tk, .ref tl, .ref tc, .int N])), (tk, .inl (cI, 6, .inl K)), (tl, .inl (cI, 6, .inl L)), (tc, .inl (cI, 6, .inl C))]) ([(x0, .inr (4, [.ref t0, .ref r0, .ref y0, .ref g0, .ref w0, .int TR, .int LF])), (t0, .inr (0, [.ref tk, .ref tl, .ref tc, .int N])), (tk, .inl (cI, 6, .inl K)), (tl, .inl (cI, 6, .inl L)), (tc, .inl (cI, 6, .inl C))]) ([(t0, .inr (0, [.ref tk, .ref tl, .ref tc, .int N]))]) ([(t0, .inr (0, [.ref tk, .ref tl, .ref tc, .int N]))]) ([(x0, .inr (4, [.ref t0, .ref r0, .ref y0, .ref g0, .ref w0, .int TR, .int LF])), (tk, .inl (cI, 6, .inl K)), (tl, .inl (cI, 6, .inl L)), (tc, .inl (cI, 6, .inl C))]) hP hD [1] [0, 2, 3, 4] [x0, t0, tk, tl, tc] 5 rfl rfl rfl rfl rfl (by decide) rfl rfl hk1 hB
  refine lv_if_ne (tgt := 13) hx hb dX4_name_8 (by decide) (fun c_8 => ?_) (fun c_8 => ?_)
  · skip
    have j1 : vp_in i1 6 := has_in hNb c_8
    refine lv_iload_n hx hb dX4_name_13 rfl (lv_at hl 2 rfl) ?_
    have hPc : va_P (dC, dI) vwCl [] H := hP.sub (ws' := []) [] rfl
    have hDc : va_D A [] := hD.sub (ws' := []) [] (by decide) rfl
    have hKc := hK.sub (tys' := [(cI, .int)]) [0] rfl
    have hFc := va_free (wc := []) hD hS hA [] rfl
    refine va_calli (va_runS (As := [.int i2]) (rest := []) ⟨hx, hb, hml, hown, hts⟩ (ctX4_isCost l dC dI cI H.size i2) (va_cwS 1 hts gX4_name_X4_isCost rfl rfl rfl (by decide +kernel) ⟨Nat.le_of_ble_eq_true rfl, Nat.le_of_ble_eq_true rfl⟩) (pre_S hKc hN hPc hDc) rfl rfl hl.1 rfl (lv_room (Nat.le_of_ble_eq_true rfl)) dX4_name_14 ⟨Nat.le_of_ble_eq_true rfl, Nat.le_of_ble_eq_true rfl⟩) hS (fun q _ h => hFc q h) hFc (fun r _ t H locs ht hvm hw hB hz1 hk1 hS => ?_)
    try dsimp only at hw
    subst hw
    rw [ht] at hB
    obtain ⟨hP, hD⟩ := rw_join ([(x0, .inr (4, [.ref t0, .ref r0, .ref y0, .ref g0, .ref w0, .int TR, .int LF])), (t0, .inr (0, [.ref tk, .ref tl, .ref tc, .int N])), (tk, .inl (cI, 6, .inl K)), (tl, .inl (cI, 6, .inl L)), (tc, .inl (cI, 6, .inl C))]) ([(x0, .inr (4, [.ref t0, .ref r0, .ref y0, .ref g0, .ref w0, .int TR, .int LF])), (t0, .inr (0, [.ref tk, .ref tl, .ref tc, .int N])), (tk, .inl (cI, 6, .inl K)), (tl, .inl (cI, 6, .inl L)), (tc, .inl (cI, 6, .inl C))]) ([]) ([]) ([(x0, .inr (4, [.ref t0, .ref r0, .ref y0, .ref g0, .ref w0, .int TR, .int LF])), (t0, .inr (0, [.ref tk, .ref tl, .ref tc, .int N])), (tk, .inl (cI, 6, .inl K)), (tl, .inl (cI, 6, .inl L)), (tc, .inl (cI, 6, .inl C))]) hP hD [] [0, 1, 2, 3, 4] [x0, t0, tk, tl, tc] 5 rfl rfl rfl rfl rfl (by decide) rfl rfl hk1 hB
    refine lv_if_ne (tgt := 23) hx hb dX4_name_17 (by decide) (fun c_17 => ?_) (fun c_17 => ?_)
    · skip
      refine lv_aload_n hx hb dX4_name_23 rfl (lv_at hl 0 rfl) ?_
      refine va_get (D := (dC, dI)) (ci := 4) (v := .ref t0) (C := RX4) (T := TX4) (N := 7) hx hb hts hin4 hown hK hP 0 rfl rfl 0 (by decide) kf_12 (fun _ h9 => h9) rfl dX4_name_24 ?_
      refine lv_iload_n hx hb dX4_name_27 rfl (lv_at hl 1 rfl) ?_
      refine lv_iload_n hx hb dX4_name_28 rfl (lv_at hl 2 rfl) ?_
      have hPc := hP.sub (ws' := [(t0, .inr (0, [.ref tk, .ref tl, .ref tc, .int N])), (tk, .inl (cI, 6, .inl K)), (tl, .inl (cI, 6, .inl L)), (tc, .inl (cI, 6, .inl C))]) [1, 2, 3, 4] rfl
      have hDc := hD.sub (ws' := [(t0, .inr (0, [.ref tk, .ref tl, .ref tc, .int N])), (tk, .inl (cI, 6, .inl K)), (tl, .inl (cI, 6, .inl L)), (tc, .inl (cI, 6, .inl C))]) [1, 2, 3, 4] (by decide) rfl
      have hKc := hK.sub (tys' := [(cI, .int)]) [0] rfl
      have hFc := va_free (wc := [(t0, .inr (0, [.ref tk, .ref tl, .ref tc, .int N])), (tk, .inl (cI, 6, .inl K)), (tl, .inl (cI, 6, .inl L)), (tc, .inl (cI, 6, .inl C))]) hD hS hA [1, 2, 3, 4] rfl
      refine va_calli (va_runV (As := [.int i1, .int i2]) (rest := []) ⟨hx, hb, hml, hown, hts⟩ (ctX0_chosenBy l dC dI cI t0 tk tl tc H.size N K L C i1 i2 (by assumption) (by assumption)) (cwV 2 hts gX4_name_X0_chosenBy rfl rfl rfl (by decide +kernel) ⟨Nat.le_of_ble_eq_true rfl, Nat.le_of_ble_eq_true rfl⟩) (pre_V hKc hN hPc hDc (RX0, TX0, 4) 0 0 rfl rfl) rfl rfl hl.1 rfl (lv_room (Nat.le_of_ble_eq_true rfl)) dX4_name_29 ⟨Nat.le_of_ble_eq_true rfl, Nat.le_of_ble_eq_true rfl⟩) hS (fun q _ h => hFc q h) hFc (fun r _ t H locs ht hvm hw hB hz1 hk1 hS => ?_)
      try dsimp only at hw
      subst hw
      rw [ht] at hB
      obtain ⟨hP, hD⟩ := rw_join ([(x0, .inr (4, [.ref t0, .ref r0, .ref y0, .ref g0, .ref w0, .int TR, .int LF])), (t0, .inr (0, [.ref tk, .ref tl, .ref tc, .int N])), (tk, .inl (cI, 6, .inl K)), (tl, .inl (cI, 6, .inl L)), (tc, .inl (cI, 6, .inl C))]) ([(x0, .inr (4, [.ref t0, .ref r0, .ref y0, .ref g0, .ref w0, .int TR, .int LF])), (t0, .inr (0, [.ref tk, .ref tl, .ref tc, .int N])), (tk, .inl (cI, 6, .inl K)), (tl, .inl (cI, 6, .inl L)), (tc, .inl (cI, 6, .inl C))]) ([(t0, .inr (0, [.ref tk, .ref tl, .ref tc, .int N])), (tk, .inl (cI, 6, .inl K)), (tl, .inl (cI, 6, .inl L)), (tc, .inl (cI, 6, .inl C))]) ([(t0, .inr (0, [.ref tk, .ref tl, .ref tc, .int N])), (tk, .inl (cI, 6, .inl K)), (tl, .inl (cI, 6, .inl L)), (tc, .inl (cI, 6, .inl C))]) ([(x0, .inr (4, [.ref t0, .ref r0, .ref y0, .ref g0, .ref w0, .int TR, .int LF]))]) hP hD [1, 2, 3, 4] [0] [x0, t0, tk, tl, tc] 5 rfl rfl rfl rfl rfl (by decide) rfl rfl hk1 hB
      refine lv_istore_n (lv' := [(3, .int (p0_chosenBy N K L C i1 i2)), (0, .ref x0), (1, .int i1), (2, .int i2)]) hx hb dX4_name_32 rfl hl (by decide) rfl (fun ls hl => ?_)
      have j4 : vp_in (p0_chosenBy N K L C i1 i2) 6 := chosenBy_in j1 hNb
      refine lv_aload_n hx hb dX4_name_33 rfl (lv_at hl 1 rfl) ?_
      refine va_get (D := (dC, dI)) (ci := 4) (v := .ref t0) (C := RX4) (T := TX4) (N := 7) hx hb hts hin4 hown hK hP 0 rfl rfl 0 (by decide) kf_12 (fun _ h9 => h9) rfl dX4_name_34 ?_
      refine lv_iload_n hx hb dX4_name_37 rfl (lv_at hl 2 rfl) ?_
      refine lv_iload_n hx hb dX4_name_38 rfl (lv_at hl 0 rfl) ?_
      refine lv_iload_n hx hb dX4_name_39 rfl (lv_at hl 3 rfl) ?_
      have hPc := hP.sub (ws' := [(t0, .inr (0, [.ref tk, .ref tl, .ref tc, .int N])), (tk, .inl (cI, 6, .inl K)), (tl, .inl (cI, 6, .inl L)), (tc, .inl (cI, 6, .inl C))]) [1, 2, 3, 4] rfl
      have hDc := hD.sub (ws' := [(t0, .inr (0, [.ref tk, .ref tl, .ref tc, .int N])), (tk, .inl (cI, 6, .inl K)), (tl, .inl (cI, 6, .inl L)), (tc, .inl (cI, 6, .inl C))]) [1, 2, 3, 4] (by decide) rfl
      have hKc := hK.sub (tys' := [(cI, .int)]) [0] rfl
      have hFc := va_free (wc := [(t0, .inr (0, [.ref tk, .ref tl, .ref tc, .int N])), (tk, .inl (cI, 6, .inl K)), (tl, .inl (cI, 6, .inl L)), (tc, .inl (cI, 6, .inl C))]) hD hS hA [1, 2, 3, 4] rfl
      refine va_calli (va_runV (As := [.int i1, .int (p0_chosenBy N K L C i1 i2), .int i2]) (rest := []) ⟨hx, hb, hml, hown, hts⟩ (ctX0_payer l dC dI cI t0 tk tl tc H.size N K L C i1 (p0_chosenBy N K L C i1 i2) i2 (by assumption) (by assumption)) (cwV 3 hts gX4_name_X0_payer rfl rfl rfl (by decide +kernel) ⟨Nat.le_of_ble_eq_true rfl, Nat.le_of_ble_eq_true rfl⟩) (pre_V hKc hN hPc hDc (RX0, TX0, 4) 0 0 rfl rfl) rfl rfl hl.1 rfl (lv_room (Nat.le_of_ble_eq_true rfl)) dX4_name_40 ⟨Nat.le_of_ble_eq_true rfl, Nat.le_of_ble_eq_true rfl⟩) hS (fun q _ h => hFc q h) hFc (fun r _ t H locs ht hvm hw hB hz1 hk1 hS => ?_)
      try dsimp only at hw
      subst hw
      rw [ht] at hB
      obtain ⟨hP, hD⟩ := rw_join ([(x0, .inr (4, [.ref t0, .ref r0, .ref y0, .ref g0, .ref w0, .int TR, .int LF])), (t0, .inr (0, [.ref tk, .ref tl, .ref tc, .int N])), (tk, .inl (cI, 6, .inl K)), (tl, .inl (cI, 6, .inl L)), (tc, .inl (cI, 6, .inl C))]) ([(x0, .inr (4, [.ref t0, .ref r0, .ref y0, .ref g0, .ref w0, .int TR, .int LF])), (t0, .inr (0, [.ref tk, .ref tl, .ref tc, .int N])), (tk, .inl (cI, 6, .inl K)), (tl, .inl (cI, 6, .inl L)), (tc, .inl (cI, 6, .inl C))]) ([(t0, .inr (0, [.ref tk, .ref tl, .ref tc, .int N])), (tk, .inl (cI, 6, .inl K)), (tl, .inl (cI, 6, .inl L)), (tc, .inl (cI, 6, .inl C))]) ([(t0, .inr (0, [.ref tk, .ref tl, .ref tc, .int N])), (tk, .inl (cI, 6, .inl K)), (tl, .inl (cI, 6, .inl L)), (tc, .inl (cI, 6, .inl C))]) ([(x0, .inr (4, [.ref t0, .ref r0, .ref y0, .ref g0, .ref w0, .int TR, .int LF]))]) hP hD [1, 2, 3, 4] [0] [x0, t0, tk, tl, tc] 5 rfl rfl rfl rfl rfl (by decide) rfl rfl hk1 hB
      refine lv_istore (lv' := [(4, .int (p0_payer K L C i1 (p0_chosenBy N K L C i1 i2) i2)), (3, .int (p0_chosenBy N K L C i1 i2)), (0, .ref x0), (1, .int i1), (2, .int i2)]) hx hb dX4_name_43 hl (by decide) rfl (fun ls hl => ?_)
      refine lv_aload_n hx hb dX4_name_45 rfl (lv_at hl 2 rfl) ?_
      refine va_get (D := (dC, dI)) (ci := 4) (v := .ref t0) (C := RX4) (T := TX4) (N := 7) hx hb hts hin4 hown hK hP 0 rfl rfl 0 (by decide) kf_12 (fun _ h9 => h9) rfl dX4_name_46 ?_
      refine lv_iload_n hx hb dX4_name_49 rfl (lv_at hl 3 rfl) ?_
      refine lv_iload_n hx hb dX4_name_50 rfl (lv_at hl 1 rfl) ?_
      refine lv_iload_n hx hb dX4_name_51 rfl (lv_at hl 4 rfl) ?_
      have hPc := hP.sub (ws' := [(t0, .inr (0, [.ref tk, .ref tl, .ref tc, .int N])), (tk, .inl (cI, 6, .inl K)), (tl, .inl (cI, 6, .inl L)), (tc, .inl (cI, 6, .inl C))]) [1, 2, 3, 4] rfl
      have hDc := hD.sub (ws' := [(t0, .inr (0, [.ref tk, .ref tl, .ref tc, .int N])), (tk, .inl (cI, 6, .inl K)), (tl, .inl (cI, 6, .inl L)), (tc, .inl (cI, 6, .inl C))]) [1, 2, 3, 4] (by decide) rfl
      have hKc := hK.sub (tys' := [(cI, .int)]) [0] rfl
      have hFc := va_free (wc := [(t0, .inr (0, [.ref tk, .ref tl, .ref tc, .int N])), (tk, .inl (cI, 6, .inl K)), (tl, .inl (cI, 6, .inl L)), (tc, .inl (cI, 6, .inl C))]) hD hS hA [1, 2, 3, 4] rfl
      refine va_callv (va_runV (As := [.int i1, .int (p0_chosenBy N K L C i1 i2), .int i2]) (rest := []) ⟨hx, hb, hml, hown, hts⟩ (ctX0_carryOut l dC dI cI t0 tk tl tc H.size N K L C i1 (p0_chosenBy N K L C i1 i2) i2 (by assumption) (by assumption)) (cwV 3 hts gX4_name_X0_carryOut rfl rfl rfl (by decide +kernel) ⟨Nat.le_of_ble_eq_true rfl, Nat.le_of_ble_eq_true rfl⟩) (pre_V hKc hN hPc hDc (RX0, TX0, 4) 0 0 rfl rfl) rfl rfl hl.1 rfl (lv_room (Nat.le_of_ble_eq_true rfl)) dX4_name_52 ⟨Nat.le_of_ble_eq_true rfl, Nat.le_of_ble_eq_true rfl⟩) hS (fun q _ h => hFc q h) hFc (fun _ t H locs ht hvm hw hB hz1 hk1 hS => ?_)
      rw [ht] at hB
      refine nm_gen ((p0_carryOut K L C i1 (p0_chosenBy N K L C i1 i2) i2).1) (fun L_52 eL_52 => ?_)
      rw [eL_52] at hB
      refine nm_gen ((p0_carryOut K L C i1 (p0_chosenBy N K L C i1 i2) i2).2) (fun C_52 eC_52 => ?_)
      rw [eC_52] at hB
      obtain ⟨hP, hD⟩ := rw_join ([(x0, .inr (4, [.ref t0, .ref r0, .ref y0, .ref g0, .ref w0, .int TR, .int LF])), (t0, .inr (0, [.ref tk, .ref tl, .ref tc, .int N])), (tk, .inl (cI, 6, .inl K)), (tl, .inl (cI, 6, .inl L)), (tc, .inl (cI, 6, .inl C))]) ([(x0, .inr (4, [.ref t0, .ref r0, .ref y0, .ref g0, .ref w0, .int TR, .int LF])), (t0, .inr (0, [.ref tk, .ref tl, .ref tc, .int N])), (tk, .inl (cI, 6, .inl K)), (tl, .inl (cI, 6, .inl L_52)), (tc, .inl (cI, 6, .inl C_52))]) ([(t0, .inr (0, [.ref tk, .ref tl, .ref tc, .int N])), (tk, .inl (cI, 6, .inl K)), (tl, .inl (cI, 6, .inl L)), (tc, .inl (cI, 6, .inl C))]) ([(t0, .inr (0, [.ref tk, .ref tl, .ref tc, .int N])), (tk, .inl (cI, 6, .inl K)), (tl, .inl (cI, 6, .inl L_52)), (tc, .inl (cI, 6, .inl C_52))]) ([(x0, .inr (4, [.ref t0, .ref r0, .ref y0, .ref g0, .ref w0, .int TR, .int LF]))]) hP hD [1, 2, 3, 4] [0] [x0, t0, tk, tl, tc] 5 rfl rfl rfl rfl rfl (by decide) rfl rfl hk1 hB
      refine lv_iload hx hb dX4_name_55 (lv_at hl 0 rfl) ?_
      have hE9 : p4_name N K L C i1 i2 = ((p0_payer K L C i1 (p0_chosenBy N K L C i1 i2) i2), L_52, C_52) := by unfold p4_name; simp only [eL_52, eC_52]; rw [if_neg c_8, if_neg c_17]
      exact W.iret (v := (p0_payer K L C i1 (p0_chosenBy N K L C i1 i2) i2)) hx hb hr (fun t ht hW => ⟨⟨_, (), rfl, by rw [hE9], by show va_P (dC, dI) vwCl _ t.heap; rw [ht, hE9]; exact hP⟩, hS.F ht⟩) hS.2.2 dX4_name_57
    · skip
      refine lv_bipush (v := (-2)) hx hb dX4_name_20 (by decide) ?_
      have hE9 : p4_name N K L C i1 i2 = ((-2), L, C) := by unfold p4_name; rw [if_neg c_8, if_pos c_17]
      exact W.iret (v := (-2)) hx hb hr (fun t ht hW => ⟨⟨_, (), rfl, by rw [hE9], by show va_P (dC, dI) vwCl _ t.heap; rw [ht, hE9]; exact hP⟩, hS.F ht⟩) hS.2.2 dX4_name_22
  · skip
    refine lv_iconst (v := (-1)) hx hb dX4_name_11 (by decide) ?_
    have hE9 : p4_name N K L C i1 i2 = ((-1), L, C) := by unfold p4_name; rw [if_pos c_8]
    exact W.iret (v := (-1)) hx hb hr (fun t ht hW => ⟨⟨_, (), rfl, by rw [hE9], by show va_P (dC, dI) vwCl _ t.heap; rw [ht, hE9]; exact hP⟩, hS.F ht⟩) hS.2.2 dX4_name_12

def p4_safe_l47 (N : Int32) (K : Nat → Int32) (L : Nat → Int32) (C : Nat → Int32) (N2 : Int32) (K2 : Nat → Int32) (L2 : Nat → Int32) (C2 : Nat → Int32) (i1 : Int32) (i2 : Int32) : Nat → Int32 → Int32 → (Nat → Int32) → (Nat → Int32) → (Nat → Int32) → Int32 × Int32 × (Nat → Int32) × (Nat → Int32) × (Nat → Int32)
  | 0, _, _, _, _, _ => (0, 0, fun _ => 0, fun _ => 0, fun _ => 0)
  | n + 1, v4, N2_, K2_, L2_, C2_ =>
    if (L i1.toNatClampNeg) < v4 then
      ((-9), N2_, K2_, L2_, C2_)
    else
      if (p0_isPointedAt N2_ K2_ L2_ C2_ i1 i2) = 0 then
        (v4, N2_, K2_, L2_, C2_)
      else
        p4_safe_l47 N K L C N2 K2 L2 C2 i1 i2 n (v4 + 1) N2_ K2_ ((p0_turnToCoin L2_ C2_ i1 1).1) ((p0_turnToCoin L2_ C2_ i1 1).2)
theorem p4_safe_l47_s (N : Int32) (K : Nat → Int32) (L : Nat → Int32) (C : Nat → Int32) (N2 : Int32) (K2 : Nat → Int32) (L2 : Nat → Int32) (C2 : Nat → Int32) (i1 : Int32) (i2 : Int32) (n : Nat) (v4 : Int32) (N2_ : Int32) (K2_ : Nat → Int32) (L2_ : Nat → Int32) (C2_ : Nat → Int32) : p4_safe_l47 N K L C N2 K2 L2 C2 i1 i2 (n + 1) v4 N2_ K2_ L2_ C2_ =
    (if (L i1.toNatClampNeg) < v4 then
      ((-9), N2_, K2_, L2_, C2_)
    else
      if (p0_isPointedAt N2_ K2_ L2_ C2_ i1 i2) = 0 then
        (v4, N2_, K2_, L2_, C2_)
      else
        p4_safe_l47 N K L C N2 K2 L2 C2 i1 i2 n (v4 + 1) N2_ K2_ ((p0_turnToCoin L2_ C2_ i1 1).1) ((p0_turnToCoin L2_ C2_ i1 1).2)) := rfl
def p4_safe (N : Int32) (K : Nat → Int32) (L : Nat → Int32) (C : Nat → Int32) (N2 : Int32) (K2 : Nat → Int32) (L2 : Nat → Int32) (C2 : Nat → Int32) (i1 : Int32) (i2 : Int32) : Int32 × Int32 × (Nat → Int32) × (Nat → Int32) × (Nat → Int32) :=
  if (p0_has N i1) = 0 then
    ((-1), N2, K2, L2, C2)
  else
    if (p4_isCost i2) = 0 then
      ((-2), N2, K2, L2, C2)
    else
      p4_safe_l47 N K L C N2 K2 L2 C2 i1 i2 20 0 ((p0_likeThat N2 K2 L2 C2 N K L C).1) ((p0_likeThat N2 K2 L2 C2 N K L C).2.1) ((p0_likeThat N2 K2 L2 C2 N K L C).2.2.1) ((p0_likeThat N2 K2 L2 C2 N K L C).2.2.2)
abbrev rmX4_safe : Room := { frames := 5, cells := 0, slots := 0, locals := 118 }
abbrev QX4_safe (dC : Nat → ClassId) (dI : Nat → Nat → Nat) (A : Nat → Prop) (cI : ClassId) (x0 : Nat) (t0 : Nat) (r0 : Nat) (y0 : Nat) (g0 : Nat) (w0 : Nat) (tk : Nat) (tl : Nat) (tc : Nat) (rk : Nat) (rl : Nat) (rc : Nat) (TR : Int32) (LF : Int32) (N : Int32) (K : Nat → Int32) (L : Nat → Int32) (C : Nat → Int32) (N2 : Int32) (K2 : Nat → Int32) (L2 : Nat → Int32) (C2 : Nat → Int32) (i1 : Int32) (i2 : Int32) : Array Value → State → Outcome → State → Prop := va_Qi (fun (r : Int32) (_ : Unit) => r = (p4_safe N K L C N2 K2 L2 C2 i1 i2).1) (fun (_ : Unit) (t : State) => va_P (dC, dI) vwCl ([(x0, .inr (4, [.ref t0, .ref r0, .ref y0, .ref g0, .ref w0, .int TR, .int LF])), (t0, .inr (0, [.ref tk, .ref tl, .ref tc, .int N])), (tk, .inl (cI, 6, .inl K)), (tl, .inl (cI, 6, .inl L)), (tc, .inl (cI, 6, .inl C)), (r0, .inr (0, [.ref rk, .ref rl, .ref rc, .int ((p4_safe N K L C N2 K2 L2 C2 i1 i2).2.1)])), (rk, .inl (cI, 6, .inl ((p4_safe N K L C N2 K2 L2 C2 i1 i2).2.2.1))), (rl, .inl (cI, 6, .inl ((p4_safe N K L C N2 K2 L2 C2 i1 i2).2.2.2.1))), (rc, .inl (cI, 6, .inl ((p4_safe N K L C N2 K2 L2 C2 i1 i2).2.2.2.2)))]) t.heap) A
set_option maxHeartbeats 4000000 in
set_option maxRecDepth 100000 in
theorem ctX4_safe (l : Launch) (dC : Nat → ClassId) (dI : Nat → Nat → Nat) (cI : ClassId) (x0 : Nat) (t0 : Nat) (r0 : Nat) (y0 : Nat) (g0 : Nat) (w0 : Nat) (tk : Nat) (tl : Nat) (tc : Nat) (rk : Nat) (rl : Nat) (rc : Nat) (sz : Nat) (TR : Int32) (LF : Int32) (N : Int32) (K : Nat → Int32) (L : Nat → Int32) (C : Nat → Int32) (N2 : Int32) (K2 : Nat → Int32) (L2 : Nat → Int32) (C2 : Nat → Int32) (i1 : Int32) (i2 : Int32) (hNb : N.toInt ≤ 6) (hL18 : ∀ j : Nat, (L j).toInt ≤ 18) : Met l yX4_safe wsX4_safe rmX4_safe (va_Pc [.ref x0, .int i1, .int i2] (cP dC dI [(cI, .int)] ([(x0, .inr (4, [.ref t0, .ref r0, .ref y0, .ref g0, .ref w0, .int TR, .int LF])), (t0, .inr (0, [.ref tk, .ref tl, .ref tc, .int N])), (tk, .inl (cI, 6, .inl K)), (tl, .inl (cI, 6, .inl L)), (tc, .inl (cI, 6, .inl C)), (r0, .inr (0, [.ref rk, .ref rl, .ref rc, .int N2])), (rk, .inl (cI, 6, .inl K2)), (rl, .inl (cI, 6, .inl L2)), (rc, .inl (cI, 6, .inl C2))]) sz)) (QX4_safe dC dI (va_A ([(x0, .inr (4, [.ref t0, .ref r0, .ref y0, .ref g0, .ref w0, .int TR, .int LF])), (t0, .inr (0, [.ref tk, .ref tl, .ref tc, .int N])), (tk, .inl (cI, 6, .inl K)), (tl, .inl (cI, 6, .inl L)), (tc, .inl (cI, 6, .inl C)), (r0, .inr (0, [.ref rk, .ref rl, .ref rc, .int N2])), (rk, .inl (cI, 6, .inl K2)), (rl, .inl (cI, 6, .inl L2)), (rc, .inl (cI, 6, .inl C2))]) sz) cI x0 t0 r0 y0 g0 w0 tk tl tc rk rl rc TR LF N K L C N2 K2 L2 C2 i1 i2) 0 0 (va_A ([(x0, .inr (4, [.ref t0, .ref r0, .ref y0, .ref g0, .ref w0, .int TR, .int LF])), (t0, .inr (0, [.ref tk, .ref tl, .ref tc, .int N])), (tk, .inl (cI, 6, .inl K)), (tl, .inl (cI, 6, .inl L)), (tc, .inl (cI, 6, .inl C)), (r0, .inr (0, [.ref rk, .ref rl, .ref rc, .int N2])), (rk, .inl (cI, 6, .inl K2)), (rl, .inl (cI, 6, .inl L2)), (rc, .inl (cI, 6, .inl C2))]) sz) := by
  refine Met.ofW (cc := cX4_safe) (maxL := 5) (ret := (some .int)) (by decide) rfl ?_
  intro p e s m args below meth c s₁ B hml hv
  obtain ⟨rfl, hsz, hP, hK, hD0, hN⟩ := hv
  have hx := B.exec
  have hb := B.bytes
  have hr := B.returns
  have hts := atoms_spec (ws := wsX4_safe) B.pre
  have hown : s.vm.findClass RX4 = some m.cls := findClass_of_methodNamed B.named
  have hlocks := B.notSynchronized
  subst hsz
  have hD := hD0.self (sz := s.heap.size)
  generalize hAe : va_A ([(x0, .inr (4, [.ref t0, .ref r0, .ref y0, .ref g0, .ref w0, .int TR, .int LF])), (t0, .inr (0, [.ref tk, .ref tl, .ref tc, .int N])), (tk, .inl (cI, 6, .inl K)), (tl, .inl (cI, 6, .inl L)), (tc, .inl (cI, 6, .inl C)), (r0, .inr (0, [.ref rk, .ref rl, .ref rc, .int N2])), (rk, .inl (cI, 6, .inl K2)), (rl, .inl (cI, 6, .inl L2)), (rc, .inl (cI, 6, .inl C2))]) s.heap.size = A at hD ⊢
  have hA : ∀ q : Nat, s.heap.size ≤ q → A q := fun q h => by rw [← hAe]; exact Or.inr h
  have hS : va_S A s.heap s.heap [] := va_S.rf
  have hP : va_P (dC, dI) vwCl ([(x0, .inr (4, [.ref t0, .ref r0, .ref y0, .ref g0, .ref w0, .int TR, .int LF])), (t0, .inr (0, [.ref tk, .ref tl, .ref tc, .int N])), (tk, .inl (cI, 6, .inl K)), (tl, .inl (cI, 6, .inl L)), (tc, .inl (cI, 6, .inl C)), (r0, .inr (0, [.ref rk, .ref rl, .ref rc, .int N2])), (rk, .inl (cI, 6, .inl K2)), (rl, .inl (cI, 6, .inl L2)), (rc, .inl (cI, 6, .inl C2))]) s.heap := hP
  have hin0 : ∀ w ∈ wsX00, w ∈ wsX4_safe := by decide +kernel
  have hin4 : ∀ w ∈ wsX40, w ∈ wsX4_safe := by decide +kernel
  have kf_12 := hts (.fieldLink RX4 12 "RicherChange" "town" "LRicherChange$City;") (by decide +kernel)
  have kf_18 := hts (.fieldLink RX4 18 "RicherChange" "trial" "LRicherChange$City;") (by decide +kernel)
  have hn_82 := va_Nw.use (A := [.ref x0, .int i1, .int i2].toArray) rfl hN.2.1
  have hl := lv_entry ([.ref x0, .int i1, .int i2]) (n := 5) (Nat.le_of_ble_eq_true rfl)
  rw [lg_entry_eq]
  generalize (lg_sl ([.ref x0, .int i1, .int i2]) ++ List.replicate (5 - (lg_sl ([.ref x0, .int i1, .int i2])).length) Slot.unset).toArray = ls at hl ⊢
  have hl : lv_has ls 5 [(0, .ref x0), (1, .int i1), (2, .int i2)] := hl
  have lp_47 : ∀ (n : Nat) (v4 : Int32) (N2_ : Int32) (K2_ : Nat → Int32) (L2_ : Nat → Int32) (C2_ : Nat → Int32) (H : Heap) (locs : List Loc) (ls : Array Slot), (upe v4 (L i1.toNatClampNeg) n) → (vp_in i1 6) → (N2_.toInt ≤ 6) → va_P (dC, dI) vwCl ([(x0, .inr (4, [.ref t0, .ref r0, .ref y0, .ref g0, .ref w0, .int TR, .int LF])), (t0, .inr (0, [.ref tk, .ref tl, .ref tc, .int N])), (tk, .inl (cI, 6, .inl K)), (tl, .inl (cI, 6, .inl L)), (tc, .inl (cI, 6, .inl C)), (r0, .inr (0, [.ref rk, .ref rl, .ref rc, .int N2_])), (rk, .inl (cI, 6, .inl K2_)), (rl, .inl (cI, 6, .inl L2_)), (rc, .inl (cI, 6, .inl C2_))]) H → va_D A ([(x0, .inr (4, [.ref t0, .ref r0, .ref y0, .ref g0, .ref w0, .int TR, .int LF])), (t0, .inr (0, [.ref tk, .ref tl, .ref tc, .int N])), (tk, .inl (cI, 6, .inl K)), (tl, .inl (cI, 6, .inl L)), (tc, .inl (cI, 6, .inl C)), (r0, .inr (0, [.ref rk, .ref rl, .ref rc, .int N2_])), (rk, .inl (cI, 6, .inl K2_)), (rl, .inl (cI, 6, .inl L2_)), (rc, .inl (cI, 6, .inl C2_))]) → va_S A s.heap H locs → lv_has ls 5 [(4, .int v4), (3, .int (L i1.toNatClampNeg)), (0, .ref x0), (1, .int i1), (2, .int i2)] → p4_safe N K L C N2 K2 L2 C2 i1 i2 = p4_safe_l47 N K L C N2 K2 L2 C2 i1 i2 n v4 N2_ K2_ L2_ C2_ → W p l e (headSpec wsX4_safe rmX4_safe).room s m [.ref x0, .int i1, .int i2].toArray below meth c H locs 0 0 (MQ below (QX4_safe dC dI A cI x0 t0 r0 y0 g0 w0 tk tl tc rk rl rc TR LF N K L C N2 K2 L2 C2 i1 i2) [.ref x0, .int i1, .int i2].toArray s 0 0 A) (F0 m 47 ls []) := by
    intro n
    induction n with
    | zero => intro v4 N2_ K2_ L2_ C2_ _ _ _ hu hj1 hN2; exact absurd hu upe_no
    | succ n ih =>
      intro v4 N2_ K2_ L2_ C2_ H locs ls hu hj1 hN2 hP hD hS hl hE
      refine lv_iload hx hb dX4_safe_47 (lv_at hl 0 rfl) ?_
      refine lv_iload_n hx hb dX4_safe_49 rfl (lv_at hl 1 rfl) ?_
      refine lv_icmp_gt (tgt := 83) hx hb dX4_safe_50 (by decide) (fun c_50 => ?_) (fun c_50 => ?_)
      · skip
        refine lv_bipush (v := (-9)) hx hb dX4_safe_83 (by decide) ?_
        have hE9 : p4_safe N K L C N2 K2 L2 C2 i1 i2 = ((-9), N2_, K2_, L2_, C2_) := hE.trans (by rw [p4_safe_l47_s, if_pos c_50])
        exact W.iret (v := (-9)) hx hb hr (fun t ht hW => ⟨⟨_, (), rfl, by rw [hE9], by show va_P (dC, dI) vwCl _ t.heap; rw [ht, hE9]; exact hP⟩, hS.F ht⟩) hS.2.2 dX4_safe_85
      · skip
        refine lv_aload_n hx hb dX4_safe_53 rfl (lv_at hl 2 rfl) ?_
        refine va_get (D := (dC, dI)) (ci := 4) (v := .ref r0) (C := RX4) (T := TX4) (N := 7) hx hb hts hin4 hown hK hP 0 rfl rfl 1 (by decide) kf_18 (fun _ h9 => h9) rfl dX4_safe_54 ?_
        refine lv_iload_n hx hb dX4_safe_57 rfl (lv_at hl 3 rfl) ?_
        refine lv_iload_n hx hb dX4_safe_58 rfl (lv_at hl 4 rfl) ?_
        have hPc := hP.sub (ws' := [(r0, .inr (0, [.ref rk, .ref rl, .ref rc, .int N2_])), (rk, .inl (cI, 6, .inl K2_)), (rl, .inl (cI, 6, .inl L2_)), (rc, .inl (cI, 6, .inl C2_))]) [5, 6, 7, 8] rfl
        have hDc := hD.sub (ws' := [(r0, .inr (0, [.ref rk, .ref rl, .ref rc, .int N2_])), (rk, .inl (cI, 6, .inl K2_)), (rl, .inl (cI, 6, .inl L2_)), (rc, .inl (cI, 6, .inl C2_))]) [5, 6, 7, 8] (by decide) rfl
        have hKc := hK.sub (tys' := [(cI, .int)]) [0] rfl
        have hFc := va_free (wc := [(r0, .inr (0, [.ref rk, .ref rl, .ref rc, .int N2_])), (rk, .inl (cI, 6, .inl K2_)), (rl, .inl (cI, 6, .inl L2_)), (rc, .inl (cI, 6, .inl C2_))]) hD hS hA [5, 6, 7, 8] rfl
        refine va_calli (va_runV (As := [.int i1, .int i2]) (rest := []) ⟨hx, hb, hml, hown, hts⟩ (ctX0_isPointedAt l dC dI cI r0 rk rl rc H.size N2_ K2_ L2_ C2_ i1 i2 hN2) (cwV 2 hts gX4_safe_X0_isPointedAt rfl rfl rfl (by decide +kernel) ⟨Nat.le_of_ble_eq_true rfl, Nat.le_of_ble_eq_true rfl⟩) (pre_V hKc hN hPc hDc (RX0, TX0, 4) 0 0 rfl rfl) rfl rfl hl.1 rfl (lv_room (Nat.le_of_ble_eq_true rfl)) dX4_safe_59 ⟨Nat.le_of_ble_eq_true rfl, Nat.le_of_ble_eq_true rfl⟩) hS (fun q _ h => hFc q h) hFc (fun r _ t H locs ht hvm hw hB hz1 hk1 hS => ?_)
        try dsimp only at hw
        subst hw
        rw [ht] at hB
        obtain ⟨hP, hD⟩ := rw_join ([(x0, .inr (4, [.ref t0, .ref r0, .ref y0, .ref g0, .ref w0, .int TR, .int LF])), (t0, .inr (0, [.ref tk, .ref tl, .ref tc, .int N])), (tk, .inl (cI, 6, .inl K)), (tl, .inl (cI, 6, .inl L)), (tc, .inl (cI, 6, .inl C)), (r0, .inr (0, [.ref rk, .ref rl, .ref rc, .int N2_])), (rk, .inl (cI, 6, .inl K2_)), (rl, .inl (cI, 6, .inl L2_)), (rc, .inl (cI, 6, .inl C2_))]) ([(x0, .inr (4, [.ref t0, .ref r0, .ref y0, .ref g0, .ref w0, .int TR, .int LF])), (t0, .inr (0, [.ref tk, .ref tl, .ref tc, .int N])), (tk, .inl (cI, 6, .inl K)), (tl, .inl (cI, 6, .inl L)), (tc, .inl (cI, 6, .inl C)), (r0, .inr (0, [.ref rk, .ref rl, .ref rc, .int N2_])), (rk, .inl (cI, 6, .inl K2_)), (rl, .inl (cI, 6, .inl L2_)), (rc, .inl (cI, 6, .inl C2_))]) ([(r0, .inr (0, [.ref rk, .ref rl, .ref rc, .int N2_])), (rk, .inl (cI, 6, .inl K2_)), (rl, .inl (cI, 6, .inl L2_)), (rc, .inl (cI, 6, .inl C2_))]) ([(r0, .inr (0, [.ref rk, .ref rl, .ref rc, .int N2_])), (rk, .inl (cI, 6, .inl K2_)), (rl, .inl (cI, 6, .inl L2_)), (rc, .inl (cI, 6, .inl C2_))]) ([(x0, .inr (4, [.ref t0, .ref r0, .ref y0, .ref g0, .ref w0, .int TR, .int LF])), (t0, .inr (0, [.ref tk, .ref tl, .ref tc, .int N])), (tk, .inl (cI, 6, .inl K)), (tl, .inl (cI, 6, .inl L)), (tc, .inl (cI, 6, .inl C))]) hP hD [5, 6, 7, 8] [0, 1, 2, 3, 4] [x0, t0, tk, tl, tc, r0, rk, rl, rc] 9 rfl rfl rfl rfl rfl (by decide) rfl rfl hk1 hB
        refine lv_if_ne (tgt := 68) hx hb dX4_safe_62 (by decide) (fun c_62 => ?_) (fun c_62 => ?_)
        · skip
          refine lv_aload_n hx hb dX4_safe_68 rfl (lv_at hl 2 rfl) ?_
          refine va_get (D := (dC, dI)) (ci := 4) (v := .ref r0) (C := RX4) (T := TX4) (N := 7) hx hb hts hin4 hown hK hP 0 rfl rfl 1 (by decide) kf_18 (fun _ h9 => h9) rfl dX4_safe_69 ?_
          refine lv_iload_n hx hb dX4_safe_72 rfl (lv_at hl 3 rfl) ?_
          refine lv_iconst (v := 1) hx hb dX4_safe_73 (by decide) ?_
          have hPc := hP.sub (ws' := [(r0, .inr (0, [.ref rk, .ref rl, .ref rc, .int N2_])), (rk, .inl (cI, 6, .inl K2_)), (rl, .inl (cI, 6, .inl L2_)), (rc, .inl (cI, 6, .inl C2_))]) [5, 6, 7, 8] rfl
          have hDc := hD.sub (ws' := [(r0, .inr (0, [.ref rk, .ref rl, .ref rc, .int N2_])), (rk, .inl (cI, 6, .inl K2_)), (rl, .inl (cI, 6, .inl L2_)), (rc, .inl (cI, 6, .inl C2_))]) [5, 6, 7, 8] (by decide) rfl
          have hKc := hK.sub (tys' := [(cI, .int)]) [0] rfl
          have hFc := va_free (wc := [(r0, .inr (0, [.ref rk, .ref rl, .ref rc, .int N2_])), (rk, .inl (cI, 6, .inl K2_)), (rl, .inl (cI, 6, .inl L2_)), (rc, .inl (cI, 6, .inl C2_))]) hD hS hA [5, 6, 7, 8] rfl
          refine va_callv (va_runV (As := [.int i1, .int 1]) (rest := []) ⟨hx, hb, hml, hown, hts⟩ (ctX0_turnToCoin l dC dI cI r0 rk rl rc H.size N2_ K2_ L2_ C2_ i1 1 (by assumption)) (cwV 2 hts gX4_safe_X0_turnToCoin rfl rfl rfl (by decide +kernel) ⟨Nat.le_of_ble_eq_true rfl, Nat.le_of_ble_eq_true rfl⟩) (pre_V hKc hN hPc hDc (RX0, TX0, 4) 0 0 rfl rfl) rfl rfl hl.1 rfl (lv_room (Nat.le_of_ble_eq_true rfl)) dX4_safe_74 ⟨Nat.le_of_ble_eq_true rfl, Nat.le_of_ble_eq_true rfl⟩) hS (fun q _ h => hFc q h) hFc (fun _ t H locs ht hvm hw hB hz1 hk1 hS => ?_)
          rw [ht] at hB
          refine nm_gen ((p0_turnToCoin L2_ C2_ i1 1).1) (fun L2_74 eL2_74 => ?_)
          rw [eL2_74] at hB
          refine nm_gen ((p0_turnToCoin L2_ C2_ i1 1).2) (fun C2_74 eC2_74 => ?_)
          rw [eC2_74] at hB
          obtain ⟨hP, hD⟩ := rw_join ([(x0, .inr (4, [.ref t0, .ref r0, .ref y0, .ref g0, .ref w0, .int TR, .int LF])), (t0, .inr (0, [.ref tk, .ref tl, .ref tc, .int N])), (tk, .inl (cI, 6, .inl K)), (tl, .inl (cI, 6, .inl L)), (tc, .inl (cI, 6, .inl C)), (r0, .inr (0, [.ref rk, .ref rl, .ref rc, .int N2_])), (rk, .inl (cI, 6, .inl K2_)), (rl, .inl (cI, 6, .inl L2_)), (rc, .inl (cI, 6, .inl C2_))]) ([(x0, .inr (4, [.ref t0, .ref r0, .ref y0, .ref g0, .ref w0, .int TR, .int LF])), (t0, .inr (0, [.ref tk, .ref tl, .ref tc, .int N])), (tk, .inl (cI, 6, .inl K)), (tl, .inl (cI, 6, .inl L)), (tc, .inl (cI, 6, .inl C)), (r0, .inr (0, [.ref rk, .ref rl, .ref rc, .int N2_])), (rk, .inl (cI, 6, .inl K2_)), (rl, .inl (cI, 6, .inl L2_74)), (rc, .inl (cI, 6, .inl C2_74))]) ([(r0, .inr (0, [.ref rk, .ref rl, .ref rc, .int N2_])), (rk, .inl (cI, 6, .inl K2_)), (rl, .inl (cI, 6, .inl L2_)), (rc, .inl (cI, 6, .inl C2_))]) ([(r0, .inr (0, [.ref rk, .ref rl, .ref rc, .int N2_])), (rk, .inl (cI, 6, .inl K2_)), (rl, .inl (cI, 6, .inl L2_74)), (rc, .inl (cI, 6, .inl C2_74))]) ([(x0, .inr (4, [.ref t0, .ref r0, .ref y0, .ref g0, .ref w0, .int TR, .int LF])), (t0, .inr (0, [.ref tk, .ref tl, .ref tc, .int N])), (tk, .inl (cI, 6, .inl K)), (tl, .inl (cI, 6, .inl L)), (tc, .inl (cI, 6, .inl C))]) hP hD [5, 6, 7, 8] [0, 1, 2, 3, 4] [x0, t0, tk, tl, tc, r0, rk, rl, rc] 9 rfl rfl rfl rfl rfl (by decide) rfl rfl hk1 hB
          refine lv_iinc (v := (v4 + 1)) (lv' := [(4, .int (v4 + 1)), (3, .int (L i1.toNatClampNeg)), (0, .ref x0), (1, .int i1), (2, .int i2)]) hx hb dX4_safe_77 hl (k := 0) rfl rfl (by decide) rfl (fun ls hl => ?_)
          refine lv_goto (tgt := 47) hx hb dX4_safe_80 (by decide) ?_
          exact ih (v4 + 1) N2_ K2_ L2_74 C2_74 _ _ _ (upe_s hu c_50 (by have := hL18 i1.toNatClampNeg; omega)) hj1 hN2 hP hD hS (lv_sub hl [0, 1, 2, 3, 4] rfl) (hE.trans (by rw [p4_safe_l47_s]; simp only [eL2_74, eC2_74]; rw [if_neg c_50, if_neg c_62]))
        · skip
          refine lv_iload hx hb dX4_safe_65 (lv_at hl 0 rfl) ?_
          have hE9 : p4_safe N K L C N2 K2 L2 C2 i1 i2 = (v4, N2_, K2_, L2_, C2_) := hE.trans (by rw [p4_safe_l47_s, if_neg c_50, if_pos c_62])
          exact W.iret (v := v4) hx hb hr (fun t ht hW => ⟨⟨_, (), rfl, by rw [hE9], by show va_P (dC, dI) vwCl _ t.heap; rw [ht, hE9]; exact hP⟩, hS.F ht⟩) hS.2.2 dX4_safe_67
  refine lv_aload_n hx hb dX4_safe_0 rfl (lv_at hl 0 rfl) ?_
  refine va_get (D := (dC, dI)) (ci := 4) (v := .ref t0) (C := RX4) (T := TX4) (N := 7) hx hb hts hin4 hown hK hP 0 rfl rfl 0 (by decide) kf_12 (fun _ h9 => h9) rfl dX4_safe_1 ?_
  refine lv_iload_n hx hb dX4_safe_4 rfl (lv_at hl 1 rfl) ?_
  have hPc := hP.sub (ws' := [(t0, .inr (0, [.ref tk, .ref tl, .ref tc, .int N]))]) [1] rfl
  have hDc := hD.sub (ws' := [(t0, .inr (0, [.ref tk, .ref tl, .ref tc, .int N]))]) [1] (by decide) rfl
  have hKc := hK.sub (tys' := [(cI, .int)]) [0] rfl
  have hFc := va_free (wc := [(t0, .inr (0, [.ref tk, .ref tl, .ref tc, .int N]))]) hD hS hA [1] rfl
  refine va_calli (va_runV (As := [.int i1]) (rest := []) ⟨hx, hb, hml, hown, hts⟩ (ctX0_has l dC dI cI t0 tk tl tc s.heap.size N i1) (cwV 1 hts gX4_safe_X0_has rfl rfl rfl (by decide +kernel) ⟨Nat.le_of_ble_eq_true rfl, Nat.le_of_ble_eq_true rfl⟩) (pre_V hKc hN hPc hDc (RX0, TX0, 4) 0 0 rfl rfl) rfl rfl hl.1 rfl (lv_room (Nat.le_of_ble_eq_true rfl)) dX4_safe_5 ⟨Nat.le_of_ble_eq_true rfl, Nat.le_of_ble_eq_true rfl⟩) hS (fun q _ h => hFc q h) hFc (fun r _ t H locs ht hvm hw hB hz1 hk1 hS => ?_)
  try dsimp only at hw
  subst hw
  rw [ht] at hB
  obtain ⟨hP, hD⟩ := rw_join ([(x0, .inr (4, [.ref t0, .ref r0, .ref y0, .ref g0, .ref w0, .int TR, .int LF])), (t0, .inr (0, [.ref tk, .ref tl, .ref tc, .int N])), (tk, .inl (cI, 6, .inl K)), (tl, .inl (cI, 6, .inl L)), (tc, .inl (cI, 6, .inl C)), (r0, .inr (0, [.ref rk, .ref rl, .ref rc, .int N2])), (rk, .inl (cI, 6, .inl K2)), (rl, .inl (cI, 6, .inl L2)), (rc, .inl (cI, 6, .inl C2))]) ([(x0, .inr (4, [.ref t0, .ref r0, .ref y0, .ref g0, .ref w0, .int TR, .int LF])), (t0, .inr (0, [.ref tk, .ref tl, .ref tc, .int N])), (tk, .inl (cI, 6, .inl K)), (tl, .inl (cI, 6, .inl L)), (tc, .inl (cI, 6, .inl C)), (r0, .inr (0, [.ref rk, .ref rl, .ref rc, .int N2])), (rk, .inl (cI, 6, .inl K2)), (rl, .inl (cI, 6, .inl L2)), (rc, .inl (cI, 6, .inl C2))]) ([(t0, .inr (0, [.ref tk, .ref tl, .ref tc, .int N]))]) ([(t0, .inr (0, [.ref tk, .ref tl, .ref tc, .int N]))]) ([(x0, .inr (4, [.ref t0, .ref r0, .ref y0, .ref g0, .ref w0, .int TR, .int LF])), (tk, .inl (cI, 6, .inl K)), (tl, .inl (cI, 6, .inl L)), (tc, .inl (cI, 6, .inl C)), (r0, .inr (0, [.ref rk, .ref rl, .ref rc, .int N2])), (rk, .inl (cI, 6, .inl K2)), (rl, .inl (cI, 6, .inl L2)), (rc, .inl (cI, 6, .inl C2))]) hP hD [1] [0, 2, 3, 4, 5, 6, 7, 8] [x0, t0, tk, tl, tc, r0, rk, rl, rc] 9 rfl rfl rfl rfl rfl (by decide) rfl rfl hk1 hB
  refine lv_if_ne (tgt := 13) hx hb dX4_safe_8 (by decide) (fun c_8 => ?_) (fun c_8 => ?_)
  · skip
    have j1 : vp_in i1 6 := has_in hNb c_8
    refine lv_iload_n hx hb dX4_safe_13 rfl (lv_at hl 2 rfl) ?_
    have hPc : va_P (dC, dI) vwCl [] H := hP.sub (ws' := []) [] rfl
    have hDc : va_D A [] := hD.sub (ws' := []) [] (by decide) rfl
    have hKc := hK.sub (tys' := [(cI, .int)]) [0] rfl
    have hFc := va_free (wc := []) hD hS hA [] rfl
    refine va_calli (va_runS (As := [.int i2]) (rest := []) ⟨hx, hb, hml, hown, hts⟩ (ctX4_isCost l dC dI cI H.size i2) (va_cwS 1 hts gX4_safe_X4_isCost rfl rfl rfl (by decide +kernel) ⟨Nat.le_of_ble_eq_true rfl, Nat.le_of_ble_eq_true rfl⟩) (pre_S hKc hN hPc hDc) rfl rfl hl.1 rfl (lv_room (Nat.le_of_ble_eq_true rfl)) dX4_safe_14 ⟨Nat.le_of_ble_eq_true rfl, Nat.le_of_ble_eq_true rfl⟩) hS (fun q _ h => hFc q h) hFc (fun r _ t H locs ht hvm hw hB hz1 hk1 hS => ?_)
    try dsimp only at hw
    subst hw
    rw [ht] at hB
    obtain ⟨hP, hD⟩ := rw_join ([(x0, .inr (4, [.ref t0, .ref r0, .ref y0, .ref g0, .ref w0, .int TR, .int LF])), (t0, .inr (0, [.ref tk, .ref tl, .ref tc, .int N])), (tk, .inl (cI, 6, .inl K)), (tl, .inl (cI, 6, .inl L)), (tc, .inl (cI, 6, .inl C)), (r0, .inr (0, [.ref rk, .ref rl, .ref rc, .int N2])), (rk, .inl (cI, 6, .inl K2)), (rl, .inl (cI, 6, .inl L2)), (rc, .inl (cI, 6, .inl C2))]) ([(x0, .inr (4, [.ref t0, .ref r0, .ref y0, .ref g0, .ref w0, .int TR, .int LF])), (t0, .inr (0, [.ref tk, .ref tl, .ref tc, .int N])), (tk, .inl (cI, 6, .inl K)), (tl, .inl (cI, 6, .inl L)), (tc, .inl (cI, 6, .inl C)), (r0, .inr (0, [.ref rk, .ref rl, .ref rc, .int N2])), (rk, .inl (cI, 6, .inl K2)), (rl, .inl (cI, 6, .inl L2)), (rc, .inl (cI, 6, .inl C2))]) ([]) ([]) ([(x0, .inr (4, [.ref t0, .ref r0, .ref y0, .ref g0, .ref w0, .int TR, .int LF])), (t0, .inr (0, [.ref tk, .ref tl, .ref tc, .int N])), (tk, .inl (cI, 6, .inl K)), (tl, .inl (cI, 6, .inl L)), (tc, .inl (cI, 6, .inl C)), (r0, .inr (0, [.ref rk, .ref rl, .ref rc, .int N2])), (rk, .inl (cI, 6, .inl K2)), (rl, .inl (cI, 6, .inl L2)), (rc, .inl (cI, 6, .inl C2))]) hP hD [] [0, 1, 2, 3, 4, 5, 6, 7, 8] [x0, t0, tk, tl, tc, r0, rk, rl, rc] 9 rfl rfl rfl rfl rfl (by decide) rfl rfl hk1 hB
    refine lv_if_ne (tgt := 23) hx hb dX4_safe_17 (by decide) (fun c_17 => ?_) (fun c_17 => ?_)
    · skip
      refine lv_aload_n hx hb dX4_safe_23 rfl (lv_at hl 0 rfl) ?_
      refine va_get (D := (dC, dI)) (ci := 4) (v := .ref r0) (C := RX4) (T := TX4) (N := 7) hx hb hts hin4 hown hK hP 0 rfl rfl 1 (by decide) kf_18 (fun _ h9 => h9) rfl dX4_safe_24 ?_
      refine lv_aload_n hx hb dX4_safe_27 rfl (lv_at hl 0 rfl) ?_
      refine va_get (D := (dC, dI)) (ci := 4) (v := .ref t0) (C := RX4) (T := TX4) (N := 7) hx hb hts hin4 hown hK hP 0 rfl rfl 0 (by decide) kf_12 (fun _ h9 => h9) rfl dX4_safe_28 ?_
      have hPc := hP.sub (ws' := [(r0, .inr (0, [.ref rk, .ref rl, .ref rc, .int N2])), (rk, .inl (cI, 6, .inl K2)), (rl, .inl (cI, 6, .inl L2)), (rc, .inl (cI, 6, .inl C2)), (t0, .inr (0, [.ref tk, .ref tl, .ref tc, .int N])), (tk, .inl (cI, 6, .inl K)), (tl, .inl (cI, 6, .inl L)), (tc, .inl (cI, 6, .inl C))]) [5, 6, 7, 8, 1, 2, 3, 4] rfl
      have hDc := hD.sub (ws' := [(r0, .inr (0, [.ref rk, .ref rl, .ref rc, .int N2])), (rk, .inl (cI, 6, .inl K2)), (rl, .inl (cI, 6, .inl L2)), (rc, .inl (cI, 6, .inl C2)), (t0, .inr (0, [.ref tk, .ref tl, .ref tc, .int N])), (tk, .inl (cI, 6, .inl K)), (tl, .inl (cI, 6, .inl L)), (tc, .inl (cI, 6, .inl C))]) [5, 6, 7, 8, 1, 2, 3, 4] (by decide) rfl
      have hKc := hK.sub (tys' := [(cI, .int)]) [0] rfl
      have hFc := va_free (wc := [(r0, .inr (0, [.ref rk, .ref rl, .ref rc, .int N2])), (rk, .inl (cI, 6, .inl K2)), (rl, .inl (cI, 6, .inl L2)), (rc, .inl (cI, 6, .inl C2)), (t0, .inr (0, [.ref tk, .ref tl, .ref tc, .int N])), (tk, .inl (cI, 6, .inl K)), (tl, .inl (cI, 6, .inl L)), (tc, .inl (cI, 6, .inl C))]) hD hS hA [5, 6, 7, 8, 1, 2, 3, 4] rfl
      refine va_callv (va_runV (As := [.ref t0]) (rest := []) ⟨hx, hb, hml, hown, hts⟩ (ctX0_likeThat l dC dI cI r0 rk rl rc t0 tk tl tc H.size N2 K2 L2 C2 N K L C) (cwV 1 hts gX4_safe_X0_likeThat rfl rfl rfl (by decide +kernel) ⟨Nat.le_of_ble_eq_true rfl, Nat.le_of_ble_eq_true rfl⟩) (pre_V hKc hN hPc hDc (RX0, TX0, 4) 0 0 rfl rfl) rfl rfl hl.1 rfl (lv_room (Nat.le_of_ble_eq_true rfl)) dX4_safe_31 ⟨Nat.le_of_ble_eq_true rfl, Nat.le_of_ble_eq_true rfl⟩) hS (fun q _ h => hFc q h) hFc (fun _ t H locs ht hvm hw hB hz1 hk1 hS => ?_)
      rw [ht] at hB
      refine nm_gen ((p0_likeThat N2 K2 L2 C2 N K L C).1) (fun N2_31 eN2_31 => ?_)
      rw [eN2_31] at hB
      refine nm_gen ((p0_likeThat N2 K2 L2 C2 N K L C).2.1) (fun K2_31 eK2_31 => ?_)
      rw [eK2_31] at hB
      refine nm_gen ((p0_likeThat N2 K2 L2 C2 N K L C).2.2.1) (fun L2_31 eL2_31 => ?_)
      rw [eL2_31] at hB
      refine nm_gen ((p0_likeThat N2 K2 L2 C2 N K L C).2.2.2) (fun C2_31 eC2_31 => ?_)
      rw [eC2_31] at hB
      obtain ⟨hP, hD⟩ := rw_join ([(x0, .inr (4, [.ref t0, .ref r0, .ref y0, .ref g0, .ref w0, .int TR, .int LF])), (t0, .inr (0, [.ref tk, .ref tl, .ref tc, .int N])), (tk, .inl (cI, 6, .inl K)), (tl, .inl (cI, 6, .inl L)), (tc, .inl (cI, 6, .inl C)), (r0, .inr (0, [.ref rk, .ref rl, .ref rc, .int N2])), (rk, .inl (cI, 6, .inl K2)), (rl, .inl (cI, 6, .inl L2)), (rc, .inl (cI, 6, .inl C2))]) ([(x0, .inr (4, [.ref t0, .ref r0, .ref y0, .ref g0, .ref w0, .int TR, .int LF])), (t0, .inr (0, [.ref tk, .ref tl, .ref tc, .int N])), (tk, .inl (cI, 6, .inl K)), (tl, .inl (cI, 6, .inl L)), (tc, .inl (cI, 6, .inl C)), (r0, .inr (0, [.ref rk, .ref rl, .ref rc, .int N2_31])), (rk, .inl (cI, 6, .inl K2_31)), (rl, .inl (cI, 6, .inl L2_31)), (rc, .inl (cI, 6, .inl C2_31))]) ([(r0, .inr (0, [.ref rk, .ref rl, .ref rc, .int N2])), (rk, .inl (cI, 6, .inl K2)), (rl, .inl (cI, 6, .inl L2)), (rc, .inl (cI, 6, .inl C2)), (t0, .inr (0, [.ref tk, .ref tl, .ref tc, .int N])), (tk, .inl (cI, 6, .inl K)), (tl, .inl (cI, 6, .inl L)), (tc, .inl (cI, 6, .inl C))]) ([(r0, .inr (0, [.ref rk, .ref rl, .ref rc, .int N2_31])), (rk, .inl (cI, 6, .inl K2_31)), (rl, .inl (cI, 6, .inl L2_31)), (rc, .inl (cI, 6, .inl C2_31)), (t0, .inr (0, [.ref tk, .ref tl, .ref tc, .int N])), (tk, .inl (cI, 6, .inl K)), (tl, .inl (cI, 6, .inl L)), (tc, .inl (cI, 6, .inl C))]) ([(x0, .inr (4, [.ref t0, .ref r0, .ref y0, .ref g0, .ref w0, .int TR, .int LF]))]) hP hD [5, 6, 7, 8, 1, 2, 3, 4] [0] [x0, t0, tk, tl, tc, r0, rk, rl, rc] 9 rfl rfl rfl rfl rfl (by decide) rfl rfl hk1 hB
      refine lv_aload_n hx hb dX4_safe_34 rfl (lv_at hl 0 rfl) ?_
      refine va_get (D := (dC, dI)) (ci := 4) (v := .ref t0) (C := RX4) (T := TX4) (N := 7) hx hb hts hin4 hown hK hP 0 rfl rfl 0 (by decide) kf_12 (fun _ h9 => h9) rfl dX4_safe_35 ?_
      refine va_getN (D := (dC, dI)) (ci := 0) (v := .ref tl) (C := RX0) (T := TX0) (N := 4) hx hb hts hin0 hown hK hP 1 rfl rfl 1 (by decide) hn_82 (fun _ h9 => h9) rfl dX4_safe_38 ?_
      refine lv_iload_n hx hb dX4_safe_41 rfl (lv_at hl 1 rfl) ?_
      refine va_iald hx hb hK hP 3 0 rfl rfl (by assumption) dX4_safe_42 ?_
      refine lv_istore_n (lv' := [(3, .int (L i1.toNatClampNeg)), (0, .ref x0), (1, .int i1), (2, .int i2)]) hx hb dX4_safe_43 rfl hl (by decide) rfl (fun ls hl => ?_)
      refine lv_iconst (v := 0) hx hb dX4_safe_44 (by decide) ?_
      refine lv_istore (lv' := [(4, .int 0), (3, .int (L i1.toNatClampNeg)), (0, .ref x0), (1, .int i1), (2, .int i2)]) hx hb dX4_safe_45 hl (by decide) rfl (fun ls hl => ?_)
      exact lp_47 20 0 N2_31 K2_31 L2_31 C2_31 _ _ _ (upe_i 18 (by decide) (hL18 _)) j1 (by rw [← eN2_31]; exact hNb) hP hD hS (lv_sub hl [0, 1, 2, 3, 4] rfl) (by unfold p4_safe; simp only [eN2_31, eK2_31, eL2_31, eC2_31]; rw [if_neg c_8, if_neg c_17])
    · skip
      refine lv_bipush (v := (-2)) hx hb dX4_safe_20 (by decide) ?_
      have hE9 : p4_safe N K L C N2 K2 L2 C2 i1 i2 = ((-2), N2, K2, L2, C2) := by unfold p4_safe; rw [if_neg c_8, if_pos c_17]
      exact W.iret (v := (-2)) hx hb hr (fun t ht hW => ⟨⟨_, (), rfl, by rw [hE9], by show va_P (dC, dI) vwCl _ t.heap; rw [ht, hE9]; exact hP⟩, hS.F ht⟩) hS.2.2 dX4_safe_22
  · skip
    refine lv_iconst (v := (-1)) hx hb dX4_safe_11 (by decide) ?_
    have hE9 : p4_safe N K L C N2 K2 L2 C2 i1 i2 = ((-1), N2, K2, L2, C2) := by unfold p4_safe; rw [if_pos c_8]
    exact W.iret (v := (-1)) hx hb hr (fun t ht hW => ⟨⟨_, (), rfl, by rw [hE9], by show va_P (dC, dI) vwCl _ t.heap; rw [ht, hE9]; exact hP⟩, hS.F ht⟩) hS.2.2 dX4_safe_12

def p4_reading (N : Int32) (GK : Int32) (GN : Nat → Int32) (GC : Nat → Int32) (GH : Nat → Int32) (i1 : Int32) (i2 : Int32) (i3 : Int32) : Int32 × Int32 × (Nat → Int32) × (Nat → Int32) × (Nat → Int32) :=
  if (p0_has N i1) = 0 then
    ((-1), GK, GN, GC, GH)
  else
    if (p0_has N i3) = 0 then
      ((-1), GK, GN, GC, GH)
    else
      if (p4_isCost i2) = 0 then
        ((-2), GK, GN, GC, GH)
      else
        if GK < 8 then
          (((p1_add GK GN GC GH i1 i2 i3).1), ((p1_add GK GN GC GH i1 i2 i3).2.1), ((p1_add GK GN GC GH i1 i2 i3).2.2.1), ((p1_add GK GN GC GH i1 i2 i3).2.2.2.1), ((p1_add GK GN GC GH i1 i2 i3).2.2.2.2))
        else
          ((-4), GK, GN, GC, GH)
abbrev rmX4_reading : Room := { frames := 1, cells := 0, slots := 0, locals := 24 }
abbrev QX4_reading (dC : Nat → ClassId) (dI : Nat → Nat → Nat) (A : Nat → Prop) (cI : ClassId) (x0 : Nat) (t0 : Nat) (r0 : Nat) (y0 : Nat) (g0 : Nat) (w0 : Nat) (tk : Nat) (tl : Nat) (tc : Nat) (gn : Nat) (gc : Nat) (gh : Nat) (TR : Int32) (LF : Int32) (N : Int32) (K : Nat → Int32) (L : Nat → Int32) (C : Nat → Int32) (GK : Int32) (GN : Nat → Int32) (GC : Nat → Int32) (GH : Nat → Int32) (i1 : Int32) (i2 : Int32) (i3 : Int32) : Array Value → State → Outcome → State → Prop := va_Qi (fun (r : Int32) (_ : Unit) => r = (p4_reading N GK GN GC GH i1 i2 i3).1) (fun (_ : Unit) (t : State) => va_P (dC, dI) vwCl ([(x0, .inr (4, [.ref t0, .ref r0, .ref y0, .ref g0, .ref w0, .int TR, .int LF])), (t0, .inr (0, [.ref tk, .ref tl, .ref tc, .int N])), (tk, .inl (cI, 6, .inl K)), (tl, .inl (cI, 6, .inl L)), (tc, .inl (cI, 6, .inl C)), (g0, .inr (1, [.ref gn, .ref gc, .ref gh, .int ((p4_reading N GK GN GC GH i1 i2 i3).2.1)])), (gn, .inl (cI, 8, .inl ((p4_reading N GK GN GC GH i1 i2 i3).2.2.1))), (gc, .inl (cI, 8, .inl ((p4_reading N GK GN GC GH i1 i2 i3).2.2.2.1))), (gh, .inl (cI, 8, .inl ((p4_reading N GK GN GC GH i1 i2 i3).2.2.2.2)))]) t.heap) A
set_option maxHeartbeats 4000000 in
set_option maxRecDepth 100000 in
theorem ctX4_reading (l : Launch) (dC : Nat → ClassId) (dI : Nat → Nat → Nat) (cI : ClassId) (x0 : Nat) (t0 : Nat) (r0 : Nat) (y0 : Nat) (g0 : Nat) (w0 : Nat) (tk : Nat) (tl : Nat) (tc : Nat) (gn : Nat) (gc : Nat) (gh : Nat) (sz : Nat) (TR : Int32) (LF : Int32) (N : Int32) (K : Nat → Int32) (L : Nat → Int32) (C : Nat → Int32) (GK : Int32) (GN : Nat → Int32) (GC : Nat → Int32) (GH : Nat → Int32) (i1 : Int32) (i2 : Int32) (i3 : Int32) (hNb : N.toInt ≤ 6) (hg0 : 0 ≤ GK.toInt) : Met l yX4_reading wsX4_reading rmX4_reading (va_Pc [.ref x0, .int i1, .int i2, .int i3] (cP dC dI [(cI, .int)] ([(x0, .inr (4, [.ref t0, .ref r0, .ref y0, .ref g0, .ref w0, .int TR, .int LF])), (t0, .inr (0, [.ref tk, .ref tl, .ref tc, .int N])), (tk, .inl (cI, 6, .inl K)), (tl, .inl (cI, 6, .inl L)), (tc, .inl (cI, 6, .inl C)), (g0, .inr (1, [.ref gn, .ref gc, .ref gh, .int GK])), (gn, .inl (cI, 8, .inl GN)), (gc, .inl (cI, 8, .inl GC)), (gh, .inl (cI, 8, .inl GH))]) sz)) (QX4_reading dC dI (va_A ([(x0, .inr (4, [.ref t0, .ref r0, .ref y0, .ref g0, .ref w0, .int TR, .int LF])), (t0, .inr (0, [.ref tk, .ref tl, .ref tc, .int N])), (tk, .inl (cI, 6, .inl K)), (tl, .inl (cI, 6, .inl L)), (tc, .inl (cI, 6, .inl C)), (g0, .inr (1, [.ref gn, .ref gc, .ref gh, .int GK])), (gn, .inl (cI, 8, .inl GN)), (gc, .inl (cI, 8, .inl GC)), (gh, .inl (cI, 8, .inl GH))]) sz) cI x0 t0 r0 y0 g0 w0 tk tl tc gn gc gh TR LF N K L C GK GN GC GH i1 i2 i3) 0 0 (va_A ([(x0, .inr (4, [.ref t0, .ref r0, .ref y0, .ref g0, .ref w0, .int TR, .int LF])), (t0, .inr (0, [.ref tk, .ref tl, .ref tc, .int N])), (tk, .inl (cI, 6, .inl K)), (tl, .inl (cI, 6, .inl L)), (tc, .inl (cI, 6, .inl C)), (g0, .inr (1, [.ref gn, .ref gc, .ref gh, .int GK])), (gn, .inl (cI, 8, .inl GN)), (gc, .inl (cI, 8, .inl GC)), (gh, .inl (cI, 8, .inl GH))]) sz) := by
  refine Met.ofW (cc := cX4_reading) (maxL := 4) (ret := (some .int)) (by decide) rfl ?_
  intro p e s m args below meth c s₁ B hml hv
  obtain ⟨rfl, hsz, hP, hK, hD0, hN⟩ := hv
  have hx := B.exec
  have hb := B.bytes
  have hr := B.returns
  have hts := atoms_spec (ws := wsX4_reading) B.pre
  have hown : s.vm.findClass RX4 = some m.cls := findClass_of_methodNamed B.named
  have hlocks := B.notSynchronized
  subst hsz
  have hD := hD0.self (sz := s.heap.size)
  generalize hAe : va_A ([(x0, .inr (4, [.ref t0, .ref r0, .ref y0, .ref g0, .ref w0, .int TR, .int LF])), (t0, .inr (0, [.ref tk, .ref tl, .ref tc, .int N])), (tk, .inl (cI, 6, .inl K)), (tl, .inl (cI, 6, .inl L)), (tc, .inl (cI, 6, .inl C)), (g0, .inr (1, [.ref gn, .ref gc, .ref gh, .int GK])), (gn, .inl (cI, 8, .inl GN)), (gc, .inl (cI, 8, .inl GC)), (gh, .inl (cI, 8, .inl GH))]) s.heap.size = A at hD ⊢
  have hA : ∀ q : Nat, s.heap.size ≤ q → A q := fun q h => by rw [← hAe]; exact Or.inr h
  have hS : va_S A s.heap s.heap [] := va_S.rf
  have hP : va_P (dC, dI) vwCl ([(x0, .inr (4, [.ref t0, .ref r0, .ref y0, .ref g0, .ref w0, .int TR, .int LF])), (t0, .inr (0, [.ref tk, .ref tl, .ref tc, .int N])), (tk, .inl (cI, 6, .inl K)), (tl, .inl (cI, 6, .inl L)), (tc, .inl (cI, 6, .inl C)), (g0, .inr (1, [.ref gn, .ref gc, .ref gh, .int GK])), (gn, .inl (cI, 8, .inl GN)), (gc, .inl (cI, 8, .inl GC)), (gh, .inl (cI, 8, .inl GH))]) s.heap := hP
  have hin1 : ∀ w ∈ wsX10, w ∈ wsX4_reading := by decide +kernel
  have hin4 : ∀ w ∈ wsX40, w ∈ wsX4_reading := by decide +kernel
  have kf_12 := hts (.fieldLink RX4 12 "RicherChange" "town" "LRicherChange$City;") (by decide +kernel)
  have kf_31 := hts (.fieldLink RX4 31 "RicherChange" "readings" "LRicherChange$Readings;") (by decide +kernel)
  have hn_138 := va_Nw.use (A := [.ref x0, .int i1, .int i2, .int i3].toArray) rfl hN.2.2.2.2.2.2.1
  have hl := lv_entry ([.ref x0, .int i1, .int i2, .int i3]) (n := 4) (Nat.le_of_ble_eq_true rfl)
  rw [lg_entry_eq]
  generalize (lg_sl ([.ref x0, .int i1, .int i2, .int i3]) ++ List.replicate (4 - (lg_sl ([.ref x0, .int i1, .int i2, .int i3])).length) Slot.unset).toArray = ls at hl ⊢
  have hl : lv_has ls 4 [(0, .ref x0), (1, .int i1), (2, .int i2), (3, .int i3)] := hl
  refine lv_aload_n hx hb dX4_reading_0 rfl (lv_at hl 0 rfl) ?_
  refine va_get (D := (dC, dI)) (ci := 4) (v := .ref t0) (C := RX4) (T := TX4) (N := 7) hx hb hts hin4 hown hK hP 0 rfl rfl 0 (by decide) kf_12 (fun _ h9 => h9) rfl dX4_reading_1 ?_
  refine lv_iload_n hx hb dX4_reading_4 rfl (lv_at hl 1 rfl) ?_
  have hPc := hP.sub (ws' := [(t0, .inr (0, [.ref tk, .ref tl, .ref tc, .int N]))]) [1] rfl
  have hDc := hD.sub (ws' := [(t0, .inr (0, [.ref tk, .ref tl, .ref tc, .int N]))]) [1] (by decide) rfl
  have hKc := hK.sub (tys' := [(cI, .int)]) [0] rfl
  have hFc := va_free (wc := [(t0, .inr (0, [.ref tk, .ref tl, .ref tc, .int N]))]) hD hS hA [1] rfl
  refine va_calli (va_runV (As := [.int i1]) (rest := []) ⟨hx, hb, hml, hown, hts⟩ (ctX0_has l dC dI cI t0 tk tl tc s.heap.size N i1) (cwV 1 hts gX4_reading_X0_has rfl rfl rfl (by decide +kernel) ⟨Nat.le_of_ble_eq_true rfl, Nat.le_of_ble_eq_true rfl⟩) (pre_V hKc hN hPc hDc (RX0, TX0, 4) 0 0 rfl rfl) rfl rfl hl.1 rfl (lv_room (Nat.le_of_ble_eq_true rfl)) dX4_reading_5 ⟨Nat.le_of_ble_eq_true rfl, Nat.le_of_ble_eq_true rfl⟩) hS (fun q _ h => hFc q h) hFc (fun r _ t H locs ht hvm hw hB hz1 hk1 hS => ?_)
  try dsimp only at hw
  subst hw
  rw [ht] at hB
  obtain ⟨hP, hD⟩ := rw_join ([(x0, .inr (4, [.ref t0, .ref r0, .ref y0, .ref g0, .ref w0, .int TR, .int LF])), (t0, .inr (0, [.ref tk, .ref tl, .ref tc, .int N])), (tk, .inl (cI, 6, .inl K)), (tl, .inl (cI, 6, .inl L)), (tc, .inl (cI, 6, .inl C)), (g0, .inr (1, [.ref gn, .ref gc, .ref gh, .int GK])), (gn, .inl (cI, 8, .inl GN)), (gc, .inl (cI, 8, .inl GC)), (gh, .inl (cI, 8, .inl GH))]) ([(x0, .inr (4, [.ref t0, .ref r0, .ref y0, .ref g0, .ref w0, .int TR, .int LF])), (t0, .inr (0, [.ref tk, .ref tl, .ref tc, .int N])), (tk, .inl (cI, 6, .inl K)), (tl, .inl (cI, 6, .inl L)), (tc, .inl (cI, 6, .inl C)), (g0, .inr (1, [.ref gn, .ref gc, .ref gh, .int GK])), (gn, .inl (cI, 8, .inl GN)), (gc, .inl (cI, 8, .inl GC)), (gh, .inl (cI, 8, .inl GH))]) ([(t0, .inr (0, [.ref tk, .ref tl, .ref tc, .int N]))]) ([(t0, .inr (0, [.ref tk, .ref tl, .ref tc, .int N]))]) ([(x0, .inr (4, [.ref t0, .ref r0, .ref y0, .ref g0, .ref w0, .int TR, .int LF])), (tk, .inl (cI, 6, .inl K)), (tl, .inl (cI, 6, .inl L)), (tc, .inl (cI, 6, .inl C)), (g0, .inr (1, [.ref gn, .ref gc, .ref gh, .int GK])), (gn, .inl (cI, 8, .inl GN)), (gc, .inl (cI, 8, .inl GC)), (gh, .inl (cI, 8, .inl GH))]) hP hD [1] [0, 2, 3, 4, 5, 6, 7, 8] [x0, t0, tk, tl, tc, g0, gn, gc, gh] 9 rfl rfl rfl rfl rfl (by decide) rfl rfl hk1 hB
  refine lv_if_eq (tgt := 22) hx hb dX4_reading_8 (by decide) (fun c_8 => ?_) (fun c_8 => ?_)
  · skip
    refine lv_iconst (v := (-1)) hx hb dX4_reading_22 (by decide) ?_
    have hE9 : p4_reading N GK GN GC GH i1 i2 i3 = ((-1), GK, GN, GC, GH) := by unfold p4_reading; rw [if_pos c_8]
    exact W.iret (v := (-1)) hx hb hr (fun t ht hW => ⟨⟨_, (), rfl, by rw [hE9], by show va_P (dC, dI) vwCl _ t.heap; rw [ht, hE9]; exact hP⟩, hS.F ht⟩) hS.2.2 dX4_reading_23
  · skip
    refine lv_aload_n hx hb dX4_reading_11 rfl (lv_at hl 0 rfl) ?_
    refine va_get (D := (dC, dI)) (ci := 4) (v := .ref t0) (C := RX4) (T := TX4) (N := 7) hx hb hts hin4 hown hK hP 0 rfl rfl 0 (by decide) kf_12 (fun _ h9 => h9) rfl dX4_reading_12 ?_
    refine lv_iload_n hx hb dX4_reading_15 rfl (lv_at hl 3 rfl) ?_
    have hPc := hP.sub (ws' := [(t0, .inr (0, [.ref tk, .ref tl, .ref tc, .int N]))]) [1] rfl
    have hDc := hD.sub (ws' := [(t0, .inr (0, [.ref tk, .ref tl, .ref tc, .int N]))]) [1] (by decide) rfl
    have hKc := hK.sub (tys' := [(cI, .int)]) [0] rfl
    have hFc := va_free (wc := [(t0, .inr (0, [.ref tk, .ref tl, .ref tc, .int N]))]) hD hS hA [1] rfl
    refine va_calli (va_runV (As := [.int i3]) (rest := []) ⟨hx, hb, hml, hown, hts⟩ (ctX0_has l dC dI cI t0 tk tl tc H.size N i3) (cwV 1 hts gX4_reading_X0_has rfl rfl rfl (by decide +kernel) ⟨Nat.le_of_ble_eq_true rfl, Nat.le_of_ble_eq_true rfl⟩) (pre_V hKc hN hPc hDc (RX0, TX0, 4) 0 0 rfl rfl) rfl rfl hl.1 rfl (lv_room (Nat.le_of_ble_eq_true rfl)) dX4_reading_16 ⟨Nat.le_of_ble_eq_true rfl, Nat.le_of_ble_eq_true rfl⟩) hS (fun q _ h => hFc q h) hFc (fun r _ t H locs ht hvm hw hB hz1 hk1 hS => ?_)
    try dsimp only at hw
    subst hw
    rw [ht] at hB
    obtain ⟨hP, hD⟩ := rw_join ([(x0, .inr (4, [.ref t0, .ref r0, .ref y0, .ref g0, .ref w0, .int TR, .int LF])), (t0, .inr (0, [.ref tk, .ref tl, .ref tc, .int N])), (tk, .inl (cI, 6, .inl K)), (tl, .inl (cI, 6, .inl L)), (tc, .inl (cI, 6, .inl C)), (g0, .inr (1, [.ref gn, .ref gc, .ref gh, .int GK])), (gn, .inl (cI, 8, .inl GN)), (gc, .inl (cI, 8, .inl GC)), (gh, .inl (cI, 8, .inl GH))]) ([(x0, .inr (4, [.ref t0, .ref r0, .ref y0, .ref g0, .ref w0, .int TR, .int LF])), (t0, .inr (0, [.ref tk, .ref tl, .ref tc, .int N])), (tk, .inl (cI, 6, .inl K)), (tl, .inl (cI, 6, .inl L)), (tc, .inl (cI, 6, .inl C)), (g0, .inr (1, [.ref gn, .ref gc, .ref gh, .int GK])), (gn, .inl (cI, 8, .inl GN)), (gc, .inl (cI, 8, .inl GC)), (gh, .inl (cI, 8, .inl GH))]) ([(t0, .inr (0, [.ref tk, .ref tl, .ref tc, .int N]))]) ([(t0, .inr (0, [.ref tk, .ref tl, .ref tc, .int N]))]) ([(x0, .inr (4, [.ref t0, .ref r0, .ref y0, .ref g0, .ref w0, .int TR, .int LF])), (tk, .inl (cI, 6, .inl K)), (tl, .inl (cI, 6, .inl L)), (tc, .inl (cI, 6, .inl C)), (g0, .inr (1, [.ref gn, .ref gc, .ref gh, .int GK])), (gn, .inl (cI, 8, .inl GN)), (gc, .inl (cI, 8, .inl GC)), (gh, .inl (cI, 8, .inl GH))]) hP hD [1] [0, 2, 3, 4, 5, 6, 7, 8] [x0, t0, tk, tl, tc, g0, gn, gc, gh] 9 rfl rfl rfl rfl rfl (by decide) rfl rfl hk1 hB
    refine lv_if_ne (tgt := 24) hx hb dX4_reading_19 (by decide) (fun c_19 => ?_) (fun c_19 => ?_)
    · skip
      refine lv_iload_n hx hb dX4_reading_24 rfl (lv_at hl 2 rfl) ?_
      have hPc : va_P (dC, dI) vwCl [] H := hP.sub (ws' := []) [] rfl
      have hDc : va_D A [] := hD.sub (ws' := []) [] (by decide) rfl
      have hKc := hK.sub (tys' := [(cI, .int)]) [0] rfl
      have hFc := va_free (wc := []) hD hS hA [] rfl
      refine va_calli (va_runS (As := [.int i2]) (rest := []) ⟨hx, hb, hml, hown, hts⟩ (ctX4_isCost l dC dI cI H.size i2) (va_cwS 1 hts gX4_reading_X4_isCost rfl rfl rfl (by decide +kernel) ⟨Nat.le_of_ble_eq_true rfl, Nat.le_of_ble_eq_true rfl⟩) (pre_S hKc hN hPc hDc) rfl rfl hl.1 rfl (lv_room (Nat.le_of_ble_eq_true rfl)) dX4_reading_25 ⟨Nat.le_of_ble_eq_true rfl, Nat.le_of_ble_eq_true rfl⟩) hS (fun q _ h => hFc q h) hFc (fun r _ t H locs ht hvm hw hB hz1 hk1 hS => ?_)
      try dsimp only at hw
      subst hw
      rw [ht] at hB
      obtain ⟨hP, hD⟩ := rw_join ([(x0, .inr (4, [.ref t0, .ref r0, .ref y0, .ref g0, .ref w0, .int TR, .int LF])), (t0, .inr (0, [.ref tk, .ref tl, .ref tc, .int N])), (tk, .inl (cI, 6, .inl K)), (tl, .inl (cI, 6, .inl L)), (tc, .inl (cI, 6, .inl C)), (g0, .inr (1, [.ref gn, .ref gc, .ref gh, .int GK])), (gn, .inl (cI, 8, .inl GN)), (gc, .inl (cI, 8, .inl GC)), (gh, .inl (cI, 8, .inl GH))]) ([(x0, .inr (4, [.ref t0, .ref r0, .ref y0, .ref g0, .ref w0, .int TR, .int LF])), (t0, .inr (0, [.ref tk, .ref tl, .ref tc, .int N])), (tk, .inl (cI, 6, .inl K)), (tl, .inl (cI, 6, .inl L)), (tc, .inl (cI, 6, .inl C)), (g0, .inr (1, [.ref gn, .ref gc, .ref gh, .int GK])), (gn, .inl (cI, 8, .inl GN)), (gc, .inl (cI, 8, .inl GC)), (gh, .inl (cI, 8, .inl GH))]) ([]) ([]) ([(x0, .inr (4, [.ref t0, .ref r0, .ref y0, .ref g0, .ref w0, .int TR, .int LF])), (t0, .inr (0, [.ref tk, .ref tl, .ref tc, .int N])), (tk, .inl (cI, 6, .inl K)), (tl, .inl (cI, 6, .inl L)), (tc, .inl (cI, 6, .inl C)), (g0, .inr (1, [.ref gn, .ref gc, .ref gh, .int GK])), (gn, .inl (cI, 8, .inl GN)), (gc, .inl (cI, 8, .inl GC)), (gh, .inl (cI, 8, .inl GH))]) hP hD [] [0, 1, 2, 3, 4, 5, 6, 7, 8] [x0, t0, tk, tl, tc, g0, gn, gc, gh] 9 rfl rfl rfl rfl rfl (by decide) rfl rfl hk1 hB
      refine lv_if_ne (tgt := 34) hx hb dX4_reading_28 (by decide) (fun c_28 => ?_) (fun c_28 => ?_)
      · skip
        refine lv_aload_n hx hb dX4_reading_34 rfl (lv_at hl 0 rfl) ?_
        refine va_get (D := (dC, dI)) (ci := 4) (v := .ref g0) (C := RX4) (T := TX4) (N := 7) hx hb hts hin4 hown hK hP 0 rfl rfl 3 (by decide) kf_31 (fun _ h9 => h9) rfl dX4_reading_35 ?_
        refine va_getN (D := (dC, dI)) (ci := 1) (v := .int GK) (C := RX1) (T := TX1) (N := 4) hx hb hts hin1 hown hK hP 5 rfl rfl 3 (by decide) hn_138 (fun _ h9 => h9) rfl dX4_reading_38 ?_
        refine lv_bipush (v := 8) hx hb dX4_reading_41 (by decide) ?_
        refine lv_icmp_lt (tgt := 49) hx hb dX4_reading_43 (by decide) (fun c_43 => ?_) (fun c_43 => ?_)
        · skip
          have j8 : vp_in GK 8 := lt8_in hg0 c_43
          refine lv_aload_n hx hb dX4_reading_49 rfl (lv_at hl 0 rfl) ?_
          refine va_get (D := (dC, dI)) (ci := 4) (v := .ref g0) (C := RX4) (T := TX4) (N := 7) hx hb hts hin4 hown hK hP 0 rfl rfl 3 (by decide) kf_31 (fun _ h9 => h9) rfl dX4_reading_50 ?_
          refine lv_iload_n hx hb dX4_reading_53 rfl (lv_at hl 1 rfl) ?_
          refine lv_iload_n hx hb dX4_reading_54 rfl (lv_at hl 2 rfl) ?_
          refine lv_iload_n hx hb dX4_reading_55 rfl (lv_at hl 3 rfl) ?_
          have hPc := hP.sub (ws' := [(g0, .inr (1, [.ref gn, .ref gc, .ref gh, .int GK])), (gn, .inl (cI, 8, .inl GN)), (gc, .inl (cI, 8, .inl GC)), (gh, .inl (cI, 8, .inl GH))]) [5, 6, 7, 8] rfl
          have hDc := hD.sub (ws' := [(g0, .inr (1, [.ref gn, .ref gc, .ref gh, .int GK])), (gn, .inl (cI, 8, .inl GN)), (gc, .inl (cI, 8, .inl GC)), (gh, .inl (cI, 8, .inl GH))]) [5, 6, 7, 8] (by decide) rfl
          have hKc := hK.sub (tys' := [(cI, .int)]) [0] rfl
          have hFc := va_free (wc := [(g0, .inr (1, [.ref gn, .ref gc, .ref gh, .int GK])), (gn, .inl (cI, 8, .inl GN)), (gc, .inl (cI, 8, .inl GC)), (gh, .inl (cI, 8, .inl GH))]) hD hS hA [5, 6, 7, 8] rfl
          refine va_calli (va_runV (As := [.int i1, .int i2, .int i3]) (rest := []) ⟨hx, hb, hml, hown, hts⟩ (ctX1_add l dC dI cI g0 gn gc gh H.size GK GN GC GH i1 i2 i3 (by assumption)) (cwV 3 hts gX4_reading_X1_add rfl rfl rfl (by decide +kernel) ⟨Nat.le_of_ble_eq_true rfl, Nat.le_of_ble_eq_true rfl⟩) (pre_V hKc hN hPc hDc (RX1, TX1, 4) 1 0 rfl rfl) rfl rfl hl.1 rfl (lv_room (Nat.le_of_ble_eq_true rfl)) dX4_reading_56 ⟨Nat.le_of_ble_eq_true rfl, Nat.le_of_ble_eq_true rfl⟩) hS (fun q _ h => hFc q h) hFc (fun r_56 _ t H locs ht hvm hw hB hz1 hk1 hS => ?_)
          try dsimp only at hw
          have er_56 := hw.symm
          rw [ht] at hB
          refine nm_gen ((p1_add GK GN GC GH i1 i2 i3).2.1) (fun GK_56 eGK_56 => ?_)
          rw [eGK_56] at hB
          refine nm_gen ((p1_add GK GN GC GH i1 i2 i3).2.2.1) (fun GN_56 eGN_56 => ?_)
          rw [eGN_56] at hB
          refine nm_gen ((p1_add GK GN GC GH i1 i2 i3).2.2.2.1) (fun GC_56 eGC_56 => ?_)
          rw [eGC_56] at hB
          refine nm_gen ((p1_add GK GN GC GH i1 i2 i3).2.2.2.2) (fun GH_56 eGH_56 => ?_)
          rw [eGH_56] at hB
          obtain ⟨hP, hD⟩ := rw_join ([(x0, .inr (4, [.ref t0, .ref r0, .ref y0, .ref g0, .ref w0, .int TR, .int LF])), (t0, .inr (0, [.ref tk, .ref tl, .ref tc, .int N])), (tk, .inl (cI, 6, .inl K)), (tl, .inl (cI, 6, .inl L)), (tc, .inl (cI, 6, .inl C)), (g0, .inr (1, [.ref gn, .ref gc, .ref gh, .int GK])), (gn, .inl (cI, 8, .inl GN)), (gc, .inl (cI, 8, .inl GC)), (gh, .inl (cI, 8, .inl GH))]) ([(x0, .inr (4, [.ref t0, .ref r0, .ref y0, .ref g0, .ref w0, .int TR, .int LF])), (t0, .inr (0, [.ref tk, .ref tl, .ref tc, .int N])), (tk, .inl (cI, 6, .inl K)), (tl, .inl (cI, 6, .inl L)), (tc, .inl (cI, 6, .inl C)), (g0, .inr (1, [.ref gn, .ref gc, .ref gh, .int GK_56])), (gn, .inl (cI, 8, .inl GN_56)), (gc, .inl (cI, 8, .inl GC_56)), (gh, .inl (cI, 8, .inl GH_56))]) ([(g0, .inr (1, [.ref gn, .ref gc, .ref gh, .int GK])), (gn, .inl (cI, 8, .inl GN)), (gc, .inl (cI, 8, .inl GC)), (gh, .inl (cI, 8, .inl GH))]) ([(g0, .inr (1, [.ref gn, .ref gc, .ref gh, .int GK_56])), (gn, .inl (cI, 8, .inl GN_56)), (gc, .inl (cI, 8, .inl GC_56)), (gh, .inl (cI, 8, .inl GH_56))]) ([(x0, .inr (4, [.ref t0, .ref r0, .ref y0, .ref g0, .ref w0, .int TR, .int LF])), (t0, .inr (0, [.ref tk, .ref tl, .ref tc, .int N])), (tk, .inl (cI, 6, .inl K)), (tl, .inl (cI, 6, .inl L)), (tc, .inl (cI, 6, .inl C))]) hP hD [5, 6, 7, 8] [0, 1, 2, 3, 4] [x0, t0, tk, tl, tc, g0, gn, gc, gh] 9 rfl rfl rfl rfl rfl (by decide) rfl rfl hk1 hB
          have hE9 : p4_reading N GK GN GC GH i1 i2 i3 = (r_56, GK_56, GN_56, GC_56, GH_56) := by unfold p4_reading; simp only [er_56, eGK_56, eGN_56, eGC_56, eGH_56]; rw [if_neg c_8, if_neg c_19, if_neg c_28, if_pos c_43]
          exact W.iret (v := r_56) hx hb hr (fun t ht hW => ⟨⟨_, (), rfl, by rw [hE9], by show va_P (dC, dI) vwCl _ t.heap; rw [ht, hE9]; exact hP⟩, hS.F ht⟩) hS.2.2 dX4_reading_59
        · skip
          refine lv_bipush (v := (-4)) hx hb dX4_reading_46 (by decide) ?_
          have hE9 : p4_reading N GK GN GC GH i1 i2 i3 = ((-4), GK, GN, GC, GH) := by unfold p4_reading; rw [if_neg c_8, if_neg c_19, if_neg c_28, if_neg c_43]
          exact W.iret (v := (-4)) hx hb hr (fun t ht hW => ⟨⟨_, (), rfl, by rw [hE9], by show va_P (dC, dI) vwCl _ t.heap; rw [ht, hE9]; exact hP⟩, hS.F ht⟩) hS.2.2 dX4_reading_48
      · skip
        refine lv_bipush (v := (-2)) hx hb dX4_reading_31 (by decide) ?_
        have hE9 : p4_reading N GK GN GC GH i1 i2 i3 = ((-2), GK, GN, GC, GH) := by unfold p4_reading; rw [if_neg c_8, if_neg c_19, if_pos c_28]
        exact W.iret (v := (-2)) hx hb hr (fun t ht hW => ⟨⟨_, (), rfl, by rw [hE9], by show va_P (dC, dI) vwCl _ t.heap; rw [ht, hE9]; exact hP⟩, hS.F ht⟩) hS.2.2 dX4_reading_33
    · skip
      refine lv_iconst (v := (-1)) hx hb dX4_reading_22 (by decide) ?_
      have hE9 : p4_reading N GK GN GC GH i1 i2 i3 = ((-1), GK, GN, GC, GH) := by unfold p4_reading; rw [if_neg c_8, if_pos c_19]
      exact W.iret (v := (-1)) hx hb hr (fun t ht hW => ⟨⟨_, (), rfl, by rw [hE9], by show va_P (dC, dI) vwCl _ t.heap; rw [ht, hE9]; exact hP⟩, hS.F ht⟩) hS.2.2 dX4_reading_23

def p4_back (GK : Int32) (i1 : Int32) : Int32 × Int32 :=
  if i1 < 0 then
    ((-2), GK)
  else
    if i1 ≤ GK then
      ((GK - i1), (GK - i1))
    else
      ((-2), GK)
abbrev rmX4_back : Room := { frames := 0, cells := 0, slots := 0, locals := 0 }
abbrev QX4_back (dC : Nat → ClassId) (dI : Nat → Nat → Nat) (A : Nat → Prop) (cI : ClassId) (x0 : Nat) (t0 : Nat) (r0 : Nat) (y0 : Nat) (g0 : Nat) (w0 : Nat) (gn : Nat) (gc : Nat) (gh : Nat) (TR : Int32) (LF : Int32) (GK : Int32) (GN : Nat → Int32) (GC : Nat → Int32) (GH : Nat → Int32) (i1 : Int32) : Array Value → State → Outcome → State → Prop := va_Qi (fun (r : Int32) (_ : Unit) => r = (p4_back GK i1).1) (fun (_ : Unit) (t : State) => va_P (dC, dI) vwCl ([(x0, .inr (4, [.ref t0, .ref r0, .ref y0, .ref g0, .ref w0, .int TR, .int LF])), (g0, .inr (1, [.ref gn, .ref gc, .ref gh, .int ((p4_back GK i1).2)])), (gn, .inl (cI, 8, .inl GN)), (gc, .inl (cI, 8, .inl GC)), (gh, .inl (cI, 8, .inl GH))]) t.heap) A
set_option maxHeartbeats 4000000 in
set_option maxRecDepth 100000 in
theorem ctX4_back (l : Launch) (dC : Nat → ClassId) (dI : Nat → Nat → Nat) (cI : ClassId) (x0 : Nat) (t0 : Nat) (r0 : Nat) (y0 : Nat) (g0 : Nat) (w0 : Nat) (gn : Nat) (gc : Nat) (gh : Nat) (sz : Nat) (TR : Int32) (LF : Int32) (GK : Int32) (GN : Nat → Int32) (GC : Nat → Int32) (GH : Nat → Int32) (i1 : Int32) : Met l yX4_back wsX4_back rmX4_back (va_Pc [.ref x0, .int i1] (cP dC dI [(cI, .int)] ([(x0, .inr (4, [.ref t0, .ref r0, .ref y0, .ref g0, .ref w0, .int TR, .int LF])), (g0, .inr (1, [.ref gn, .ref gc, .ref gh, .int GK])), (gn, .inl (cI, 8, .inl GN)), (gc, .inl (cI, 8, .inl GC)), (gh, .inl (cI, 8, .inl GH))]) sz)) (QX4_back dC dI (va_A ([(x0, .inr (4, [.ref t0, .ref r0, .ref y0, .ref g0, .ref w0, .int TR, .int LF])), (g0, .inr (1, [.ref gn, .ref gc, .ref gh, .int GK])), (gn, .inl (cI, 8, .inl GN)), (gc, .inl (cI, 8, .inl GC)), (gh, .inl (cI, 8, .inl GH))]) sz) cI x0 t0 r0 y0 g0 w0 gn gc gh TR LF GK GN GC GH i1) 0 0 (va_A ([(x0, .inr (4, [.ref t0, .ref r0, .ref y0, .ref g0, .ref w0, .int TR, .int LF])), (g0, .inr (1, [.ref gn, .ref gc, .ref gh, .int GK])), (gn, .inl (cI, 8, .inl GN)), (gc, .inl (cI, 8, .inl GC)), (gh, .inl (cI, 8, .inl GH))]) sz) := by
  refine Met.ofW (cc := cX4_back) (maxL := 2) (ret := (some .int)) (by decide) rfl ?_
  intro p e s m args below meth c s₁ B hml hv
  obtain ⟨rfl, hsz, hP, hK, hD0, hN⟩ := hv
  have hx := B.exec
  have hb := B.bytes
  have hr := B.returns
  have hts := atoms_spec (ws := wsX4_back) B.pre
  have hown : s.vm.findClass RX4 = some m.cls := findClass_of_methodNamed B.named
  have hlocks := B.notSynchronized
  subst hsz
  have hD := hD0.self (sz := s.heap.size)
  generalize hAe : va_A ([(x0, .inr (4, [.ref t0, .ref r0, .ref y0, .ref g0, .ref w0, .int TR, .int LF])), (g0, .inr (1, [.ref gn, .ref gc, .ref gh, .int GK])), (gn, .inl (cI, 8, .inl GN)), (gc, .inl (cI, 8, .inl GC)), (gh, .inl (cI, 8, .inl GH))]) s.heap.size = A at hD ⊢
  have hA : ∀ q : Nat, s.heap.size ≤ q → A q := fun q h => by rw [← hAe]; exact Or.inr h
  have hS : va_S A s.heap s.heap [] := va_S.rf
  have hP : va_P (dC, dI) vwCl ([(x0, .inr (4, [.ref t0, .ref r0, .ref y0, .ref g0, .ref w0, .int TR, .int LF])), (g0, .inr (1, [.ref gn, .ref gc, .ref gh, .int GK])), (gn, .inl (cI, 8, .inl GN)), (gc, .inl (cI, 8, .inl GC)), (gh, .inl (cI, 8, .inl GH))]) s.heap := hP
  have hin1 : ∀ w ∈ wsX10, w ∈ wsX4_back := by decide +kernel
  have hin4 : ∀ w ∈ wsX40, w ∈ wsX4_back := by decide +kernel
  have kf_31 := hts (.fieldLink RX4 31 "RicherChange" "readings" "LRicherChange$Readings;") (by decide +kernel)
  have hn_138 := va_Nw.use (A := [.ref x0, .int i1].toArray) rfl hN.2.2.2.2.2.2.1
  have hl := lv_entry ([.ref x0, .int i1]) (n := 2) (Nat.le_of_ble_eq_true rfl)
  rw [lg_entry_eq]
  generalize (lg_sl ([.ref x0, .int i1]) ++ List.replicate (2 - (lg_sl ([.ref x0, .int i1])).length) Slot.unset).toArray = ls at hl ⊢
  have hl : lv_has ls 2 [(0, .ref x0), (1, .int i1)] := hl
  refine lv_iload_n hx hb dX4_back_0 rfl (lv_at hl 1 rfl) ?_
  refine lv_if_lt (tgt := 15) hx hb dX4_back_1 (by decide) (fun c_1 => ?_) (fun c_1 => ?_)
  · skip
    refine lv_bipush (v := (-2)) hx hb dX4_back_15 (by decide) ?_
    have hE9 : p4_back GK i1 = ((-2), GK) := by unfold p4_back; rw [if_pos c_1]
    exact W.iret (v := (-2)) hx hb hr (fun t ht hW => ⟨⟨_, (), rfl, by rw [hE9], by show va_P (dC, dI) vwCl _ t.heap; rw [ht, hE9]; exact hP⟩, hS.F ht⟩) hS.2.2 dX4_back_17
  · skip
    refine lv_iload_n hx hb dX4_back_4 rfl (lv_at hl 1 rfl) ?_
    refine lv_aload_n hx hb dX4_back_5 rfl (lv_at hl 0 rfl) ?_
    refine va_get (D := (dC, dI)) (ci := 4) (v := .ref g0) (C := RX4) (T := TX4) (N := 7) hx hb hts hin4 hown hK hP 0 rfl rfl 3 (by decide) kf_31 (fun _ h9 => h9) rfl dX4_back_6 ?_
    refine va_getN (D := (dC, dI)) (ci := 1) (v := .int GK) (C := RX1) (T := TX1) (N := 4) hx hb hts hin1 hown hK hP 1 rfl rfl 3 (by decide) hn_138 (fun _ h9 => h9) rfl dX4_back_9 ?_
    refine lv_icmp_le (tgt := 18) hx hb dX4_back_12 (by decide) (fun c_12 => ?_) (fun c_12 => ?_)
    · skip
      refine lv_aload_n hx hb dX4_back_18 rfl (lv_at hl 0 rfl) ?_
      refine va_get (D := (dC, dI)) (ci := 4) (v := .ref g0) (C := RX4) (T := TX4) (N := 7) hx hb hts hin4 hown hK hP 0 rfl rfl 3 (by decide) kf_31 (fun _ h9 => h9) rfl dX4_back_19 ?_
      refine lv_dup hx hb dX4_back_22 rfl ?_
      refine va_getN (D := (dC, dI)) (ci := 1) (v := .int GK) (C := RX1) (T := TX1) (N := 4) hx hb hts hin1 hown hK hP 1 rfl rfl 3 (by decide) hn_138 (fun _ h9 => h9) rfl dX4_back_23 ?_
      refine lv_iload_n hx hb dX4_back_26 rfl (lv_at hl 1 rfl) ?_
      refine lv_isub hx hb dX4_back_27 ?_
      refine va_putN (D := (dC, dI)) (ci := 1) (v := .int (GK - i1)) (ty := .int) (C := RX1) (T := TX1) (N := 4) hx hb hts hin1 tyX1 tyX1_ok nmX1 hown hK hP hD hS 1 rfl rfl 3 (by decide) hn_138 (fun _ h9 => h9) rfl (by decide +kernel) rfl rfl (Nat.le_of_ble_eq_true rfl) dX4_back_28 (fun H locs hP hD hS => ?_)
      have hP : va_P (dC, dI) vwCl ([(x0, .inr (4, [.ref t0, .ref r0, .ref y0, .ref g0, .ref w0, .int TR, .int LF])), (g0, .inr (1, [.ref gn, .ref gc, .ref gh, .int (GK - i1)])), (gn, .inl (cI, 8, .inl GN)), (gc, .inl (cI, 8, .inl GC)), (gh, .inl (cI, 8, .inl GH))]) H := hP
      have hD : va_D A ([(x0, .inr (4, [.ref t0, .ref r0, .ref y0, .ref g0, .ref w0, .int TR, .int LF])), (g0, .inr (1, [.ref gn, .ref gc, .ref gh, .int (GK - i1)])), (gn, .inl (cI, 8, .inl GN)), (gc, .inl (cI, 8, .inl GC)), (gh, .inl (cI, 8, .inl GH))]) := hD
      refine lv_aload_n hx hb dX4_back_31 rfl (lv_at hl 0 rfl) ?_
      refine va_get (D := (dC, dI)) (ci := 4) (v := .ref g0) (C := RX4) (T := TX4) (N := 7) hx hb hts hin4 hown hK hP 0 rfl rfl 3 (by decide) kf_31 (fun _ h9 => h9) rfl dX4_back_32 ?_
      refine va_getN (D := (dC, dI)) (ci := 1) (v := .int (GK - i1)) (C := RX1) (T := TX1) (N := 4) hx hb hts hin1 hown hK hP 1 rfl rfl 3 (by decide) hn_138 (fun _ h9 => h9) rfl dX4_back_35 ?_
      have hE9 : p4_back GK i1 = ((GK - i1), (GK - i1)) := by unfold p4_back; rw [if_neg c_1, if_pos c_12]
      exact W.iret (v := (GK - i1)) hx hb hr (fun t ht hW => ⟨⟨_, (), rfl, by rw [hE9], by show va_P (dC, dI) vwCl _ t.heap; rw [ht, hE9]; exact hP⟩, hS.F ht⟩) hS.2.2 dX4_back_38
    · skip
      refine lv_bipush (v := (-2)) hx hb dX4_back_15 (by decide) ?_
      have hE9 : p4_back GK i1 = ((-2), GK) := by unfold p4_back; rw [if_neg c_1, if_neg c_12]
      exact W.iret (v := (-2)) hx hb hr (fun t ht hW => ⟨⟨_, (), rfl, by rw [hE9], by show va_P (dC, dI) vwCl _ t.heap; rw [ht, hE9]; exact hP⟩, hS.F ht⟩) hS.2.2 dX4_back_17

def p4_lands (N : Int32) (K : Nat → Int32) (L : Nat → Int32) (C : Nat → Int32) (N2 : Int32) (K2 : Nat → Int32) (L2 : Nat → Int32) (C2 : Nat → Int32) (GK : Int32) (GN : Nat → Int32) (GC : Nat → Int32) (GH : Nat → Int32) (i1 : Int32) : Int32 × Int32 × (Nat → Int32) × (Nat → Int32) × (Nat → Int32) :=
  if (p0_has N i1) = 0 then
    ((-1), N2, K2, L2, C2)
  else
    (((p4_possible N K L C N2 K2 L2 C2 GK GN GC GH i1 1 10).1), ((p4_possible N K L C N2 K2 L2 C2 GK GN GC GH i1 1 10).2.1), ((p4_possible N K L C N2 K2 L2 C2 GK GN GC GH i1 1 10).2.2.1), ((p4_possible N K L C N2 K2 L2 C2 GK GN GC GH i1 1 10).2.2.2.1), ((p4_possible N K L C N2 K2 L2 C2 GK GN GC GH i1 1 10).2.2.2.2))
abbrev rmX4_lands : Room := { frames := 6, cells := 0, slots := 0, locals := 142 }
abbrev QX4_lands (dC : Nat → ClassId) (dI : Nat → Nat → Nat) (A : Nat → Prop) (cI : ClassId) (x0 : Nat) (t0 : Nat) (r0 : Nat) (y0 : Nat) (g0 : Nat) (w0 : Nat) (tk : Nat) (tl : Nat) (tc : Nat) (rk : Nat) (rl : Nat) (rc : Nat) (gn : Nat) (gc : Nat) (gh : Nat) (TR : Int32) (LF : Int32) (N : Int32) (K : Nat → Int32) (L : Nat → Int32) (C : Nat → Int32) (N2 : Int32) (K2 : Nat → Int32) (L2 : Nat → Int32) (C2 : Nat → Int32) (GK : Int32) (GN : Nat → Int32) (GC : Nat → Int32) (GH : Nat → Int32) (i1 : Int32) : Array Value → State → Outcome → State → Prop := va_Qi (fun (r : Int32) (_ : Unit) => r = (p4_lands N K L C N2 K2 L2 C2 GK GN GC GH i1).1) (fun (_ : Unit) (t : State) => va_P (dC, dI) vwCl ([(x0, .inr (4, [.ref t0, .ref r0, .ref y0, .ref g0, .ref w0, .int TR, .int LF])), (t0, .inr (0, [.ref tk, .ref tl, .ref tc, .int N])), (tk, .inl (cI, 6, .inl K)), (tl, .inl (cI, 6, .inl L)), (tc, .inl (cI, 6, .inl C)), (r0, .inr (0, [.ref rk, .ref rl, .ref rc, .int ((p4_lands N K L C N2 K2 L2 C2 GK GN GC GH i1).2.1)])), (rk, .inl (cI, 6, .inl ((p4_lands N K L C N2 K2 L2 C2 GK GN GC GH i1).2.2.1))), (rl, .inl (cI, 6, .inl ((p4_lands N K L C N2 K2 L2 C2 GK GN GC GH i1).2.2.2.1))), (rc, .inl (cI, 6, .inl ((p4_lands N K L C N2 K2 L2 C2 GK GN GC GH i1).2.2.2.2))), (g0, .inr (1, [.ref gn, .ref gc, .ref gh, .int GK])), (gn, .inl (cI, 8, .inl GN)), (gc, .inl (cI, 8, .inl GC)), (gh, .inl (cI, 8, .inl GH))]) t.heap) A
set_option maxHeartbeats 4000000 in
set_option maxRecDepth 100000 in
theorem ctX4_lands (l : Launch) (dC : Nat → ClassId) (dI : Nat → Nat → Nat) (cI : ClassId) (x0 : Nat) (t0 : Nat) (r0 : Nat) (y0 : Nat) (g0 : Nat) (w0 : Nat) (tk : Nat) (tl : Nat) (tc : Nat) (rk : Nat) (rl : Nat) (rc : Nat) (gn : Nat) (gc : Nat) (gh : Nat) (sz : Nat) (TR : Int32) (LF : Int32) (N : Int32) (K : Nat → Int32) (L : Nat → Int32) (C : Nat → Int32) (N2 : Int32) (K2 : Nat → Int32) (L2 : Nat → Int32) (C2 : Nat → Int32) (GK : Int32) (GN : Nat → Int32) (GC : Nat → Int32) (GH : Nat → Int32) (i1 : Int32) (hG8 : GK.toInt ≤ 8) (hGN : ∀ j : Nat, (j : Int) < GK.toInt → vp_in (GN j) 6) (hNb : N.toInt ≤ 6) : Met l yX4_lands wsX4_lands rmX4_lands (va_Pc [.ref x0, .int i1] (cP dC dI [(cI, .int)] ([(x0, .inr (4, [.ref t0, .ref r0, .ref y0, .ref g0, .ref w0, .int TR, .int LF])), (t0, .inr (0, [.ref tk, .ref tl, .ref tc, .int N])), (tk, .inl (cI, 6, .inl K)), (tl, .inl (cI, 6, .inl L)), (tc, .inl (cI, 6, .inl C)), (r0, .inr (0, [.ref rk, .ref rl, .ref rc, .int N2])), (rk, .inl (cI, 6, .inl K2)), (rl, .inl (cI, 6, .inl L2)), (rc, .inl (cI, 6, .inl C2)), (g0, .inr (1, [.ref gn, .ref gc, .ref gh, .int GK])), (gn, .inl (cI, 8, .inl GN)), (gc, .inl (cI, 8, .inl GC)), (gh, .inl (cI, 8, .inl GH))]) sz)) (QX4_lands dC dI (va_A ([(x0, .inr (4, [.ref t0, .ref r0, .ref y0, .ref g0, .ref w0, .int TR, .int LF])), (t0, .inr (0, [.ref tk, .ref tl, .ref tc, .int N])), (tk, .inl (cI, 6, .inl K)), (tl, .inl (cI, 6, .inl L)), (tc, .inl (cI, 6, .inl C)), (r0, .inr (0, [.ref rk, .ref rl, .ref rc, .int N2])), (rk, .inl (cI, 6, .inl K2)), (rl, .inl (cI, 6, .inl L2)), (rc, .inl (cI, 6, .inl C2)), (g0, .inr (1, [.ref gn, .ref gc, .ref gh, .int GK])), (gn, .inl (cI, 8, .inl GN)), (gc, .inl (cI, 8, .inl GC)), (gh, .inl (cI, 8, .inl GH))]) sz) cI x0 t0 r0 y0 g0 w0 tk tl tc rk rl rc gn gc gh TR LF N K L C N2 K2 L2 C2 GK GN GC GH i1) 0 0 (va_A ([(x0, .inr (4, [.ref t0, .ref r0, .ref y0, .ref g0, .ref w0, .int TR, .int LF])), (t0, .inr (0, [.ref tk, .ref tl, .ref tc, .int N])), (tk, .inl (cI, 6, .inl K)), (tl, .inl (cI, 6, .inl L)), (tc, .inl (cI, 6, .inl C)), (r0, .inr (0, [.ref rk, .ref rl, .ref rc, .int N2])), (rk, .inl (cI, 6, .inl K2)), (rl, .inl (cI, 6, .inl L2)), (rc, .inl (cI, 6, .inl C2)), (g0, .inr (1, [.ref gn, .ref gc, .ref gh, .int GK])), (gn, .inl (cI, 8, .inl GN)), (gc, .inl (cI, 8, .inl GC)), (gh, .inl (cI, 8, .inl GH))]) sz) := by
  refine Met.ofW (cc := cX4_lands) (maxL := 2) (ret := (some .int)) (by decide) rfl ?_
  intro p e s m args below meth c s₁ B hml hv
  obtain ⟨rfl, hsz, hP, hK, hD0, hN⟩ := hv
  have hx := B.exec
  have hb := B.bytes
  have hr := B.returns
  have hts := atoms_spec (ws := wsX4_lands) B.pre
  have hown : s.vm.findClass RX4 = some m.cls := findClass_of_methodNamed B.named
  have hlocks := B.notSynchronized
  subst hsz
  have hD := hD0.self (sz := s.heap.size)
  generalize hAe : va_A ([(x0, .inr (4, [.ref t0, .ref r0, .ref y0, .ref g0, .ref w0, .int TR, .int LF])), (t0, .inr (0, [.ref tk, .ref tl, .ref tc, .int N])), (tk, .inl (cI, 6, .inl K)), (tl, .inl (cI, 6, .inl L)), (tc, .inl (cI, 6, .inl C)), (r0, .inr (0, [.ref rk, .ref rl, .ref rc, .int N2])), (rk, .inl (cI, 6, .inl K2)), (rl, .inl (cI, 6, .inl L2)), (rc, .inl (cI, 6, .inl C2)), (g0, .inr (1, [.ref gn, .ref gc, .ref gh, .int GK])), (gn, .inl (cI, 8, .inl GN)), (gc, .inl (cI, 8, .inl GC)), (gh, .inl (cI, 8, .inl GH))]) s.heap.size = A at hD ⊢
  have hA : ∀ q : Nat, s.heap.size ≤ q → A q := fun q h => by rw [← hAe]; exact Or.inr h
  have hS : va_S A s.heap s.heap [] := va_S.rf
  have hP : va_P (dC, dI) vwCl ([(x0, .inr (4, [.ref t0, .ref r0, .ref y0, .ref g0, .ref w0, .int TR, .int LF])), (t0, .inr (0, [.ref tk, .ref tl, .ref tc, .int N])), (tk, .inl (cI, 6, .inl K)), (tl, .inl (cI, 6, .inl L)), (tc, .inl (cI, 6, .inl C)), (r0, .inr (0, [.ref rk, .ref rl, .ref rc, .int N2])), (rk, .inl (cI, 6, .inl K2)), (rl, .inl (cI, 6, .inl L2)), (rc, .inl (cI, 6, .inl C2)), (g0, .inr (1, [.ref gn, .ref gc, .ref gh, .int GK])), (gn, .inl (cI, 8, .inl GN)), (gc, .inl (cI, 8, .inl GC)), (gh, .inl (cI, 8, .inl GH))]) s.heap := hP
  have hin4 : ∀ w ∈ wsX40, w ∈ wsX4_lands := by decide +kernel
  have kf_12 := hts (.fieldLink RX4 12 "RicherChange" "town" "LRicherChange$City;") (by decide +kernel)
  have hl := lv_entry ([.ref x0, .int i1]) (n := 2) (Nat.le_of_ble_eq_true rfl)
  rw [lg_entry_eq]
  generalize (lg_sl ([.ref x0, .int i1]) ++ List.replicate (2 - (lg_sl ([.ref x0, .int i1])).length) Slot.unset).toArray = ls at hl ⊢
  have hl : lv_has ls 2 [(0, .ref x0), (1, .int i1)] := hl
  refine lv_aload_n hx hb dX4_lands_0 rfl (lv_at hl 0 rfl) ?_
  refine va_get (D := (dC, dI)) (ci := 4) (v := .ref t0) (C := RX4) (T := TX4) (N := 7) hx hb hts hin4 hown hK hP 0 rfl rfl 0 (by decide) kf_12 (fun _ h9 => h9) rfl dX4_lands_1 ?_
  refine lv_iload_n hx hb dX4_lands_4 rfl (lv_at hl 1 rfl) ?_
  have hPc := hP.sub (ws' := [(t0, .inr (0, [.ref tk, .ref tl, .ref tc, .int N]))]) [1] rfl
  have hDc := hD.sub (ws' := [(t0, .inr (0, [.ref tk, .ref tl, .ref tc, .int N]))]) [1] (by decide) rfl
  have hKc := hK.sub (tys' := [(cI, .int)]) [0] rfl
  have hFc := va_free (wc := [(t0, .inr (0, [.ref tk, .ref tl, .ref tc, .int N]))]) hD hS hA [1] rfl
  refine va_calli (va_runV (As := [.int i1]) (rest := []) ⟨hx, hb, hml, hown, hts⟩ (ctX0_has l dC dI cI t0 tk tl tc s.heap.size N i1) (cwV 1 hts gX4_lands_X0_has rfl rfl rfl (by decide +kernel) ⟨Nat.le_of_ble_eq_true rfl, Nat.le_of_ble_eq_true rfl⟩) (pre_V hKc hN hPc hDc (RX0, TX0, 4) 0 0 rfl rfl) rfl rfl hl.1 rfl (lv_room (Nat.le_of_ble_eq_true rfl)) dX4_lands_5 ⟨Nat.le_of_ble_eq_true rfl, Nat.le_of_ble_eq_true rfl⟩) hS (fun q _ h => hFc q h) hFc (fun r _ t H locs ht hvm hw hB hz1 hk1 hS => ?_)
  try dsimp only at hw
  subst hw
  rw [ht] at hB
  obtain ⟨hP, hD⟩ := rw_join ([(x0, .inr (4, [.ref t0, .ref r0, .ref y0, .ref g0, .ref w0, .int TR, .int LF])), (t0, .inr (0, [.ref tk, .ref tl, .ref tc, .int N])), (tk, .inl (cI, 6, .inl K)), (tl, .inl (cI, 6, .inl L)), (tc, .inl (cI, 6, .inl C)), (r0, .inr (0, [.ref rk, .ref rl, .ref rc, .int N2])), (rk, .inl (cI, 6, .inl K2)), (rl, .inl (cI, 6, .inl L2)), (rc, .inl (cI, 6, .inl C2)), (g0, .inr (1, [.ref gn, .ref gc, .ref gh, .int GK])), (gn, .inl (cI, 8, .inl GN)), (gc, .inl (cI, 8, .inl GC)), (gh, .inl (cI, 8, .inl GH))]) ([(x0, .inr (4, [.ref t0, .ref r0, .ref y0, .ref g0, .ref w0, .int TR, .int LF])), (t0, .inr (0, [.ref tk, .ref tl, .ref tc, .int N])), (tk, .inl (cI, 6, .inl K)), (tl, .inl (cI, 6, .inl L)), (tc, .inl (cI, 6, .inl C)), (r0, .inr (0, [.ref rk, .ref rl, .ref rc, .int N2])), (rk, .inl (cI, 6, .inl K2)), (rl, .inl (cI, 6, .inl L2)), (rc, .inl (cI, 6, .inl C2)), (g0, .inr (1, [.ref gn, .ref gc, .ref gh, .int GK])), (gn, .inl (cI, 8, .inl GN)), (gc, .inl (cI, 8, .inl GC)), (gh, .inl (cI, 8, .inl GH))]) ([(t0, .inr (0, [.ref tk, .ref tl, .ref tc, .int N]))]) ([(t0, .inr (0, [.ref tk, .ref tl, .ref tc, .int N]))]) ([(x0, .inr (4, [.ref t0, .ref r0, .ref y0, .ref g0, .ref w0, .int TR, .int LF])), (tk, .inl (cI, 6, .inl K)), (tl, .inl (cI, 6, .inl L)), (tc, .inl (cI, 6, .inl C)), (r0, .inr (0, [.ref rk, .ref rl, .ref rc, .int N2])), (rk, .inl (cI, 6, .inl K2)), (rl, .inl (cI, 6, .inl L2)), (rc, .inl (cI, 6, .inl C2)), (g0, .inr (1, [.ref gn, .ref gc, .ref gh, .int GK])), (gn, .inl (cI, 8, .inl GN)), (gc, .inl (cI, 8, .inl GC)), (gh, .inl (cI, 8, .inl GH))]) hP hD [1] [0, 2, 3, 4, 5, 6, 7, 8, 9, 10, 11, 12] [x0, t0, tk, tl, tc, r0, rk, rl, rc, g0, gn, gc, gh] 13 rfl rfl rfl rfl rfl (by decide) rfl rfl hk1 hB
  refine lv_if_eq (tgt := 22) hx hb dX4_lands_8 (by decide) (fun c_8 => ?_) (fun c_8 => ?_)
  · skip
    refine lv_iconst (v := (-1)) hx hb dX4_lands_22 (by decide) ?_
    have hE9 : p4_lands N K L C N2 K2 L2 C2 GK GN GC GH i1 = ((-1), N2, K2, L2, C2) := by unfold p4_lands; rw [if_pos c_8]
    exact W.iret (v := (-1)) hx hb hr (fun t ht hW => ⟨⟨_, (), rfl, by rw [hE9], by show va_P (dC, dI) vwCl _ t.heap; rw [ht, hE9]; exact hP⟩, hS.F ht⟩) hS.2.2 dX4_lands_23
  · skip
    have j1 : vp_in i1 6 := has_in hNb c_8
    refine lv_aload_n hx hb dX4_lands_11 rfl (lv_at hl 0 rfl) ?_
    refine lv_iload_n hx hb dX4_lands_12 rfl (lv_at hl 1 rfl) ?_
    refine lv_iconst (v := 1) hx hb dX4_lands_13 (by decide) ?_
    refine lv_bipush (v := 10) hx hb dX4_lands_14 (by decide) ?_
    have hPc := hP.sub (ws' := [(x0, .inr (4, [.ref t0, .ref r0, .ref y0, .ref g0, .ref w0, .int TR, .int LF])), (t0, .inr (0, [.ref tk, .ref tl, .ref tc, .int N])), (tk, .inl (cI, 6, .inl K)), (tl, .inl (cI, 6, .inl L)), (tc, .inl (cI, 6, .inl C)), (r0, .inr (0, [.ref rk, .ref rl, .ref rc, .int N2])), (rk, .inl (cI, 6, .inl K2)), (rl, .inl (cI, 6, .inl L2)), (rc, .inl (cI, 6, .inl C2)), (g0, .inr (1, [.ref gn, .ref gc, .ref gh, .int GK])), (gn, .inl (cI, 8, .inl GN)), (gc, .inl (cI, 8, .inl GC)), (gh, .inl (cI, 8, .inl GH))]) [0, 1, 2, 3, 4, 5, 6, 7, 8, 9, 10, 11, 12] rfl
    have hDc := hD.sub (ws' := [(x0, .inr (4, [.ref t0, .ref r0, .ref y0, .ref g0, .ref w0, .int TR, .int LF])), (t0, .inr (0, [.ref tk, .ref tl, .ref tc, .int N])), (tk, .inl (cI, 6, .inl K)), (tl, .inl (cI, 6, .inl L)), (tc, .inl (cI, 6, .inl C)), (r0, .inr (0, [.ref rk, .ref rl, .ref rc, .int N2])), (rk, .inl (cI, 6, .inl K2)), (rl, .inl (cI, 6, .inl L2)), (rc, .inl (cI, 6, .inl C2)), (g0, .inr (1, [.ref gn, .ref gc, .ref gh, .int GK])), (gn, .inl (cI, 8, .inl GN)), (gc, .inl (cI, 8, .inl GC)), (gh, .inl (cI, 8, .inl GH))]) [0, 1, 2, 3, 4, 5, 6, 7, 8, 9, 10, 11, 12] (by decide) rfl
    have hKc := hK.sub (tys' := [(cI, .int)]) [0] rfl
    have hFc := va_free (wc := [(x0, .inr (4, [.ref t0, .ref r0, .ref y0, .ref g0, .ref w0, .int TR, .int LF])), (t0, .inr (0, [.ref tk, .ref tl, .ref tc, .int N])), (tk, .inl (cI, 6, .inl K)), (tl, .inl (cI, 6, .inl L)), (tc, .inl (cI, 6, .inl C)), (r0, .inr (0, [.ref rk, .ref rl, .ref rc, .int N2])), (rk, .inl (cI, 6, .inl K2)), (rl, .inl (cI, 6, .inl L2)), (rc, .inl (cI, 6, .inl C2)), (g0, .inr (1, [.ref gn, .ref gc, .ref gh, .int GK])), (gn, .inl (cI, 8, .inl GN)), (gc, .inl (cI, 8, .inl GC)), (gh, .inl (cI, 8, .inl GH))]) hD hS hA [0, 1, 2, 3, 4, 5, 6, 7, 8, 9, 10, 11, 12] rfl
    refine va_calli (va_runV (As := [.int i1, .int 1, .int 10]) (rest := []) ⟨hx, hb, hml, hown, hts⟩ (ctX4_possible l dC dI cI x0 t0 r0 y0 g0 w0 tk tl tc rk rl rc gn gc gh H.size TR LF N K L C N2 K2 L2 C2 GK GN GC GH i1 1 10 (by assumption) (by decide) (by assumption) (by assumption) (by assumption)) (cwV 3 hts gX4_lands_X4_possible rfl rfl rfl (by decide +kernel) ⟨Nat.le_of_ble_eq_true rfl, Nat.le_of_ble_eq_true rfl⟩) (pre_V hKc hN hPc hDc (RX4, TX4, 7) 4 0 rfl rfl) rfl rfl hl.1 rfl (lv_room (Nat.le_of_ble_eq_true rfl)) dX4_lands_16 ⟨Nat.le_of_ble_eq_true rfl, Nat.le_of_ble_eq_true rfl⟩) hS (fun q _ h => hFc q h) hFc (fun r_16 _ t H locs ht hvm hw hB hz1 hk1 hS => ?_)
    try dsimp only at hw
    have er_16 := hw.symm
    rw [ht] at hB
    refine nm_gen ((p4_possible N K L C N2 K2 L2 C2 GK GN GC GH i1 1 10).2.1) (fun N2_16 eN2_16 => ?_)
    rw [eN2_16] at hB
    refine nm_gen ((p4_possible N K L C N2 K2 L2 C2 GK GN GC GH i1 1 10).2.2.1) (fun K2_16 eK2_16 => ?_)
    rw [eK2_16] at hB
    refine nm_gen ((p4_possible N K L C N2 K2 L2 C2 GK GN GC GH i1 1 10).2.2.2.1) (fun L2_16 eL2_16 => ?_)
    rw [eL2_16] at hB
    refine nm_gen ((p4_possible N K L C N2 K2 L2 C2 GK GN GC GH i1 1 10).2.2.2.2) (fun C2_16 eC2_16 => ?_)
    rw [eC2_16] at hB
    obtain ⟨hP, hD⟩ := rw_join ([(x0, .inr (4, [.ref t0, .ref r0, .ref y0, .ref g0, .ref w0, .int TR, .int LF])), (t0, .inr (0, [.ref tk, .ref tl, .ref tc, .int N])), (tk, .inl (cI, 6, .inl K)), (tl, .inl (cI, 6, .inl L)), (tc, .inl (cI, 6, .inl C)), (r0, .inr (0, [.ref rk, .ref rl, .ref rc, .int N2])), (rk, .inl (cI, 6, .inl K2)), (rl, .inl (cI, 6, .inl L2)), (rc, .inl (cI, 6, .inl C2)), (g0, .inr (1, [.ref gn, .ref gc, .ref gh, .int GK])), (gn, .inl (cI, 8, .inl GN)), (gc, .inl (cI, 8, .inl GC)), (gh, .inl (cI, 8, .inl GH))]) ([(x0, .inr (4, [.ref t0, .ref r0, .ref y0, .ref g0, .ref w0, .int TR, .int LF])), (t0, .inr (0, [.ref tk, .ref tl, .ref tc, .int N])), (tk, .inl (cI, 6, .inl K)), (tl, .inl (cI, 6, .inl L)), (tc, .inl (cI, 6, .inl C)), (r0, .inr (0, [.ref rk, .ref rl, .ref rc, .int N2_16])), (rk, .inl (cI, 6, .inl K2_16)), (rl, .inl (cI, 6, .inl L2_16)), (rc, .inl (cI, 6, .inl C2_16)), (g0, .inr (1, [.ref gn, .ref gc, .ref gh, .int GK])), (gn, .inl (cI, 8, .inl GN)), (gc, .inl (cI, 8, .inl GC)), (gh, .inl (cI, 8, .inl GH))]) ([(x0, .inr (4, [.ref t0, .ref r0, .ref y0, .ref g0, .ref w0, .int TR, .int LF])), (t0, .inr (0, [.ref tk, .ref tl, .ref tc, .int N])), (tk, .inl (cI, 6, .inl K)), (tl, .inl (cI, 6, .inl L)), (tc, .inl (cI, 6, .inl C)), (r0, .inr (0, [.ref rk, .ref rl, .ref rc, .int N2])), (rk, .inl (cI, 6, .inl K2)), (rl, .inl (cI, 6, .inl L2)), (rc, .inl (cI, 6, .inl C2)), (g0, .inr (1, [.ref gn, .ref gc, .ref gh, .int GK])), (gn, .inl (cI, 8, .inl GN)), (gc, .inl (cI, 8, .inl GC)), (gh, .inl (cI, 8, .inl GH))]) ([(x0, .inr (4, [.ref t0, .ref r0, .ref y0, .ref g0, .ref w0, .int TR, .int LF])), (t0, .inr (0, [.ref tk, .ref tl, .ref tc, .int N])), (tk, .inl (cI, 6, .inl K)), (tl, .inl (cI, 6, .inl L)), (tc, .inl (cI, 6, .inl C)), (r0, .inr (0, [.ref rk, .ref rl, .ref rc, .int N2_16])), (rk, .inl (cI, 6, .inl K2_16)), (rl, .inl (cI, 6, .inl L2_16)), (rc, .inl (cI, 6, .inl C2_16)), (g0, .inr (1, [.ref gn, .ref gc, .ref gh, .int GK])), (gn, .inl (cI, 8, .inl GN)), (gc, .inl (cI, 8, .inl GC)), (gh, .inl (cI, 8, .inl GH))]) ([]) hP hD [0, 1, 2, 3, 4, 5, 6, 7, 8, 9, 10, 11, 12] [] [x0, t0, tk, tl, tc, r0, rk, rl, rc, g0, gn, gc, gh] 13 rfl rfl rfl rfl rfl (by decide) rfl rfl hk1 hB
    refine lv_goto (tgt := 23) hx hb dX4_lands_19 (by decide) ?_
    have hE9 : p4_lands N K L C N2 K2 L2 C2 GK GN GC GH i1 = (r_16, N2_16, K2_16, L2_16, C2_16) := by unfold p4_lands; simp only [er_16, eN2_16, eK2_16, eL2_16, eC2_16]; rw [if_neg c_8]
    exact W.iret (v := r_16) hx hb hr (fun t ht hW => ⟨⟨_, (), rfl, by rw [hE9], by show va_P (dC, dI) vwCl _ t.heap; rw [ht, hE9]; exact hP⟩, hS.F ht⟩) hS.2.2 dX4_lands_23

def p4_coins (N : Int32) (K : Nat → Int32) (L : Nat → Int32) (C : Nat → Int32) (N2 : Int32) (K2 : Nat → Int32) (L2 : Nat → Int32) (C2 : Nat → Int32) (GK : Int32) (GN : Nat → Int32) (GC : Nat → Int32) (GH : Nat → Int32) (i1 : Int32) : Int32 × Int32 × (Nat → Int32) × (Nat → Int32) × (Nat → Int32) :=
  if (p0_has N i1) = 0 then
    ((-1), N2, K2, L2, C2)
  else
    (((p4_possible N K L C N2 K2 L2 C2 GK GN GC GH i1 2 10).1), ((p4_possible N K L C N2 K2 L2 C2 GK GN GC GH i1 2 10).2.1), ((p4_possible N K L C N2 K2 L2 C2 GK GN GC GH i1 2 10).2.2.1), ((p4_possible N K L C N2 K2 L2 C2 GK GN GC GH i1 2 10).2.2.2.1), ((p4_possible N K L C N2 K2 L2 C2 GK GN GC GH i1 2 10).2.2.2.2))
abbrev rmX4_coins : Room := { frames := 6, cells := 0, slots := 0, locals := 142 }
abbrev QX4_coins (dC : Nat → ClassId) (dI : Nat → Nat → Nat) (A : Nat → Prop) (cI : ClassId) (x0 : Nat) (t0 : Nat) (r0 : Nat) (y0 : Nat) (g0 : Nat) (w0 : Nat) (tk : Nat) (tl : Nat) (tc : Nat) (rk : Nat) (rl : Nat) (rc : Nat) (gn : Nat) (gc : Nat) (gh : Nat) (TR : Int32) (LF : Int32) (N : Int32) (K : Nat → Int32) (L : Nat → Int32) (C : Nat → Int32) (N2 : Int32) (K2 : Nat → Int32) (L2 : Nat → Int32) (C2 : Nat → Int32) (GK : Int32) (GN : Nat → Int32) (GC : Nat → Int32) (GH : Nat → Int32) (i1 : Int32) : Array Value → State → Outcome → State → Prop := va_Qi (fun (r : Int32) (_ : Unit) => r = (p4_coins N K L C N2 K2 L2 C2 GK GN GC GH i1).1) (fun (_ : Unit) (t : State) => va_P (dC, dI) vwCl ([(x0, .inr (4, [.ref t0, .ref r0, .ref y0, .ref g0, .ref w0, .int TR, .int LF])), (t0, .inr (0, [.ref tk, .ref tl, .ref tc, .int N])), (tk, .inl (cI, 6, .inl K)), (tl, .inl (cI, 6, .inl L)), (tc, .inl (cI, 6, .inl C)), (r0, .inr (0, [.ref rk, .ref rl, .ref rc, .int ((p4_coins N K L C N2 K2 L2 C2 GK GN GC GH i1).2.1)])), (rk, .inl (cI, 6, .inl ((p4_coins N K L C N2 K2 L2 C2 GK GN GC GH i1).2.2.1))), (rl, .inl (cI, 6, .inl ((p4_coins N K L C N2 K2 L2 C2 GK GN GC GH i1).2.2.2.1))), (rc, .inl (cI, 6, .inl ((p4_coins N K L C N2 K2 L2 C2 GK GN GC GH i1).2.2.2.2))), (g0, .inr (1, [.ref gn, .ref gc, .ref gh, .int GK])), (gn, .inl (cI, 8, .inl GN)), (gc, .inl (cI, 8, .inl GC)), (gh, .inl (cI, 8, .inl GH))]) t.heap) A
set_option maxHeartbeats 4000000 in
set_option maxRecDepth 100000 in
theorem ctX4_coins (l : Launch) (dC : Nat → ClassId) (dI : Nat → Nat → Nat) (cI : ClassId) (x0 : Nat) (t0 : Nat) (r0 : Nat) (y0 : Nat) (g0 : Nat) (w0 : Nat) (tk : Nat) (tl : Nat) (tc : Nat) (rk : Nat) (rl : Nat) (rc : Nat) (gn : Nat) (gc : Nat) (gh : Nat) (sz : Nat) (TR : Int32) (LF : Int32) (N : Int32) (K : Nat → Int32) (L : Nat → Int32) (C : Nat → Int32) (N2 : Int32) (K2 : Nat → Int32) (L2 : Nat → Int32) (C2 : Nat → Int32) (GK : Int32) (GN : Nat → Int32) (GC : Nat → Int32) (GH : Nat → Int32) (i1 : Int32) (hG8 : GK.toInt ≤ 8) (hGN : ∀ j : Nat, (j : Int) < GK.toInt → vp_in (GN j) 6) (hNb : N.toInt ≤ 6) : Met l yX4_coins wsX4_coins rmX4_coins (va_Pc [.ref x0, .int i1] (cP dC dI [(cI, .int)] ([(x0, .inr (4, [.ref t0, .ref r0, .ref y0, .ref g0, .ref w0, .int TR, .int LF])), (t0, .inr (0, [.ref tk, .ref tl, .ref tc, .int N])), (tk, .inl (cI, 6, .inl K)), (tl, .inl (cI, 6, .inl L)), (tc, .inl (cI, 6, .inl C)), (r0, .inr (0, [.ref rk, .ref rl, .ref rc, .int N2])), (rk, .inl (cI, 6, .inl K2)), (rl, .inl (cI, 6, .inl L2)), (rc, .inl (cI, 6, .inl C2)), (g0, .inr (1, [.ref gn, .ref gc, .ref gh, .int GK])), (gn, .inl (cI, 8, .inl GN)), (gc, .inl (cI, 8, .inl GC)), (gh, .inl (cI, 8, .inl GH))]) sz)) (QX4_coins dC dI (va_A ([(x0, .inr (4, [.ref t0, .ref r0, .ref y0, .ref g0, .ref w0, .int TR, .int LF])), (t0, .inr (0, [.ref tk, .ref tl, .ref tc, .int N])), (tk, .inl (cI, 6, .inl K)), (tl, .inl (cI, 6, .inl L)), (tc, .inl (cI, 6, .inl C)), (r0, .inr (0, [.ref rk, .ref rl, .ref rc, .int N2])), (rk, .inl (cI, 6, .inl K2)), (rl, .inl (cI, 6, .inl L2)), (rc, .inl (cI, 6, .inl C2)), (g0, .inr (1, [.ref gn, .ref gc, .ref gh, .int GK])), (gn, .inl (cI, 8, .inl GN)), (gc, .inl (cI, 8, .inl GC)), (gh, .inl (cI, 8, .inl GH))]) sz) cI x0 t0 r0 y0 g0 w0 tk tl tc rk rl rc gn gc gh TR LF N K L C N2 K2 L2 C2 GK GN GC GH i1) 0 0 (va_A ([(x0, .inr (4, [.ref t0, .ref r0, .ref y0, .ref g0, .ref w0, .int TR, .int LF])), (t0, .inr (0, [.ref tk, .ref tl, .ref tc, .int N])), (tk, .inl (cI, 6, .inl K)), (tl, .inl (cI, 6, .inl L)), (tc, .inl (cI, 6, .inl C)), (r0, .inr (0, [.ref rk, .ref rl, .ref rc, .int N2])), (rk, .inl (cI, 6, .inl K2)), (rl, .inl (cI, 6, .inl L2)), (rc, .inl (cI, 6, .inl C2)), (g0, .inr (1, [.ref gn, .ref gc, .ref gh, .int GK])), (gn, .inl (cI, 8, .inl GN)), (gc, .inl (cI, 8, .inl GC)), (gh, .inl (cI, 8, .inl GH))]) sz) := by
  refine Met.ofW (cc := cX4_coins) (maxL := 2) (ret := (some .int)) (by decide) rfl ?_
  intro p e s m args below meth c s₁ B hml hv
  obtain ⟨rfl, hsz, hP, hK, hD0, hN⟩ := hv
  have hx := B.exec
  have hb := B.bytes
  have hr := B.returns
  have hts := atoms_spec (ws := wsX4_coins) B.pre
  have hown : s.vm.findClass RX4 = some m.cls := findClass_of_methodNamed B.named
  have hlocks := B.notSynchronized
  subst hsz
  have hD := hD0.self (sz := s.heap.size)
  generalize hAe : va_A ([(x0, .inr (4, [.ref t0, .ref r0, .ref y0, .ref g0, .ref w0, .int TR, .int LF])), (t0, .inr (0, [.ref tk, .ref tl, .ref tc, .int N])), (tk, .inl (cI, 6, .inl K)), (tl, .inl (cI, 6, .inl L)), (tc, .inl (cI, 6, .inl C)), (r0, .inr (0, [.ref rk, .ref rl, .ref rc, .int N2])), (rk, .inl (cI, 6, .inl K2)), (rl, .inl (cI, 6, .inl L2)), (rc, .inl (cI, 6, .inl C2)), (g0, .inr (1, [.ref gn, .ref gc, .ref gh, .int GK])), (gn, .inl (cI, 8, .inl GN)), (gc, .inl (cI, 8, .inl GC)), (gh, .inl (cI, 8, .inl GH))]) s.heap.size = A at hD ⊢
  have hA : ∀ q : Nat, s.heap.size ≤ q → A q := fun q h => by rw [← hAe]; exact Or.inr h
  have hS : va_S A s.heap s.heap [] := va_S.rf
  have hP : va_P (dC, dI) vwCl ([(x0, .inr (4, [.ref t0, .ref r0, .ref y0, .ref g0, .ref w0, .int TR, .int LF])), (t0, .inr (0, [.ref tk, .ref tl, .ref tc, .int N])), (tk, .inl (cI, 6, .inl K)), (tl, .inl (cI, 6, .inl L)), (tc, .inl (cI, 6, .inl C)), (r0, .inr (0, [.ref rk, .ref rl, .ref rc, .int N2])), (rk, .inl (cI, 6, .inl K2)), (rl, .inl (cI, 6, .inl L2)), (rc, .inl (cI, 6, .inl C2)), (g0, .inr (1, [.ref gn, .ref gc, .ref gh, .int GK])), (gn, .inl (cI, 8, .inl GN)), (gc, .inl (cI, 8, .inl GC)), (gh, .inl (cI, 8, .inl GH))]) s.heap := hP
  have hin4 : ∀ w ∈ wsX40, w ∈ wsX4_coins := by decide +kernel
  have kf_12 := hts (.fieldLink RX4 12 "RicherChange" "town" "LRicherChange$City;") (by decide +kernel)
  have hl := lv_entry ([.ref x0, .int i1]) (n := 2) (Nat.le_of_ble_eq_true rfl)
  rw [lg_entry_eq]
  generalize (lg_sl ([.ref x0, .int i1]) ++ List.replicate (2 - (lg_sl ([.ref x0, .int i1])).length) Slot.unset).toArray = ls at hl ⊢
  have hl : lv_has ls 2 [(0, .ref x0), (1, .int i1)] := hl
  refine lv_aload_n hx hb dX4_coins_0 rfl (lv_at hl 0 rfl) ?_
  refine va_get (D := (dC, dI)) (ci := 4) (v := .ref t0) (C := RX4) (T := TX4) (N := 7) hx hb hts hin4 hown hK hP 0 rfl rfl 0 (by decide) kf_12 (fun _ h9 => h9) rfl dX4_coins_1 ?_
  refine lv_iload_n hx hb dX4_coins_4 rfl (lv_at hl 1 rfl) ?_
  have hPc := hP.sub (ws' := [(t0, .inr (0, [.ref tk, .ref tl, .ref tc, .int N]))]) [1] rfl
  have hDc := hD.sub (ws' := [(t0, .inr (0, [.ref tk, .ref tl, .ref tc, .int N]))]) [1] (by decide) rfl
  have hKc := hK.sub (tys' := [(cI, .int)]) [0] rfl
  have hFc := va_free (wc := [(t0, .inr (0, [.ref tk, .ref tl, .ref tc, .int N]))]) hD hS hA [1] rfl
  refine va_calli (va_runV (As := [.int i1]) (rest := []) ⟨hx, hb, hml, hown, hts⟩ (ctX0_has l dC dI cI t0 tk tl tc s.heap.size N i1) (cwV 1 hts gX4_coins_X0_has rfl rfl rfl (by decide +kernel) ⟨Nat.le_of_ble_eq_true rfl, Nat.le_of_ble_eq_true rfl⟩) (pre_V hKc hN hPc hDc (RX0, TX0, 4) 0 0 rfl rfl) rfl rfl hl.1 rfl (lv_room (Nat.le_of_ble_eq_true rfl)) dX4_coins_5 ⟨Nat.le_of_ble_eq_true rfl, Nat.le_of_ble_eq_true rfl⟩) hS (fun q _ h => hFc q h) hFc (fun r _ t H locs ht hvm hw hB hz1 hk1 hS => ?_)
  try dsimp only at hw
  subst hw
  rw [ht] at hB
  obtain ⟨hP, hD⟩ := rw_join ([(x0, .inr (4, [.ref t0, .ref r0, .ref y0, .ref g0, .ref w0, .int TR, .int LF])), (t0, .inr (0, [.ref tk, .ref tl, .ref tc, .int N])), (tk, .inl (cI, 6, .inl K)), (tl, .inl (cI, 6, .inl L)), (tc, .inl (cI, 6, .inl C)), (r0, .inr (0, [.ref rk, .ref rl, .ref rc, .int N2])), (rk, .inl (cI, 6, .inl K2)), (rl, .inl (cI, 6, .inl L2)), (rc, .inl (cI, 6, .inl C2)), (g0, .inr (1, [.ref gn, .ref gc, .ref gh, .int GK])), (gn, .inl (cI, 8, .inl GN)), (gc, .inl (cI, 8, .inl GC)), (gh, .inl (cI, 8, .inl GH))]) ([(x0, .inr (4, [.ref t0, .ref r0, .ref y0, .ref g0, .ref w0, .int TR, .int LF])), (t0, .inr (0, [.ref tk, .ref tl, .ref tc, .int N])), (tk, .inl (cI, 6, .inl K)), (tl, .inl (cI, 6, .inl L)), (tc, .inl (cI, 6, .inl C)), (r0, .inr (0, [.ref rk, .ref rl, .ref rc, .int N2])), (rk, .inl (cI, 6, .inl K2)), (rl, .inl (cI, 6, .inl L2)), (rc, .inl (cI, 6, .inl C2)), (g0, .inr (1, [.ref gn, .ref gc, .ref gh, .int GK])), (gn, .inl (cI, 8, .inl GN)), (gc, .inl (cI, 8, .inl GC)), (gh, .inl (cI, 8, .inl GH))]) ([(t0, .inr (0, [.ref tk, .ref tl, .ref tc, .int N]))]) ([(t0, .inr (0, [.ref tk, .ref tl, .ref tc, .int N]))]) ([(x0, .inr (4, [.ref t0, .ref r0, .ref y0, .ref g0, .ref w0, .int TR, .int LF])), (tk, .inl (cI, 6, .inl K)), (tl, .inl (cI, 6, .inl L)), (tc, .inl (cI, 6, .inl C)), (r0, .inr (0, [.ref rk, .ref rl, .ref rc, .int N2])), (rk, .inl (cI, 6, .inl K2)), (rl, .inl (cI, 6, .inl L2)), (rc, .inl (cI, 6, .inl C2)), (g0, .inr (1, [.ref gn, .ref gc, .ref gh, .int GK])), (gn, .inl (cI, 8, .inl GN)), (gc, .inl (cI, 8, .inl GC)), (gh, .inl (cI, 8, .inl GH))]) hP hD [1] [0, 2, 3, 4, 5, 6, 7, 8, 9, 10, 11, 12] [x0, t0, tk, tl, tc, r0, rk, rl, rc, g0, gn, gc, gh] 13 rfl rfl rfl rfl rfl (by decide) rfl rfl hk1 hB
  refine lv_if_eq (tgt := 22) hx hb dX4_coins_8 (by decide) (fun c_8 => ?_) (fun c_8 => ?_)
  · skip
    refine lv_iconst (v := (-1)) hx hb dX4_coins_22 (by decide) ?_
    have hE9 : p4_coins N K L C N2 K2 L2 C2 GK GN GC GH i1 = ((-1), N2, K2, L2, C2) := by unfold p4_coins; rw [if_pos c_8]
    exact W.iret (v := (-1)) hx hb hr (fun t ht hW => ⟨⟨_, (), rfl, by rw [hE9], by show va_P (dC, dI) vwCl _ t.heap; rw [ht, hE9]; exact hP⟩, hS.F ht⟩) hS.2.2 dX4_coins_23
  · skip
    have j1 : vp_in i1 6 := has_in hNb c_8
    refine lv_aload_n hx hb dX4_coins_11 rfl (lv_at hl 0 rfl) ?_
    refine lv_iload_n hx hb dX4_coins_12 rfl (lv_at hl 1 rfl) ?_
    refine lv_iconst (v := 2) hx hb dX4_coins_13 (by decide) ?_
    refine lv_bipush (v := 10) hx hb dX4_coins_14 (by decide) ?_
    have hPc := hP.sub (ws' := [(x0, .inr (4, [.ref t0, .ref r0, .ref y0, .ref g0, .ref w0, .int TR, .int LF])), (t0, .inr (0, [.ref tk, .ref tl, .ref tc, .int N])), (tk, .inl (cI, 6, .inl K)), (tl, .inl (cI, 6, .inl L)), (tc, .inl (cI, 6, .inl C)), (r0, .inr (0, [.ref rk, .ref rl, .ref rc, .int N2])), (rk, .inl (cI, 6, .inl K2)), (rl, .inl (cI, 6, .inl L2)), (rc, .inl (cI, 6, .inl C2)), (g0, .inr (1, [.ref gn, .ref gc, .ref gh, .int GK])), (gn, .inl (cI, 8, .inl GN)), (gc, .inl (cI, 8, .inl GC)), (gh, .inl (cI, 8, .inl GH))]) [0, 1, 2, 3, 4, 5, 6, 7, 8, 9, 10, 11, 12] rfl
    have hDc := hD.sub (ws' := [(x0, .inr (4, [.ref t0, .ref r0, .ref y0, .ref g0, .ref w0, .int TR, .int LF])), (t0, .inr (0, [.ref tk, .ref tl, .ref tc, .int N])), (tk, .inl (cI, 6, .inl K)), (tl, .inl (cI, 6, .inl L)), (tc, .inl (cI, 6, .inl C)), (r0, .inr (0, [.ref rk, .ref rl, .ref rc, .int N2])), (rk, .inl (cI, 6, .inl K2)), (rl, .inl (cI, 6, .inl L2)), (rc, .inl (cI, 6, .inl C2)), (g0, .inr (1, [.ref gn, .ref gc, .ref gh, .int GK])), (gn, .inl (cI, 8, .inl GN)), (gc, .inl (cI, 8, .inl GC)), (gh, .inl (cI, 8, .inl GH))]) [0, 1, 2, 3, 4, 5, 6, 7, 8, 9, 10, 11, 12] (by decide) rfl
    have hKc := hK.sub (tys' := [(cI, .int)]) [0] rfl
    have hFc := va_free (wc := [(x0, .inr (4, [.ref t0, .ref r0, .ref y0, .ref g0, .ref w0, .int TR, .int LF])), (t0, .inr (0, [.ref tk, .ref tl, .ref tc, .int N])), (tk, .inl (cI, 6, .inl K)), (tl, .inl (cI, 6, .inl L)), (tc, .inl (cI, 6, .inl C)), (r0, .inr (0, [.ref rk, .ref rl, .ref rc, .int N2])), (rk, .inl (cI, 6, .inl K2)), (rl, .inl (cI, 6, .inl L2)), (rc, .inl (cI, 6, .inl C2)), (g0, .inr (1, [.ref gn, .ref gc, .ref gh, .int GK])), (gn, .inl (cI, 8, .inl GN)), (gc, .inl (cI, 8, .inl GC)), (gh, .inl (cI, 8, .inl GH))]) hD hS hA [0, 1, 2, 3, 4, 5, 6, 7, 8, 9, 10, 11, 12] rfl
    refine va_calli (va_runV (As := [.int i1, .int 2, .int 10]) (rest := []) ⟨hx, hb, hml, hown, hts⟩ (ctX4_possible l dC dI cI x0 t0 r0 y0 g0 w0 tk tl tc rk rl rc gn gc gh H.size TR LF N K L C N2 K2 L2 C2 GK GN GC GH i1 2 10 (by assumption) (by decide) (by assumption) (by assumption) (by assumption)) (cwV 3 hts gX4_coins_X4_possible rfl rfl rfl (by decide +kernel) ⟨Nat.le_of_ble_eq_true rfl, Nat.le_of_ble_eq_true rfl⟩) (pre_V hKc hN hPc hDc (RX4, TX4, 7) 4 0 rfl rfl) rfl rfl hl.1 rfl (lv_room (Nat.le_of_ble_eq_true rfl)) dX4_coins_16 ⟨Nat.le_of_ble_eq_true rfl, Nat.le_of_ble_eq_true rfl⟩) hS (fun q _ h => hFc q h) hFc (fun r_16 _ t H locs ht hvm hw hB hz1 hk1 hS => ?_)
    try dsimp only at hw
    have er_16 := hw.symm
    rw [ht] at hB
    refine nm_gen ((p4_possible N K L C N2 K2 L2 C2 GK GN GC GH i1 2 10).2.1) (fun N2_16 eN2_16 => ?_)
    rw [eN2_16] at hB
    refine nm_gen ((p4_possible N K L C N2 K2 L2 C2 GK GN GC GH i1 2 10).2.2.1) (fun K2_16 eK2_16 => ?_)
    rw [eK2_16] at hB
    refine nm_gen ((p4_possible N K L C N2 K2 L2 C2 GK GN GC GH i1 2 10).2.2.2.1) (fun L2_16 eL2_16 => ?_)
    rw [eL2_16] at hB
    refine nm_gen ((p4_possible N K L C N2 K2 L2 C2 GK GN GC GH i1 2 10).2.2.2.2) (fun C2_16 eC2_16 => ?_)
    rw [eC2_16] at hB
    obtain ⟨hP, hD⟩ := rw_join ([(x0, .inr (4, [.ref t0, .ref r0, .ref y0, .ref g0, .ref w0, .int TR, .int LF])), (t0, .inr (0, [.ref tk, .ref tl, .ref tc, .int N])), (tk, .inl (cI, 6, .inl K)), (tl, .inl (cI, 6, .inl L)), (tc, .inl (cI, 6, .inl C)), (r0, .inr (0, [.ref rk, .ref rl, .ref rc, .int N2])), (rk, .inl (cI, 6, .inl K2)), (rl, .inl (cI, 6, .inl L2)), (rc, .inl (cI, 6, .inl C2)), (g0, .inr (1, [.ref gn, .ref gc, .ref gh, .int GK])), (gn, .inl (cI, 8, .inl GN)), (gc, .inl (cI, 8, .inl GC)), (gh, .inl (cI, 8, .inl GH))]) ([(x0, .inr (4, [.ref t0, .ref r0, .ref y0, .ref g0, .ref w0, .int TR, .int LF])), (t0, .inr (0, [.ref tk, .ref tl, .ref tc, .int N])), (tk, .inl (cI, 6, .inl K)), (tl, .inl (cI, 6, .inl L)), (tc, .inl (cI, 6, .inl C)), (r0, .inr (0, [.ref rk, .ref rl, .ref rc, .int N2_16])), (rk, .inl (cI, 6, .inl K2_16)), (rl, .inl (cI, 6, .inl L2_16)), (rc, .inl (cI, 6, .inl C2_16)), (g0, .inr (1, [.ref gn, .ref gc, .ref gh, .int GK])), (gn, .inl (cI, 8, .inl GN)), (gc, .inl (cI, 8, .inl GC)), (gh, .inl (cI, 8, .inl GH))]) ([(x0, .inr (4, [.ref t0, .ref r0, .ref y0, .ref g0, .ref w0, .int TR, .int LF])), (t0, .inr (0, [.ref tk, .ref tl, .ref tc, .int N])), (tk, .inl (cI, 6, .inl K)), (tl, .inl (cI, 6, .inl L)), (tc, .inl (cI, 6, .inl C)), (r0, .inr (0, [.ref rk, .ref rl, .ref rc, .int N2])), (rk, .inl (cI, 6, .inl K2)), (rl, .inl (cI, 6, .inl L2)), (rc, .inl (cI, 6, .inl C2)), (g0, .inr (1, [.ref gn, .ref gc, .ref gh, .int GK])), (gn, .inl (cI, 8, .inl GN)), (gc, .inl (cI, 8, .inl GC)), (gh, .inl (cI, 8, .inl GH))]) ([(x0, .inr (4, [.ref t0, .ref r0, .ref y0, .ref g0, .ref w0, .int TR, .int LF])), (t0, .inr (0, [.ref tk, .ref tl, .ref tc, .int N])), (tk, .inl (cI, 6, .inl K)), (tl, .inl (cI, 6, .inl L)), (tc, .inl (cI, 6, .inl C)), (r0, .inr (0, [.ref rk, .ref rl, .ref rc, .int N2_16])), (rk, .inl (cI, 6, .inl K2_16)), (rl, .inl (cI, 6, .inl L2_16)), (rc, .inl (cI, 6, .inl C2_16)), (g0, .inr (1, [.ref gn, .ref gc, .ref gh, .int GK])), (gn, .inl (cI, 8, .inl GN)), (gc, .inl (cI, 8, .inl GC)), (gh, .inl (cI, 8, .inl GH))]) ([]) hP hD [0, 1, 2, 3, 4, 5, 6, 7, 8, 9, 10, 11, 12] [] [x0, t0, tk, tl, tc, r0, rk, rl, rc, g0, gn, gc, gh] 13 rfl rfl rfl rfl rfl (by decide) rfl rfl hk1 hB
    refine lv_goto (tgt := 23) hx hb dX4_coins_19 (by decide) ?_
    have hE9 : p4_coins N K L C N2 K2 L2 C2 GK GN GC GH i1 = (r_16, N2_16, K2_16, L2_16, C2_16) := by unfold p4_coins; simp only [er_16, eN2_16, eK2_16, eL2_16, eC2_16]; rw [if_neg c_8]
    exact W.iret (v := r_16) hx hb hr (fun t ht hW => ⟨⟨_, (), rfl, by rw [hE9], by show va_P (dC, dI) vwCl _ t.heap; rw [ht, hE9]; exact hP⟩, hS.F ht⟩) hS.2.2 dX4_coins_23

def p4_kinds (N : Int32) (K : Nat → Int32) (L : Nat → Int32) (C : Nat → Int32) (N2 : Int32) (K2 : Nat → Int32) (L2 : Nat → Int32) (C2 : Nat → Int32) (GK : Int32) (GN : Nat → Int32) (GC : Nat → Int32) (GH : Nat → Int32) (i1 : Int32) : Int32 × Int32 × (Nat → Int32) × (Nat → Int32) × (Nat → Int32) :=
  if (p0_has N i1) = 0 then
    ((-1), N2, K2, L2, C2)
  else
    (((p4_possible N K L C N2 K2 L2 C2 GK GN GC GH i1 0 3).1), ((p4_possible N K L C N2 K2 L2 C2 GK GN GC GH i1 0 3).2.1), ((p4_possible N K L C N2 K2 L2 C2 GK GN GC GH i1 0 3).2.2.1), ((p4_possible N K L C N2 K2 L2 C2 GK GN GC GH i1 0 3).2.2.2.1), ((p4_possible N K L C N2 K2 L2 C2 GK GN GC GH i1 0 3).2.2.2.2))
abbrev rmX4_kinds : Room := { frames := 6, cells := 0, slots := 0, locals := 142 }
abbrev QX4_kinds (dC : Nat → ClassId) (dI : Nat → Nat → Nat) (A : Nat → Prop) (cI : ClassId) (x0 : Nat) (t0 : Nat) (r0 : Nat) (y0 : Nat) (g0 : Nat) (w0 : Nat) (tk : Nat) (tl : Nat) (tc : Nat) (rk : Nat) (rl : Nat) (rc : Nat) (gn : Nat) (gc : Nat) (gh : Nat) (TR : Int32) (LF : Int32) (N : Int32) (K : Nat → Int32) (L : Nat → Int32) (C : Nat → Int32) (N2 : Int32) (K2 : Nat → Int32) (L2 : Nat → Int32) (C2 : Nat → Int32) (GK : Int32) (GN : Nat → Int32) (GC : Nat → Int32) (GH : Nat → Int32) (i1 : Int32) : Array Value → State → Outcome → State → Prop := va_Qi (fun (r : Int32) (_ : Unit) => r = (p4_kinds N K L C N2 K2 L2 C2 GK GN GC GH i1).1) (fun (_ : Unit) (t : State) => va_P (dC, dI) vwCl ([(x0, .inr (4, [.ref t0, .ref r0, .ref y0, .ref g0, .ref w0, .int TR, .int LF])), (t0, .inr (0, [.ref tk, .ref tl, .ref tc, .int N])), (tk, .inl (cI, 6, .inl K)), (tl, .inl (cI, 6, .inl L)), (tc, .inl (cI, 6, .inl C)), (r0, .inr (0, [.ref rk, .ref rl, .ref rc, .int ((p4_kinds N K L C N2 K2 L2 C2 GK GN GC GH i1).2.1)])), (rk, .inl (cI, 6, .inl ((p4_kinds N K L C N2 K2 L2 C2 GK GN GC GH i1).2.2.1))), (rl, .inl (cI, 6, .inl ((p4_kinds N K L C N2 K2 L2 C2 GK GN GC GH i1).2.2.2.1))), (rc, .inl (cI, 6, .inl ((p4_kinds N K L C N2 K2 L2 C2 GK GN GC GH i1).2.2.2.2))), (g0, .inr (1, [.ref gn, .ref gc, .ref gh, .int GK])), (gn, .inl (cI, 8, .inl GN)), (gc, .inl (cI, 8, .inl GC)), (gh, .inl (cI, 8, .inl GH))]) t.heap) A
set_option maxHeartbeats 4000000 in
set_option maxRecDepth 100000 in
theorem ctX4_kinds (l : Launch) (dC : Nat → ClassId) (dI : Nat → Nat → Nat) (cI : ClassId) (x0 : Nat) (t0 : Nat) (r0 : Nat) (y0 : Nat) (g0 : Nat) (w0 : Nat) (tk : Nat) (tl : Nat) (tc : Nat) (rk : Nat) (rl : Nat) (rc : Nat) (gn : Nat) (gc : Nat) (gh : Nat) (sz : Nat) (TR : Int32) (LF : Int32) (N : Int32) (K : Nat → Int32) (L : Nat → Int32) (C : Nat → Int32) (N2 : Int32) (K2 : Nat → Int32) (L2 : Nat → Int32) (C2 : Nat → Int32) (GK : Int32) (GN : Nat → Int32) (GC : Nat → Int32) (GH : Nat → Int32) (i1 : Int32) (hG8 : GK.toInt ≤ 8) (hGN : ∀ j : Nat, (j : Int) < GK.toInt → vp_in (GN j) 6) (hNb : N.toInt ≤ 6) : Met l yX4_kinds wsX4_kinds rmX4_kinds (va_Pc [.ref x0, .int i1] (cP dC dI [(cI, .int)] ([(x0, .inr (4, [.ref t0, .ref r0, .ref y0, .ref g0, .ref w0, .int TR, .int LF])), (t0, .inr (0, [.ref tk, .ref tl, .ref tc, .int N])), (tk, .inl (cI, 6, .inl K)), (tl, .inl (cI, 6, .inl L)), (tc, .inl (cI, 6, .inl C)), (r0, .inr (0, [.ref rk, .ref rl, .ref rc, .int N2])), (rk, .inl (cI, 6, .inl K2)), (rl, .inl (cI, 6, .inl L2)), (rc, .inl (cI, 6, .inl C2)), (g0, .inr (1, [.ref gn, .ref gc, .ref gh, .int GK])), (gn, .inl (cI, 8, .inl GN)), (gc, .inl (cI, 8, .inl GC)), (gh, .inl (cI, 8, .inl GH))]) sz)) (QX4_kinds dC dI (va_A ([(x0, .inr (4, [.ref t0, .ref r0, .ref y0, .ref g0, .ref w0, .int TR, .int LF])), (t0, .inr (0, [.ref tk, .ref tl, .ref tc, .int N])), (tk, .inl (cI, 6, .inl K)), (tl, .inl (cI, 6, .inl L)), (tc, .inl (cI, 6, .inl C)), (r0, .inr (0, [.ref rk, .ref rl, .ref rc, .int N2])), (rk, .inl (cI, 6, .inl K2)), (rl, .inl (cI, 6, .inl L2)), (rc, .inl (cI, 6, .inl C2)), (g0, .inr (1, [.ref gn, .ref gc, .ref gh, .int GK])), (gn, .inl (cI, 8, .inl GN)), (gc, .inl (cI, 8, .inl GC)), (gh, .inl (cI, 8, .inl GH))]) sz) cI x0 t0 r0 y0 g0 w0 tk tl tc rk rl rc gn gc gh TR LF N K L C N2 K2 L2 C2 GK GN GC GH i1) 0 0 (va_A ([(x0, .inr (4, [.ref t0, .ref r0, .ref y0, .ref g0, .ref w0, .int TR, .int LF])), (t0, .inr (0, [.ref tk, .ref tl, .ref tc, .int N])), (tk, .inl (cI, 6, .inl K)), (tl, .inl (cI, 6, .inl L)), (tc, .inl (cI, 6, .inl C)), (r0, .inr (0, [.ref rk, .ref rl, .ref rc, .int N2])), (rk, .inl (cI, 6, .inl K2)), (rl, .inl (cI, 6, .inl L2)), (rc, .inl (cI, 6, .inl C2)), (g0, .inr (1, [.ref gn, .ref gc, .ref gh, .int GK])), (gn, .inl (cI, 8, .inl GN)), (gc, .inl (cI, 8, .inl GC)), (gh, .inl (cI, 8, .inl GH))]) sz) := by
  refine Met.ofW (cc := cX4_kinds) (maxL := 2) (ret := (some .int)) (by decide) rfl ?_
  intro p e s m args below meth c s₁ B hml hv
  obtain ⟨rfl, hsz, hP, hK, hD0, hN⟩ := hv
  have hx := B.exec
  have hb := B.bytes
  have hr := B.returns
  have hts := atoms_spec (ws := wsX4_kinds) B.pre
  have hown : s.vm.findClass RX4 = some m.cls := findClass_of_methodNamed B.named
  have hlocks := B.notSynchronized
  subst hsz
  have hD := hD0.self (sz := s.heap.size)
  generalize hAe : va_A ([(x0, .inr (4, [.ref t0, .ref r0, .ref y0, .ref g0, .ref w0, .int TR, .int LF])), (t0, .inr (0, [.ref tk, .ref tl, .ref tc, .int N])), (tk, .inl (cI, 6, .inl K)), (tl, .inl (cI, 6, .inl L)), (tc, .inl (cI, 6, .inl C)), (r0, .inr (0, [.ref rk, .ref rl, .ref rc, .int N2])), (rk, .inl (cI, 6, .inl K2)), (rl, .inl (cI, 6, .inl L2)), (rc, .inl (cI, 6, .inl C2)), (g0, .inr (1, [.ref gn, .ref gc, .ref gh, .int GK])), (gn, .inl (cI, 8, .inl GN)), (gc, .inl (cI, 8, .inl GC)), (gh, .inl (cI, 8, .inl GH))]) s.heap.size = A at hD ⊢
  have hA : ∀ q : Nat, s.heap.size ≤ q → A q := fun q h => by rw [← hAe]; exact Or.inr h
  have hS : va_S A s.heap s.heap [] := va_S.rf
  have hP : va_P (dC, dI) vwCl ([(x0, .inr (4, [.ref t0, .ref r0, .ref y0, .ref g0, .ref w0, .int TR, .int LF])), (t0, .inr (0, [.ref tk, .ref tl, .ref tc, .int N])), (tk, .inl (cI, 6, .inl K)), (tl, .inl (cI, 6, .inl L)), (tc, .inl (cI, 6, .inl C)), (r0, .inr (0, [.ref rk, .ref rl, .ref rc, .int N2])), (rk, .inl (cI, 6, .inl K2)), (rl, .inl (cI, 6, .inl L2)), (rc, .inl (cI, 6, .inl C2)), (g0, .inr (1, [.ref gn, .ref gc, .ref gh, .int GK])), (gn, .inl (cI, 8, .inl GN)), (gc, .inl (cI, 8, .inl GC)), (gh, .inl (cI, 8, .inl GH))]) s.heap := hP
  have hin4 : ∀ w ∈ wsX40, w ∈ wsX4_kinds := by decide +kernel
  have kf_12 := hts (.fieldLink RX4 12 "RicherChange" "town" "LRicherChange$City;") (by decide +kernel)
  have hl := lv_entry ([.ref x0, .int i1]) (n := 2) (Nat.le_of_ble_eq_true rfl)
  rw [lg_entry_eq]
  generalize (lg_sl ([.ref x0, .int i1]) ++ List.replicate (2 - (lg_sl ([.ref x0, .int i1])).length) Slot.unset).toArray = ls at hl ⊢
  have hl : lv_has ls 2 [(0, .ref x0), (1, .int i1)] := hl
  refine lv_aload_n hx hb dX4_kinds_0 rfl (lv_at hl 0 rfl) ?_
  refine va_get (D := (dC, dI)) (ci := 4) (v := .ref t0) (C := RX4) (T := TX4) (N := 7) hx hb hts hin4 hown hK hP 0 rfl rfl 0 (by decide) kf_12 (fun _ h9 => h9) rfl dX4_kinds_1 ?_
  refine lv_iload_n hx hb dX4_kinds_4 rfl (lv_at hl 1 rfl) ?_
  have hPc := hP.sub (ws' := [(t0, .inr (0, [.ref tk, .ref tl, .ref tc, .int N]))]) [1] rfl
  have hDc := hD.sub (ws' := [(t0, .inr (0, [.ref tk, .ref tl, .ref tc, .int N]))]) [1] (by decide) rfl
  have hKc := hK.sub (tys' := [(cI, .int)]) [0] rfl
  have hFc := va_free (wc := [(t0, .inr (0, [.ref tk, .ref tl, .ref tc, .int N]))]) hD hS hA [1] rfl
  refine va_calli (va_runV (As := [.int i1]) (rest := []) ⟨hx, hb, hml, hown, hts⟩ (ctX0_has l dC dI cI t0 tk tl tc s.heap.size N i1) (cwV 1 hts gX4_kinds_X0_has rfl rfl rfl (by decide +kernel) ⟨Nat.le_of_ble_eq_true rfl, Nat.le_of_ble_eq_true rfl⟩) (pre_V hKc hN hPc hDc (RX0, TX0, 4) 0 0 rfl rfl) rfl rfl hl.1 rfl (lv_room (Nat.le_of_ble_eq_true rfl)) dX4_kinds_5 ⟨Nat.le_of_ble_eq_true rfl, Nat.le_of_ble_eq_true rfl⟩) hS (fun q _ h => hFc q h) hFc (fun r _ t H locs ht hvm hw hB hz1 hk1 hS => ?_)
  try dsimp only at hw
  subst hw
  rw [ht] at hB
  obtain ⟨hP, hD⟩ := rw_join ([(x0, .inr (4, [.ref t0, .ref r0, .ref y0, .ref g0, .ref w0, .int TR, .int LF])), (t0, .inr (0, [.ref tk, .ref tl, .ref tc, .int N])), (tk, .inl (cI, 6, .inl K)), (tl, .inl (cI, 6, .inl L)), (tc, .inl (cI, 6, .inl C)), (r0, .inr (0, [.ref rk, .ref rl, .ref rc, .int N2])), (rk, .inl (cI, 6, .inl K2)), (rl, .inl (cI, 6, .inl L2)), (rc, .inl (cI, 6, .inl C2)), (g0, .inr (1, [.ref gn, .ref gc, .ref gh, .int GK])), (gn, .inl (cI, 8, .inl GN)), (gc, .inl (cI, 8, .inl GC)), (gh, .inl (cI, 8, .inl GH))]) ([(x0, .inr (4, [.ref t0, .ref r0, .ref y0, .ref g0, .ref w0, .int TR, .int LF])), (t0, .inr (0, [.ref tk, .ref tl, .ref tc, .int N])), (tk, .inl (cI, 6, .inl K)), (tl, .inl (cI, 6, .inl L)), (tc, .inl (cI, 6, .inl C)), (r0, .inr (0, [.ref rk, .ref rl, .ref rc, .int N2])), (rk, .inl (cI, 6, .inl K2)), (rl, .inl (cI, 6, .inl L2)), (rc, .inl (cI, 6, .inl C2)), (g0, .inr (1, [.ref gn, .ref gc, .ref gh, .int GK])), (gn, .inl (cI, 8, .inl GN)), (gc, .inl (cI, 8, .inl GC)), (gh, .inl (cI, 8, .inl GH))]) ([(t0, .inr (0, [.ref tk, .ref tl, .ref tc, .int N]))]) ([(t0, .inr (0, [.ref tk, .ref tl, .ref tc, .int N]))]) ([(x0, .inr (4, [.ref t0, .ref r0, .ref y0, .ref g0, .ref w0, .int TR, .int LF])), (tk, .inl (cI, 6, .inl K)), (tl, .inl (cI, 6, .inl L)), (tc, .inl (cI, 6, .inl C)), (r0, .inr (0, [.ref rk, .ref rl, .ref rc, .int N2])), (rk, .inl (cI, 6, .inl K2)), (rl, .inl (cI, 6, .inl L2)), (rc, .inl (cI, 6, .inl C2)), (g0, .inr (1, [.ref gn, .ref gc, .ref gh, .int GK])), (gn, .inl (cI, 8, .inl GN)), (gc, .inl (cI, 8, .inl GC)), (gh, .inl (cI, 8, .inl GH))]) hP hD [1] [0, 2, 3, 4, 5, 6, 7, 8, 9, 10, 11, 12] [x0, t0, tk, tl, tc, r0, rk, rl, rc, g0, gn, gc, gh] 13 rfl rfl rfl rfl rfl (by decide) rfl rfl hk1 hB
  refine lv_if_eq (tgt := 21) hx hb dX4_kinds_8 (by decide) (fun c_8 => ?_) (fun c_8 => ?_)
  · skip
    refine lv_iconst (v := (-1)) hx hb dX4_kinds_21 (by decide) ?_
    have hE9 : p4_kinds N K L C N2 K2 L2 C2 GK GN GC GH i1 = ((-1), N2, K2, L2, C2) := by unfold p4_kinds; rw [if_pos c_8]
    exact W.iret (v := (-1)) hx hb hr (fun t ht hW => ⟨⟨_, (), rfl, by rw [hE9], by show va_P (dC, dI) vwCl _ t.heap; rw [ht, hE9]; exact hP⟩, hS.F ht⟩) hS.2.2 dX4_kinds_22
  · skip
    have j1 : vp_in i1 6 := has_in hNb c_8
    refine lv_aload_n hx hb dX4_kinds_11 rfl (lv_at hl 0 rfl) ?_
    refine lv_iload_n hx hb dX4_kinds_12 rfl (lv_at hl 1 rfl) ?_
    refine lv_iconst (v := 0) hx hb dX4_kinds_13 (by decide) ?_
    refine lv_iconst (v := 3) hx hb dX4_kinds_14 (by decide) ?_
    have hPc := hP.sub (ws' := [(x0, .inr (4, [.ref t0, .ref r0, .ref y0, .ref g0, .ref w0, .int TR, .int LF])), (t0, .inr (0, [.ref tk, .ref tl, .ref tc, .int N])), (tk, .inl (cI, 6, .inl K)), (tl, .inl (cI, 6, .inl L)), (tc, .inl (cI, 6, .inl C)), (r0, .inr (0, [.ref rk, .ref rl, .ref rc, .int N2])), (rk, .inl (cI, 6, .inl K2)), (rl, .inl (cI, 6, .inl L2)), (rc, .inl (cI, 6, .inl C2)), (g0, .inr (1, [.ref gn, .ref gc, .ref gh, .int GK])), (gn, .inl (cI, 8, .inl GN)), (gc, .inl (cI, 8, .inl GC)), (gh, .inl (cI, 8, .inl GH))]) [0, 1, 2, 3, 4, 5, 6, 7, 8, 9, 10, 11, 12] rfl
    have hDc := hD.sub (ws' := [(x0, .inr (4, [.ref t0, .ref r0, .ref y0, .ref g0, .ref w0, .int TR, .int LF])), (t0, .inr (0, [.ref tk, .ref tl, .ref tc, .int N])), (tk, .inl (cI, 6, .inl K)), (tl, .inl (cI, 6, .inl L)), (tc, .inl (cI, 6, .inl C)), (r0, .inr (0, [.ref rk, .ref rl, .ref rc, .int N2])), (rk, .inl (cI, 6, .inl K2)), (rl, .inl (cI, 6, .inl L2)), (rc, .inl (cI, 6, .inl C2)), (g0, .inr (1, [.ref gn, .ref gc, .ref gh, .int GK])), (gn, .inl (cI, 8, .inl GN)), (gc, .inl (cI, 8, .inl GC)), (gh, .inl (cI, 8, .inl GH))]) [0, 1, 2, 3, 4, 5, 6, 7, 8, 9, 10, 11, 12] (by decide) rfl
    have hKc := hK.sub (tys' := [(cI, .int)]) [0] rfl
    have hFc := va_free (wc := [(x0, .inr (4, [.ref t0, .ref r0, .ref y0, .ref g0, .ref w0, .int TR, .int LF])), (t0, .inr (0, [.ref tk, .ref tl, .ref tc, .int N])), (tk, .inl (cI, 6, .inl K)), (tl, .inl (cI, 6, .inl L)), (tc, .inl (cI, 6, .inl C)), (r0, .inr (0, [.ref rk, .ref rl, .ref rc, .int N2])), (rk, .inl (cI, 6, .inl K2)), (rl, .inl (cI, 6, .inl L2)), (rc, .inl (cI, 6, .inl C2)), (g0, .inr (1, [.ref gn, .ref gc, .ref gh, .int GK])), (gn, .inl (cI, 8, .inl GN)), (gc, .inl (cI, 8, .inl GC)), (gh, .inl (cI, 8, .inl GH))]) hD hS hA [0, 1, 2, 3, 4, 5, 6, 7, 8, 9, 10, 11, 12] rfl
    refine va_calli (va_runV (As := [.int i1, .int 0, .int 3]) (rest := []) ⟨hx, hb, hml, hown, hts⟩ (ctX4_possible l dC dI cI x0 t0 r0 y0 g0 w0 tk tl tc rk rl rc gn gc gh H.size TR LF N K L C N2 K2 L2 C2 GK GN GC GH i1 0 3 (by assumption) (by decide) (by assumption) (by assumption) (by assumption)) (cwV 3 hts gX4_kinds_X4_possible rfl rfl rfl (by decide +kernel) ⟨Nat.le_of_ble_eq_true rfl, Nat.le_of_ble_eq_true rfl⟩) (pre_V hKc hN hPc hDc (RX4, TX4, 7) 4 0 rfl rfl) rfl rfl hl.1 rfl (lv_room (Nat.le_of_ble_eq_true rfl)) dX4_kinds_15 ⟨Nat.le_of_ble_eq_true rfl, Nat.le_of_ble_eq_true rfl⟩) hS (fun q _ h => hFc q h) hFc (fun r_15 _ t H locs ht hvm hw hB hz1 hk1 hS => ?_)
    try dsimp only at hw
    have er_15 := hw.symm
    rw [ht] at hB
    refine nm_gen ((p4_possible N K L C N2 K2 L2 C2 GK GN GC GH i1 0 3).2.1) (fun N2_15 eN2_15 => ?_)
    rw [eN2_15] at hB
    refine nm_gen ((p4_possible N K L C N2 K2 L2 C2 GK GN GC GH i1 0 3).2.2.1) (fun K2_15 eK2_15 => ?_)
    rw [eK2_15] at hB
    refine nm_gen ((p4_possible N K L C N2 K2 L2 C2 GK GN GC GH i1 0 3).2.2.2.1) (fun L2_15 eL2_15 => ?_)
    rw [eL2_15] at hB
    refine nm_gen ((p4_possible N K L C N2 K2 L2 C2 GK GN GC GH i1 0 3).2.2.2.2) (fun C2_15 eC2_15 => ?_)
    rw [eC2_15] at hB
    obtain ⟨hP, hD⟩ := rw_join ([(x0, .inr (4, [.ref t0, .ref r0, .ref y0, .ref g0, .ref w0, .int TR, .int LF])), (t0, .inr (0, [.ref tk, .ref tl, .ref tc, .int N])), (tk, .inl (cI, 6, .inl K)), (tl, .inl (cI, 6, .inl L)), (tc, .inl (cI, 6, .inl C)), (r0, .inr (0, [.ref rk, .ref rl, .ref rc, .int N2])), (rk, .inl (cI, 6, .inl K2)), (rl, .inl (cI, 6, .inl L2)), (rc, .inl (cI, 6, .inl C2)), (g0, .inr (1, [.ref gn, .ref gc, .ref gh, .int GK])), (gn, .inl (cI, 8, .inl GN)), (gc, .inl (cI, 8, .inl GC)), (gh, .inl (cI, 8, .inl GH))]) ([(x0, .inr (4, [.ref t0, .ref r0, .ref y0, .ref g0, .ref w0, .int TR, .int LF])), (t0, .inr (0, [.ref tk, .ref tl, .ref tc, .int N])), (tk, .inl (cI, 6, .inl K)), (tl, .inl (cI, 6, .inl L)), (tc, .inl (cI, 6, .inl C)), (r0, .inr (0, [.ref rk, .ref rl, .ref rc, .int N2_15])), (rk, .inl (cI, 6, .inl K2_15)), (rl, .inl (cI, 6, .inl L2_15)), (rc, .inl (cI, 6, .inl C2_15)), (g0, .inr (1, [.ref gn, .ref gc, .ref gh, .int GK])), (gn, .inl (cI, 8, .inl GN)), (gc, .inl (cI, 8, .inl GC)), (gh, .inl (cI, 8, .inl GH))]) ([(x0, .inr (4, [.ref t0, .ref r0, .ref y0, .ref g0, .ref w0, .int TR, .int LF])), (t0, .inr (0, [.ref tk, .ref tl, .ref tc, .int N])), (tk, .inl (cI, 6, .inl K)), (tl, .inl (cI, 6, .inl L)), (tc, .inl (cI, 6, .inl C)), (r0, .inr (0, [.ref rk, .ref rl, .ref rc, .int N2])), (rk, .inl (cI, 6, .inl K2)), (rl, .inl (cI, 6, .inl L2)), (rc, .inl (cI, 6, .inl C2)), (g0, .inr (1, [.ref gn, .ref gc, .ref gh, .int GK])), (gn, .inl (cI, 8, .inl GN)), (gc, .inl (cI, 8, .inl GC)), (gh, .inl (cI, 8, .inl GH))]) ([(x0, .inr (4, [.ref t0, .ref r0, .ref y0, .ref g0, .ref w0, .int TR, .int LF])), (t0, .inr (0, [.ref tk, .ref tl, .ref tc, .int N])), (tk, .inl (cI, 6, .inl K)), (tl, .inl (cI, 6, .inl L)), (tc, .inl (cI, 6, .inl C)), (r0, .inr (0, [.ref rk, .ref rl, .ref rc, .int N2_15])), (rk, .inl (cI, 6, .inl K2_15)), (rl, .inl (cI, 6, .inl L2_15)), (rc, .inl (cI, 6, .inl C2_15)), (g0, .inr (1, [.ref gn, .ref gc, .ref gh, .int GK])), (gn, .inl (cI, 8, .inl GN)), (gc, .inl (cI, 8, .inl GC)), (gh, .inl (cI, 8, .inl GH))]) ([]) hP hD [0, 1, 2, 3, 4, 5, 6, 7, 8, 9, 10, 11, 12] [] [x0, t0, tk, tl, tc, r0, rk, rl, rc, g0, gn, gc, gh] 13 rfl rfl rfl rfl rfl (by decide) rfl rfl hk1 hB
    refine lv_goto (tgt := 22) hx hb dX4_kinds_18 (by decide) ?_
    have hE9 : p4_kinds N K L C N2 K2 L2 C2 GK GN GC GH i1 = (r_15, N2_15, K2_15, L2_15, C2_15) := by unfold p4_kinds; simp only [er_15, eN2_15, eK2_15, eL2_15, eC2_15]; rw [if_neg c_8]
    exact W.iret (v := r_15) hx hb hr (fun t ht hW => ⟨⟨_, (), rfl, by rw [hE9], by show va_P (dC, dI) vwCl _ t.heap; rw [ht, hE9]; exact hP⟩, hS.F ht⟩) hS.2.2 dX4_kinds_22

def p4_odds_l35 (N : Int32) (K : Nat → Int32) (L : Nat → Int32) (C : Nat → Int32) (i1 : Int32) (i2 : Int32) : Nat → Int32 → Int32 → Int64
  | 0, _, _ => 0
  | n + 1, v3, v4 =>
    if N ≤ v4 then
      if i2 = 0 then
        (v3 / (p4_commonPart v3 N)).toInt64
      else
        (N / (p4_commonPart v3 N)).toInt64
    else
      if (p0_isFair N K L C v4 (p0_chosenBy N K L C v4 i1) i1) = 0 then
        p4_odds_l35 N K L C i1 i2 n v3 (v4 + 1)
      else
        p4_odds_l35 N K L C i1 i2 n (v3 + 1) (v4 + 1)
theorem p4_odds_l35_s (N : Int32) (K : Nat → Int32) (L : Nat → Int32) (C : Nat → Int32) (i1 : Int32) (i2 : Int32) (n : Nat) (v3 : Int32) (v4 : Int32) : p4_odds_l35 N K L C i1 i2 (n + 1) v3 v4 =
    (if N ≤ v4 then
      if i2 = 0 then
        (v3 / (p4_commonPart v3 N)).toInt64
      else
        (N / (p4_commonPart v3 N)).toInt64
    else
      if (p0_isFair N K L C v4 (p0_chosenBy N K L C v4 i1) i1) = 0 then
        p4_odds_l35 N K L C i1 i2 n v3 (v4 + 1)
      else
        p4_odds_l35 N K L C i1 i2 n (v3 + 1) (v4 + 1)) := rfl
def p4_odds (N : Int32) (K : Nat → Int32) (L : Nat → Int32) (C : Nat → Int32) (i1 : Int32) (i2 : Int32) : Int64 :=
  if N = 0 then
    (-9223372036854775808)
  else
    if (p4_isCost i1) = 0 then
      (-9223372036854775808)
    else
      if i2 < 0 then
        (-9223372036854775808)
      else
        if i2 ≤ 1 then
          p4_odds_l35 N K L C i1 i2 7 0 0
        else
          (-9223372036854775808)
abbrev rmX4_odds : Room := { frames := 4, cells := 0, slots := 0, locals := 95 }
abbrev QX4_odds (dC : Nat → ClassId) (dI : Nat → Nat → Nat) (A : Nat → Prop) (cI : ClassId) (x0 : Nat) (t0 : Nat) (r0 : Nat) (y0 : Nat) (g0 : Nat) (w0 : Nat) (tk : Nat) (tl : Nat) (tc : Nat) (TR : Int32) (LF : Int32) (N : Int32) (K : Nat → Int32) (L : Nat → Int32) (C : Nat → Int32) (i1 : Int32) (i2 : Int32) : Array Value → State → Outcome → State → Prop := va_Ql (fun (r : Int64) (_ : Unit) => r = p4_odds N K L C i1 i2) (fun (_ : Unit) (t : State) => va_P (dC, dI) vwCl ([(x0, .inr (4, [.ref t0, .ref r0, .ref y0, .ref g0, .ref w0, .int TR, .int LF])), (t0, .inr (0, [.ref tk, .ref tl, .ref tc, .int N])), (tk, .inl (cI, 6, .inl K)), (tl, .inl (cI, 6, .inl L)), (tc, .inl (cI, 6, .inl C))]) t.heap) A
set_option maxHeartbeats 4000000 in
set_option maxRecDepth 100000 in
theorem ctX4_odds (l : Launch) (dC : Nat → ClassId) (dI : Nat → Nat → Nat) (cI : ClassId) (x0 : Nat) (t0 : Nat) (r0 : Nat) (y0 : Nat) (g0 : Nat) (w0 : Nat) (tk : Nat) (tl : Nat) (tc : Nat) (sz : Nat) (TR : Int32) (LF : Int32) (N : Int32) (K : Nat → Int32) (L : Nat → Int32) (C : Nat → Int32) (i1 : Int32) (i2 : Int32) (hNb : N.toInt ≤ 6) : Met l yX4_odds wsX4_odds rmX4_odds (va_Pc [.ref x0, .int i1, .int i2] (cP dC dI [(cI, .int)] ([(x0, .inr (4, [.ref t0, .ref r0, .ref y0, .ref g0, .ref w0, .int TR, .int LF])), (t0, .inr (0, [.ref tk, .ref tl, .ref tc, .int N])), (tk, .inl (cI, 6, .inl K)), (tl, .inl (cI, 6, .inl L)), (tc, .inl (cI, 6, .inl C))]) sz)) (QX4_odds dC dI (va_A ([(x0, .inr (4, [.ref t0, .ref r0, .ref y0, .ref g0, .ref w0, .int TR, .int LF])), (t0, .inr (0, [.ref tk, .ref tl, .ref tc, .int N])), (tk, .inl (cI, 6, .inl K)), (tl, .inl (cI, 6, .inl L)), (tc, .inl (cI, 6, .inl C))]) sz) cI x0 t0 r0 y0 g0 w0 tk tl tc TR LF N K L C i1 i2) 0 0 (va_A ([(x0, .inr (4, [.ref t0, .ref r0, .ref y0, .ref g0, .ref w0, .int TR, .int LF])), (t0, .inr (0, [.ref tk, .ref tl, .ref tc, .int N])), (tk, .inl (cI, 6, .inl K)), (tl, .inl (cI, 6, .inl L)), (tc, .inl (cI, 6, .inl C))]) sz) := by
  refine Met.ofW (cc := cX4_odds) (maxL := 5) (ret := (some .long)) (by decide) rfl ?_
  intro p e s m args below meth c s₁ B hml hv
  obtain ⟨rfl, hsz, hP, hK, hD0, hN⟩ := hv
  have hx := B.exec
  have hb := B.bytes
  have hr := B.returns
  have hts := atoms_spec (ws := wsX4_odds) B.pre
  have hown : s.vm.findClass RX4 = some m.cls := findClass_of_methodNamed B.named
  have hlocks := B.notSynchronized
  subst hsz
  have hD := hD0.self (sz := s.heap.size)
  generalize hAe : va_A ([(x0, .inr (4, [.ref t0, .ref r0, .ref y0, .ref g0, .ref w0, .int TR, .int LF])), (t0, .inr (0, [.ref tk, .ref tl, .ref tc, .int N])), (tk, .inl (cI, 6, .inl K)), (tl, .inl (cI, 6, .inl L)), (tc, .inl (cI, 6, .inl C))]) s.heap.size = A at hD ⊢
  have hA : ∀ q : Nat, s.heap.size ≤ q → A q := fun q h => by rw [← hAe]; exact Or.inr h
  have hS : va_S A s.heap s.heap [] := va_S.rf
  have hP : va_P (dC, dI) vwCl ([(x0, .inr (4, [.ref t0, .ref r0, .ref y0, .ref g0, .ref w0, .int TR, .int LF])), (t0, .inr (0, [.ref tk, .ref tl, .ref tc, .int N])), (tk, .inl (cI, 6, .inl K)), (tl, .inl (cI, 6, .inl L)), (tc, .inl (cI, 6, .inl C))]) s.heap := hP
  have hin0 : ∀ w ∈ wsX00, w ∈ wsX4_odds := by decide +kernel
  have hin4 : ∀ w ∈ wsX40, w ∈ wsX4_odds := by decide +kernel
  have kl_147 := hts (.constantLong RX4 147 (-9223372036854775808)) (by decide +kernel)
  have kf_12 := hts (.fieldLink RX4 12 "RicherChange" "town" "LRicherChange$City;") (by decide +kernel)
  have hn_72 := va_Nw.use (A := [.ref x0, .int i1, .int i2].toArray) rfl hN.2.2.2.1
  have hl := lv_entry ([.ref x0, .int i1, .int i2]) (n := 5) (Nat.le_of_ble_eq_true rfl)
  rw [lg_entry_eq]
  generalize (lg_sl ([.ref x0, .int i1, .int i2]) ++ List.replicate (5 - (lg_sl ([.ref x0, .int i1, .int i2])).length) Slot.unset).toArray = ls at hl ⊢
  have hl : lv_has ls 5 [(0, .ref x0), (1, .int i1), (2, .int i2)] := hl
  have lp_35 : ∀ (n : Nat) (v3 : Int32) (v4 : Int32) (H : Heap) (locs : List Loc) (ls : Array Slot), (up v4 N n) → va_P (dC, dI) vwCl ([(x0, .inr (4, [.ref t0, .ref r0, .ref y0, .ref g0, .ref w0, .int TR, .int LF])), (t0, .inr (0, [.ref tk, .ref tl, .ref tc, .int N])), (tk, .inl (cI, 6, .inl K)), (tl, .inl (cI, 6, .inl L)), (tc, .inl (cI, 6, .inl C))]) H → va_D A ([(x0, .inr (4, [.ref t0, .ref r0, .ref y0, .ref g0, .ref w0, .int TR, .int LF])), (t0, .inr (0, [.ref tk, .ref tl, .ref tc, .int N])), (tk, .inl (cI, 6, .inl K)), (tl, .inl (cI, 6, .inl L)), (tc, .inl (cI, 6, .inl C))]) → va_S A s.heap H locs → lv_has ls 5 [(4, .int v4), (3, .int v3), (0, .ref x0), (1, .int i1), (2, .int i2)] → p4_odds N K L C i1 i2 = p4_odds_l35 N K L C i1 i2 n v3 v4 → W p l e (headSpec wsX4_odds rmX4_odds).room s m [.ref x0, .int i1, .int i2].toArray below meth c H locs 0 0 (MQ below (QX4_odds dC dI A cI x0 t0 r0 y0 g0 w0 tk tl tc TR LF N K L C i1 i2) [.ref x0, .int i1, .int i2].toArray s 0 0 A) (F0 m 35 ls []) := by
    intro n
    induction n with
    | zero => intro v3 v4 _ _ _ hu; exact absurd hu up_no
    | succ n ih =>
      intro v3 v4 H locs ls hu hP hD hS hl hE
      refine lv_iload hx hb dX4_odds_35 (lv_at hl 0 rfl) ?_
      refine lv_aload_n hx hb dX4_odds_37 rfl (lv_at hl 2 rfl) ?_
      refine va_get (D := (dC, dI)) (ci := 4) (v := .ref t0) (C := RX4) (T := TX4) (N := 7) hx hb hts hin4 hown hK hP 0 rfl rfl 0 (by decide) kf_12 (fun _ h9 => h9) rfl dX4_odds_38 ?_
      refine va_getN (D := (dC, dI)) (ci := 0) (v := .int N) (C := RX0) (T := TX0) (N := 4) hx hb hts hin0 hown hK hP 1 rfl rfl 3 (by decide) hn_72 (fun _ h9 => h9) rfl dX4_odds_41 ?_
      refine lv_icmp_ge (tgt := 79) hx hb dX4_odds_44 (by decide) (fun c_44 => ?_) (fun c_44 => ?_)
      · skip
        refine lv_iload_n hx hb dX4_odds_79 rfl (lv_at hl 1 rfl) ?_
        refine lv_aload_n hx hb dX4_odds_80 rfl (lv_at hl 2 rfl) ?_
        refine va_get (D := (dC, dI)) (ci := 4) (v := .ref t0) (C := RX4) (T := TX4) (N := 7) hx hb hts hin4 hown hK hP 0 rfl rfl 0 (by decide) kf_12 (fun _ h9 => h9) rfl dX4_odds_81 ?_
        refine va_getN (D := (dC, dI)) (ci := 0) (v := .int N) (C := RX0) (T := TX0) (N := 4) hx hb hts hin0 hown hK hP 1 rfl rfl 3 (by decide) hn_72 (fun _ h9 => h9) rfl dX4_odds_84 ?_
        have hPc : va_P (dC, dI) vwCl [] H := hP.sub (ws' := []) [] rfl
        have hDc : va_D A [] := hD.sub (ws' := []) [] (by decide) rfl
        have hKc := hK.sub (tys' := [(cI, .int)]) [0] rfl
        have hFc := va_free (wc := []) hD hS hA [] rfl
        refine va_calli (va_runS (As := [.int v3, .int N]) (rest := []) ⟨hx, hb, hml, hown, hts⟩ (ctX4_commonPart l dC dI cI H.size v3 N (by assumption)) (va_cwS 2 hts gX4_odds_X4_commonPart rfl rfl rfl (by decide +kernel) ⟨Nat.le_of_ble_eq_true rfl, Nat.le_of_ble_eq_true rfl⟩) (pre_S hKc hN hPc hDc) rfl rfl hl.1 rfl (lv_room (Nat.le_of_ble_eq_true rfl)) dX4_odds_87 ⟨Nat.le_of_ble_eq_true rfl, Nat.le_of_ble_eq_true rfl⟩) hS (fun q _ h => hFc q h) hFc (fun r _ t H locs ht hvm hw hB hz1 hk1 hS => ?_)
        try dsimp only at hw
        subst hw
        rw [ht] at hB
        obtain ⟨hP, hD⟩ := rw_join ([(x0, .inr (4, [.ref t0, .ref r0, .ref y0, .ref g0, .ref w0, .int TR, .int LF])), (t0, .inr (0, [.ref tk, .ref tl, .ref tc, .int N])), (tk, .inl (cI, 6, .inl K)), (tl, .inl (cI, 6, .inl L)), (tc, .inl (cI, 6, .inl C))]) ([(x0, .inr (4, [.ref t0, .ref r0, .ref y0, .ref g0, .ref w0, .int TR, .int LF])), (t0, .inr (0, [.ref tk, .ref tl, .ref tc, .int N])), (tk, .inl (cI, 6, .inl K)), (tl, .inl (cI, 6, .inl L)), (tc, .inl (cI, 6, .inl C))]) ([]) ([]) ([(x0, .inr (4, [.ref t0, .ref r0, .ref y0, .ref g0, .ref w0, .int TR, .int LF])), (t0, .inr (0, [.ref tk, .ref tl, .ref tc, .int N])), (tk, .inl (cI, 6, .inl K)), (tl, .inl (cI, 6, .inl L)), (tc, .inl (cI, 6, .inl C))]) hP hD [] [0, 1, 2, 3, 4] [x0, t0, tk, tl, tc] 5 rfl rfl rfl rfl rfl (by decide) rfl rfl hk1 hB
        refine lv_istore (lv' := [(4, .int (p4_commonPart v3 N)), (3, .int v3), (0, .ref x0), (1, .int i1), (2, .int i2)]) hx hb dX4_odds_90 hl (by decide) rfl (fun ls hl => ?_)
        refine lv_iload_n hx hb dX4_odds_92 rfl (lv_at hl 4 rfl) ?_
        refine lv_if_ne (tgt := 100) hx hb dX4_odds_93 (by decide) (fun c_93 => ?_) (fun c_93 => ?_)
        · skip
          refine lv_aload_n hx hb dX4_odds_100 rfl (lv_at hl 2 rfl) ?_
          refine va_get (D := (dC, dI)) (ci := 4) (v := .ref t0) (C := RX4) (T := TX4) (N := 7) hx hb hts hin4 hown hK hP 0 rfl rfl 0 (by decide) kf_12 (fun _ h9 => h9) rfl dX4_odds_101 ?_
          refine va_getN (D := (dC, dI)) (ci := 0) (v := .int N) (C := RX0) (T := TX0) (N := 4) hx hb hts hin0 hown hK hP 1 rfl rfl 3 (by decide) hn_72 (fun _ h9 => h9) rfl dX4_odds_104 ?_
          refine lv_iload hx hb dX4_odds_107 (lv_at hl 0 rfl) ?_
          refine lv_idiv hx hb dX4_odds_109 (commonPart_nz hNb) ?_
          refine lv_i2l (v := (N / (p4_commonPart v3 N)).toInt64) hx hb dX4_odds_110 rfl ?_
          have hE9 : p4_odds N K L C i1 i2 = (N / (p4_commonPart v3 N)).toInt64 := hE.trans (by rw [p4_odds_l35_s, if_pos c_44, if_neg c_93])
          exact W.lret (v := (N / (p4_commonPart v3 N)).toInt64) hx hb hr (fun t ht hW => ⟨⟨_, (), rfl, by rw [hE9], by show va_P (dC, dI) vwCl _ t.heap; rw [ht]; exact hP⟩, hS.F ht⟩) hS.2.2 dX4_odds_111
        · skip
          refine lv_iload_n hx hb dX4_odds_96 rfl (lv_at hl 1 rfl) ?_
          refine lv_goto (tgt := 107) hx hb dX4_odds_97 (by decide) ?_
          refine lv_iload hx hb dX4_odds_107 (lv_at hl 0 rfl) ?_
          refine lv_idiv hx hb dX4_odds_109 (commonPart_nz hNb) ?_
          refine lv_i2l (v := (v3 / (p4_commonPart v3 N)).toInt64) hx hb dX4_odds_110 rfl ?_
          have hE9 : p4_odds N K L C i1 i2 = (v3 / (p4_commonPart v3 N)).toInt64 := hE.trans (by rw [p4_odds_l35_s, if_pos c_44, if_pos c_93])
          exact W.lret (v := (v3 / (p4_commonPart v3 N)).toInt64) hx hb hr (fun t ht hW => ⟨⟨_, (), rfl, by rw [hE9], by show va_P (dC, dI) vwCl _ t.heap; rw [ht]; exact hP⟩, hS.F ht⟩) hS.2.2 dX4_odds_111
      · skip
        have j4 : vp_in v4 6 := up_in 6 hu c_44 hNb
        refine lv_aload_n hx hb dX4_odds_47 rfl (lv_at hl 2 rfl) ?_
        refine va_get (D := (dC, dI)) (ci := 4) (v := .ref t0) (C := RX4) (T := TX4) (N := 7) hx hb hts hin4 hown hK hP 0 rfl rfl 0 (by decide) kf_12 (fun _ h9 => h9) rfl dX4_odds_48 ?_
        refine lv_iload hx hb dX4_odds_51 (lv_at hl 0 rfl) ?_
        refine lv_aload_n hx hb dX4_odds_53 rfl (lv_at hl 2 rfl) ?_
        refine va_get (D := (dC, dI)) (ci := 4) (v := .ref t0) (C := RX4) (T := TX4) (N := 7) hx hb hts hin4 hown hK hP 0 rfl rfl 0 (by decide) kf_12 (fun _ h9 => h9) rfl dX4_odds_54 ?_
        refine lv_iload hx hb dX4_odds_57 (lv_at hl 0 rfl) ?_
        refine lv_iload_n hx hb dX4_odds_59 rfl (lv_at hl 3 rfl) ?_
        have hPc := hP.sub (ws' := [(t0, .inr (0, [.ref tk, .ref tl, .ref tc, .int N])), (tk, .inl (cI, 6, .inl K)), (tl, .inl (cI, 6, .inl L)), (tc, .inl (cI, 6, .inl C))]) [1, 2, 3, 4] rfl
        have hDc := hD.sub (ws' := [(t0, .inr (0, [.ref tk, .ref tl, .ref tc, .int N])), (tk, .inl (cI, 6, .inl K)), (tl, .inl (cI, 6, .inl L)), (tc, .inl (cI, 6, .inl C))]) [1, 2, 3, 4] (by decide) rfl
        have hKc := hK.sub (tys' := [(cI, .int)]) [0] rfl
        have hFc := va_free (wc := [(t0, .inr (0, [.ref tk, .ref tl, .ref tc, .int N])), (tk, .inl (cI, 6, .inl K)), (tl, .inl (cI, 6, .inl L)), (tc, .inl (cI, 6, .inl C))]) hD hS hA [1, 2, 3, 4] rfl
        refine va_calli (va_runV (As := [.int v4, .int i1]) (rest := [.int v4, .ref t0]) ⟨hx, hb, hml, hown, hts⟩ (ctX0_chosenBy l dC dI cI t0 tk tl tc H.size N K L C v4 i1 (by assumption) (by assumption)) (cwV 2 hts gX4_odds_X0_chosenBy rfl rfl rfl (by decide +kernel) ⟨Nat.le_of_ble_eq_true rfl, Nat.le_of_ble_eq_true rfl⟩) (pre_V hKc hN hPc hDc (RX0, TX0, 4) 0 0 rfl rfl) rfl rfl hl.1 rfl (lv_room (Nat.le_of_ble_eq_true rfl)) dX4_odds_60 ⟨Nat.le_of_ble_eq_true rfl, Nat.le_of_ble_eq_true rfl⟩) hS (fun q _ h => hFc q h) hFc (fun r _ t H locs ht hvm hw hB hz1 hk1 hS => ?_)
        try dsimp only at hw
        subst hw
        rw [ht] at hB
        obtain ⟨hP, hD⟩ := rw_join ([(x0, .inr (4, [.ref t0, .ref r0, .ref y0, .ref g0, .ref w0, .int TR, .int LF])), (t0, .inr (0, [.ref tk, .ref tl, .ref tc, .int N])), (tk, .inl (cI, 6, .inl K)), (tl, .inl (cI, 6, .inl L)), (tc, .inl (cI, 6, .inl C))]) ([(x0, .inr (4, [.ref t0, .ref r0, .ref y0, .ref g0, .ref w0, .int TR, .int LF])), (t0, .inr (0, [.ref tk, .ref tl, .ref tc, .int N])), (tk, .inl (cI, 6, .inl K)), (tl, .inl (cI, 6, .inl L)), (tc, .inl (cI, 6, .inl C))]) ([(t0, .inr (0, [.ref tk, .ref tl, .ref tc, .int N])), (tk, .inl (cI, 6, .inl K)), (tl, .inl (cI, 6, .inl L)), (tc, .inl (cI, 6, .inl C))]) ([(t0, .inr (0, [.ref tk, .ref tl, .ref tc, .int N])), (tk, .inl (cI, 6, .inl K)), (tl, .inl (cI, 6, .inl L)), (tc, .inl (cI, 6, .inl C))]) ([(x0, .inr (4, [.ref t0, .ref r0, .ref y0, .ref g0, .ref w0, .int TR, .int LF]))]) hP hD [1, 2, 3, 4] [0] [x0, t0, tk, tl, tc] 5 rfl rfl rfl rfl rfl (by decide) rfl rfl hk1 hB
        have jc : vp_in (p0_chosenBy N K L C v4 i1) 6 := chosenBy_in j4 hNb
        refine lv_iload_n hx hb dX4_odds_63 rfl (lv_at hl 3 rfl) ?_
        have hPc := hP.sub (ws' := [(t0, .inr (0, [.ref tk, .ref tl, .ref tc, .int N])), (tk, .inl (cI, 6, .inl K)), (tl, .inl (cI, 6, .inl L)), (tc, .inl (cI, 6, .inl C))]) [1, 2, 3, 4] rfl
        have hDc := hD.sub (ws' := [(t0, .inr (0, [.ref tk, .ref tl, .ref tc, .int N])), (tk, .inl (cI, 6, .inl K)), (tl, .inl (cI, 6, .inl L)), (tc, .inl (cI, 6, .inl C))]) [1, 2, 3, 4] (by decide) rfl
        have hKc := hK.sub (tys' := [(cI, .int)]) [0] rfl
        have hFc := va_free (wc := [(t0, .inr (0, [.ref tk, .ref tl, .ref tc, .int N])), (tk, .inl (cI, 6, .inl K)), (tl, .inl (cI, 6, .inl L)), (tc, .inl (cI, 6, .inl C))]) hD hS hA [1, 2, 3, 4] rfl
        refine va_calli (va_runV (As := [.int v4, .int (p0_chosenBy N K L C v4 i1), .int i1]) (rest := []) ⟨hx, hb, hml, hown, hts⟩ (ctX0_isFair l dC dI cI t0 tk tl tc H.size N K L C v4 (p0_chosenBy N K L C v4 i1) i1 (by assumption) (by assumption) (by assumption)) (cwV 3 hts gX4_odds_X0_isFair rfl rfl rfl (by decide +kernel) ⟨Nat.le_of_ble_eq_true rfl, Nat.le_of_ble_eq_true rfl⟩) (pre_V hKc hN hPc hDc (RX0, TX0, 4) 0 0 rfl rfl) rfl rfl hl.1 rfl (lv_room (Nat.le_of_ble_eq_true rfl)) dX4_odds_64 ⟨Nat.le_of_ble_eq_true rfl, Nat.le_of_ble_eq_true rfl⟩) hS (fun q _ h => hFc q h) hFc (fun r _ t H locs ht hvm hw hB hz1 hk1 hS => ?_)
        try dsimp only at hw
        subst hw
        rw [ht] at hB
        obtain ⟨hP, hD⟩ := rw_join ([(x0, .inr (4, [.ref t0, .ref r0, .ref y0, .ref g0, .ref w0, .int TR, .int LF])), (t0, .inr (0, [.ref tk, .ref tl, .ref tc, .int N])), (tk, .inl (cI, 6, .inl K)), (tl, .inl (cI, 6, .inl L)), (tc, .inl (cI, 6, .inl C))]) ([(x0, .inr (4, [.ref t0, .ref r0, .ref y0, .ref g0, .ref w0, .int TR, .int LF])), (t0, .inr (0, [.ref tk, .ref tl, .ref tc, .int N])), (tk, .inl (cI, 6, .inl K)), (tl, .inl (cI, 6, .inl L)), (tc, .inl (cI, 6, .inl C))]) ([(t0, .inr (0, [.ref tk, .ref tl, .ref tc, .int N])), (tk, .inl (cI, 6, .inl K)), (tl, .inl (cI, 6, .inl L)), (tc, .inl (cI, 6, .inl C))]) ([(t0, .inr (0, [.ref tk, .ref tl, .ref tc, .int N])), (tk, .inl (cI, 6, .inl K)), (tl, .inl (cI, 6, .inl L)), (tc, .inl (cI, 6, .inl C))]) ([(x0, .inr (4, [.ref t0, .ref r0, .ref y0, .ref g0, .ref w0, .int TR, .int LF]))]) hP hD [1, 2, 3, 4] [0] [x0, t0, tk, tl, tc] 5 rfl rfl rfl rfl rfl (by decide) rfl rfl hk1 hB
        refine lv_if_eq (tgt := 73) hx hb dX4_odds_67 (by decide) (fun c_67 => ?_) (fun c_67 => ?_)
        · skip
          refine lv_iinc (v := (v4 + 1)) (lv' := [(4, .int (v4 + 1)), (3, .int v3), (0, .ref x0), (1, .int i1), (2, .int i2)]) hx hb dX4_odds_73 hl (k := 0) rfl rfl (by decide) rfl (fun ls hl => ?_)
          refine lv_goto (tgt := 35) hx hb dX4_odds_76 (by decide) ?_
          exact ih v3 (v4 + 1) _ _ _ (up_s hu c_44) hP hD hS (lv_sub hl [0, 1, 2, 3, 4] rfl) (hE.trans (by rw [p4_odds_l35_s, if_neg c_44, if_pos c_67]))
        · skip
          refine lv_iinc (v := (v3 + 1)) (lv' := [(3, .int (v3 + 1)), (4, .int v4), (0, .ref x0), (1, .int i1), (2, .int i2)]) hx hb dX4_odds_70 hl (k := 1) rfl rfl (by decide) rfl (fun ls hl => ?_)
          refine lv_iinc (v := (v4 + 1)) (lv' := [(4, .int (v4 + 1)), (3, .int (v3 + 1)), (0, .ref x0), (1, .int i1), (2, .int i2)]) hx hb dX4_odds_73 hl (k := 1) rfl rfl (by decide) rfl (fun ls hl => ?_)
          refine lv_goto (tgt := 35) hx hb dX4_odds_76 (by decide) ?_
          exact ih (v3 + 1) (v4 + 1) _ _ _ (up_s hu c_44) hP hD hS (lv_sub hl [0, 1, 2, 3, 4] rfl) (hE.trans (by rw [p4_odds_l35_s, if_neg c_44, if_neg c_67]))
  refine lv_aload_n hx hb dX4_odds_0 rfl (lv_at hl 0 rfl) ?_
  refine va_get (D := (dC, dI)) (ci := 4) (v := .ref t0) (C := RX4) (T := TX4) (N := 7) hx hb hts hin4 hown hK hP 0 rfl rfl 0 (by decide) kf_12 (fun _ h9 => h9) rfl dX4_odds_1 ?_
  refine va_getN (D := (dC, dI)) (ci := 0) (v := .int N) (C := RX0) (T := TX0) (N := 4) hx hb hts hin0 hown hK hP 1 rfl rfl 3 (by decide) hn_72 (fun _ h9 => h9) rfl dX4_odds_4 ?_
  refine lv_if_eq (tgt := 26) hx hb dX4_odds_7 (by decide) (fun c_7 => ?_) (fun c_7 => ?_)
  · skip
    refine lv_ldc2 (v := (-9223372036854775808)) hx hb hown kl_147 dX4_odds_26 ?_
    have hE9 : p4_odds N K L C i1 i2 = (-9223372036854775808) := by unfold p4_odds; rw [if_pos c_7]
    exact W.lret (v := (-9223372036854775808)) hx hb hr (fun t ht hW => ⟨⟨_, (), rfl, by rw [hE9], by show va_P (dC, dI) vwCl _ t.heap; rw [ht]; exact hP⟩, hS.F ht⟩) hS.2.2 dX4_odds_29
  · skip
    refine lv_iload_n hx hb dX4_odds_10 rfl (lv_at hl 1 rfl) ?_
    have hPc : va_P (dC, dI) vwCl [] s.heap := hP.sub (ws' := []) [] rfl
    have hDc : va_D A [] := hD.sub (ws' := []) [] (by decide) rfl
    have hKc := hK.sub (tys' := [(cI, .int)]) [0] rfl
    have hFc := va_free (wc := []) hD hS hA [] rfl
    refine va_calli (va_runS (As := [.int i1]) (rest := []) ⟨hx, hb, hml, hown, hts⟩ (ctX4_isCost l dC dI cI s.heap.size i1) (va_cwS 1 hts gX4_odds_X4_isCost rfl rfl rfl (by decide +kernel) ⟨Nat.le_of_ble_eq_true rfl, Nat.le_of_ble_eq_true rfl⟩) (pre_S hKc hN hPc hDc) rfl rfl hl.1 rfl (lv_room (Nat.le_of_ble_eq_true rfl)) dX4_odds_11 ⟨Nat.le_of_ble_eq_true rfl, Nat.le_of_ble_eq_true rfl⟩) hS (fun q _ h => hFc q h) hFc (fun r _ t H locs ht hvm hw hB hz1 hk1 hS => ?_)
    try dsimp only at hw
    subst hw
    rw [ht] at hB
    obtain ⟨hP, hD⟩ := rw_join ([(x0, .inr (4, [.ref t0, .ref r0, .ref y0, .ref g0, .ref w0, .int TR, .int LF])), (t0, .inr (0, [.ref tk, .ref tl, .ref tc, .int N])), (tk, .inl (cI, 6, .inl K)), (tl, .inl (cI, 6, .inl L)), (tc, .inl (cI, 6, .inl C))]) ([(x0, .inr (4, [.ref t0, .ref r0, .ref y0, .ref g0, .ref w0, .int TR, .int LF])), (t0, .inr (0, [.ref tk, .ref tl, .ref tc, .int N])), (tk, .inl (cI, 6, .inl K)), (tl, .inl (cI, 6, .inl L)), (tc, .inl (cI, 6, .inl C))]) ([]) ([]) ([(x0, .inr (4, [.ref t0, .ref r0, .ref y0, .ref g0, .ref w0, .int TR, .int LF])), (t0, .inr (0, [.ref tk, .ref tl, .ref tc, .int N])), (tk, .inl (cI, 6, .inl K)), (tl, .inl (cI, 6, .inl L)), (tc, .inl (cI, 6, .inl C))]) hP hD [] [0, 1, 2, 3, 4] [x0, t0, tk, tl, tc] 5 rfl rfl rfl rfl rfl (by decide) rfl rfl hk1 hB
    refine lv_if_eq (tgt := 26) hx hb dX4_odds_14 (by decide) (fun c_14 => ?_) (fun c_14 => ?_)
    · skip
      refine lv_ldc2 (v := (-9223372036854775808)) hx hb hown kl_147 dX4_odds_26 ?_
      have hE9 : p4_odds N K L C i1 i2 = (-9223372036854775808) := by unfold p4_odds; rw [if_neg c_7, if_pos c_14]
      exact W.lret (v := (-9223372036854775808)) hx hb hr (fun t ht hW => ⟨⟨_, (), rfl, by rw [hE9], by show va_P (dC, dI) vwCl _ t.heap; rw [ht]; exact hP⟩, hS.F ht⟩) hS.2.2 dX4_odds_29
    · skip
      refine lv_iload_n hx hb dX4_odds_17 rfl (lv_at hl 2 rfl) ?_
      refine lv_if_lt (tgt := 26) hx hb dX4_odds_18 (by decide) (fun c_18 => ?_) (fun c_18 => ?_)
      · skip
        refine lv_ldc2 (v := (-9223372036854775808)) hx hb hown kl_147 dX4_odds_26 ?_
        have hE9 : p4_odds N K L C i1 i2 = (-9223372036854775808) := by unfold p4_odds; rw [if_neg c_7, if_neg c_14, if_pos c_18]
        exact W.lret (v := (-9223372036854775808)) hx hb hr (fun t ht hW => ⟨⟨_, (), rfl, by rw [hE9], by show va_P (dC, dI) vwCl _ t.heap; rw [ht]; exact hP⟩, hS.F ht⟩) hS.2.2 dX4_odds_29
      · skip
        refine lv_iload_n hx hb dX4_odds_21 rfl (lv_at hl 2 rfl) ?_
        refine lv_iconst (v := 1) hx hb dX4_odds_22 (by decide) ?_
        refine lv_icmp_le (tgt := 30) hx hb dX4_odds_23 (by decide) (fun c_23 => ?_) (fun c_23 => ?_)
        · skip
          refine lv_iconst (v := 0) hx hb dX4_odds_30 (by decide) ?_
          refine lv_istore_n (lv' := [(3, .int 0), (0, .ref x0), (1, .int i1), (2, .int i2)]) hx hb dX4_odds_31 rfl hl (by decide) rfl (fun ls hl => ?_)
          refine lv_iconst (v := 0) hx hb dX4_odds_32 (by decide) ?_
          refine lv_istore (lv' := [(4, .int 0), (3, .int 0), (0, .ref x0), (1, .int i1), (2, .int i2)]) hx hb dX4_odds_33 hl (by decide) rfl (fun ls hl => ?_)
          exact lp_35 7 0 0  _ _ _ (up_i 6 (by decide) hNb) hP hD hS (lv_sub hl [0, 1, 2, 3, 4] rfl) (by unfold p4_odds; rw [if_neg c_7, if_neg c_14, if_neg c_18, if_pos c_23])
        · skip
          refine lv_ldc2 (v := (-9223372036854775808)) hx hb hown kl_147 dX4_odds_26 ?_
          have hE9 : p4_odds N K L C i1 i2 = (-9223372036854775808) := by unfold p4_odds; rw [if_neg c_7, if_neg c_14, if_neg c_18, if_neg c_23]
          exact W.lret (v := (-9223372036854775808)) hx hb hr (fun t ht hW => ⟨⟨_, (), rfl, by rw [hE9], by show va_P (dC, dI) vwCl _ t.heap; rw [ht]; exact hP⟩, hS.F ht⟩) hS.2.2 dX4_odds_29

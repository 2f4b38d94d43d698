def p4_sheet (M : Nat → Nat → Int32) (LF : Int32) (LA : Nat → Int32) (LE : Nat → Int32) (i1 : Int32) (i2 : Int32) (i3 : Int32) : Int32 × (Nat → Nat → Int32) × Int32 × (Nat → Int32) × (Nat → Int32) :=
  if (p2_isSheet i1) = 0 then
    ((-1), M, 0, LA, LE)
  else
    if (p2_isLane i2) = 0 then
      ((-2), M, 0, LA, LE)
    else
      if i3 ≤ 60 then
        if 0 ≤ i3 then
          (1, ((p2_renew M LA LE i1 i2 i3).1), 0, ((p2_renew M LA LE i1 i2 i3).2.1), ((p2_renew M LA LE i1 i2 i3).2.2))
        else
          (((p4_failed 0 4).1), M, ((p4_failed 0 4).2), LA, LE)
      else
        ((-2), M, 0, LA, LE)
abbrev rmX4_sheet : Room := { frames := 1, cells := 0, slots := 0, locals := 24 }
abbrev QX4_sheet (dC : Nat → ClassId) (dI : Nat → Nat → Nat) (A : Nat → Prop) (cI : ClassId) (cR : ClassId) (rr : Nat → Nat) (x0 : Nat) (t0 : Nat) (r0 : Nat) (y0 : Nat) (g0 : Nat) (w0 : Nat) (wr : Nat) (wl : Nat) (wn : Nat) (M : Nat → Nat → Int32) (TR : Int32) (LF : Int32) (LA : Nat → Int32) (LE : Nat → Int32) (i1 : Int32) (i2 : Int32) (i3 : Int32) : Array Value → State → Outcome → State → Prop := va_Qi (fun (r : Int32) (_ : Unit) => r = (p4_sheet M LF LA LE i1 i2 i3).1) (fun (_ : Unit) (t : State) => va_P (dC, dI) vwCl (rowsW cI rr ((p4_sheet M LF LA LE i1 i2 i3).2.1) ++ [(x0, .inr (4, [.ref t0, .ref r0, .ref y0, .ref g0, .ref w0, .int TR, .int ((p4_sheet M LF LA LE i1 i2 i3).2.2.1)])), (w0, .inr (2, [.ref wr, .ref wl, .ref wn])), (wr, .inl (cR, 4, .inr (.inr (.inr (.inr (fun i => if i < 4 then some (rr i) else none)))))), (wl, .inl (cI, 4, .inl ((p4_sheet M LF LA LE i1 i2 i3).2.2.2.1))), (wn, .inl (cI, 4, .inl ((p4_sheet M LF LA LE i1 i2 i3).2.2.2.2)))]) t.heap) A
set_option maxHeartbeats 4000000 in
set_option maxRecDepth 100000 in
theorem ctX4_sheet (l : Launch) (dC : Nat → ClassId) (dI : Nat → Nat → Nat) (cI : ClassId) (cR : ClassId) (rr : Nat → Nat) (x0 : Nat) (t0 : Nat) (r0 : Nat) (y0 : Nat) (g0 : Nat) (w0 : Nat) (wr : Nat) (wl : Nat) (wn : Nat) (sz : Nat) (M : Nat → Nat → Int32) (TR : Int32) (LF : Int32) (LA : Nat → Int32) (LE : Nat → Int32) (i1 : Int32) (i2 : Int32) (i3 : Int32) : Met l yX4_sheet wsX4_sheet rmX4_sheet (va_Pc [.ref x0, .int i1, .int i2, .int i3] (cP dC dI [(cI, .int), (cR, .array .int)] (rowsW cI rr M ++ [(x0, .inr (4, [.ref t0, .ref r0, .ref y0, .ref g0, .ref w0, .int TR, .int LF])), (w0, .inr (2, [.ref wr, .ref wl, .ref wn])), (wr, .inl (cR, 4, .inr (.inr (.inr (.inr (fun i => if i < 4 then some (rr i) else none)))))), (wl, .inl (cI, 4, .inl LA)), (wn, .inl (cI, 4, .inl LE))]) sz)) (QX4_sheet dC dI (va_A (rowsW cI rr M ++ [(x0, .inr (4, [.ref t0, .ref r0, .ref y0, .ref g0, .ref w0, .int TR, .int LF])), (w0, .inr (2, [.ref wr, .ref wl, .ref wn])), (wr, .inl (cR, 4, .inr (.inr (.inr (.inr (fun i => if i < 4 then some (rr i) else none)))))), (wl, .inl (cI, 4, .inl LA)), (wn, .inl (cI, 4, .inl LE))]) sz) cI cR rr x0 t0 r0 y0 g0 w0 wr wl wn M TR LF LA LE i1 i2 i3) 0 0 (va_A (rowsW cI rr M ++ [(x0, .inr (4, [.ref t0, .ref r0, .ref y0, .ref g0, .ref w0, .int TR, .int LF])), (w0, .inr (2, [.ref wr, .ref wl, .ref wn])), (wr, .inl (cR, 4, .inr (.inr (.inr (.inr (fun i => if i < 4 then some (rr i) else none)))))), (wl, .inl (cI, 4, .inl LA)), (wn, .inl (cI, 4, .inl LE))]) sz) := by
  refine Met.ofW (cc := cX4_sheet) (maxL := 4) (ret := (some .int)) (by decide) rfl ?_
  intro p e s m args below meth c s₁ B hml hv
  obtain ⟨rfl, hsz, hP, hK, hD0, hN⟩ := hv
  have hx := B.exec
  have hb := B.bytes
  have hr := B.returns
  have hts := atoms_spec (ws := wsX4_sheet) B.pre
  have hown : s.vm.findClass RX4 = some m.cls := findClass_of_methodNamed B.named
  have hlocks := B.notSynchronized
  subst hsz
  have hD := hD0.self (sz := s.heap.size)
  generalize hAe : va_A (rowsW cI rr M ++ [(x0, .inr (4, [.ref t0, .ref r0, .ref y0, .ref g0, .ref w0, .int TR, .int LF])), (w0, .inr (2, [.ref wr, .ref wl, .ref wn])), (wr, .inl (cR, 4, .inr (.inr (.inr (.inr (fun i => if i < 4 then some (rr i) else none)))))), (wl, .inl (cI, 4, .inl LA)), (wn, .inl (cI, 4, .inl LE))]) s.heap.size = A at hD ⊢
  have hA : ∀ q : Nat, s.heap.size ≤ q → A q := fun q h => by rw [← hAe]; exact Or.inr h
  have hS : va_S A s.heap s.heap [] := va_S.rf
  have hP : va_P (dC, dI) vwCl (rowsW cI rr M ++ [(x0, .inr (4, [.ref t0, .ref r0, .ref y0, .ref g0, .ref w0, .int TR, .int LF])), (w0, .inr (2, [.ref wr, .ref wl, .ref wn])), (wr, .inl (cR, 4, .inr (.inr (.inr (.inr (fun i => if i < 4 then some (rr i) else none)))))), (wl, .inl (cI, 4, .inl LA)), (wn, .inl (cI, 4, .inl LE))]) s.heap := hP
  have hin4 : ∀ w ∈ wsX40, w ∈ wsX4_sheet := by decide +kernel
  have kf_38 := hts (.fieldLink RX4 38 "RicherChange" "sheets" "LRicherChange$Sheets;") (by decide +kernel)
  have kf_42 := hts (.fieldLink RX4 42 "RicherChange" "latestFault" "I") (by decide +kernel)
  have hl := lv_entry ([.ref x0, .int i1, .int i2, .int i3]) (n := 4) (Nat.le_of_ble_eq_true rfl)
  rw [lg_entry_eq]
  generalize (lg_sl ([.ref x0, .int i1, .int i2, .int i3]) ++ List.replicate (4 - (lg_sl ([.ref x0, .int i1, .int i2, .int i3])).length) Slot.unset).toArray = ls at hl ⊢
  have hl : lv_has ls 4 [(0, .ref x0), (1, .int i1), (2, .int i2), (3, .int i3)] := hl
  refine lv_aload_n hx hb dX4_sheet_0 rfl (lv_at hl 0 rfl) ?_
  refine lv_iconst (v := 0) hx hb dX4_sheet_1 (by decide) ?_
  refine va_put (D := (dC, dI)) (ci := 4) (v := .int 0) (ty := .int) (C := RX4) (T := TX4) (N := 7) hx hb hts hin4 tyX4 tyX4_ok nmX4 hown hK hP hD hS 4 rfl rfl 6 (by decide) kf_42 (fun _ h9 => h9) rfl (by decide +kernel) rfl rfl (Nat.le_of_ble_eq_true rfl) dX4_sheet_2 (fun H locs hP hD hS => ?_)
  have hP : va_P (dC, dI) vwCl (rowsW cI rr M ++ [(x0, .inr (4, [.ref t0, .ref r0, .ref y0, .ref g0, .ref w0, .int TR, .int 0])), (w0, .inr (2, [.ref wr, .ref wl, .ref wn])), (wr, .inl (cR, 4, .inr (.inr (.inr (.inr (fun i => if i < 4 then some (rr i) else none)))))), (wl, .inl (cI, 4, .inl LA)), (wn, .inl (cI, 4, .inl LE))]) H := hP
  have hD : va_D A (rowsW cI rr M ++ [(x0, .inr (4, [.ref t0, .ref r0, .ref y0, .ref g0, .ref w0, .int TR, .int 0])), (w0, .inr (2, [.ref wr, .ref wl, .ref wn])), (wr, .inl (cR, 4, .inr (.inr (.inr (.inr (fun i => if i < 4 then some (rr i) else none)))))), (wl, .inl (cI, 4, .inl LA)), (wn, .inl (cI, 4, .inl LE))]) := hD
  refine lv_iload_n hx hb dX4_sheet_5 rfl (lv_at hl 1 rfl) ?_
  have hPc : va_P (dC, dI) vwCl [] H := hP.sub (ws' := []) [] rfl
  have hDc : va_D A [] := hD.sub (ws' := []) [] (by decide) rfl
  have hKc := hK.sub (tys' := [(cI, .int)]) [0] rfl
  have hFc := va_free (wc := []) hD hS hA [] rfl
  refine va_calli (va_runS (As := [.int i1]) (rest := []) ⟨hx, hb, hml, hown, hts⟩ (ctX2_isSheet l dC dI cI H.size i1) (va_cwS 1 hts gX4_sheet_X2_isSheet rfl rfl rfl (by decide +kernel) ⟨Nat.le_of_ble_eq_true rfl, Nat.le_of_ble_eq_true rfl⟩) (pre_S hKc hN hPc hDc) rfl rfl hl.1 rfl (lv_room (Nat.le_of_ble_eq_true rfl)) dX4_sheet_6 ⟨Nat.le_of_ble_eq_true rfl, Nat.le_of_ble_eq_true rfl⟩) hS (fun q _ h => hFc q h) hFc (fun r _ t H locs ht hvm hw hB hz1 hk1 hS => ?_)
  try dsimp only at hw
  subst hw
  rw [ht] at hB
  obtain ⟨hP, hD⟩ := rw_join (rowsW cI rr M ++ [(x0, .inr (4, [.ref t0, .ref r0, .ref y0, .ref g0, .ref w0, .int TR, .int 0])), (w0, .inr (2, [.ref wr, .ref wl, .ref wn])), (wr, .inl (cR, 4, .inr (.inr (.inr (.inr (fun i => if i < 4 then some (rr i) else none)))))), (wl, .inl (cI, 4, .inl LA)), (wn, .inl (cI, 4, .inl LE))]) (rowsW cI rr M ++ [(x0, .inr (4, [.ref t0, .ref r0, .ref y0, .ref g0, .ref w0, .int TR, .int 0])), (w0, .inr (2, [.ref wr, .ref wl, .ref wn])), (wr, .inl (cR, 4, .inr (.inr (.inr (.inr (fun i => if i < 4 then some (rr i) else none)))))), (wl, .inl (cI, 4, .inl LA)), (wn, .inl (cI, 4, .inl LE))]) ([]) ([]) ([(rr 0, .inl (cI, 60, .inl (M 0))), (rr 1, .inl (cI, 60, .inl (M 1))), (rr 2, .inl (cI, 60, .inl (M 2))), (rr 3, .inl (cI, 60, .inl (M 3))), (x0, .inr (4, [.ref t0, .ref r0, .ref y0, .ref g0, .ref w0, .int TR, .int 0])), (w0, .inr (2, [.ref wr, .ref wl, .ref wn])), (wr, .inl (cR, 4, .inr (.inr (.inr (.inr (fun i => if i < 4 then some (rr i) else none)))))), (wl, .inl (cI, 4, .inl LA)), (wn, .inl (cI, 4, .inl LE))]) hP hD [] [0, 1, 2, 3, 4, 5, 6, 7, 8] [rr 0, rr 1, rr 2, rr 3, x0, w0, wr, wl, wn] 9 rfl rfl rfl rfl rfl (by decide) rfl rfl hk1 hB
  refine lv_if_ne (tgt := 14) hx hb dX4_sheet_9 (by decide) (fun c_9 => ?_) (fun c_9 => ?_)
  · skip
    have j1 : vp_in i1 4 := isSheet_in c_9
    refine lv_iload_n hx hb dX4_sheet_14 rfl (lv_at hl 2 rfl) ?_
    have hPc : va_P (dC, dI) vwCl [] H := hP.sub (ws' := []) [] rfl
    have hDc : va_D A [] := hD.sub (ws' := []) [] (by decide) rfl
    have hKc := hK.sub (tys' := [(cI, .int)]) [0] rfl
    have hFc := va_free (wc := []) hD hS hA [] rfl
    refine va_calli (va_runS (As := [.int i2]) (rest := []) ⟨hx, hb, hml, hown, hts⟩ (ctX2_isLane l dC dI cI H.size i2) (va_cwS 1 hts gX4_sheet_X2_isLane rfl rfl rfl (by decide +kernel) ⟨Nat.le_of_ble_eq_true rfl, Nat.le_of_ble_eq_true rfl⟩) (pre_S hKc hN hPc hDc) rfl rfl hl.1 rfl (lv_room (Nat.le_of_ble_eq_true rfl)) dX4_sheet_15 ⟨Nat.le_of_ble_eq_true rfl, Nat.le_of_ble_eq_true rfl⟩) hS (fun q _ h => hFc q h) hFc (fun r _ t H locs ht hvm hw hB hz1 hk1 hS => ?_)
    try dsimp only at hw
    subst hw
    rw [ht] at hB
    obtain ⟨hP, hD⟩ := rw_join (rowsW cI rr M ++ [(x0, .inr (4, [.ref t0, .ref r0, .ref y0, .ref g0, .ref w0, .int TR, .int 0])), (w0, .inr (2, [.ref wr, .ref wl, .ref wn])), (wr, .inl (cR, 4, .inr (.inr (.inr (.inr (fun i => if i < 4 then some (rr i) else none)))))), (wl, .inl (cI, 4, .inl LA)), (wn, .inl (cI, 4, .inl LE))]) (rowsW cI rr M ++ [(x0, .inr (4, [.ref t0, .ref r0, .ref y0, .ref g0, .ref w0, .int TR, .int 0])), (w0, .inr (2, [.ref wr, .ref wl, .ref wn])), (wr, .inl (cR, 4, .inr (.inr (.inr (.inr (fun i => if i < 4 then some (rr i) else none)))))), (wl, .inl (cI, 4, .inl LA)), (wn, .inl (cI, 4, .inl LE))]) ([]) ([]) ([(rr 0, .inl (cI, 60, .inl (M 0))), (rr 1, .inl (cI, 60, .inl (M 1))), (rr 2, .inl (cI, 60, .inl (M 2))), (rr 3, .inl (cI, 60, .inl (M 3))), (x0, .inr (4, [.ref t0, .ref r0, .ref y0, .ref g0, .ref w0, .int TR, .int 0])), (w0, .inr (2, [.ref wr, .ref wl, .ref wn])), (wr, .inl (cR, 4, .inr (.inr (.inr (.inr (fun i => if i < 4 then some (rr i) else none)))))), (wl, .inl (cI, 4, .inl LA)), (wn, .inl (cI, 4, .inl LE))]) hP hD [] [0, 1, 2, 3, 4, 5, 6, 7, 8] [rr 0, rr 1, rr 2, rr 3, x0, w0, wr, wl, wn] 9 rfl rfl rfl rfl rfl (by decide) rfl rfl hk1 hB
    refine lv_if_eq (tgt := 27) hx hb dX4_sheet_18 (by decide) (fun c_18 => ?_) (fun c_18 => ?_)
    · skip
      refine lv_bipush (v := (-2)) hx hb dX4_sheet_27 (by decide) ?_
      have hE9 : p4_sheet M LF LA LE i1 i2 i3 = ((-2), M, 0, LA, LE) := by unfold p4_sheet; rw [if_neg c_9, if_pos c_18]
      exact W.iret (v := (-2)) hx hb hr (fun t ht hW => ⟨⟨_, (), rfl, by rw [hE9], by show va_P (dC, dI) vwCl _ t.heap; rw [ht, hE9]; exact hP⟩, hS.F ht⟩) hS.2.2 dX4_sheet_29
    · skip
      refine lv_iload_n hx hb dX4_sheet_21 rfl (lv_at hl 3 rfl) ?_
      refine lv_bipush (v := 60) hx hb dX4_sheet_22 (by decide) ?_
      refine lv_icmp_le (tgt := 30) hx hb dX4_sheet_24 (by decide) (fun c_24 => ?_) (fun c_24 => ?_)
      · skip
        refine lv_iload_n hx hb dX4_sheet_30 rfl (lv_at hl 3 rfl) ?_
        refine lv_if_ge (tgt := 40) hx hb dX4_sheet_31 (by decide) (fun c_31 => ?_) (fun c_31 => ?_)
        · skip
          refine lv_aload_n hx hb dX4_sheet_40 rfl (lv_at hl 0 rfl) ?_
          refine va_get (D := (dC, dI)) (ci := 4) (v := .ref w0) (C := RX4) (T := TX4) (N := 7) hx hb hts hin4 hown hK hP 4 rfl rfl 4 (by decide) kf_38 (fun _ h9 => h9) rfl dX4_sheet_41 ?_
          refine lv_iload_n hx hb dX4_sheet_44 rfl (lv_at hl 1 rfl) ?_
          refine lv_iload_n hx hb dX4_sheet_45 rfl (lv_at hl 2 rfl) ?_
          refine lv_iload_n hx hb dX4_sheet_46 rfl (lv_at hl 3 rfl) ?_
          have hPc := hP.sub (ws' := rowsW cI rr M ++ [(w0, .inr (2, [.ref wr, .ref wl, .ref wn])), (wr, .inl (cR, 4, .inr (.inr (.inr (.inr (fun i => if i < 4 then some (rr i) else none)))))), (wl, .inl (cI, 4, .inl LA)), (wn, .inl (cI, 4, .inl LE))]) [0, 1, 2, 3, 5, 6, 7, 8] rfl
          have hDc := hD.sub (ws' := rowsW cI rr M ++ [(w0, .inr (2, [.ref wr, .ref wl, .ref wn])), (wr, .inl (cR, 4, .inr (.inr (.inr (.inr (fun i => if i < 4 then some (rr i) else none)))))), (wl, .inl (cI, 4, .inl LA)), (wn, .inl (cI, 4, .inl LE))]) [0, 1, 2, 3, 5, 6, 7, 8] (by decide) rfl
          have hKc := hK.sub (tys' := [(cI, .int), (cR, .array .int)]) [0, 1] rfl
          have hFc := va_free (wc := rowsW cI rr M ++ [(w0, .inr (2, [.ref wr, .ref wl, .ref wn])), (wr, .inl (cR, 4, .inr (.inr (.inr (.inr (fun i => if i < 4 then some (rr i) else none)))))), (wl, .inl (cI, 4, .inl LA)), (wn, .inl (cI, 4, .inl LE))]) hD hS hA [0, 1, 2, 3, 5, 6, 7, 8] rfl
          refine va_callv (va_runV (As := [.int i1, .int i2, .int i3]) (rest := []) ⟨hx, hb, hml, hown, hts⟩ (ctX2_renew l dC dI cI cR rr w0 wr wl wn H.size M LA LE i1 i2 i3 (by assumption)) (cwV 3 hts gX4_sheet_X2_renew rfl rfl rfl (by decide +kernel) ⟨Nat.le_of_ble_eq_true rfl, Nat.le_of_ble_eq_true rfl⟩) (pre_V hKc hN hPc hDc (RX2, TX2, 3) 2 4 rfl rfl) rfl rfl hl.1 rfl (lv_room (Nat.le_of_ble_eq_true rfl)) dX4_sheet_47 ⟨Nat.le_of_ble_eq_true rfl, Nat.le_of_ble_eq_true rfl⟩) hS (fun q _ h => hFc q h) hFc (fun _ t H locs ht hvm hw hB hz1 hk1 hS => ?_)
          rw [ht] at hB
          refine nm_gen ((p2_renew M LA LE i1 i2 i3).1) (fun M_47 eM_47 => ?_)
          rw [eM_47] at hB
          refine nm_gen ((p2_renew M LA LE i1 i2 i3).2.1) (fun LA_47 eLA_47 => ?_)
          rw [eLA_47] at hB
          refine nm_gen ((p2_renew M LA LE i1 i2 i3).2.2) (fun LE_47 eLE_47 => ?_)
          rw [eLE_47] at hB
          obtain ⟨hP, hD⟩ := rw_join (rowsW cI rr M ++ [(x0, .inr (4, [.ref t0, .ref r0, .ref y0, .ref g0, .ref w0, .int TR, .int 0])), (w0, .inr (2, [.ref wr, .ref wl, .ref wn])), (wr, .inl (cR, 4, .inr (.inr (.inr (.inr (fun i => if i < 4 then some (rr i) else none)))))), (wl, .inl (cI, 4, .inl LA)), (wn, .inl (cI, 4, .inl LE))]) (rowsW cI rr M_47 ++ [(x0, .inr (4, [.ref t0, .ref r0, .ref y0, .ref g0, .ref w0, .int TR, .int 0])), (w0, .inr (2, [.ref wr, .ref wl, .ref wn])), (wr, .inl (cR, 4, .inr (.inr (.inr (.inr (fun i => if i < 4 then some (rr i) else none)))))), (wl, .inl (cI, 4, .inl LA_47)), (wn, .inl (cI, 4, .inl LE_47))]) (rowsW cI rr M ++ [(w0, .inr (2, [.ref wr, .ref wl, .ref wn])), (wr, .inl (cR, 4, .inr (.inr (.inr (.inr (fun i => if i < 4 then some (rr i) else none)))))), (wl, .inl (cI, 4, .inl LA)), (wn, .inl (cI, 4, .inl LE))]) (rowsW cI rr M_47 ++ [(w0, .inr (2, [.ref wr, .ref wl, .ref wn])), (wr, .inl (cR, 4, .inr (.inr (.inr (.inr (fun i => if i < 4 then some (rr i) else none)))))), (wl, .inl (cI, 4, .inl LA_47)), (wn, .inl (cI, 4, .inl LE_47))]) ([(x0, .inr (4, [.ref t0, .ref r0, .ref y0, .ref g0, .ref w0, .int TR, .int 0]))]) hP hD [0, 1, 2, 3, 5, 6, 7, 8] [4] [rr 0, rr 1, rr 2, rr 3, x0, w0, wr, wl, wn] 9 rfl rfl rfl rfl rfl (by decide) rfl rfl hk1 hB
          refine lv_iconst (v := 1) hx hb dX4_sheet_50 (by decide) ?_
          have hE9 : p4_sheet M LF LA LE i1 i2 i3 = (1, M_47, 0, LA_47, LE_47) := by unfold p4_sheet; simp only [eM_47, eLA_47, eLE_47]; rw [if_neg c_9, if_neg c_18, if_pos c_24, if_pos c_31]
          exact W.iret (v := 1) hx hb hr (fun t ht hW => ⟨⟨_, (), rfl, by rw [hE9], by show va_P (dC, dI) vwCl _ t.heap; rw [ht, hE9]; exact hP⟩, hS.F ht⟩) hS.2.2 dX4_sheet_51
        · skip
          refine lv_aload_n hx hb dX4_sheet_34 rfl (lv_at hl 0 rfl) ?_
          refine lv_iconst (v := 4) hx hb dX4_sheet_35 (by decide) ?_
          have hPc := hP.sub (ws' := [(x0, .inr (4, [.ref t0, .ref r0, .ref y0, .ref g0, .ref w0, .int TR, .int 0]))]) [4] rfl
          have hDc := hD.sub (ws' := [(x0, .inr (4, [.ref t0, .ref r0, .ref y0, .ref g0, .ref w0, .int TR, .int 0]))]) [4] (by decide) rfl
          have hKc := hK.sub (tys' := [(cI, .int)]) [0] rfl
          have hFc := va_free (wc := [(x0, .inr (4, [.ref t0, .ref r0, .ref y0, .ref g0, .ref w0, .int TR, .int 0]))]) hD hS hA [4] rfl
          refine va_calli (va_runV (As := [.int 4]) (rest := []) ⟨hx, hb, hml, hown, hts⟩ (ctX4_failed l dC dI cI x0 t0 r0 y0 g0 w0 H.size TR 0 4) (cwV 1 hts gX4_sheet_X4_failed rfl rfl rfl (by decide +kernel) ⟨Nat.le_of_ble_eq_true rfl, Nat.le_of_ble_eq_true rfl⟩) (pre_V hKc hN hPc hDc (RX4, TX4, 7) 4 0 rfl rfl) rfl rfl hl.1 rfl (lv_room (Nat.le_of_ble_eq_true rfl)) dX4_sheet_36 ⟨Nat.le_of_ble_eq_true rfl, Nat.le_of_ble_eq_true rfl⟩) hS (fun q _ h => hFc q h) hFc (fun r_36 _ t H locs ht hvm hw hB hz1 hk1 hS => ?_)
          try dsimp only at hw
          have er_36 := hw.symm
          rw [ht] at hB
          refine nm_gen ((p4_failed 0 4).2) (fun LF_36 eLF_36 => ?_)
          rw [eLF_36] at hB
          obtain ⟨hP, hD⟩ := rw_join (rowsW cI rr M ++ [(x0, .inr (4, [.ref t0, .ref r0, .ref y0, .ref g0, .ref w0, .int TR, .int 0])), (w0, .inr (2, [.ref wr, .ref wl, .ref wn])), (wr, .inl (cR, 4, .inr (.inr (.inr (.inr (fun i => if i < 4 then some (rr i) else none)))))), (wl, .inl (cI, 4, .inl LA)), (wn, .inl (cI, 4, .inl LE))]) (rowsW cI rr M ++ [(x0, .inr (4, [.ref t0, .ref r0, .ref y0, .ref g0, .ref w0, .int TR, .int LF_36])), (w0, .inr (2, [.ref wr, .ref wl, .ref wn])), (wr, .inl (cR, 4, .inr (.inr (.inr (.inr (fun i => if i < 4 then some (rr i) else none)))))), (wl, .inl (cI, 4, .inl LA)), (wn, .inl (cI, 4, .inl LE))]) ([(x0, .inr (4, [.ref t0, .ref r0, .ref y0, .ref g0, .ref w0, .int TR, .int 0]))]) ([(x0, .inr (4, [.ref t0, .ref r0, .ref y0, .ref g0, .ref w0, .int TR, .int LF_36]))]) ([(rr 0, .inl (cI, 60, .inl (M 0))), (rr 1, .inl (cI, 60, .inl (M 1))), (rr 2, .inl (cI, 60, .inl (M 2))), (rr 3, .inl (cI, 60, .inl (M 3))), (w0, .inr (2, [.ref wr, .ref wl, .ref wn])), (wr, .inl (cR, 4, .inr (.inr (.inr (.inr (fun i => if i < 4 then some (rr i) else none)))))), (wl, .inl (cI, 4, .inl LA)), (wn, .inl (cI, 4, .inl LE))]) hP hD [4] [0, 1, 2, 3, 5, 6, 7, 8] [rr 0, rr 1, rr 2, rr 3, x0, w0, wr, wl, wn] 9 rfl rfl rfl rfl rfl (by decide) rfl rfl hk1 hB
          have hE9 : p4_sheet M LF LA LE i1 i2 i3 = (r_36, M, LF_36, LA, LE) := by unfold p4_sheet; simp only [er_36, eLF_36]; rw [if_neg c_9, if_neg c_18, if_pos c_24, if_neg c_31]
          exact W.iret (v := r_36) hx hb hr (fun t ht hW => ⟨⟨_, (), rfl, by rw [hE9], by show va_P (dC, dI) vwCl _ t.heap; rw [ht, hE9]; exact hP⟩, hS.F ht⟩) hS.2.2 dX4_sheet_39
      · skip
        refine lv_bipush (v := (-2)) hx hb dX4_sheet_27 (by decide) ?_
        have hE9 : p4_sheet M LF LA LE i1 i2 i3 = ((-2), M, 0, LA, LE) := by unfold p4_sheet; rw [if_neg c_9, if_neg c_18, if_neg c_24]
        exact W.iret (v := (-2)) hx hb hr (fun t ht hW => ⟨⟨_, (), rfl, by rw [hE9], by show va_P (dC, dI) vwCl _ t.heap; rw [ht, hE9]; exact hP⟩, hS.F ht⟩) hS.2.2 dX4_sheet_29
  · skip
    refine lv_iconst (v := (-1)) hx hb dX4_sheet_12 (by decide) ?_
    have hE9 : p4_sheet M LF LA LE i1 i2 i3 = ((-1), M, 0, LA, LE) := by unfold p4_sheet; rw [if_pos c_9]
    exact W.iret (v := (-1)) hx hb hr (fun t ht hW => ⟨⟨_, (), rfl, by rw [hE9], by show va_P (dC, dI) vwCl _ t.heap; rw [ht, hE9]; exact hP⟩, hS.F ht⟩) hS.2.2 dX4_sheet_13

def p4_lose (LA : Nat → Int32) (LE : Nat → Int32) (i1 : Int32) : Int32 × (Nat → Int32) × (Nat → Int32) :=
  if (p2_isSheet i1) = 0 then
    ((-1), LA, LE)
  else
    if (p2_isNothing LA i1) = 0 then
      (1, ((p2_drop LA LE i1).1), ((p2_drop LA LE i1).2))
    else
      (0, LA, LE)
abbrev rmX4_lose : Room := { frames := 1, cells := 0, slots := 0, locals := 21 }
abbrev QX4_lose (dC : Nat → ClassId) (dI : Nat → Nat → Nat) (A : Nat → Prop) (cI : ClassId) (cR : ClassId) (rr : Nat → Nat) (x0 : Nat) (t0 : Nat) (r0 : Nat) (y0 : Nat) (g0 : Nat) (w0 : Nat) (wr : Nat) (wl : Nat) (wn : Nat) (M : Nat → Nat → Int32) (TR : Int32) (LF : Int32) (LA : Nat → Int32) (LE : Nat → Int32) (i1 : Int32) : Array Value → State → Outcome → State → Prop := va_Qi (fun (r : Int32) (_ : Unit) => r = (p4_lose LA LE i1).1) (fun (_ : Unit) (t : State) => va_P (dC, dI) vwCl (rowsW cI rr M ++ [(x0, .inr (4, [.ref t0, .ref r0, .ref y0, .ref g0, .ref w0, .int TR, .int LF])), (w0, .inr (2, [.ref wr, .ref wl, .ref wn])), (wr, .inl (cR, 4, .inr (.inr (.inr (.inr (fun i => if i < 4 then some (rr i) else none)))))), (wl, .inl (cI, 4, .inl ((p4_lose LA LE i1).2.1))), (wn, .inl (cI, 4, .inl ((p4_lose LA LE i1).2.2)))]) t.heap) A
set_option maxHeartbeats 4000000 in
set_option maxRecDepth 100000 in
theorem ctX4_lose (l : Launch) (dC : Nat → ClassId) (dI : Nat → Nat → Nat) (cI : ClassId) (cR : ClassId) (rr : Nat → Nat) (x0 : Nat) (t0 : Nat) (r0 : Nat) (y0 : Nat) (g0 : Nat) (w0 : Nat) (wr : Nat) (wl : Nat) (wn : Nat) (sz : Nat) (M : Nat → Nat → Int32) (TR : Int32) (LF : Int32) (LA : Nat → Int32) (LE : Nat → Int32) (i1 : Int32) : Met l yX4_lose wsX4_lose rmX4_lose (va_Pc [.ref x0, .int i1] (cP dC dI [(cI, .int), (cR, .array .int)] (rowsW cI rr M ++ [(x0, .inr (4, [.ref t0, .ref r0, .ref y0, .ref g0, .ref w0, .int TR, .int LF])), (w0, .inr (2, [.ref wr, .ref wl, .ref wn])), (wr, .inl (cR, 4, .inr (.inr (.inr (.inr (fun i => if i < 4 then some (rr i) else none)))))), (wl, .inl (cI, 4, .inl LA)), (wn, .inl (cI, 4, .inl LE))]) sz)) (QX4_lose dC dI (va_A (rowsW cI rr M ++ [(x0, .inr (4, [.ref t0, .ref r0, .ref y0, .ref g0, .ref w0, .int TR, .int LF])), (w0, .inr (2, [.ref wr, .ref wl, .ref wn])), (wr, .inl (cR, 4, .inr (.inr (.inr (.inr (fun i => if i < 4 then some (rr i) else none)))))), (wl, .inl (cI, 4, .inl LA)), (wn, .inl (cI, 4, .inl LE))]) sz) cI cR rr x0 t0 r0 y0 g0 w0 wr wl wn M TR LF LA LE i1) 0 0 (va_A (rowsW cI rr M ++ [(x0, .inr (4, [.ref t0, .ref r0, .ref y0, .ref g0, .ref w0, .int TR, .int LF])), (w0, .inr (2, [.ref wr, .ref wl, .ref wn])), (wr, .inl (cR, 4, .inr (.inr (.inr (.inr (fun i => if i < 4 then some (rr i) else none)))))), (wl, .inl (cI, 4, .inl LA)), (wn, .inl (cI, 4, .inl LE))]) sz) := by
  refine Met.ofW (cc := cX4_lose) (maxL := 2) (ret := (some .int)) (by decide) rfl ?_
  intro p e s m args below meth c s₁ B hml hv
  obtain ⟨rfl, hsz, hP, hK, hD0, hN⟩ := hv
  have hx := B.exec
  have hb := B.bytes
  have hr := B.returns
  have hts := atoms_spec (ws := wsX4_lose) B.pre
  have hown : s.vm.findClass RX4 = some m.cls := findClass_of_methodNamed B.named
  have hlocks := B.notSynchronized
  subst hsz
  have hD := hD0.self (sz := s.heap.size)
  generalize hAe : va_A (rowsW cI rr M ++ [(x0, .inr (4, [.ref t0, .ref r0, .ref y0, .ref g0, .ref w0, .int TR, .int LF])), (w0, .inr (2, [.ref wr, .ref wl, .ref wn])), (wr, .inl (cR, 4, .inr (.inr (.inr (.inr (fun i => if i < 4 then some (rr i) else none)))))), (wl, .inl (cI, 4, .inl LA)), (wn, .inl (cI, 4, .inl LE))]) s.heap.size = A at hD ⊢
  have hA : ∀ q : Nat, s.heap.size ≤ q → A q := fun q h => by rw [← hAe]; exact Or.inr h
  have hS : va_S A s.heap s.heap [] := va_S.rf
  have hP : va_P (dC, dI) vwCl (rowsW cI rr M ++ [(x0, .inr (4, [.ref t0, .ref r0, .ref y0, .ref g0, .ref w0, .int TR, .int LF])), (w0, .inr (2, [.ref wr, .ref wl, .ref wn])), (wr, .inl (cR, 4, .inr (.inr (.inr (.inr (fun i => if i < 4 then some (rr i) else none)))))), (wl, .inl (cI, 4, .inl LA)), (wn, .inl (cI, 4, .inl LE))]) s.heap := hP
  have hin4 : ∀ w ∈ wsX40, w ∈ wsX4_lose := by decide +kernel
  have kf_38 := hts (.fieldLink RX4 38 "RicherChange" "sheets" "LRicherChange$Sheets;") (by decide +kernel)
  have hl := lv_entry ([.ref x0, .int i1]) (n := 2) (Nat.le_of_ble_eq_true rfl)
  rw [lg_entry_eq]
  generalize (lg_sl ([.ref x0, .int i1]) ++ List.replicate (2 - (lg_sl ([.ref x0, .int i1])).length) Slot.unset).toArray = ls at hl ⊢
  have hl : lv_has ls 2 [(0, .ref x0), (1, .int i1)] := hl
  refine lv_iload_n hx hb dX4_lose_0 rfl (lv_at hl 1 rfl) ?_
  have hPc : va_P (dC, dI) vwCl [] s.heap := hP.sub (ws' := []) [] rfl
  have hDc : va_D A [] := hD.sub (ws' := []) [] (by decide) rfl
  have hKc := hK.sub (tys' := [(cI, .int)]) [0] rfl
  have hFc := va_free (wc := []) hD hS hA [] rfl
  refine va_calli (va_runS (As := [.int i1]) (rest := []) ⟨hx, hb, hml, hown, hts⟩ (ctX2_isSheet l dC dI cI s.heap.size i1) (va_cwS 1 hts gX4_lose_X2_isSheet rfl rfl rfl (by decide +kernel) ⟨Nat.le_of_ble_eq_true rfl, Nat.le_of_ble_eq_true rfl⟩) (pre_S hKc hN hPc hDc) rfl rfl hl.1 rfl (lv_room (Nat.le_of_ble_eq_true rfl)) dX4_lose_1 ⟨Nat.le_of_ble_eq_true rfl, Nat.le_of_ble_eq_true rfl⟩) hS (fun q _ h => hFc q h) hFc (fun r _ t H locs ht hvm hw hB hz1 hk1 hS => ?_)
  try dsimp only at hw
  subst hw
  rw [ht] at hB
  obtain ⟨hP, hD⟩ := rw_join (rowsW cI rr M ++ [(x0, .inr (4, [.ref t0, .ref r0, .ref y0, .ref g0, .ref w0, .int TR, .int LF])), (w0, .inr (2, [.ref wr, .ref wl, .ref wn])), (wr, .inl (cR, 4, .inr (.inr (.inr (.inr (fun i => if i < 4 then some (rr i) else none)))))), (wl, .inl (cI, 4, .inl LA)), (wn, .inl (cI, 4, .inl LE))]) (rowsW cI rr M ++ [(x0, .inr (4, [.ref t0, .ref r0, .ref y0, .ref g0, .ref w0, .int TR, .int LF])), (w0, .inr (2, [.ref wr, .ref wl, .ref wn])), (wr, .inl (cR, 4, .inr (.inr (.inr (.inr (fun i => if i < 4 then some (rr i) else none)))))), (wl, .inl (cI, 4, .inl LA)), (wn, .inl (cI, 4, .inl LE))]) ([]) ([]) ([(rr 0, .inl (cI, 60, .inl (M 0))), (rr 1, .inl (cI, 60, .inl (M 1))), (rr 2, .inl (cI, 60, .inl (M 2))), (rr 3, .inl (cI, 60, .inl (M 3))), (x0, .inr (4, [.ref t0, .ref r0, .ref y0, .ref g0, .ref w0, .int TR, .int LF])), (w0, .inr (2, [.ref wr, .ref wl, .ref wn])), (wr, .inl (cR, 4, .inr (.inr (.inr (.inr (fun i => if i < 4 then some (rr i) else none)))))), (wl, .inl (cI, 4, .inl LA)), (wn, .inl (cI, 4, .inl LE))]) hP hD [] [0, 1, 2, 3, 4, 5, 6, 7, 8] [rr 0, rr 1, rr 2, rr 3, x0, w0, wr, wl, wn] 9 rfl rfl rfl rfl rfl (by decide) rfl rfl hk1 hB
  refine lv_if_ne (tgt := 9) hx hb dX4_lose_4 (by decide) (fun c_4 => ?_) (fun c_4 => ?_)
  · skip
    have j1 : vp_in i1 4 := isSheet_in c_4
    refine lv_aload_n hx hb dX4_lose_9 rfl (lv_at hl 0 rfl) ?_
    refine va_get (D := (dC, dI)) (ci := 4) (v := .ref w0) (C := RX4) (T := TX4) (N := 7) hx hb hts hin4 hown hK hP 4 rfl rfl 4 (by decide) kf_38 (fun _ h9 => h9) rfl dX4_lose_10 ?_
    refine lv_iload_n hx hb dX4_lose_13 rfl (lv_at hl 1 rfl) ?_
    have hPc := hP.sub (ws' := rowsW cI rr M ++ [(w0, .inr (2, [.ref wr, .ref wl, .ref wn])), (wr, .inl (cR, 4, .inr (.inr (.inr (.inr (fun i => if i < 4 then some (rr i) else none)))))), (wl, .inl (cI, 4, .inl LA)), (wn, .inl (cI, 4, .inl LE))]) [0, 1, 2, 3, 5, 6, 7, 8] rfl
    have hDc := hD.sub (ws' := rowsW cI rr M ++ [(w0, .inr (2, [.ref wr, .ref wl, .ref wn])), (wr, .inl (cR, 4, .inr (.inr (.inr (.inr (fun i => if i < 4 then some (rr i) else none)))))), (wl, .inl (cI, 4, .inl LA)), (wn, .inl (cI, 4, .inl LE))]) [0, 1, 2, 3, 5, 6, 7, 8] (by decide) rfl
    have hKc := hK.sub (tys' := [(cI, .int), (cR, .array .int)]) [0, 1] rfl
    have hFc := va_free (wc := rowsW cI rr M ++ [(w0, .inr (2, [.ref wr, .ref wl, .ref wn])), (wr, .inl (cR, 4, .inr (.inr (.inr (.inr (fun i => if i < 4 then some (rr i) else none)))))), (wl, .inl (cI, 4, .inl LA)), (wn, .inl (cI, 4, .inl LE))]) hD hS hA [0, 1, 2, 3, 5, 6, 7, 8] rfl
    refine va_calli (va_runV (As := [.int i1]) (rest := []) ⟨hx, hb, hml, hown, hts⟩ (ctX2_isNothing l dC dI cI cR rr w0 wr wl wn H.size M LA LE i1 (by assumption)) (cwV 1 hts gX4_lose_X2_isNothing rfl rfl rfl (by decide +kernel) ⟨Nat.le_of_ble_eq_true rfl, Nat.le_of_ble_eq_true rfl⟩) (pre_V hKc hN hPc hDc (RX2, TX2, 3) 2 4 rfl rfl) rfl rfl hl.1 rfl (lv_room (Nat.le_of_ble_eq_true rfl)) dX4_lose_14 ⟨Nat.le_of_ble_eq_true rfl, Nat.le_of_ble_eq_true rfl⟩) hS (fun q _ h => hFc q h) hFc (fun r _ t H locs ht hvm hw hB hz1 hk1 hS => ?_)
    try dsimp only at hw
    subst hw
    rw [ht] at hB
    obtain ⟨hP, hD⟩ := rw_join (rowsW cI rr M ++ [(x0, .inr (4, [.ref t0, .ref r0, .ref y0, .ref g0, .ref w0, .int TR, .int LF])), (w0, .inr (2, [.ref wr, .ref wl, .ref wn])), (wr, .inl (cR, 4, .inr (.inr (.inr (.inr (fun i => if i < 4 then some (rr i) else none)))))), (wl, .inl (cI, 4, .inl LA)), (wn, .inl (cI, 4, .inl LE))]) (rowsW cI rr M ++ [(x0, .inr (4, [.ref t0, .ref r0, .ref y0, .ref g0, .ref w0, .int TR, .int LF])), (w0, .inr (2, [.ref wr, .ref wl, .ref wn])), (wr, .inl (cR, 4, .inr (.inr (.inr (.inr (fun i => if i < 4 then some (rr i) else none)))))), (wl, .inl (cI, 4, .inl LA)), (wn, .inl (cI, 4, .inl LE))]) (rowsW cI rr M ++ [(w0, .inr (2, [.ref wr, .ref wl, .ref wn])), (wr, .inl (cR, 4, .inr (.inr (.inr (.inr (fun i => if i < 4 then some (rr i) else none)))))), (wl, .inl (cI, 4, .inl LA)), (wn, .inl (cI, 4, .inl LE))]) (rowsW cI rr M ++ [(w0, .inr (2, [.ref wr, .ref wl, .ref wn])), (wr, .inl (cR, 4, .inr (.inr (.inr (.inr (fun i => if i < 4 then some (rr i) else none)))))), (wl, .inl (cI, 4, .inl LA)), (wn, .inl (cI, 4, .inl LE))]) ([(x0, .inr (4, [.ref t0, .ref r0, .ref y0, .ref g0, .ref w0, .int TR, .int LF]))]) hP hD [0, 1, 2, 3, 5, 6, 7, 8] [4] [rr 0, rr 1, rr 2, rr 3, x0, w0, wr, wl, wn] 9 rfl rfl rfl rfl rfl (by decide) rfl rfl hk1 hB
    refine lv_if_eq (tgt := 22) hx hb dX4_lose_17 (by decide) (fun c_17 => ?_) (fun c_17 => ?_)
    · skip
      refine lv_aload_n hx hb dX4_lose_22 rfl (lv_at hl 0 rfl) ?_
      refine va_get (D := (dC, dI)) (ci := 4) (v := .ref w0) (C := RX4) (T := TX4) (N := 7) hx hb hts hin4 hown hK hP 4 rfl rfl 4 (by decide) kf_38 (fun _ h9 => h9) rfl dX4_lose_23 ?_
      refine lv_iload_n hx hb dX4_lose_26 rfl (lv_at hl 1 rfl) ?_
      have hPc := hP.sub (ws' := rowsW cI rr M ++ [(w0, .inr (2, [.ref wr, .ref wl, .ref wn])), (wr, .inl (cR, 4, .inr (.inr (.inr (.inr (fun i => if i < 4 then some (rr i) else none)))))), (wl, .inl (cI, 4, .inl LA)), (wn, .inl (cI, 4, .inl LE))]) [0, 1, 2, 3, 5, 6, 7, 8] rfl
      have hDc := hD.sub (ws' := rowsW cI rr M ++ [(w0, .inr (2, [.ref wr, .ref wl, .ref wn])), (wr, .inl (cR, 4, .inr (.inr (.inr (.inr (fun i => if i < 4 then some (rr i) else none)))))), (wl, .inl (cI, 4, .inl LA)), (wn, .inl (cI, 4, .inl LE))]) [0, 1, 2, 3, 5, 6, 7, 8] (by decide) rfl
      have hKc := hK.sub (tys' := [(cI, .int), (cR, .array .int)]) [0, 1] rfl
      have hFc := va_free (wc := rowsW cI rr M ++ [(w0, .inr (2, [.ref wr, .ref wl, .ref wn])), (wr, .inl (cR, 4, .inr (.inr (.inr (.inr (fun i => if i < 4 then some (rr i) else none)))))), (wl, .inl (cI, 4, .inl LA)), (wn, .inl (cI, 4, .inl LE))]) hD hS hA [0, 1, 2, 3, 5, 6, 7, 8] rfl
      refine va_callv (va_runV (As := [.int i1]) (rest := []) ⟨hx, hb, hml, hown, hts⟩ (ctX2_drop l dC dI cI cR rr w0 wr wl wn H.size M LA LE i1 (by assumption)) (cwV 1 hts gX4_lose_X2_drop rfl rfl rfl (by decide +kernel) ⟨Nat.le_of_ble_eq_true rfl, Nat.le_of_ble_eq_true rfl⟩) (pre_V hKc hN hPc hDc (RX2, TX2, 3) 2 4 rfl rfl) rfl rfl hl.1 rfl (lv_room (Nat.le_of_ble_eq_true rfl)) dX4_lose_27 ⟨Nat.le_of_ble_eq_true rfl, Nat.le_of_ble_eq_true rfl⟩) hS (fun q _ h => hFc q h) hFc (fun _ t H locs ht hvm hw hB hz1 hk1 hS => ?_)
      rw [ht] at hB
      refine nm_gen ((p2_drop LA LE i1).1) (fun LA_27 eLA_27 => ?_)
      rw [eLA_27] at hB
      refine nm_gen ((p2_drop LA LE i1).2) (fun LE_27 eLE_27 => ?_)
      rw [eLE_27] at hB
      obtain ⟨hP, hD⟩ := rw_join (rowsW cI rr M ++ [(x0, .inr (4, [.ref t0, .ref r0, .ref y0, .ref g0, .ref w0, .int TR, .int LF])), (w0, .inr (2, [.ref wr, .ref wl, .ref wn])), (wr, .inl (cR, 4, .inr (.inr (.inr (.inr (fun i => if i < 4 then some (rr i) else none)))))), (wl, .inl (cI, 4, .inl LA)), (wn, .inl (cI, 4, .inl LE))]) (rowsW cI rr M ++ [(x0, .inr (4, [.ref t0, .ref r0, .ref y0, .ref g0, .ref w0, .int TR, .int LF])), (w0, .inr (2, [.ref wr, .ref wl, .ref wn])), (wr, .inl (cR, 4, .inr (.inr (.inr (.inr (fun i => if i < 4 then some (rr i) else none)))))), (wl, .inl (cI, 4, .inl LA_27)), (wn, .inl (cI, 4, .inl LE_27))]) (rowsW cI rr M ++ [(w0, .inr (2, [.ref wr, .ref wl, .ref wn])), (wr, .inl (cR, 4, .inr (.inr (.inr (.inr (fun i => if i < 4 then some (rr i) else none)))))), (wl, .inl (cI, 4, .inl LA)), (wn, .inl (cI, 4, .inl LE))]) (rowsW cI rr M ++ [(w0, .inr (2, [.ref wr, .ref wl, .ref wn])), (wr, .inl (cR, 4, .inr (.inr (.inr (.inr (fun i => if i < 4 then some (rr i) else none)))))), (wl, .inl (cI, 4, .inl LA_27)), (wn, .inl (cI, 4, .inl LE_27))]) ([(x0, .inr (4, [.ref t0, .ref r0, .ref y0, .ref g0, .ref w0, .int TR, .int LF]))]) hP hD [0, 1, 2, 3, 5, 6, 7, 8] [4] [rr 0, rr 1, rr 2, rr 3, x0, w0, wr, wl, wn] 9 rfl rfl rfl rfl rfl (by decide) rfl rfl hk1 hB
      refine lv_iconst (v := 1) hx hb dX4_lose_30 (by decide) ?_
      have hE9 : p4_lose LA LE i1 = (1, LA_27, LE_27) := by unfold p4_lose; simp only [eLA_27, eLE_27]; rw [if_neg c_4, if_pos c_17]
      exact W.iret (v := 1) hx hb hr (fun t ht hW => ⟨⟨_, (), rfl, by rw [hE9], by show va_P (dC, dI) vwCl _ t.heap; rw [ht, hE9]; exact hP⟩, hS.F ht⟩) hS.2.2 dX4_lose_31
    · skip
      refine lv_iconst (v := 0) hx hb dX4_lose_20 (by decide) ?_
      have hE9 : p4_lose LA LE i1 = (0, LA, LE) := by unfold p4_lose; rw [if_neg c_4, if_neg c_17]
      exact W.iret (v := 0) hx hb hr (fun t ht hW => ⟨⟨_, (), rfl, by rw [hE9], by show va_P (dC, dI) vwCl _ t.heap; rw [ht, hE9]; exact hP⟩, hS.F ht⟩) hS.2.2 dX4_lose_21
  · skip
    refine lv_iconst (v := (-1)) hx hb dX4_lose_7 (by decide) ?_
    have hE9 : p4_lose LA LE i1 = ((-1), LA, LE) := by unfold p4_lose; rw [if_pos c_4]
    exact W.iret (v := (-1)) hx hb hr (fun t ht hW => ⟨⟨_, (), rfl, by rw [hE9], by show va_P (dC, dI) vwCl _ t.heap; rw [ht, hE9]; exact hP⟩, hS.F ht⟩) hS.2.2 dX4_lose_8

def p4_put (M : Nat → Nat → Int32) (LF : Int32) (LA : Nat → Int32) (LE : Nat → Int32) (i1 : Int32) (i2 : Int32) (i3 : Int32) : Int32 × (Nat → Nat → Int32) × Int32 :=
  if (p2_isSheet i1) = 0 then
    ((-1), M, 0)
  else
    if (p2_isNothing LA i1) = 0 then
      if (p2_cellFault LE i1 i2) = 0 then
        (1, (p2_write M LA i1 i2 i3), 0)
      else
        (((p4_failed 0 (p2_cellFault LE i1 i2)).1), M, ((p4_failed 0 (p2_cellFault LE i1 i2)).2))
    else
      (((p4_failed 0 1).1), M, ((p4_failed 0 1).2))
abbrev rmX4_put : Room := { frames := 2, cells := 0, slots := 0, locals := 44 }
abbrev QX4_put (dC : Nat → ClassId) (dI : Nat → Nat → Nat) (A : Nat → Prop) (cI : ClassId) (cR : ClassId) (rr : Nat → Nat) (x0 : Nat) (t0 : Nat) (r0 : Nat) (y0 : Nat) (g0 : Nat) (w0 : Nat) (wr : Nat) (wl : Nat) (wn : Nat) (M : Nat → Nat → Int32) (TR : Int32) (LF : Int32) (LA : Nat → Int32) (LE : Nat → Int32) (i1 : Int32) (i2 : Int32) (i3 : Int32) : Array Value → State → Outcome → State → Prop := va_Qi (fun (r : Int32) (_ : Unit) => r = (p4_put M LF LA LE i1 i2 i3).1) (fun (_ : Unit) (t : State) => va_P (dC, dI) vwCl (rowsW cI rr ((p4_put M LF LA LE i1 i2 i3).2.1) ++ [(x0, .inr (4, [.ref t0, .ref r0, .ref y0, .ref g0, .ref w0, .int TR, .int ((p4_put M LF LA LE i1 i2 i3).2.2)])), (w0, .inr (2, [.ref wr, .ref wl, .ref wn])), (wr, .inl (cR, 4, .inr (.inr (.inr (.inr (fun i => if i < 4 then some (rr i) else none)))))), (wl, .inl (cI, 4, .inl LA)), (wn, .inl (cI, 4, .inl LE))]) t.heap) A
set_option maxHeartbeats 4000000 in
set_option maxRecDepth 100000 in
theorem ctX4_put (l : Launch) (dC : Nat → ClassId) (dI : Nat → Nat → Nat) (cI : ClassId) (cR : ClassId) (rr : Nat → Nat) (x0 : Nat) (t0 : Nat) (r0 : Nat) (y0 : Nat) (g0 : Nat) (w0 : Nat) (wr : Nat) (wl : Nat) (wn : Nat) (sz : Nat) (M : Nat → Nat → Int32) (TR : Int32) (LF : Int32) (LA : Nat → Int32) (LE : Nat → Int32) (i1 : Int32) (i2 : Int32) (i3 : Int32) (hLE : ∀ j : Nat, (LE j).toInt ≤ 60) : Met l yX4_put wsX4_put rmX4_put (va_Pc [.ref x0, .int i1, .int i2, .int i3] (cP dC dI [(cI, .int), (cR, .array .int)] (rowsW cI rr M ++ [(x0, .inr (4, [.ref t0, .ref r0, .ref y0, .ref g0, .ref w0, .int TR, .int LF])), (w0, .inr (2, [.ref wr, .ref wl, .ref wn])), (wr, .inl (cR, 4, .inr (.inr (.inr (.inr (fun i => if i < 4 then some (rr i) else none)))))), (wl, .inl (cI, 4, .inl LA)), (wn, .inl (cI, 4, .inl LE))]) sz)) (QX4_put dC dI (va_A (rowsW cI rr M ++ [(x0, .inr (4, [.ref t0, .ref r0, .ref y0, .ref g0, .ref w0, .int TR, .int LF])), (w0, .inr (2, [.ref wr, .ref wl, .ref wn])), (wr, .inl (cR, 4, .inr (.inr (.inr (.inr (fun i => if i < 4 then some (rr i) else none)))))), (wl, .inl (cI, 4, .inl LA)), (wn, .inl (cI, 4, .inl LE))]) sz) cI cR rr x0 t0 r0 y0 g0 w0 wr wl wn M TR LF LA LE i1 i2 i3) 0 0 (va_A (rowsW cI rr M ++ [(x0, .inr (4, [.ref t0, .ref r0, .ref y0, .ref g0, .ref w0, .int TR, .int LF])), (w0, .inr (2, [.ref wr, .ref wl, .ref wn])), (wr, .inl (cR, 4, .inr (.inr (.inr (.inr (fun i => if i < 4 then some (rr i) else none)))))), (wl, .inl (cI, 4, .inl LA)), (wn, .inl (cI, 4, .inl LE))]) sz) := by
  refine Met.ofW (cc := cX4_put) (maxL := 5) (ret := (some .int)) (by decide) rfl ?_
  intro p e s m args below meth c s₁ B hml hv
  obtain ⟨rfl, hsz, hP, hK, hD0, hN⟩ := hv
  have hx := B.exec
  have hb := B.bytes
  have hr := B.returns
  have hts := atoms_spec (ws := wsX4_put) B.pre
  have hown : s.vm.findClass RX4 = some m.cls := findClass_of_methodNamed B.named
  have hlocks := B.notSynchronized
  subst hsz
  have hD := hD0.self (sz := s.heap.size)
  generalize hAe : va_A (rowsW cI rr M ++ [(x0, .inr (4, [.ref t0, .ref r0, .ref y0, .ref g0, .ref w0, .int TR, .int LF])), (w0, .inr (2, [.ref wr, .ref wl, .ref wn])), (wr, .inl (cR, 4, .inr (.inr (.inr (.inr (fun i => if i < 4 then some (rr i) else none)))))), (wl, .inl (cI, 4, .inl LA)), (wn, .inl (cI, 4, .inl LE))]) s.heap.size = A at hD ⊢
  have hA : ∀ q : Nat, s.heap.size ≤ q → A q := fun q h => by rw [← hAe]; exact Or.inr h
  have hS : va_S A s.heap s.heap [] := va_S.rf
  have hP : va_P (dC, dI) vwCl (rowsW cI rr M ++ [(x0, .inr (4, [.ref t0, .ref r0, .ref y0, .ref g0, .ref w0, .int TR, .int LF])), (w0, .inr (2, [.ref wr, .ref wl, .ref wn])), (wr, .inl (cR, 4, .inr (.inr (.inr (.inr (fun i => if i < 4 then some (rr i) else none)))))), (wl, .inl (cI, 4, .inl LA)), (wn, .inl (cI, 4, .inl LE))]) s.heap := hP
  have hin4 : ∀ w ∈ wsX40, w ∈ wsX4_put := by decide +kernel
  have kf_38 := hts (.fieldLink RX4 38 "RicherChange" "sheets" "LRicherChange$Sheets;") (by decide +kernel)
  have kf_42 := hts (.fieldLink RX4 42 "RicherChange" "latestFault" "I") (by decide +kernel)
  have hl := lv_entry ([.ref x0, .int i1, .int i2, .int i3]) (n := 5) (Nat.le_of_ble_eq_true rfl)
  rw [lg_entry_eq]
  generalize (lg_sl ([.ref x0, .int i1, .int i2, .int i3]) ++ List.replicate (5 - (lg_sl ([.ref x0, .int i1, .int i2, .int i3])).length) Slot.unset).toArray = ls at hl ⊢
  have hl : lv_has ls 5 [(0, .ref x0), (1, .int i1), (2, .int i2), (3, .int i3)] := hl
  refine lv_aload_n hx hb dX4_put_0 rfl (lv_at hl 0 rfl) ?_
  refine lv_iconst (v := 0) hx hb dX4_put_1 (by decide) ?_
  refine va_put (D := (dC, dI)) (ci := 4) (v := .int 0) (ty := .int) (C := RX4) (T := TX4) (N := 7) hx hb hts hin4 tyX4 tyX4_ok nmX4 hown hK hP hD hS 4 rfl rfl 6 (by decide) kf_42 (fun _ h9 => h9) rfl (by decide +kernel) rfl rfl (Nat.le_of_ble_eq_true rfl) dX4_put_2 (fun H locs hP hD hS => ?_)
  have hP : va_P (dC, dI) vwCl (rowsW cI rr M ++ [(x0, .inr (4, [.ref t0, .ref r0, .ref y0, .ref g0, .ref w0, .int TR, .int 0])), (w0, .inr (2, [.ref wr, .ref wl, .ref wn])), (wr, .inl (cR, 4, .inr (.inr (.inr (.inr (fun i => if i < 4 then some (rr i) else none)))))), (wl, .inl (cI, 4, .inl LA)), (wn, .inl (cI, 4, .inl LE))]) H := hP
  have hD : va_D A (rowsW cI rr M ++ [(x0, .inr (4, [.ref t0, .ref r0, .ref y0, .ref g0, .ref w0, .int TR, .int 0])), (w0, .inr (2, [.ref wr, .ref wl, .ref wn])), (wr, .inl (cR, 4, .inr (.inr (.inr (.inr (fun i => if i < 4 then some (rr i) else none)))))), (wl, .inl (cI, 4, .inl LA)), (wn, .inl (cI, 4, .inl LE))]) := hD
  refine lv_iload_n hx hb dX4_put_5 rfl (lv_at hl 1 rfl) ?_
  have hPc : va_P (dC, dI) vwCl [] H := hP.sub (ws' := []) [] rfl
  have hDc : va_D A [] := hD.sub (ws' := []) [] (by decide) rfl
  have hKc := hK.sub (tys' := [(cI, .int)]) [0] rfl
  have hFc := va_free (wc := []) hD hS hA [] rfl
  refine va_calli (va_runS (As := [.int i1]) (rest := []) ⟨hx, hb, hml, hown, hts⟩ (ctX2_isSheet l dC dI cI H.size i1) (va_cwS 1 hts gX4_put_X2_isSheet rfl rfl rfl (by decide +kernel) ⟨Nat.le_of_ble_eq_true rfl, Nat.le_of_ble_eq_true rfl⟩) (pre_S hKc hN hPc hDc) rfl rfl hl.1 rfl (lv_room (Nat.le_of_ble_eq_true rfl)) dX4_put_6 ⟨Nat.le_of_ble_eq_true rfl, Nat.le_of_ble_eq_true rfl⟩) hS (fun q _ h => hFc q h) hFc (fun r _ t H locs ht hvm hw hB hz1 hk1 hS => ?_)
  try dsimp only at hw
  subst hw
  rw [ht] at hB
  obtain ⟨hP, hD⟩ := rw_join (rowsW cI rr M ++ [(x0, .inr (4, [.ref t0, .ref r0, .ref y0, .ref g0, .ref w0, .int TR, .int 0])), (w0, .inr (2, [.ref wr, .ref wl, .ref wn])), (wr, .inl (cR, 4, .inr (.inr (.inr (.inr (fun i => if i < 4 then some (rr i) else none)))))), (wl, .inl (cI, 4, .inl LA)), (wn, .inl (cI, 4, .inl LE))]) (rowsW cI rr M ++ [(x0, .inr (4, [.ref t0, .ref r0, .ref y0, .ref g0, .ref w0, .int TR, .int 0])), (w0, .inr (2, [.ref wr, .ref wl, .ref wn])), (wr, .inl (cR, 4, .inr (.inr (.inr (.inr (fun i => if i < 4 then some (rr i) else none)))))), (wl, .inl (cI, 4, .inl LA)), (wn, .inl (cI, 4, .inl LE))]) ([]) ([]) ([(rr 0, .inl (cI, 60, .inl (M 0))), (rr 1, .inl (cI, 60, .inl (M 1))), (rr 2, .inl (cI, 60, .inl (M 2))), (rr 3, .inl (cI, 60, .inl (M 3))), (x0, .inr (4, [.ref t0, .ref r0, .ref y0, .ref g0, .ref w0, .int TR, .int 0])), (w0, .inr (2, [.ref wr, .ref wl, .ref wn])), (wr, .inl (cR, 4, .inr (.inr (.inr (.inr (fun i => if i < 4 then some (rr i) else none)))))), (wl, .inl (cI, 4, .inl LA)), (wn, .inl (cI, 4, .inl LE))]) hP hD [] [0, 1, 2, 3, 4, 5, 6, 7, 8] [rr 0, rr 1, rr 2, rr 3, x0, w0, wr, wl, wn] 9 rfl rfl rfl rfl rfl (by decide) rfl rfl hk1 hB
  refine lv_if_ne (tgt := 14) hx hb dX4_put_9 (by decide) (fun c_9 => ?_) (fun c_9 => ?_)
  · skip
    have j1 : vp_in i1 4 := isSheet_in c_9
    refine lv_aload_n hx hb dX4_put_14 rfl (lv_at hl 0 rfl) ?_
    refine va_get (D := (dC, dI)) (ci := 4) (v := .ref w0) (C := RX4) (T := TX4) (N := 7) hx hb hts hin4 hown hK hP 4 rfl rfl 4 (by decide) kf_38 (fun _ h9 => h9) rfl dX4_put_15 ?_
    refine lv_iload_n hx hb dX4_put_18 rfl (lv_at hl 1 rfl) ?_
    have hPc := hP.sub (ws' := rowsW cI rr M ++ [(w0, .inr (2, [.ref wr, .ref wl, .ref wn])), (wr, .inl (cR, 4, .inr (.inr (.inr (.inr (fun i => if i < 4 then some (rr i) else none)))))), (wl, .inl (cI, 4, .inl LA)), (wn, .inl (cI, 4, .inl LE))]) [0, 1, 2, 3, 5, 6, 7, 8] rfl
    have hDc := hD.sub (ws' := rowsW cI rr M ++ [(w0, .inr (2, [.ref wr, .ref wl, .ref wn])), (wr, .inl (cR, 4, .inr (.inr (.inr (.inr (fun i => if i < 4 then some (rr i) else none)))))), (wl, .inl (cI, 4, .inl LA)), (wn, .inl (cI, 4, .inl LE))]) [0, 1, 2, 3, 5, 6, 7, 8] (by decide) rfl
    have hKc := hK.sub (tys' := [(cI, .int), (cR, .array .int)]) [0, 1] rfl
    have hFc := va_free (wc := rowsW cI rr M ++ [(w0, .inr (2, [.ref wr, .ref wl, .ref wn])), (wr, .inl (cR, 4, .inr (.inr (.inr (.inr (fun i => if i < 4 then some (rr i) else none)))))), (wl, .inl (cI, 4, .inl LA)), (wn, .inl (cI, 4, .inl LE))]) hD hS hA [0, 1, 2, 3, 5, 6, 7, 8] rfl
    refine va_calli (va_runV (As := [.int i1]) (rest := []) ⟨hx, hb, hml, hown, hts⟩ (ctX2_isNothing l dC dI cI cR rr w0 wr wl wn H.size M LA LE i1 (by assumption)) (cwV 1 hts gX4_put_X2_isNothing rfl rfl rfl (by decide +kernel) ⟨Nat.le_of_ble_eq_true rfl, Nat.le_of_ble_eq_true rfl⟩) (pre_V hKc hN hPc hDc (RX2, TX2, 3) 2 4 rfl rfl) rfl rfl hl.1 rfl (lv_room (Nat.le_of_ble_eq_true rfl)) dX4_put_19 ⟨Nat.le_of_ble_eq_true rfl, Nat.le_of_ble_eq_true rfl⟩) hS (fun q _ h => hFc q h) hFc (fun r _ t H locs ht hvm hw hB hz1 hk1 hS => ?_)
    try dsimp only at hw
    subst hw
    rw [ht] at hB
    obtain ⟨hP, hD⟩ := rw_join (rowsW cI rr M ++ [(x0, .inr (4, [.ref t0, .ref r0, .ref y0, .ref g0, .ref w0, .int TR, .int 0])), (w0, .inr (2, [.ref wr, .ref wl, .ref wn])), (wr, .inl (cR, 4, .inr (.inr (.inr (.inr (fun i => if i < 4 then some (rr i) else none)))))), (wl, .inl (cI, 4, .inl LA)), (wn, .inl (cI, 4, .inl LE))]) (rowsW cI rr M ++ [(x0, .inr (4, [.ref t0, .ref r0, .ref y0, .ref g0, .ref w0, .int TR, .int 0])), (w0, .inr (2, [.ref wr, .ref wl, .ref wn])), (wr, .inl (cR, 4, .inr (.inr (.inr (.inr (fun i => if i < 4 then some (rr i) else none)))))), (wl, .inl (cI, 4, .inl LA)), (wn, .inl (cI, 4, .inl LE))]) (rowsW cI rr M ++ [(w0, .inr (2, [.ref wr, .ref wl, .ref wn])), (wr, .inl (cR, 4, .inr (.inr (.inr (.inr (fun i => if i < 4 then some (rr i) else none)))))), (wl, .inl (cI, 4, .inl LA)), (wn, .inl (cI, 4, .inl LE))]) (rowsW cI rr M ++ [(w0, .inr (2, [.ref wr, .ref wl, .ref wn])), (wr, .inl (cR, 4, .inr (.inr (.inr (.inr (fun i => if i < 4 then some (rr i) else none)))))), (wl, .inl (cI, 4, .inl LA)), (wn, .inl (cI, 4, .inl LE))]) ([(x0, .inr (4, [.ref t0, .ref r0, .ref y0, .ref g0, .ref w0, .int TR, .int 0]))]) hP hD [0, 1, 2, 3, 5, 6, 7, 8] [4] [rr 0, rr 1, rr 2, rr 3, x0, w0, wr, wl, wn] 9 rfl rfl rfl rfl rfl (by decide) rfl rfl hk1 hB
    refine lv_if_eq (tgt := 29) hx hb dX4_put_22 (by decide) (fun c_22 => ?_) (fun c_22 => ?_)
    · skip
      refine lv_aload_n hx hb dX4_put_29 rfl (lv_at hl 0 rfl) ?_
      refine va_get (D := (dC, dI)) (ci := 4) (v := .ref w0) (C := RX4) (T := TX4) (N := 7) hx hb hts hin4 hown hK hP 4 rfl rfl 4 (by decide) kf_38 (fun _ h9 => h9) rfl dX4_put_30 ?_
      refine lv_iload_n hx hb dX4_put_33 rfl (lv_at hl 1 rfl) ?_
      refine lv_iload_n hx hb dX4_put_34 rfl (lv_at hl 2 rfl) ?_
      have hPc := hP.sub (ws' := rowsW cI rr M ++ [(w0, .inr (2, [.ref wr, .ref wl, .ref wn])), (wr, .inl (cR, 4, .inr (.inr (.inr (.inr (fun i => if i < 4 then some (rr i) else none)))))), (wl, .inl (cI, 4, .inl LA)), (wn, .inl (cI, 4, .inl LE))]) [0, 1, 2, 3, 5, 6, 7, 8] rfl
      have hDc := hD.sub (ws' := rowsW cI rr M ++ [(w0, .inr (2, [.ref wr, .ref wl, .ref wn])), (wr, .inl (cR, 4, .inr (.inr (.inr (.inr (fun i => if i < 4 then some (rr i) else none)))))), (wl, .inl (cI, 4, .inl LA)), (wn, .inl (cI, 4, .inl LE))]) [0, 1, 2, 3, 5, 6, 7, 8] (by decide) rfl
      have hKc := hK.sub (tys' := [(cI, .int), (cR, .array .int)]) [0, 1] rfl
      have hFc := va_free (wc := rowsW cI rr M ++ [(w0, .inr (2, [.ref wr, .ref wl, .ref wn])), (wr, .inl (cR, 4, .inr (.inr (.inr (.inr (fun i => if i < 4 then some (rr i) else none)))))), (wl, .inl (cI, 4, .inl LA)), (wn, .inl (cI, 4, .inl LE))]) hD hS hA [0, 1, 2, 3, 5, 6, 7, 8] rfl
      refine va_calli (va_runV (As := [.int i1, .int i2]) (rest := []) ⟨hx, hb, hml, hown, hts⟩ (ctX2_cellFault l dC dI cI cR rr w0 wr wl wn H.size M LA LE i1 i2 (by assumption)) (cwV 2 hts gX4_put_X2_cellFault rfl rfl rfl (by decide +kernel) ⟨Nat.le_of_ble_eq_true rfl, Nat.le_of_ble_eq_true rfl⟩) (pre_V hKc hN hPc hDc (RX2, TX2, 3) 2 4 rfl rfl) rfl rfl hl.1 rfl (lv_room (Nat.le_of_ble_eq_true rfl)) dX4_put_35 ⟨Nat.le_of_ble_eq_true rfl, Nat.le_of_ble_eq_true rfl⟩) hS (fun q _ h => hFc q h) hFc (fun r _ t H locs ht hvm hw hB hz1 hk1 hS => ?_)
      try dsimp only at hw
      subst hw
      rw [ht] at hB
      obtain ⟨hP, hD⟩ := rw_join (rowsW cI rr M ++ [(x0, .inr (4, [.ref t0, .ref r0, .ref y0, .ref g0, .ref w0, .int TR, .int 0])), (w0, .inr (2, [.ref wr, .ref wl, .ref wn])), (wr, .inl (cR, 4, .inr (.inr (.inr (.inr (fun i => if i < 4 then some (rr i) else none)))))), (wl, .inl (cI, 4, .inl LA)), (wn, .inl (cI, 4, .inl LE))]) (rowsW cI rr M ++ [(x0, .inr (4, [.ref t0, .ref r0, .ref y0, .ref g0, .ref w0, .int TR, .int 0])), (w0, .inr (2, [.ref wr, .ref wl, .ref wn])), (wr, .inl (cR, 4, .inr (.inr (.inr (.inr (fun i => if i < 4 then some (rr i) else none)))))), (wl, .inl (cI, 4, .inl LA)), (wn, .inl (cI, 4, .inl LE))]) (rowsW cI rr M ++ [(w0, .inr (2, [.ref wr, .ref wl, .ref wn])), (wr, .inl (cR, 4, .inr (.inr (.inr (.inr (fun i => if i < 4 then some (rr i) else none)))))), (wl, .inl (cI, 4, .inl LA)), (wn, .inl (cI, 4, .inl LE))]) (rowsW cI rr M ++ [(w0, .inr (2, [.ref wr, .ref wl, .ref wn])), (wr, .inl (cR, 4, .inr (.inr (.inr (.inr (fun i => if i < 4 then some (rr i) else none)))))), (wl, .inl (cI, 4, .inl LA)), (wn, .inl (cI, 4, .inl LE))]) ([(x0, .inr (4, [.ref t0, .ref r0, .ref y0, .ref g0, .ref w0, .int TR, .int 0]))]) hP hD [0, 1, 2, 3, 5, 6, 7, 8] [4] [rr 0, rr 1, rr 2, rr 3, x0, w0, wr, wl, wn] 9 rfl rfl rfl rfl rfl (by decide) rfl rfl hk1 hB
      refine lv_istore (lv' := [(4, .int (p2_cellFault LE i1 i2)), (0, .ref x0), (1, .int i1), (2, .int i2), (3, .int i3)]) hx hb dX4_put_38 hl (by decide) rfl (fun ls hl => ?_)
      refine lv_iload hx hb dX4_put_40 (lv_at hl 0 rfl) ?_
      refine lv_if_eq (tgt := 52) hx hb dX4_put_42 (by decide) (fun c_42 => ?_) (fun c_42 => ?_)
      · skip
        have j2 : vp_in i2 60 := cellFault_in (hLE _) c_42
        refine lv_aload_n hx hb dX4_put_52 rfl (lv_at hl 1 rfl) ?_
        refine va_get (D := (dC, dI)) (ci := 4) (v := .ref w0) (C := RX4) (T := TX4) (N := 7) hx hb hts hin4 hown hK hP 4 rfl rfl 4 (by decide) kf_38 (fun _ h9 => h9) rfl dX4_put_53 ?_
        refine lv_iload_n hx hb dX4_put_56 rfl (lv_at hl 2 rfl) ?_
        refine lv_iload_n hx hb dX4_put_57 rfl (lv_at hl 3 rfl) ?_
        refine lv_iload_n hx hb dX4_put_58 rfl (lv_at hl 4 rfl) ?_
        have hPc := hP.sub (ws' := rowsW cI rr M ++ [(w0, .inr (2, [.ref wr, .ref wl, .ref wn])), (wr, .inl (cR, 4, .inr (.inr (.inr (.inr (fun i => if i < 4 then some (rr i) else none)))))), (wl, .inl (cI, 4, .inl LA)), (wn, .inl (cI, 4, .inl LE))]) [0, 1, 2, 3, 5, 6, 7, 8] rfl
        have hDc := hD.sub (ws' := rowsW cI rr M ++ [(w0, .inr (2, [.ref wr, .ref wl, .ref wn])), (wr, .inl (cR, 4, .inr (.inr (.inr (.inr (fun i => if i < 4 then some (rr i) else none)))))), (wl, .inl (cI, 4, .inl LA)), (wn, .inl (cI, 4, .inl LE))]) [0, 1, 2, 3, 5, 6, 7, 8] (by decide) rfl
        have hKc := hK.sub (tys' := [(cI, .int), (cR, .array .int)]) [0, 1] rfl
        have hFc := va_free (wc := rowsW cI rr M ++ [(w0, .inr (2, [.ref wr, .ref wl, .ref wn])), (wr, .inl (cR, 4, .inr (.inr (.inr (.inr (fun i => if i < 4 then some (rr i) else none)))))), (wl, .inl (cI, 4, .inl LA)), (wn, .inl (cI, 4, .inl LE))]) hD hS hA [0, 1, 2, 3, 5, 6, 7, 8] rfl
        refine va_callv (va_runV (As := [.int i1, .int i2, .int i3]) (rest := []) ⟨hx, hb, hml, hown, hts⟩ (ctX2_write l dC dI cI cR rr w0 wr wl wn H.size M LA LE i1 i2 i3 (by assumption) (by assumption)) (cwV 3 hts gX4_put_X2_write rfl rfl rfl (by decide +kernel) ⟨Nat.le_of_ble_eq_true rfl, Nat.le_of_ble_eq_true rfl⟩) (pre_V hKc hN hPc hDc (RX2, TX2, 3) 2 4 rfl rfl) rfl rfl hl.1 rfl (lv_room (Nat.le_of_ble_eq_true rfl)) dX4_put_59 ⟨Nat.le_of_ble_eq_true rfl, Nat.le_of_ble_eq_true rfl⟩) hS (fun q _ h => hFc q h) hFc (fun _ t H locs ht hvm hw hB hz1 hk1 hS => ?_)
        rw [ht] at hB
        refine nm_gen ((p2_write M LA i1 i2 i3)) (fun M_59 eM_59 => ?_)
        rw [eM_59] at hB
        obtain ⟨hP, hD⟩ := rw_join (rowsW cI rr M ++ [(x0, .inr (4, [.ref t0, .ref r0, .ref y0, .ref g0, .ref w0, .int TR, .int 0])), (w0, .inr (2, [.ref wr, .ref wl, .ref wn])), (wr, .inl (cR, 4, .inr (.inr (.inr (.inr (fun i => if i < 4 then some (rr i) else none)))))), (wl, .inl (cI, 4, .inl LA)), (wn, .inl (cI, 4, .inl LE))]) (rowsW cI rr M_59 ++ [(x0, .inr (4, [.ref t0, .ref r0, .ref y0, .ref g0, .ref w0, .int TR, .int 0])), (w0, .inr (2, [.ref wr, .ref wl, .ref wn])), (wr, .inl (cR, 4, .inr (.inr (.inr (.inr (fun i => if i < 4 then some (rr i) else none)))))), (wl, .inl (cI, 4, .inl LA)), (wn, .inl (cI, 4, .inl LE))]) (rowsW cI rr M ++ [(w0, .inr (2, [.ref wr, .ref wl, .ref wn])), (wr, .inl (cR, 4, .inr (.inr (.inr (.inr (fun i => if i < 4 then some (rr i) else none)))))), (wl, .inl (cI, 4, .inl LA)), (wn, .inl (cI, 4, .inl LE))]) (rowsW cI rr M_59 ++ [(w0, .inr (2, [.ref wr, .ref wl, .ref wn])), (wr, .inl (cR, 4, .inr (.inr (.inr (.inr (fun i => if i < 4 then some (rr i) else none)))))), (wl, .inl (cI, 4, .inl LA)), (wn, .inl (cI, 4, .inl LE))]) ([(x0, .inr (4, [.ref t0, .ref r0, .ref y0, .ref g0, .ref w0, .int TR, .int 0]))]) hP hD [0, 1, 2, 3, 5, 6, 7, 8] [4] [rr 0, rr 1, rr 2, rr 3, x0, w0, wr, wl, wn] 9 rfl rfl rfl rfl rfl (by decide) rfl rfl hk1 hB
        refine lv_iconst (v := 1) hx hb dX4_put_62 (by decide) ?_
        have hE9 : p4_put M LF LA LE i1 i2 i3 = (1, M_59, 0) := by unfold p4_put; simp only [eM_59]; rw [if_neg c_9, if_pos c_22, if_pos c_42]
        exact W.iret (v := 1) hx hb hr (fun t ht hW => ⟨⟨_, (), rfl, by rw [hE9], by show va_P (dC, dI) vwCl _ t.heap; rw [ht, hE9]; exact hP⟩, hS.F ht⟩) hS.2.2 dX4_put_63
      · skip
        refine lv_aload_n hx hb dX4_put_45 rfl (lv_at hl 1 rfl) ?_
        refine lv_iload hx hb dX4_put_46 (lv_at hl 0 rfl) ?_
        have hPc := hP.sub (ws' := [(x0, .inr (4, [.ref t0, .ref r0, .ref y0, .ref g0, .ref w0, .int TR, .int 0]))]) [4] rfl
        have hDc := hD.sub (ws' := [(x0, .inr (4, [.ref t0, .ref r0, .ref y0, .ref g0, .ref w0, .int TR, .int 0]))]) [4] (by decide) rfl
        have hKc := hK.sub (tys' := [(cI, .int)]) [0] rfl
        have hFc := va_free (wc := [(x0, .inr (4, [.ref t0, .ref r0, .ref y0, .ref g0, .ref w0, .int TR, .int 0]))]) hD hS hA [4] rfl
        refine va_calli (va_runV (As := [.int (p2_cellFault LE i1 i2)]) (rest := []) ⟨hx, hb, hml, hown, hts⟩ (ctX4_failed l dC dI cI x0 t0 r0 y0 g0 w0 H.size TR 0 (p2_cellFault LE i1 i2)) (cwV 1 hts gX4_put_X4_failed rfl rfl rfl (by decide +kernel) ⟨Nat.le_of_ble_eq_true rfl, Nat.le_of_ble_eq_true rfl⟩) (pre_V hKc hN hPc hDc (RX4, TX4, 7) 4 0 rfl rfl) rfl rfl hl.1 rfl (lv_room (Nat.le_of_ble_eq_true rfl)) dX4_put_48 ⟨Nat.le_of_ble_eq_true rfl, Nat.le_of_ble_eq_true rfl⟩) hS (fun q _ h => hFc q h) hFc (fun r_48 _ t H locs ht hvm hw hB hz1 hk1 hS => ?_)
        try dsimp only at hw
        have er_48 := hw.symm
        rw [ht] at hB
        refine nm_gen ((p4_failed 0 (p2_cellFault LE i1 i2)).2) (fun LF_48 eLF_48 => ?_)
        rw [eLF_48] at hB
        obtain ⟨hP, hD⟩ := rw_join (rowsW cI rr M ++ [(x0, .inr (4, [.ref t0, .ref r0, .ref y0, .ref g0, .ref w0, .int TR, .int 0])), (w0, .inr (2, [.ref wr, .ref wl, .ref wn])), (wr, .inl (cR, 4, .inr (.inr (.inr (.inr (fun i => if i < 4 then some (rr i) else none)))))), (wl, .inl (cI, 4, .inl LA)), (wn, .inl (cI, 4, .inl LE))]) (rowsW cI rr M ++ [(x0, .inr (4, [.ref t0, .ref r0, .ref y0, .ref g0, .ref w0, .int TR, .int LF_48])), (w0, .inr (2, [.ref wr, .ref wl, .ref wn])), (wr, .inl (cR, 4, .inr (.inr (.inr (.inr (fun i => if i < 4 then some (rr i) else none)))))), (wl, .inl (cI, 4, .inl LA)), (wn, .inl (cI, 4, .inl LE))]) ([(x0, .inr (4, [.ref t0, .ref r0, .ref y0, .ref g0, .ref w0, .int TR, .int 0]))]) ([(x0, .inr (4, [.ref t0, .ref r0, .ref y0, .ref g0, .ref w0, .int TR, .int LF_48]))]) ([(rr 0, .inl (cI, 60, .inl (M 0))), (rr 1, .inl (cI, 60, .inl (M 1))), (rr 2, .inl (cI, 60, .inl (M 2))), (rr 3, .inl (cI, 60, .inl (M 3))), (w0, .inr (2, [.ref wr, .ref wl, .ref wn])), (wr, .inl (cR, 4, .inr (.inr (.inr (.inr (fun i => if i < 4 then some (rr i) else none)))))), (wl, .inl (cI, 4, .inl LA)), (wn, .inl (cI, 4, .inl LE))]) hP hD [4] [0, 1, 2, 3, 5, 6, 7, 8] [rr 0, rr 1, rr 2, rr 3, x0, w0, wr, wl, wn] 9 rfl rfl rfl rfl rfl (by decide) rfl rfl hk1 hB
        have hE9 : p4_put M LF LA LE i1 i2 i3 = (r_48, M, LF_48) := by unfold p4_put; simp only [er_48, eLF_48]; rw [if_neg c_9, if_pos c_22, if_neg c_42]
        exact W.iret (v := r_48) hx hb hr (fun t ht hW => ⟨⟨_, (), rfl, by rw [hE9], by show va_P (dC, dI) vwCl _ t.heap; rw [ht, hE9]; exact hP⟩, hS.F ht⟩) hS.2.2 dX4_put_51
    · skip
      refine lv_iconst (v := 1) hx hb dX4_put_25 (by decide) ?_
      refine lv_goto (tgt := 38) hx hb dX4_put_26 (by decide) ?_
      refine lv_istore (lv' := [(4, .int 1), (0, .ref x0), (1, .int i1), (2, .int i2), (3, .int i3)]) hx hb dX4_put_38 hl (by decide) rfl (fun ls hl => ?_)
      refine lv_iload hx hb dX4_put_40 (lv_at hl 0 rfl) ?_
      refine lv_if_eq (tgt := 52) hx hb dX4_put_42 (by decide) (fun c_42 => ?_) (fun c_42 => ?_)
      · exact absurd c_42 (by decide)
      · skip
        refine lv_aload_n hx hb dX4_put_45 rfl (lv_at hl 1 rfl) ?_
        refine lv_iload hx hb dX4_put_46 (lv_at hl 0 rfl) ?_
        have hPc := hP.sub (ws' := [(x0, .inr (4, [.ref t0, .ref r0, .ref y0, .ref g0, .ref w0, .int TR, .int 0]))]) [4] rfl
        have hDc := hD.sub (ws' := [(x0, .inr (4, [.ref t0, .ref r0, .ref y0, .ref g0, .ref w0, .int TR, .int 0]))]) [4] (by decide) rfl
        have hKc := hK.sub (tys' := [(cI, .int)]) [0] rfl
        have hFc := va_free (wc := [(x0, .inr (4, [.ref t0, .ref r0, .ref y0, .ref g0, .ref w0, .int TR, .int 0]))]) hD hS hA [4] rfl
        refine va_calli (va_runV (As := [.int 1]) (rest := []) ⟨hx, hb, hml, hown, hts⟩ (ctX4_failed l dC dI cI x0 t0 r0 y0 g0 w0 H.size TR 0 1) (cwV 1 hts gX4_put_X4_failed rfl rfl rfl (by decide +kernel) ⟨Nat.le_of_ble_eq_true rfl, Nat.le_of_ble_eq_true rfl⟩) (pre_V hKc hN hPc hDc (RX4, TX4, 7) 4 0 rfl rfl) rfl rfl hl.1 rfl (lv_room (Nat.le_of_ble_eq_true rfl)) dX4_put_48 ⟨Nat.le_of_ble_eq_true rfl, Nat.le_of_ble_eq_true rfl⟩) hS (fun q _ h => hFc q h) hFc (fun r_48 _ t H locs ht hvm hw hB hz1 hk1 hS => ?_)
        try dsimp only at hw
        have er_48 := hw.symm
        rw [ht] at hB
        refine nm_gen ((p4_failed 0 1).2) (fun LF_48 eLF_48 => ?_)
        rw [eLF_48] at hB
        obtain ⟨hP, hD⟩ := rw_join (rowsW cI rr M ++ [(x0, .inr (4, [.ref t0, .ref r0, .ref y0, .ref g0, .ref w0, .int TR, .int 0])), (w0, .inr (2, [.ref wr, .ref wl, .ref wn])), (wr, .inl (cR, 4, .inr (.inr (.inr (.inr (fun i => if i < 4 then some (rr i) else none)))))), (wl, .inl (cI, 4, .inl LA)), (wn, .inl (cI, 4, .inl LE))]) (rowsW cI rr M ++ [(x0, .inr (4, [.ref t0, .ref r0, .ref y0, .ref g0, .ref w0, .int TR, .int LF_48])), (w0, .inr (2, [.ref wr, .ref wl, .ref wn])), (wr, .inl (cR, 4, .inr (.inr (.inr (.inr (fun i => if i < 4 then some (rr i) else none)))))), (wl, .inl (cI, 4, .inl LA)), (wn, .inl (cI, 4, .inl LE))]) ([(x0, .inr (4, [.ref t0, .ref r0, .ref y0, .ref g0, .ref w0, .int TR, .int 0]))]) ([(x0, .inr (4, [.ref t0, .ref r0, .ref y0, .ref g0, .ref w0, .int TR, .int LF_48]))]) ([(rr 0, .inl (cI, 60, .inl (M 0))), (rr 1, .inl (cI, 60, .inl (M 1))), (rr 2, .inl (cI, 60, .inl (M 2))), (rr 3, .inl (cI, 60, .inl (M 3))), (w0, .inr (2, [.ref wr, .ref wl, .ref wn])), (wr, .inl (cR, 4, .inr (.inr (.inr (.inr (fun i => if i < 4 then some (rr i) else none)))))), (wl, .inl (cI, 4, .inl LA)), (wn, .inl (cI, 4, .inl LE))]) hP hD [4] [0, 1, 2, 3, 5, 6, 7, 8] [rr 0, rr 1, rr 2, rr 3, x0, w0, wr, wl, wn] 9 rfl rfl rfl rfl rfl (by decide) rfl rfl hk1 hB
        have hE9 : p4_put M LF LA LE i1 i2 i3 = (r_48, M, LF_48) := by unfold p4_put; simp only [er_48, eLF_48]; rw [if_neg c_9, if_neg c_22]
        exact W.iret (v := r_48) hx hb hr (fun t ht hW => ⟨⟨_, (), rfl, by rw [hE9], by show va_P (dC, dI) vwCl _ t.heap; rw [ht, hE9]; exact hP⟩, hS.F ht⟩) hS.2.2 dX4_put_51
  · skip
    refine lv_iconst (v := (-1)) hx hb dX4_put_12 (by decide) ?_
    have hE9 : p4_put M LF LA LE i1 i2 i3 = ((-1), M, 0) := by unfold p4_put; rw [if_pos c_9]
    exact W.iret (v := (-1)) hx hb hr (fun t ht hW => ⟨⟨_, (), rfl, by rw [hE9], by show va_P (dC, dI) vwCl _ t.heap; rw [ht, hE9]; exact hP⟩, hS.F ht⟩) hS.2.2 dX4_put_13

def p4_cell (M : Nat → Nat → Int32) (LF : Int32) (LA : Nat → Int32) (LE : Nat → Int32) (i1 : Int32) (i2 : Int32) (i3 : Int32) : Int64 × Int32 :=
  if (p2_isSheet i1) = 0 then
    ((-9223372036854775808), 0)
  else
    if (p2_isLane i3) = 0 then
      ((-9223372036854775808), 0)
    else
      if (p2_laneFault LA i1 i3) = 0 then
        if (p2_cellFault LE i1 i2) = 0 then
          ((M i1.toNatClampNeg i2.toNatClampNeg).toInt64, 0)
        else
          ((-9223372036854775808), (p2_cellFault LE i1 i2))
      else
        ((-9223372036854775808), (p2_laneFault LA i1 i3))
abbrev rmX4_cell : Room := { frames := 2, cells := 0, slots := 0, locals := 43 }
abbrev QX4_cell (dC : Nat → ClassId) (dI : Nat → Nat → Nat) (A : Nat → Prop) (cI : ClassId) (cR : ClassId) (rr : Nat → Nat) (x0 : Nat) (t0 : Nat) (r0 : Nat) (y0 : Nat) (g0 : Nat) (w0 : Nat) (wr : Nat) (wl : Nat) (wn : Nat) (M : Nat → Nat → Int32) (TR : Int32) (LF : Int32) (LA : Nat → Int32) (LE : Nat → Int32) (i1 : Int32) (i2 : Int32) (i3 : Int32) : Array Value → State → Outcome → State → Prop := va_Ql (fun (r : Int64) (_ : Unit) => r = (p4_cell M LF LA LE i1 i2 i3).1) (fun (_ : Unit) (t : State) => va_P (dC, dI) vwCl (rowsW cI rr M ++ [(x0, .inr (4, [.ref t0, .ref r0, .ref y0, .ref g0, .ref w0, .int TR, .int ((p4_cell M LF LA LE i1 i2 i3).2)])), (w0, .inr (2, [.ref wr, .ref wl, .ref wn])), (wr, .inl (cR, 4, .inr (.inr (.inr (.inr (fun i => if i < 4 then some (rr i) else none)))))), (wl, .inl (cI, 4, .inl LA)), (wn, .inl (cI, 4, .inl LE))]) t.heap) A
set_option maxHeartbeats 4000000 in
set_option maxRecDepth 100000 in
theorem ctX4_cell (l : Launch) (dC : Nat → ClassId) (dI : Nat → Nat → Nat) (cI : ClassId) (cR : ClassId) (rr : Nat → Nat) (x0 : Nat) (t0 : Nat) (r0 : Nat) (y0 : Nat) (g0 : Nat) (w0 : Nat) (wr : Nat) (wl : Nat) (wn : Nat) (sz : Nat) (M : Nat → Nat → Int32) (TR : Int32) (LF : Int32) (LA : Nat → Int32) (LE : Nat → Int32) (i1 : Int32) (i2 : Int32) (i3 : Int32) (hLE : ∀ j : Nat, (LE j).toInt ≤ 60) : Met l yX4_cell wsX4_cell rmX4_cell (va_Pc [.ref x0, .int i1, .int i2, .int i3] (cP dC dI [(cI, .int), (cR, .array .int)] (rowsW cI rr M ++ [(x0, .inr (4, [.ref t0, .ref r0, .ref y0, .ref g0, .ref w0, .int TR, .int LF])), (w0, .inr (2, [.ref wr, .ref wl, .ref wn])), (wr, .inl (cR, 4, .inr (.inr (.inr (.inr (fun i => if i < 4 then some (rr i) else none)))))), (wl, .inl (cI, 4, .inl LA)), (wn, .inl (cI, 4, .inl LE))]) sz)) (QX4_cell dC dI (va_A (rowsW cI rr M ++ [(x0, .inr (4, [.ref t0, .ref r0, .ref y0, .ref g0, .ref w0, .int TR, .int LF])), (w0, .inr (2, [.ref wr, .ref wl, .ref wn])), (wr, .inl (cR, 4, .inr (.inr (.inr (.inr (fun i => if i < 4 then some (rr i) else none)))))), (wl, .inl (cI, 4, .inl LA)), (wn, .inl (cI, 4, .inl LE))]) sz) cI cR rr x0 t0 r0 y0 g0 w0 wr wl wn M TR LF LA LE i1 i2 i3) 0 0 (va_A (rowsW cI rr M ++ [(x0, .inr (4, [.ref t0, .ref r0, .ref y0, .ref g0, .ref w0, .int TR, .int LF])), (w0, .inr (2, [.ref wr, .ref wl, .ref wn])), (wr, .inl (cR, 4, .inr (.inr (.inr (.inr (fun i => if i < 4 then some (rr i) else none)))))), (wl, .inl (cI, 4, .inl LA)), (wn, .inl (cI, 4, .inl LE))]) sz) := by
  refine Met.ofW (cc := cX4_cell) (maxL := 5) (ret := (some .long)) (by decide) rfl ?_
  intro p e s m args below meth c s₁ B hml hv
  obtain ⟨rfl, hsz, hP, hK, hD0, hN⟩ := hv
  have hx := B.exec
  have hb := B.bytes
  have hr := B.returns
  have hts := atoms_spec (ws := wsX4_cell) B.pre
  have hown : s.vm.findClass RX4 = some m.cls := findClass_of_methodNamed B.named
  have hlocks := B.notSynchronized
  subst hsz
  have hD := hD0.self (sz := s.heap.size)
  generalize hAe : va_A (rowsW cI rr M ++ [(x0, .inr (4, [.ref t0, .ref r0, .ref y0, .ref g0, .ref w0, .int TR, .int LF])), (w0, .inr (2, [.ref wr, .ref wl, .ref wn])), (wr, .inl (cR, 4, .inr (.inr (.inr (.inr (fun i => if i < 4 then some (rr i) else none)))))), (wl, .inl (cI, 4, .inl LA)), (wn, .inl (cI, 4, .inl LE))]) s.heap.size = A at hD ⊢
  have hA : ∀ q : Nat, s.heap.size ≤ q → A q := fun q h => by rw [← hAe]; exact Or.inr h
  have hS : va_S A s.heap s.heap [] := va_S.rf
  have hP : va_P (dC, dI) vwCl (rowsW cI rr M ++ [(x0, .inr (4, [.ref t0, .ref r0, .ref y0, .ref g0, .ref w0, .int TR, .int LF])), (w0, .inr (2, [.ref wr, .ref wl, .ref wn])), (wr, .inl (cR, 4, .inr (.inr (.inr (.inr (fun i => if i < 4 then some (rr i) else none)))))), (wl, .inl (cI, 4, .inl LA)), (wn, .inl (cI, 4, .inl LE))]) s.heap := hP
  have hin2 : ∀ w ∈ wsX20, w ∈ wsX4_cell := by decide +kernel
  have hin4 : ∀ w ∈ wsX40, w ∈ wsX4_cell := by decide +kernel
  have kl_147 := hts (.constantLong RX4 147 (-9223372036854775808)) (by decide +kernel)
  have kf_38 := hts (.fieldLink RX4 38 "RicherChange" "sheets" "LRicherChange$Sheets;") (by decide +kernel)
  have kf_42 := hts (.fieldLink RX4 42 "RicherChange" "latestFault" "I") (by decide +kernel)
  have hn_168 := va_Nw.use (A := [.ref x0, .int i1, .int i2, .int i3].toArray) rfl hN.2.2.2.2.2.2.2.1
  have hl := lv_entry ([.ref x0, .int i1, .int i2, .int i3]) (n := 5) (Nat.le_of_ble_eq_true rfl)
  rw [lg_entry_eq]
  generalize (lg_sl ([.ref x0, .int i1, .int i2, .int i3]) ++ List.replicate (5 - (lg_sl ([.ref x0, .int i1, .int i2, .int i3])).length) Slot.unset).toArray = ls at hl ⊢
  have hl : lv_has ls 5 [(0, .ref x0), (1, .int i1), (2, .int i2), (3, .int i3)] := hl
  refine lv_aload_n hx hb dX4_cell_0 rfl (lv_at hl 0 rfl) ?_
  refine lv_iconst (v := 0) hx hb dX4_cell_1 (by decide) ?_
  refine va_put (D := (dC, dI)) (ci := 4) (v := .int 0) (ty := .int) (C := RX4) (T := TX4) (N := 7) hx hb hts hin4 tyX4 tyX4_ok nmX4 hown hK hP hD hS 4 rfl rfl 6 (by decide) kf_42 (fun _ h9 => h9) rfl (by decide +kernel) rfl rfl (Nat.le_of_ble_eq_true rfl) dX4_cell_2 (fun H locs hP hD hS => ?_)
  have hP : va_P (dC, dI) vwCl (rowsW cI rr M ++ [(x0, .inr (4, [.ref t0, .ref r0, .ref y0, .ref g0, .ref w0, .int TR, .int 0])), (w0, .inr (2, [.ref wr, .ref wl, .ref wn])), (wr, .inl (cR, 4, .inr (.inr (.inr (.inr (fun i => if i < 4 then some (rr i) else none)))))), (wl, .inl (cI, 4, .inl LA)), (wn, .inl (cI, 4, .inl LE))]) H := hP
  have hD : va_D A (rowsW cI rr M ++ [(x0, .inr (4, [.ref t0, .ref r0, .ref y0, .ref g0, .ref w0, .int TR, .int 0])), (w0, .inr (2, [.ref wr, .ref wl, .ref wn])), (wr, .inl (cR, 4, .inr (.inr (.inr (.inr (fun i => if i < 4 then some (rr i) else none)))))), (wl, .inl (cI, 4, .inl LA)), (wn, .inl (cI, 4, .inl LE))]) := hD
  refine lv_iload_n hx hb dX4_cell_5 rfl (lv_at hl 1 rfl) ?_
  have hPc : va_P (dC, dI) vwCl [] H := hP.sub (ws' := []) [] rfl
  have hDc : va_D A [] := hD.sub (ws' := []) [] (by decide) rfl
  have hKc := hK.sub (tys' := [(cI, .int)]) [0] rfl
  have hFc := va_free (wc := []) hD hS hA [] rfl
  refine va_calli (va_runS (As := [.int i1]) (rest := []) ⟨hx, hb, hml, hown, hts⟩ (ctX2_isSheet l dC dI cI H.size i1) (va_cwS 1 hts gX4_cell_X2_isSheet rfl rfl rfl (by decide +kernel) ⟨Nat.le_of_ble_eq_true rfl, Nat.le_of_ble_eq_true rfl⟩) (pre_S hKc hN hPc hDc) rfl rfl hl.1 rfl (lv_room (Nat.le_of_ble_eq_true rfl)) dX4_cell_6 ⟨Nat.le_of_ble_eq_true rfl, Nat.le_of_ble_eq_true rfl⟩) hS (fun q _ h => hFc q h) hFc (fun r _ t H locs ht hvm hw hB hz1 hk1 hS => ?_)
  try dsimp only at hw
  subst hw
  rw [ht] at hB
  obtain ⟨hP, hD⟩ := rw_join (rowsW cI rr M ++ [(x0, .inr (4, [.ref t0, .ref r0, .ref y0, .ref g0, .ref w0, .int TR, .int 0])), (w0, .inr (2, [.ref wr, .ref wl, .ref wn])), (wr, .inl (cR, 4, .inr (.inr (.inr (.inr (fun i => if i < 4 then some (rr i) else none)))))), (wl, .inl (cI, 4, .inl LA)), (wn, .inl (cI, 4, .inl LE))]) (rowsW cI rr M ++ [(x0, .inr (4, [.ref t0, .ref r0, .ref y0, .ref g0, .ref w0, .int TR, .int 0])), (w0, .inr (2, [.ref wr, .ref wl, .ref wn])), (wr, .inl (cR, 4, .inr (.inr (.inr (.inr (fun i => if i < 4 then some (rr i) else none)))))), (wl, .inl (cI, 4, .inl LA)), (wn, .inl (cI, 4, .inl LE))]) ([]) ([]) ([(rr 0, .inl (cI, 60, .inl (M 0))), (rr 1, .inl (cI, 60, .inl (M 1))), (rr 2, .inl (cI, 60, .inl (M 2))), (rr 3, .inl (cI, 60, .inl (M 3))), (x0, .inr (4, [.ref t0, .ref r0, .ref y0, .ref g0, .ref w0, .int TR, .int 0])), (w0, .inr (2, [.ref wr, .ref wl, .ref wn])), (wr, .inl (cR, 4, .inr (.inr (.inr (.inr (fun i => if i < 4 then some (rr i) else none)))))), (wl, .inl (cI, 4, .inl LA)), (wn, .inl (cI, 4, .inl LE))]) hP hD [] [0, 1, 2, 3, 4, 5, 6, 7, 8] [rr 0, rr 1, rr 2, rr 3, x0, w0, wr, wl, wn] 9 rfl rfl rfl rfl rfl (by decide) rfl rfl hk1 hB
  refine lv_if_eq (tgt := 19) hx hb dX4_cell_9 (by decide) (fun c_9 => ?_) (fun c_9 => ?_)
  · skip
    refine lv_ldc2 (v := (-9223372036854775808)) hx hb hown kl_147 dX4_cell_19 ?_
    have hE9 : p4_cell M LF LA LE i1 i2 i3 = ((-9223372036854775808), 0) := by unfold p4_cell; rw [if_pos c_9]
    exact W.lret (v := (-9223372036854775808)) hx hb hr (fun t ht hW => ⟨⟨_, (), rfl, by rw [hE9], by show va_P (dC, dI) vwCl _ t.heap; rw [ht, hE9]; exact hP⟩, hS.F ht⟩) hS.2.2 dX4_cell_22
  · skip
    have j1 : vp_in i1 4 := isSheet_in c_9
    refine lv_iload_n hx hb dX4_cell_12 rfl (lv_at hl 3 rfl) ?_
    have hPc : va_P (dC, dI) vwCl [] H := hP.sub (ws' := []) [] rfl
    have hDc : va_D A [] := hD.sub (ws' := []) [] (by decide) rfl
    have hKc := hK.sub (tys' := [(cI, .int)]) [0] rfl
    have hFc := va_free (wc := []) hD hS hA [] rfl
    refine va_calli (va_runS (As := [.int i3]) (rest := []) ⟨hx, hb, hml, hown, hts⟩ (ctX2_isLane l dC dI cI H.size i3) (va_cwS 1 hts gX4_cell_X2_isLane rfl rfl rfl (by decide +kernel) ⟨Nat.le_of_ble_eq_true rfl, Nat.le_of_ble_eq_true rfl⟩) (pre_S hKc hN hPc hDc) rfl rfl hl.1 rfl (lv_room (Nat.le_of_ble_eq_true rfl)) dX4_cell_13 ⟨Nat.le_of_ble_eq_true rfl, Nat.le_of_ble_eq_true rfl⟩) hS (fun q _ h => hFc q h) hFc (fun r _ t H locs ht hvm hw hB hz1 hk1 hS => ?_)
    try dsimp only at hw
    subst hw
    rw [ht] at hB
    obtain ⟨hP, hD⟩ := rw_join (rowsW cI rr M ++ [(x0, .inr (4, [.ref t0, .ref r0, .ref y0, .ref g0, .ref w0, .int TR, .int 0])), (w0, .inr (2, [.ref wr, .ref wl, .ref wn])), (wr, .inl (cR, 4, .inr (.inr (.inr (.inr (fun i => if i < 4 then some (rr i) else none)))))), (wl, .inl (cI, 4, .inl LA)), (wn, .inl (cI, 4, .inl LE))]) (rowsW cI rr M ++ [(x0, .inr (4, [.ref t0, .ref r0, .ref y0, .ref g0, .ref w0, .int TR, .int 0])), (w0, .inr (2, [.ref wr, .ref wl, .ref wn])), (wr, .inl (cR, 4, .inr (.inr (.inr (.inr (fun i => if i < 4 then some (rr i) else none)))))), (wl, .inl (cI, 4, .inl LA)), (wn, .inl (cI, 4, .inl LE))]) ([]) ([]) ([(rr 0, .inl (cI, 60, .inl (M 0))), (rr 1, .inl (cI, 60, .inl (M 1))), (rr 2, .inl (cI, 60, .inl (M 2))), (rr 3, .inl (cI, 60, .inl (M 3))), (x0, .inr (4, [.ref t0, .ref r0, .ref y0, .ref g0, .ref w0, .int TR, .int 0])), (w0, .inr (2, [.ref wr, .ref wl, .ref wn])), (wr, .inl (cR, 4, .inr (.inr (.inr (.inr (fun i => if i < 4 then some (rr i) else none)))))), (wl, .inl (cI, 4, .inl LA)), (wn, .inl (cI, 4, .inl LE))]) hP hD [] [0, 1, 2, 3, 4, 5, 6, 7, 8] [rr 0, rr 1, rr 2, rr 3, x0, w0, wr, wl, wn] 9 rfl rfl rfl rfl rfl (by decide) rfl rfl hk1 hB
    refine lv_if_ne (tgt := 23) hx hb dX4_cell_16 (by decide) (fun c_16 => ?_) (fun c_16 => ?_)
    · skip
      refine lv_aload_n hx hb dX4_cell_23 rfl (lv_at hl 0 rfl) ?_
      refine va_get (D := (dC, dI)) (ci := 4) (v := .ref w0) (C := RX4) (T := TX4) (N := 7) hx hb hts hin4 hown hK hP 4 rfl rfl 4 (by decide) kf_38 (fun _ h9 => h9) rfl dX4_cell_24 ?_
      refine lv_iload_n hx hb dX4_cell_27 rfl (lv_at hl 1 rfl) ?_
      refine lv_iload_n hx hb dX4_cell_28 rfl (lv_at hl 3 rfl) ?_
      have hPc := hP.sub (ws' := rowsW cI rr M ++ [(w0, .inr (2, [.ref wr, .ref wl, .ref wn])), (wr, .inl (cR, 4, .inr (.inr (.inr (.inr (fun i => if i < 4 then some (rr i) else none)))))), (wl, .inl (cI, 4, .inl LA)), (wn, .inl (cI, 4, .inl LE))]) [0, 1, 2, 3, 5, 6, 7, 8] rfl
      have hDc := hD.sub (ws' := rowsW cI rr M ++ [(w0, .inr (2, [.ref wr, .ref wl, .ref wn])), (wr, .inl (cR, 4, .inr (.inr (.inr (.inr (fun i => if i < 4 then some (rr i) else none)))))), (wl, .inl (cI, 4, .inl LA)), (wn, .inl (cI, 4, .inl LE))]) [0, 1, 2, 3, 5, 6, 7, 8] (by decide) rfl
      have hKc := hK.sub (tys' := [(cI, .int), (cR, .array .int)]) [0, 1] rfl
      have hFc := va_free (wc := rowsW cI rr M ++ [(w0, .inr (2, [.ref wr, .ref wl, .ref wn])), (wr, .inl (cR, 4, .inr (.inr (.inr (.inr (fun i => if i < 4 then some (rr i) else none)))))), (wl, .inl (cI, 4, .inl LA)), (wn, .inl (cI, 4, .inl LE))]) hD hS hA [0, 1, 2, 3, 5, 6, 7, 8] rfl
      refine va_calli (va_runV (As := [.int i1, .int i3]) (rest := []) ⟨hx, hb, hml, hown, hts⟩ (ctX2_laneFault l dC dI cI cR rr w0 wr wl wn H.size M LA LE i1 i3 (by assumption)) (cwV 2 hts gX4_cell_X2_laneFault rfl rfl rfl (by decide +kernel) ⟨Nat.le_of_ble_eq_true rfl, Nat.le_of_ble_eq_true rfl⟩) (pre_V hKc hN hPc hDc (RX2, TX2, 3) 2 4 rfl rfl) rfl rfl hl.1 rfl (lv_room (Nat.le_of_ble_eq_true rfl)) dX4_cell_29 ⟨Nat.le_of_ble_eq_true rfl, Nat.le_of_ble_eq_true rfl⟩) hS (fun q _ h => hFc q h) hFc (fun r _ t H locs ht hvm hw hB hz1 hk1 hS => ?_)
      try dsimp only at hw
      subst hw
      rw [ht] at hB
      obtain ⟨hP, hD⟩ := rw_join (rowsW cI rr M ++ [(x0, .inr (4, [.ref t0, .ref r0, .ref y0, .ref g0, .ref w0, .int TR, .int 0])), (w0, .inr (2, [.ref wr, .ref wl, .ref wn])), (wr, .inl (cR, 4, .inr (.inr (.inr (.inr (fun i => if i < 4 then some (rr i) else none)))))), (wl, .inl (cI, 4, .inl LA)), (wn, .inl (cI, 4, .inl LE))]) (rowsW cI rr M ++ [(x0, .inr (4, [.ref t0, .ref r0, .ref y0, .ref g0, .ref w0, .int TR, .int 0])), (w0, .inr (2, [.ref wr, .ref wl, .ref wn])), (wr, .inl (cR, 4, .inr (.inr (.inr (.inr (fun i => if i < 4 then some (rr i) else none)))))), (wl, .inl (cI, 4, .inl LA)), (wn, .inl (cI, 4, .inl LE))]) (rowsW cI rr M ++ [(w0, .inr (2, [.ref wr, .ref wl, .ref wn])), (wr, .inl (cR, 4, .inr (.inr (.inr (.inr (fun i => if i < 4 then some (rr i) else none)))))), (wl, .inl (cI, 4, .inl LA)), (wn, .inl (cI, 4, .inl LE))]) (rowsW cI rr M ++ [(w0, .inr (2, [.ref wr, .ref wl, .ref wn])), (wr, .inl (cR, 4, .inr (.inr (.inr (.inr (fun i => if i < 4 then some (rr i) else none)))))), (wl, .inl (cI, 4, .inl LA)), (wn, .inl (cI, 4, .inl LE))]) ([(x0, .inr (4, [.ref t0, .ref r0, .ref y0, .ref g0, .ref w0, .int TR, .int 0]))]) hP hD [0, 1, 2, 3, 5, 6, 7, 8] [4] [rr 0, rr 1, rr 2, rr 3, x0, w0, wr, wl, wn] 9 rfl rfl rfl rfl rfl (by decide) rfl rfl hk1 hB
      refine lv_istore (lv' := [(4, .int (p2_laneFault LA i1 i3)), (0, .ref x0), (1, .int i1), (2, .int i2), (3, .int i3)]) hx hb dX4_cell_32 hl (by decide) rfl (fun ls hl => ?_)
      refine lv_iload hx hb dX4_cell_34 (lv_at hl 0 rfl) ?_
      refine lv_if_ne (tgt := 50) hx hb dX4_cell_36 (by decide) (fun c_36 => ?_) (fun c_36 => ?_)
      · skip
        refine lv_iload hx hb dX4_cell_50 (lv_at hl 0 rfl) ?_
        refine lv_if_eq (tgt := 65) hx hb dX4_cell_52 (by decide) (fun c_52 => ?_) (fun c_52 => ?_)
        · exact absurd c_52 c_36
        · skip
          refine lv_aload_n hx hb dX4_cell_55 rfl (lv_at hl 1 rfl) ?_
          refine lv_iload hx hb dX4_cell_56 (lv_at hl 0 rfl) ?_
          refine va_put (D := (dC, dI)) (ci := 4) (v := .int (p2_laneFault LA i1 i3)) (ty := .int) (C := RX4) (T := TX4) (N := 7) hx hb hts hin4 tyX4 tyX4_ok nmX4 hown hK hP hD hS 4 rfl rfl 6 (by decide) kf_42 (fun _ h9 => h9) rfl (by decide +kernel) rfl rfl (Nat.le_of_ble_eq_true rfl) dX4_cell_58 (fun H locs hP hD hS => ?_)
          have hP : va_P (dC, dI) vwCl (rowsW cI rr M ++ [(x0, .inr (4, [.ref t0, .ref r0, .ref y0, .ref g0, .ref w0, .int TR, .int (p2_laneFault LA i1 i3)])), (w0, .inr (2, [.ref wr, .ref wl, .ref wn])), (wr, .inl (cR, 4, .inr (.inr (.inr (.inr (fun i => if i < 4 then some (rr i) else none)))))), (wl, .inl (cI, 4, .inl LA)), (wn, .inl (cI, 4, .inl LE))]) H := hP
          have hD : va_D A (rowsW cI rr M ++ [(x0, .inr (4, [.ref t0, .ref r0, .ref y0, .ref g0, .ref w0, .int TR, .int (p2_laneFault LA i1 i3)])), (w0, .inr (2, [.ref wr, .ref wl, .ref wn])), (wr, .inl (cR, 4, .inr (.inr (.inr (.inr (fun i => if i < 4 then some (rr i) else none)))))), (wl, .inl (cI, 4, .inl LA)), (wn, .inl (cI, 4, .inl LE))]) := hD
          refine lv_ldc2 (v := (-9223372036854775808)) hx hb hown kl_147 dX4_cell_61 ?_
          have hE9 : p4_cell M LF LA LE i1 i2 i3 = ((-9223372036854775808), (p2_laneFault LA i1 i3)) := by unfold p4_cell; rw [if_neg c_9, if_neg c_16, if_neg c_36]
          exact W.lret (v := (-9223372036854775808)) hx hb hr (fun t ht hW => ⟨⟨_, (), rfl, by rw [hE9], by show va_P (dC, dI) vwCl _ t.heap; rw [ht, hE9]; exact hP⟩, hS.F ht⟩) hS.2.2 dX4_cell_64
      · skip
        refine lv_aload_n hx hb dX4_cell_39 rfl (lv_at hl 1 rfl) ?_
        refine va_get (D := (dC, dI)) (ci := 4) (v := .ref w0) (C := RX4) (T := TX4) (N := 7) hx hb hts hin4 hown hK hP 4 rfl rfl 4 (by decide) kf_38 (fun _ h9 => h9) rfl dX4_cell_40 ?_
        refine lv_iload_n hx hb dX4_cell_43 rfl (lv_at hl 2 rfl) ?_
        refine lv_iload_n hx hb dX4_cell_44 rfl (lv_at hl 3 rfl) ?_
        have hPc := hP.sub (ws' := rowsW cI rr M ++ [(w0, .inr (2, [.ref wr, .ref wl, .ref wn])), (wr, .inl (cR, 4, .inr (.inr (.inr (.inr (fun i => if i < 4 then some (rr i) else none)))))), (wl, .inl (cI, 4, .inl LA)), (wn, .inl (cI, 4, .inl LE))]) [0, 1, 2, 3, 5, 6, 7, 8] rfl
        have hDc := hD.sub (ws' := rowsW cI rr M ++ [(w0, .inr (2, [.ref wr, .ref wl, .ref wn])), (wr, .inl (cR, 4, .inr (.inr (.inr (.inr (fun i => if i < 4 then some (rr i) else none)))))), (wl, .inl (cI, 4, .inl LA)), (wn, .inl (cI, 4, .inl LE))]) [0, 1, 2, 3, 5, 6, 7, 8] (by decide) rfl
        have hKc := hK.sub (tys' := [(cI, .int), (cR, .array .int)]) [0, 1] rfl
        have hFc := va_free (wc := rowsW cI rr M ++ [(w0, .inr (2, [.ref wr, .ref wl, .ref wn])), (wr, .inl (cR, 4, .inr (.inr (.inr (.inr (fun i => if i < 4 then some (rr i) else none)))))), (wl, .inl (cI, 4, .inl LA)), (wn, .inl (cI, 4, .inl LE))]) hD hS hA [0, 1, 2, 3, 5, 6, 7, 8] rfl
        refine va_calli (va_runV (As := [.int i1, .int i2]) (rest := []) ⟨hx, hb, hml, hown, hts⟩ (ctX2_cellFault l dC dI cI cR rr w0 wr wl wn H.size M LA LE i1 i2 (by assumption)) (cwV 2 hts gX4_cell_X2_cellFault rfl rfl rfl (by decide +kernel) ⟨Nat.le_of_ble_eq_true rfl, Nat.le_of_ble_eq_true rfl⟩) (pre_V hKc hN hPc hDc (RX2, TX2, 3) 2 4 rfl rfl) rfl rfl hl.1 rfl (lv_room (Nat.le_of_ble_eq_true rfl)) dX4_cell_45 ⟨Nat.le_of_ble_eq_true rfl, Nat.le_of_ble_eq_true rfl⟩) hS (fun q _ h => hFc q h) hFc (fun r _ t H locs ht hvm hw hB hz1 hk1 hS => ?_)
        try dsimp only at hw
        subst hw
        rw [ht] at hB
        obtain ⟨hP, hD⟩ := rw_join (rowsW cI rr M ++ [(x0, .inr (4, [.ref t0, .ref r0, .ref y0, .ref g0, .ref w0, .int TR, .int 0])), (w0, .inr (2, [.ref wr, .ref wl, .ref wn])), (wr, .inl (cR, 4, .inr (.inr (.inr (.inr (fun i => if i < 4 then some (rr i) else none)))))), (wl, .inl (cI, 4, .inl LA)), (wn, .inl (cI, 4, .inl LE))]) (rowsW cI rr M ++ [(x0, .inr (4, [.ref t0, .ref r0, .ref y0, .ref g0, .ref w0, .int TR, .int 0])), (w0, .inr (2, [.ref wr, .ref wl, .ref wn])), (wr, .inl (cR, 4, .inr (.inr (.inr (.inr (fun i => if i < 4 then some (rr i) else none)))))), (wl, .inl (cI, 4, .inl LA)), (wn, .inl (cI, 4, .inl LE))]) (rowsW cI rr M ++ [(w0, .inr (2, [.ref wr, .ref wl, .ref wn])), (wr, .inl (cR, 4, .inr (.inr (.inr (.inr (fun i => if i < 4 then some (rr i) else none)))))), (wl, .inl (cI, 4, .inl LA)), (wn, .inl (cI, 4, .inl LE))]) (rowsW cI rr M ++ [(w0, .inr (2, [.ref wr, .ref wl, .ref wn])), (wr, .inl (cR, 4, .inr (.inr (.inr (.inr (fun i => if i < 4 then some (rr i) else none)))))), (wl, .inl (cI, 4, .inl LA)), (wn, .inl (cI, 4, .inl LE))]) ([(x0, .inr (4, [.ref t0, .ref r0, .ref y0, .ref g0, .ref w0, .int TR, .int 0]))]) hP hD [0, 1, 2, 3, 5, 6, 7, 8] [4] [rr 0, rr 1, rr 2, rr 3, x0, w0, wr, wl, wn] 9 rfl rfl rfl rfl rfl (by decide) rfl rfl hk1 hB
        refine lv_istore (lv' := [(4, .int (p2_cellFault LE i1 i2)), (0, .ref x0), (1, .int i1), (2, .int i2), (3, .int i3)]) hx hb dX4_cell_48 hl (by decide) rfl (fun ls hl => ?_)
        refine lv_iload hx hb dX4_cell_50 (lv_at hl 0 rfl) ?_
        refine lv_if_eq (tgt := 65) hx hb dX4_cell_52 (by decide) (fun c_52 => ?_) (fun c_52 => ?_)
        · skip
          have j2 : vp_in i2 60 := cellFault_in (hLE _) c_52
          refine lv_aload_n hx hb dX4_cell_65 rfl (lv_at hl 1 rfl) ?_
          refine va_get (D := (dC, dI)) (ci := 4) (v := .ref w0) (C := RX4) (T := TX4) (N := 7) hx hb hts hin4 hown hK hP 4 rfl rfl 4 (by decide) kf_38 (fun _ h9 => h9) rfl dX4_cell_66 ?_
          refine va_getN (D := (dC, dI)) (ci := 2) (v := .ref wr) (C := RX2) (T := TX2) (N := 3) hx hb hts hin2 hown hK hP 5 rfl rfl 0 (by decide) hn_168 (fun _ h9 => h9) rfl dX4_cell_69 ?_
          refine lv_iload_n hx hb dX4_cell_72 rfl (lv_at hl 2 rfl) ?_
          refine va_alda (v := rr i1.toNatClampNeg) hx hb hK hP 6 1 rfl rfl j1 (if_pos (vp_lt j1)) dX4_cell_73 ?_
          refine lv_iload_n hx hb dX4_cell_74 rfl (lv_at hl 3 rfl) ?_
          refine va_iald hx hb hK hP i1.toNatClampNeg 0 (rows_get cI rr M ([(x0, .inr (4, [.ref t0, .ref r0, .ref y0, .ref g0, .ref w0, .int TR, .int 0])), (w0, .inr (2, [.ref wr, .ref wl, .ref wn])), (wr, .inl (cR, 4, .inr (.inr (.inr (.inr (fun i => if i < 4 then some (rr i) else none)))))), (wl, .inl (cI, 4, .inl LA)), (wn, .inl (cI, 4, .inl LE))]) (vp_lt j1)) rfl (by assumption) dX4_cell_75 ?_
          refine lv_i2l (v := (M i1.toNatClampNeg i2.toNatClampNeg).toInt64) hx hb dX4_cell_76 rfl ?_
          have hE9 : p4_cell M LF LA LE i1 i2 i3 = ((M i1.toNatClampNeg i2.toNatClampNeg).toInt64, 0) := by unfold p4_cell; rw [if_neg c_9, if_neg c_16, if_pos c_36, if_pos c_52]
          exact W.lret (v := (M i1.toNatClampNeg i2.toNatClampNeg).toInt64) hx hb hr (fun t ht hW => ⟨⟨_, (), rfl, by rw [hE9], by show va_P (dC, dI) vwCl _ t.heap; rw [ht, hE9]; exact hP⟩, hS.F ht⟩) hS.2.2 dX4_cell_77
        · skip
          refine lv_aload_n hx hb dX4_cell_55 rfl (lv_at hl 1 rfl) ?_
          refine lv_iload hx hb dX4_cell_56 (lv_at hl 0 rfl) ?_
          refine va_put (D := (dC, dI)) (ci := 4) (v := .int (p2_cellFault LE i1 i2)) (ty := .int) (C := RX4) (T := TX4) (N := 7) hx hb hts hin4 tyX4 tyX4_ok nmX4 hown hK hP hD hS 4 rfl rfl 6 (by decide) kf_42 (fun _ h9 => h9) rfl (by decide +kernel) rfl rfl (Nat.le_of_ble_eq_true rfl) dX4_cell_58 (fun H locs hP hD hS => ?_)
          have hP : va_P (dC, dI) vwCl (rowsW cI rr M ++ [(x0, .inr (4, [.ref t0, .ref r0, .ref y0, .ref g0, .ref w0, .int TR, .int (p2_cellFault LE i1 i2)])), (w0, .inr (2, [.ref wr, .ref wl, .ref wn])), (wr, .inl (cR, 4, .inr (.inr (.inr (.inr (fun i => if i < 4 then some (rr i) else none)))))), (wl, .inl (cI, 4, .inl LA)), (wn, .inl (cI, 4, .inl LE))]) H := hP
          have hD : va_D A (rowsW cI rr M ++ [(x0, .inr (4, [.ref t0, .ref r0, .ref y0, .ref g0, .ref w0, .int TR, .int (p2_cellFault LE i1 i2)])), (w0, .inr (2, [.ref wr, .ref wl, .ref wn])), (wr, .inl (cR, 4, .inr (.inr (.inr (.inr (fun i => if i < 4 then some (rr i) else none)))))), (wl, .inl (cI, 4, .inl LA)), (wn, .inl (cI, 4, .inl LE))]) := hD
          refine lv_ldc2 (v := (-9223372036854775808)) hx hb hown kl_147 dX4_cell_61 ?_
          have hE9 : p4_cell M LF LA LE i1 i2 i3 = ((-9223372036854775808), (p2_cellFault LE i1 i2)) := by unfold p4_cell; rw [if_neg c_9, if_neg c_16, if_pos c_36, if_neg c_52]
          exact W.lret (v := (-9223372036854775808)) hx hb hr (fun t ht hW => ⟨⟨_, (), rfl, by rw [hE9], by show va_P (dC, dI) vwCl _ t.heap; rw [ht, hE9]; exact hP⟩, hS.F ht⟩) hS.2.2 dX4_cell_64
    · skip
      refine lv_ldc2 (v := (-9223372036854775808)) hx hb hown kl_147 dX4_cell_19 ?_
      have hE9 : p4_cell M LF LA LE i1 i2 i3 = ((-9223372036854775808), 0) := by unfold p4_cell; rw [if_neg c_9, if_pos c_16]
      exact W.lret (v := (-9223372036854775808)) hx hb hr (fun t ht hW => ⟨⟨_, (), rfl, by rw [hE9], by show va_P (dC, dI) vwCl _ t.heap; rw [ht, hE9]; exact hP⟩, hS.F ht⟩) hS.2.2 dX4_cell_22

def p4_copy (M : Nat → Nat → Int32) (LF : Int32) (LA : Nat → Int32) (LE : Nat → Int32) (i1 : Int32) (i2 : Int32) (i3 : Int32) (i4 : Int32) (i5 : Int32) : Int32 × (Nat → Nat → Int32) × Int32 :=
  if (p2_isSheet i1) = 0 then
    ((-1), M, 0)
  else
    if (p2_isSheet i3) = 0 then
      ((-1), M, 0)
    else
      if (p2_isNothing LA i1) = 0 then
        if (p2_isNothing LA i3) = 0 then
          if (LA i1.toNatClampNeg) = (LA i3.toNatClampNeg) then
            if (p2_spanFault LE i1 i2 i5) = 0 then
              if (p2_spanFault LE i3 i4 i5) = 0 then
                (i5, (setr M (i3.toNatClampNeg) (va_cpy (M (i1.toNatClampNeg)) (M (i3.toNatClampNeg)) i2.toNatClampNeg i4.toNatClampNeg i5.toNatClampNeg)), 0)
              else
                (((p4_failed 0 3).1), M, ((p4_failed 0 3).2))
            else
              (((p4_failed 0 3).1), M, ((p4_failed 0 3).2))
          else
            (((p4_failed 0 2).1), M, ((p4_failed 0 2).2))
        else
          (((p4_failed 0 1).1), M, ((p4_failed 0 1).2))
      else
        (((p4_failed 0 1).1), M, ((p4_failed 0 1).2))
abbrev rmX4_copy : Room := { frames := 1, cells := 0, slots := 0, locals := 40 }
abbrev QX4_copy (dC : Nat → ClassId) (dI : Nat → Nat → Nat) (A : Nat → Prop) (cI : ClassId) (cR : ClassId) (rr : Nat → Nat) (x0 : Nat) (t0 : Nat) (r0 : Nat) (y0 : Nat) (g0 : Nat) (w0 : Nat) (wr : Nat) (wl : Nat) (wn : Nat) (M : Nat → Nat → Int32) (TR : Int32) (LF : Int32) (LA : Nat → Int32) (LE : Nat → Int32) (i1 : Int32) (i2 : Int32) (i3 : Int32) (i4 : Int32) (i5 : Int32) : Array Value → State → Outcome → State → Prop := va_Qi (fun (r : Int32) (_ : Unit) => r = (p4_copy M LF LA LE i1 i2 i3 i4 i5).1) (fun (_ : Unit) (t : State) => va_P (dC, dI) vwCl (rowsW cI rr ((p4_copy M LF LA LE i1 i2 i3 i4 i5).2.1) ++ [(x0, .inr (4, [.ref t0, .ref r0, .ref y0, .ref g0, .ref w0, .int TR, .int ((p4_copy M LF LA LE i1 i2 i3 i4 i5).2.2)])), (w0, .inr (2, [.ref wr, .ref wl, .ref wn])), (wr, .inl (cR, 4, .inr (.inr (.inr (.inr (fun i => if i < 4 then some (rr i) else none)))))), (wl, .inl (cI, 4, .inl LA)), (wn, .inl (cI, 4, .inl LE))]) t.heap) A
set_option maxHeartbeats 4000000 in
set_option maxRecDepth 100000 in
theorem ctX4_copy (l : Launch) (dC : Nat → ClassId) (dI : Nat → Nat → Nat) (cI : ClassId) (cR : ClassId) (rr : Nat → Nat) (x0 : Nat) (t0 : Nat) (r0 : Nat) (y0 : Nat) (g0 : Nat) (w0 : Nat) (wr : Nat) (wl : Nat) (wn : Nat) (sz : Nat) (M : Nat → Nat → Int32) (TR : Int32) (LF : Int32) (LA : Nat → Int32) (LE : Nat → Int32) (i1 : Int32) (i2 : Int32) (i3 : Int32) (i4 : Int32) (i5 : Int32) (hLE : ∀ j : Nat, (LE j).toInt ≤ 60) : Met l yX4_copy wsX4_copy rmX4_copy (va_Pc [.ref x0, .int i1, .int i2, .int i3, .int i4, .int i5] (cP dC dI [(cI, .int), (cR, .array .int)] (rowsW cI rr M ++ [(x0, .inr (4, [.ref t0, .ref r0, .ref y0, .ref g0, .ref w0, .int TR, .int LF])), (w0, .inr (2, [.ref wr, .ref wl, .ref wn])), (wr, .inl (cR, 4, .inr (.inr (.inr (.inr (fun i => if i < 4 then some (rr i) else none)))))), (wl, .inl (cI, 4, .inl LA)), (wn, .inl (cI, 4, .inl LE))]) sz)) (QX4_copy dC dI (va_A (rowsW cI rr M ++ [(x0, .inr (4, [.ref t0, .ref r0, .ref y0, .ref g0, .ref w0, .int TR, .int LF])), (w0, .inr (2, [.ref wr, .ref wl, .ref wn])), (wr, .inl (cR, 4, .inr (.inr (.inr (.inr (fun i => if i < 4 then some (rr i) else none)))))), (wl, .inl (cI, 4, .inl LA)), (wn, .inl (cI, 4, .inl LE))]) sz) cI cR rr x0 t0 r0 y0 g0 w0 wr wl wn M TR LF LA LE i1 i2 i3 i4 i5) 0 0 (va_A (rowsW cI rr M ++ [(x0, .inr (4, [.ref t0, .ref r0, .ref y0, .ref g0, .ref w0, .int TR, .int LF])), (w0, .inr (2, [.ref wr, .ref wl, .ref wn])), (wr, .inl (cR, 4, .inr (.inr (.inr (.inr (fun i => if i < 4 then some (rr i) else none)))))), (wl, .inl (cI, 4, .inl LA)), (wn, .inl (cI, 4, .inl LE))]) sz) := by
  refine Met.ofW (cc := cX4_copy) (maxL := 6) (ret := (some .int)) (by decide) rfl ?_
  intro p e s m args below meth c s₁ B hml hv
  obtain ⟨rfl, hsz, hP, hK, hD0, hN⟩ := hv
  have hx := B.exec
  have hb := B.bytes
  have hr := B.returns
  have hts := atoms_spec (ws := wsX4_copy) B.pre
  have hown : s.vm.findClass RX4 = some m.cls := findClass_of_methodNamed B.named
  have hlocks := B.notSynchronized
  subst hsz
  have hD := hD0.self (sz := s.heap.size)
  generalize hAe : va_A (rowsW cI rr M ++ [(x0, .inr (4, [.ref t0, .ref r0, .ref y0, .ref g0, .ref w0, .int TR, .int LF])), (w0, .inr (2, [.ref wr, .ref wl, .ref wn])), (wr, .inl (cR, 4, .inr (.inr (.inr (.inr (fun i => if i < 4 then some (rr i) else none)))))), (wl, .inl (cI, 4, .inl LA)), (wn, .inl (cI, 4, .inl LE))]) s.heap.size = A at hD ⊢
  have hA : ∀ q : Nat, s.heap.size ≤ q → A q := fun q h => by rw [← hAe]; exact Or.inr h
  have hS : va_S A s.heap s.heap [] := va_S.rf
  have hP : va_P (dC, dI) vwCl (rowsW cI rr M ++ [(x0, .inr (4, [.ref t0, .ref r0, .ref y0, .ref g0, .ref w0, .int TR, .int LF])), (w0, .inr (2, [.ref wr, .ref wl, .ref wn])), (wr, .inl (cR, 4, .inr (.inr (.inr (.inr (fun i => if i < 4 then some (rr i) else none)))))), (wl, .inl (cI, 4, .inl LA)), (wn, .inl (cI, 4, .inl LE))]) s.heap := hP
  have hin2 : ∀ w ∈ wsX20, w ∈ wsX4_copy := by decide +kernel
  have hin4 : ∀ w ∈ wsX40, w ∈ wsX4_copy := by decide +kernel
  have kf_38 := hts (.fieldLink RX4 38 "RicherChange" "sheets" "LRicherChange$Sheets;") (by decide +kernel)
  have kf_42 := hts (.fieldLink RX4 42 "RicherChange" "latestFault" "I") (by decide +kernel)
  have hn_168 := va_Nw.use (A := [.ref x0, .int i1, .int i2, .int i3, .int i4, .int i5].toArray) rfl hN.2.2.2.2.2.2.2.1
  have hn_172 := va_Nw.use (A := [.ref x0, .int i1, .int i2, .int i3, .int i4, .int i5].toArray) rfl hN.2.2.2.2.2.2.2.2.1
  have hl := lv_entry ([.ref x0, .int i1, .int i2, .int i3, .int i4, .int i5]) (n := 6) (Nat.le_of_ble_eq_true rfl)
  rw [lg_entry_eq]
  generalize (lg_sl ([.ref x0, .int i1, .int i2, .int i3, .int i4, .int i5]) ++ List.replicate (6 - (lg_sl ([.ref x0, .int i1, .int i2, .int i3, .int i4, .int i5])).length) Slot.unset).toArray = ls at hl ⊢
  have hl : lv_has ls 6 [(0, .ref x0), (1, .int i1), (2, .int i2), (3, .int i3), (4, .int i4), (5, .int i5)] := hl
  refine lv_aload_n hx hb dX4_copy_0 rfl (lv_at hl 0 rfl) ?_
  refine lv_iconst (v := 0) hx hb dX4_copy_1 (by decide) ?_
  refine va_put (D := (dC, dI)) (ci := 4) (v := .int 0) (ty := .int) (C := RX4) (T := TX4) (N := 7) hx hb hts hin4 tyX4 tyX4_ok nmX4 hown hK hP hD hS 4 rfl rfl 6 (by decide) kf_42 (fun _ h9 => h9) rfl (by decide +kernel) rfl rfl (Nat.le_of_ble_eq_true rfl) dX4_copy_2 (fun H locs hP hD hS => ?_)
  have hP : va_P (dC, dI) vwCl (rowsW cI rr M ++ [(x0, .inr (4, [.ref t0, .ref r0, .ref y0, .ref g0, .ref w0, .int TR, .int 0])), (w0, .inr (2, [.ref wr, .ref wl, .ref wn])), (wr, .inl (cR, 4, .inr (.inr (.inr (.inr (fun i => if i < 4 then some (rr i) else none)))))), (wl, .inl (cI, 4, .inl LA)), (wn, .inl (cI, 4, .inl LE))]) H := hP
  have hD : va_D A (rowsW cI rr M ++ [(x0, .inr (4, [.ref t0, .ref r0, .ref y0, .ref g0, .ref w0, .int TR, .int 0])), (w0, .inr (2, [.ref wr, .ref wl, .ref wn])), (wr, .inl (cR, 4, .inr (.inr (.inr (.inr (fun i => if i < 4 then some (rr i) else none)))))), (wl, .inl (cI, 4, .inl LA)), (wn, .inl (cI, 4, .inl LE))]) := hD
  refine lv_iload_n hx hb dX4_copy_5 rfl (lv_at hl 1 rfl) ?_
  have hPc : va_P (dC, dI) vwCl [] H := hP.sub (ws' := []) [] rfl
  have hDc : va_D A [] := hD.sub (ws' := []) [] (by decide) rfl
  have hKc := hK.sub (tys' := [(cI, .int)]) [0] rfl
  have hFc := va_free (wc := []) hD hS hA [] rfl
  refine va_calli (va_runS (As := [.int i1]) (rest := []) ⟨hx, hb, hml, hown, hts⟩ (ctX2_isSheet l dC dI cI H.size i1) (va_cwS 1 hts gX4_copy_X2_isSheet rfl rfl rfl (by decide +kernel) ⟨Nat.le_of_ble_eq_true rfl, Nat.le_of_ble_eq_true rfl⟩) (pre_S hKc hN hPc hDc) rfl rfl hl.1 rfl (lv_room (Nat.le_of_ble_eq_true rfl)) dX4_copy_6 ⟨Nat.le_of_ble_eq_true rfl, Nat.le_of_ble_eq_true rfl⟩) hS (fun q _ h => hFc q h) hFc (fun r _ t H locs ht hvm hw hB hz1 hk1 hS => ?_)
  try dsimp only at hw
  subst hw
  rw [ht] at hB
  obtain ⟨hP, hD⟩ := rw_join (rowsW cI rr M ++ [(x0, .inr (4, [.ref t0, .ref r0, .ref y0, .ref g0, .ref w0, .int TR, .int 0])), (w0, .inr (2, [.ref wr, .ref wl, .ref wn])), (wr, .inl (cR, 4, .inr (.inr (.inr (.inr (fun i => if i < 4 then some (rr i) else none)))))), (wl, .inl (cI, 4, .inl LA)), (wn, .inl (cI, 4, .inl LE))]) (rowsW cI rr M ++ [(x0, .inr (4, [.ref t0, .ref r0, .ref y0, .ref g0, .ref w0, .int TR, .int 0])), (w0, .inr (2, [.ref wr, .ref wl, .ref wn])), (wr, .inl (cR, 4, .inr (.inr (.inr (.inr (fun i => if i < 4 then some (rr i) else none)))))), (wl, .inl (cI, 4, .inl LA)), (wn, .inl (cI, 4, .inl LE))]) ([]) ([]) ([(rr 0, .inl (cI, 60, .inl (M 0))), (rr 1, .inl (cI, 60, .inl (M 1))), (rr 2, .inl (cI, 60, .inl (M 2))), (rr 3, .inl (cI, 60, .inl (M 3))), (x0, .inr (4, [.ref t0, .ref r0, .ref y0, .ref g0, .ref w0, .int TR, .int 0])), (w0, .inr (2, [.ref wr, .ref wl, .ref wn])), (wr, .inl (cR, 4, .inr (.inr (.inr (.inr (fun i => if i < 4 then some (rr i) else none)))))), (wl, .inl (cI, 4, .inl LA)), (wn, .inl (cI, 4, .inl LE))]) hP hD [] [0, 1, 2, 3, 4, 5, 6, 7, 8] [rr 0, rr 1, rr 2, rr 3, x0, w0, wr, wl, wn] 9 rfl rfl rfl rfl rfl (by decide) rfl rfl hk1 hB
  refine lv_if_eq (tgt := 19) hx hb dX4_copy_9 (by decide) (fun c_9 => ?_) (fun c_9 => ?_)
  · skip
    refine lv_iconst (v := (-1)) hx hb dX4_copy_19 (by decide) ?_
    have hE9 : p4_copy M LF LA LE i1 i2 i3 i4 i5 = ((-1), M, 0) := by unfold p4_copy; rw [if_pos c_9]
    exact W.iret (v := (-1)) hx hb hr (fun t ht hW => ⟨⟨_, (), rfl, by rw [hE9], by show va_P (dC, dI) vwCl _ t.heap; rw [ht, hE9]; exact hP⟩, hS.F ht⟩) hS.2.2 dX4_copy_20
  · skip
    have j1 : vp_in i1 4 := isSheet_in c_9
    refine lv_iload_n hx hb dX4_copy_12 rfl (lv_at hl 3 rfl) ?_
    have hPc : va_P (dC, dI) vwCl [] H := hP.sub (ws' := []) [] rfl
    have hDc : va_D A [] := hD.sub (ws' := []) [] (by decide) rfl
    have hKc := hK.sub (tys' := [(cI, .int)]) [0] rfl
    have hFc := va_free (wc := []) hD hS hA [] rfl
    refine va_calli (va_runS (As := [.int i3]) (rest := []) ⟨hx, hb, hml, hown, hts⟩ (ctX2_isSheet l dC dI cI H.size i3) (va_cwS 1 hts gX4_copy_X2_isSheet rfl rfl rfl (by decide +kernel) ⟨Nat.le_of_ble_eq_true rfl, Nat.le_of_ble_eq_true rfl⟩) (pre_S hKc hN hPc hDc) rfl rfl hl.1 rfl (lv_room (Nat.le_of_ble_eq_true rfl)) dX4_copy_13 ⟨Nat.le_of_ble_eq_true rfl, Nat.le_of_ble_eq_true rfl⟩) hS (fun q _ h => hFc q h) hFc (fun r _ t H locs ht hvm hw hB hz1 hk1 hS => ?_)
    try dsimp only at hw
    subst hw
    rw [ht] at hB
    obtain ⟨hP, hD⟩ := rw_join (rowsW cI rr M ++ [(x0, .inr (4, [.ref t0, .ref r0, .ref y0, .ref g0, .ref w0, .int TR, .int 0])), (w0, .inr (2, [.ref wr, .ref wl, .ref wn])), (wr, .inl (cR, 4, .inr (.inr (.inr (.inr (fun i => if i < 4 then some (rr i) else none)))))), (wl, .inl (cI, 4, .inl LA)), (wn, .inl (cI, 4, .inl LE))]) (rowsW cI rr M ++ [(x0, .inr (4, [.ref t0, .ref r0, .ref y0, .ref g0, .ref w0, .int TR, .int 0])), (w0, .inr (2, [.ref wr, .ref wl, .ref wn])), (wr, .inl (cR, 4, .inr (.inr (.inr (.inr (fun i => if i < 4 then some (rr i) else none)))))), (wl, .inl (cI, 4, .inl LA)), (wn, .inl (cI, 4, .inl LE))]) ([]) ([]) ([(rr 0, .inl (cI, 60, .inl (M 0))), (rr 1, .inl (cI, 60, .inl (M 1))), (rr 2, .inl (cI, 60, .inl (M 2))), (rr 3, .inl (cI, 60, .inl (M 3))), (x0, .inr (4, [.ref t0, .ref r0, .ref y0, .ref g0, .ref w0, .int TR, .int 0])), (w0, .inr (2, [.ref wr, .ref wl, .ref wn])), (wr, .inl (cR, 4, .inr (.inr (.inr (.inr (fun i => if i < 4 then some (rr i) else none)))))), (wl, .inl (cI, 4, .inl LA)), (wn, .inl (cI, 4, .inl LE))]) hP hD [] [0, 1, 2, 3, 4, 5, 6, 7, 8] [rr 0, rr 1, rr 2, rr 3, x0, w0, wr, wl, wn] 9 rfl rfl rfl rfl rfl (by decide) rfl rfl hk1 hB
    refine lv_if_ne (tgt := 21) hx hb dX4_copy_16 (by decide) (fun c_16 => ?_) (fun c_16 => ?_)
    · skip
      have j3 : vp_in i3 4 := isSheet_in c_16
      refine lv_aload_n hx hb dX4_copy_21 rfl (lv_at hl 0 rfl) ?_
      refine va_get (D := (dC, dI)) (ci := 4) (v := .ref w0) (C := RX4) (T := TX4) (N := 7) hx hb hts hin4 hown hK hP 4 rfl rfl 4 (by decide) kf_38 (fun _ h9 => h9) rfl dX4_copy_22 ?_
      refine lv_iload_n hx hb dX4_copy_25 rfl (lv_at hl 1 rfl) ?_
      have hPc := hP.sub (ws' := rowsW cI rr M ++ [(w0, .inr (2, [.ref wr, .ref wl, .ref wn])), (wr, .inl (cR, 4, .inr (.inr (.inr (.inr (fun i => if i < 4 then some (rr i) else none)))))), (wl, .inl (cI, 4, .inl LA)), (wn, .inl (cI, 4, .inl LE))]) [0, 1, 2, 3, 5, 6, 7, 8] rfl
      have hDc := hD.sub (ws' := rowsW cI rr M ++ [(w0, .inr (2, [.ref wr, .ref wl, .ref wn])), (wr, .inl (cR, 4, .inr (.inr (.inr (.inr (fun i => if i < 4 then some (rr i) else none)))))), (wl, .inl (cI, 4, .inl LA)), (wn, .inl (cI, 4, .inl LE))]) [0, 1, 2, 3, 5, 6, 7, 8] (by decide) rfl
      have hKc := hK.sub (tys' := [(cI, .int), (cR, .array .int)]) [0, 1] rfl
      have hFc := va_free (wc := rowsW cI rr M ++ [(w0, .inr (2, [.ref wr, .ref wl, .ref wn])), (wr, .inl (cR, 4, .inr (.inr (.inr (.inr (fun i => if i < 4 then some (rr i) else none)))))), (wl, .inl (cI, 4, .inl LA)), (wn, .inl (cI, 4, .inl LE))]) hD hS hA [0, 1, 2, 3, 5, 6, 7, 8] rfl
      refine va_calli (va_runV (As := [.int i1]) (rest := []) ⟨hx, hb, hml, hown, hts⟩ (ctX2_isNothing l dC dI cI cR rr w0 wr wl wn H.size M LA LE i1 (by assumption)) (cwV 1 hts gX4_copy_X2_isNothing rfl rfl rfl (by decide +kernel) ⟨Nat.le_of_ble_eq_true rfl, Nat.le_of_ble_eq_true rfl⟩) (pre_V hKc hN hPc hDc (RX2, TX2, 3) 2 4 rfl rfl) rfl rfl hl.1 rfl (lv_room (Nat.le_of_ble_eq_true rfl)) dX4_copy_26 ⟨Nat.le_of_ble_eq_true rfl, Nat.le_of_ble_eq_true rfl⟩) hS (fun q _ h => hFc q h) hFc (fun r _ t H locs ht hvm hw hB hz1 hk1 hS => ?_)
      try dsimp only at hw
      subst hw
      rw [ht] at hB
      obtain ⟨hP, hD⟩ := rw_join (rowsW cI rr M ++ [(x0, .inr (4, [.ref t0, .ref r0, .ref y0, .ref g0, .ref w0, .int TR, .int 0])), (w0, .inr (2, [.ref wr, .ref wl, .ref wn])), (wr, .inl (cR, 4, .inr (.inr (.inr (.inr (fun i => if i < 4 then some (rr i) else none)))))), (wl, .inl (cI, 4, .inl LA)), (wn, .inl (cI, 4, .inl LE))]) (rowsW cI rr M ++ [(x0, .inr (4, [.ref t0, .ref r0, .ref y0, .ref g0, .ref w0, .int TR, .int 0])), (w0, .inr (2, [.ref wr, .ref wl, .ref wn])), (wr, .inl (cR, 4, .inr (.inr (.inr (.inr (fun i => if i < 4 then some (rr i) else none)))))), (wl, .inl (cI, 4, .inl LA)), (wn, .inl (cI, 4, .inl LE))]) (rowsW cI rr M ++ [(w0, .inr (2, [.ref wr, .ref wl, .ref wn])), (wr, .inl (cR, 4, .inr (.inr (.inr (.inr (fun i => if i < 4 then some (rr i) else none)))))), (wl, .inl (cI, 4, .inl LA)), (wn, .inl (cI, 4, .inl LE))]) (rowsW cI rr M ++ [(w0, .inr (2, [.ref wr, .ref wl, .ref wn])), (wr, .inl (cR, 4, .inr (.inr (.inr (.inr (fun i => if i < 4 then some (rr i) else none)))))), (wl, .inl (cI, 4, .inl LA)), (wn, .inl (cI, 4, .inl LE))]) ([(x0, .inr (4, [.ref t0, .ref r0, .ref y0, .ref g0, .ref w0, .int TR, .int 0]))]) hP hD [0, 1, 2, 3, 5, 6, 7, 8] [4] [rr 0, rr 1, rr 2, rr 3, x0, w0, wr, wl, wn] 9 rfl rfl rfl rfl rfl (by decide) rfl rfl hk1 hB
      refine lv_if_ne (tgt := 43) hx hb dX4_copy_29 (by decide) (fun c_29 => ?_) (fun c_29 => ?_)
      · skip
        refine lv_aload_n hx hb dX4_copy_43 rfl (lv_at hl 0 rfl) ?_
        refine lv_iconst (v := 1) hx hb dX4_copy_44 (by decide) ?_
        have hPc := hP.sub (ws' := [(x0, .inr (4, [.ref t0, .ref r0, .ref y0, .ref g0, .ref w0, .int TR, .int 0]))]) [4] rfl
        have hDc := hD.sub (ws' := [(x0, .inr (4, [.ref t0, .ref r0, .ref y0, .ref g0, .ref w0, .int TR, .int 0]))]) [4] (by decide) rfl
        have hKc := hK.sub (tys' := [(cI, .int)]) [0] rfl
        have hFc := va_free (wc := [(x0, .inr (4, [.ref t0, .ref r0, .ref y0, .ref g0, .ref w0, .int TR, .int 0]))]) hD hS hA [4] rfl
        refine va_calli (va_runV (As := [.int 1]) (rest := []) ⟨hx, hb, hml, hown, hts⟩ (ctX4_failed l dC dI cI x0 t0 r0 y0 g0 w0 H.size TR 0 1) (cwV 1 hts gX4_copy_X4_failed rfl rfl rfl (by decide +kernel) ⟨Nat.le_of_ble_eq_true rfl, Nat.le_of_ble_eq_true rfl⟩) (pre_V hKc hN hPc hDc (RX4, TX4, 7) 4 0 rfl rfl) rfl rfl hl.1 rfl (lv_room (Nat.le_of_ble_eq_true rfl)) dX4_copy_45 ⟨Nat.le_of_ble_eq_true rfl, Nat.le_of_ble_eq_true rfl⟩) hS (fun q _ h => hFc q h) hFc (fun r_45 _ t H locs ht hvm hw hB hz1 hk1 hS => ?_)
        try dsimp only at hw
        have er_45 := hw.symm
        rw [ht] at hB
        refine nm_gen ((p4_failed 0 1).2) (fun LF_45 eLF_45 => ?_)
        rw [eLF_45] at hB
        obtain ⟨hP, hD⟩ := rw_join (rowsW cI rr M ++ [(x0, .inr (4, [.ref t0, .ref r0, .ref y0, .ref g0, .ref w0, .int TR, .int 0])), (w0, .inr (2, [.ref wr, .ref wl, .ref wn])), (wr, .inl (cR, 4, .inr (.inr (.inr (.inr (fun i => if i < 4 then some (rr i) else none)))))), (wl, .inl (cI, 4, .inl LA)), (wn, .inl (cI, 4, .inl LE))]) (rowsW cI rr M ++ [(x0, .inr (4, [.ref t0, .ref r0, .ref y0, .ref g0, .ref w0, .int TR, .int LF_45])), (w0, .inr (2, [.ref wr, .ref wl, .ref wn])), (wr, .inl (cR, 4, .inr (.inr (.inr (.inr (fun i => if i < 4 then some (rr i) else none)))))), (wl, .inl (cI, 4, .inl LA)), (wn, .inl (cI, 4, .inl LE))]) ([(x0, .inr (4, [.ref t0, .ref r0, .ref y0, .ref g0, .ref w0, .int TR, .int 0]))]) ([(x0, .inr (4, [.ref t0, .ref r0, .ref y0, .ref g0, .ref w0, .int TR, .int LF_45]))]) ([(rr 0, .inl (cI, 60, .inl (M 0))), (rr 1, .inl (cI, 60, .inl (M 1))), (rr 2, .inl (cI, 60, .inl (M 2))), (rr 3, .inl (cI, 60, .inl (M 3))), (w0, .inr (2, [.ref wr, .ref wl, .ref wn])), (wr, .inl (cR, 4, .inr (.inr (.inr (.inr (fun i => if i < 4 then some (rr i) else none)))))), (wl, .inl (cI, 4, .inl LA)), (wn, .inl (cI, 4, .inl LE))]) hP hD [4] [0, 1, 2, 3, 5, 6, 7, 8] [rr 0, rr 1, rr 2, rr 3, x0, w0, wr, wl, wn] 9 rfl rfl rfl rfl rfl (by decide) rfl rfl hk1 hB
        have hE9 : p4_copy M LF LA LE i1 i2 i3 i4 i5 = (r_45, M, LF_45) := by unfold p4_copy; simp only [er_45, eLF_45]; rw [if_neg c_9, if_neg c_16, if_neg c_29]
        exact W.iret (v := r_45) hx hb hr (fun t ht hW => ⟨⟨_, (), rfl, by rw [hE9], by show va_P (dC, dI) vwCl _ t.heap; rw [ht, hE9]; exact hP⟩, hS.F ht⟩) hS.2.2 dX4_copy_48
      · skip
        refine lv_aload_n hx hb dX4_copy_32 rfl (lv_at hl 0 rfl) ?_
        refine va_get (D := (dC, dI)) (ci := 4) (v := .ref w0) (C := RX4) (T := TX4) (N := 7) hx hb hts hin4 hown hK hP 4 rfl rfl 4 (by decide) kf_38 (fun _ h9 => h9) rfl dX4_copy_33 ?_
        refine lv_iload_n hx hb dX4_copy_36 rfl (lv_at hl 3 rfl) ?_
        have hPc := hP.sub (ws' := rowsW cI rr M ++ [(w0, .inr (2, [.ref wr, .ref wl, .ref wn])), (wr, .inl (cR, 4, .inr (.inr (.inr (.inr (fun i => if i < 4 then some (rr i) else none)))))), (wl, .inl (cI, 4, .inl LA)), (wn, .inl (cI, 4, .inl LE))]) [0, 1, 2, 3, 5, 6, 7, 8] rfl
        have hDc := hD.sub (ws' := rowsW cI rr M ++ [(w0, .inr (2, [.ref wr, .ref wl, .ref wn])), (wr, .inl (cR, 4, .inr (.inr (.inr (.inr (fun i => if i < 4 then some (rr i) else none)))))), (wl, .inl (cI, 4, .inl LA)), (wn, .inl (cI, 4, .inl LE))]) [0, 1, 2, 3, 5, 6, 7, 8] (by decide) rfl
        have hKc := hK.sub (tys' := [(cI, .int), (cR, .array .int)]) [0, 1] rfl
        have hFc := va_free (wc := rowsW cI rr M ++ [(w0, .inr (2, [.ref wr, .ref wl, .ref wn])), (wr, .inl (cR, 4, .inr (.inr (.inr (.inr (fun i => if i < 4 then some (rr i) else none)))))), (wl, .inl (cI, 4, .inl LA)), (wn, .inl (cI, 4, .inl LE))]) hD hS hA [0, 1, 2, 3, 5, 6, 7, 8] rfl
        refine va_calli (va_runV (As := [.int i3]) (rest := []) ⟨hx, hb, hml, hown, hts⟩ (ctX2_isNothing l dC dI cI cR rr w0 wr wl wn H.size M LA LE i3 (by assumption)) (cwV 1 hts gX4_copy_X2_isNothing rfl rfl rfl (by decide +kernel) ⟨Nat.le_of_ble_eq_true rfl, Nat.le_of_ble_eq_true rfl⟩) (pre_V hKc hN hPc hDc (RX2, TX2, 3) 2 4 rfl rfl) rfl rfl hl.1 rfl (lv_room (Nat.le_of_ble_eq_true rfl)) dX4_copy_37 ⟨Nat.le_of_ble_eq_true rfl, Nat.le_of_ble_eq_true rfl⟩) hS (fun q _ h => hFc q h) hFc (fun r _ t H locs ht hvm hw hB hz1 hk1 hS => ?_)
        try dsimp only at hw
        subst hw
        rw [ht] at hB
        obtain ⟨hP, hD⟩ := rw_join (rowsW cI rr M ++ [(x0, .inr (4, [.ref t0, .ref r0, .ref y0, .ref g0, .ref w0, .int TR, .int 0])), (w0, .inr (2, [.ref wr, .ref wl, .ref wn])), (wr, .inl (cR, 4, .inr (.inr (.inr (.inr (fun i => if i < 4 then some (rr i) else none)))))), (wl, .inl (cI, 4, .inl LA)), (wn, .inl (cI, 4, .inl LE))]) (rowsW cI rr M ++ [(x0, .inr (4, [.ref t0, .ref r0, .ref y0, .ref g0, .ref w0, .int TR, .int 0])), (w0, .inr (2, [.ref wr, .ref wl, .ref wn])), (wr, .inl (cR, 4, .inr (.inr (.inr (.inr (fun i => if i < 4 then some (rr i) else none)))))), (wl, .inl (cI, 4, .inl LA)), (wn, .inl (cI, 4, .inl LE))]) (rowsW cI rr M ++ [(w0, .inr (2, [.ref wr, .ref wl, .ref wn])), (wr, .inl (cR, 4, .inr (.inr (.inr (.inr (fun i => if i < 4 then some (rr i) else none)))))), (wl, .inl (cI, 4, .inl LA)), (wn, .inl (cI, 4, .inl LE))]) (rowsW cI rr M ++ [(w0, .inr (2, [.ref wr, .ref wl, .ref wn])), (wr, .inl (cR, 4, .inr (.inr (.inr (.inr (fun i => if i < 4 then some (rr i) else none)))))), (wl, .inl (cI, 4, .inl LA)), (wn, .inl (cI, 4, .inl LE))]) ([(x0, .inr (4, [.ref t0, .ref r0, .ref y0, .ref g0, .ref w0, .int TR, .int 0]))]) hP hD [0, 1, 2, 3, 5, 6, 7, 8] [4] [rr 0, rr 1, rr 2, rr 3, x0, w0, wr, wl, wn] 9 rfl rfl rfl rfl rfl (by decide) rfl rfl hk1 hB
        refine lv_if_eq (tgt := 49) hx hb dX4_copy_40 (by decide) (fun c_40 => ?_) (fun c_40 => ?_)
        · skip
          refine lv_aload_n hx hb dX4_copy_49 rfl (lv_at hl 0 rfl) ?_
          refine va_get (D := (dC, dI)) (ci := 4) (v := .ref w0) (C := RX4) (T := TX4) (N := 7) hx hb hts hin4 hown hK hP 4 rfl rfl 4 (by decide) kf_38 (fun _ h9 => h9) rfl dX4_copy_50 ?_
          refine va_getN (D := (dC, dI)) (ci := 2) (v := .ref wl) (C := RX2) (T := TX2) (N := 3) hx hb hts hin2 hown hK hP 5 rfl rfl 1 (by decide) hn_172 (fun _ h9 => h9) rfl dX4_copy_53 ?_
          refine lv_iload_n hx hb dX4_copy_56 rfl (lv_at hl 1 rfl) ?_
          refine va_iald hx hb hK hP 7 0 rfl rfl (by assumption) dX4_copy_57 ?_
          refine lv_aload_n hx hb dX4_copy_58 rfl (lv_at hl 0 rfl) ?_
          refine va_get (D := (dC, dI)) (ci := 4) (v := .ref w0) (C := RX4) (T := TX4) (N := 7) hx hb hts hin4 hown hK hP 4 rfl rfl 4 (by decide) kf_38 (fun _ h9 => h9) rfl dX4_copy_59 ?_
          refine va_getN (D := (dC, dI)) (ci := 2) (v := .ref wl) (C := RX2) (T := TX2) (N := 3) hx hb hts hin2 hown hK hP 5 rfl rfl 1 (by decide) hn_172 (fun _ h9 => h9) rfl dX4_copy_62 ?_
          refine lv_iload_n hx hb dX4_copy_65 rfl (lv_at hl 3 rfl) ?_
          refine va_iald hx hb hK hP 7 0 rfl rfl (by assumption) dX4_copy_66 ?_
          refine lv_icmp_eq (tgt := 76) hx hb dX4_copy_67 (by decide) (fun c_67 => ?_) (fun c_67 => ?_)
          · skip
            refine lv_aload_n hx hb dX4_copy_76 rfl (lv_at hl 0 rfl) ?_
            refine va_get (D := (dC, dI)) (ci := 4) (v := .ref w0) (C := RX4) (T := TX4) (N := 7) hx hb hts hin4 hown hK hP 4 rfl rfl 4 (by decide) kf_38 (fun _ h9 => h9) rfl dX4_copy_77 ?_
            refine lv_iload_n hx hb dX4_copy_80 rfl (lv_at hl 1 rfl) ?_
            refine lv_iload_n hx hb dX4_copy_81 rfl (lv_at hl 2 rfl) ?_
            refine lv_iload hx hb dX4_copy_82 (lv_at hl 5 rfl) ?_
            have hPc := hP.sub (ws' := rowsW cI rr M ++ [(w0, .inr (2, [.ref wr, .ref wl, .ref wn])), (wr, .inl (cR, 4, .inr (.inr (.inr (.inr (fun i => if i < 4 then some (rr i) else none)))))), (wl, .inl (cI, 4, .inl LA)), (wn, .inl (cI, 4, .inl LE))]) [0, 1, 2, 3, 5, 6, 7, 8] rfl
            have hDc := hD.sub (ws' := rowsW cI rr M ++ [(w0, .inr (2, [.ref wr, .ref wl, .ref wn])), (wr, .inl (cR, 4, .inr (.inr (.inr (.inr (fun i => if i < 4 then some (rr i) else none)))))), (wl, .inl (cI, 4, .inl LA)), (wn, .inl (cI, 4, .inl LE))]) [0, 1, 2, 3, 5, 6, 7, 8] (by decide) rfl
            have hKc := hK.sub (tys' := [(cI, .int), (cR, .array .int)]) [0, 1] rfl
            have hFc := va_free (wc := rowsW cI rr M ++ [(w0, .inr (2, [.ref wr, .ref wl, .ref wn])), (wr, .inl (cR, 4, .inr (.inr (.inr (.inr (fun i => if i < 4 then some (rr i) else none)))))), (wl, .inl (cI, 4, .inl LA)), (wn, .inl (cI, 4, .inl LE))]) hD hS hA [0, 1, 2, 3, 5, 6, 7, 8] rfl
            refine va_calli (va_runV (As := [.int i1, .int i2, .int i5]) (rest := []) ⟨hx, hb, hml, hown, hts⟩ (ctX2_spanFault l dC dI cI cR rr w0 wr wl wn H.size M LA LE i1 i2 i5 (by assumption)) (cwV 3 hts gX4_copy_X2_spanFault rfl rfl rfl (by decide +kernel) ⟨Nat.le_of_ble_eq_true rfl, Nat.le_of_ble_eq_true rfl⟩) (pre_V hKc hN hPc hDc (RX2, TX2, 3) 2 4 rfl rfl) rfl rfl hl.1 rfl (lv_room (Nat.le_of_ble_eq_true rfl)) dX4_copy_84 ⟨Nat.le_of_ble_eq_true rfl, Nat.le_of_ble_eq_true rfl⟩) hS (fun q _ h => hFc q h) hFc (fun r _ t H locs ht hvm hw hB hz1 hk1 hS => ?_)
            try dsimp only at hw
            subst hw
            rw [ht] at hB
            obtain ⟨hP, hD⟩ := rw_join (rowsW cI rr M ++ [(x0, .inr (4, [.ref t0, .ref r0, .ref y0, .ref g0, .ref w0, .int TR, .int 0])), (w0, .inr (2, [.ref wr, .ref wl, .ref wn])), (wr, .inl (cR, 4, .inr (.inr (.inr (.inr (fun i => if i < 4 then some (rr i) else none)))))), (wl, .inl (cI, 4, .inl LA)), (wn, .inl (cI, 4, .inl LE))]) (rowsW cI rr M ++ [(x0, .inr (4, [.ref t0, .ref r0, .ref y0, .ref g0, .ref w0, .int TR, .int 0])), (w0, .inr (2, [.ref wr, .ref wl, .ref wn])), (wr, .inl (cR, 4, .inr (.inr (.inr (.inr (fun i => if i < 4 then some (rr i) else none)))))), (wl, .inl (cI, 4, .inl LA)), (wn, .inl (cI, 4, .inl LE))]) (rowsW cI rr M ++ [(w0, .inr (2, [.ref wr, .ref wl, .ref wn])), (wr, .inl (cR, 4, .inr (.inr (.inr (.inr (fun i => if i < 4 then some (rr i) else none)))))), (wl, .inl (cI, 4, .inl LA)), (wn, .inl (cI, 4, .inl LE))]) (rowsW cI rr M ++ [(w0, .inr (2, [.ref wr, .ref wl, .ref wn])), (wr, .inl (cR, 4, .inr (.inr (.inr (.inr (fun i => if i < 4 then some (rr i) else none)))))), (wl, .inl (cI, 4, .inl LA)), (wn, .inl (cI, 4, .inl LE))]) ([(x0, .inr (4, [.ref t0, .ref r0, .ref y0, .ref g0, .ref w0, .int TR, .int 0]))]) hP hD [0, 1, 2, 3, 5, 6, 7, 8] [4] [rr 0, rr 1, rr 2, rr 3, x0, w0, wr, wl, wn] 9 rfl rfl rfl rfl rfl (by decide) rfl rfl hk1 hB
            refine lv_if_ne (tgt := 105) hx hb dX4_copy_87 (by decide) (fun c_87 => ?_) (fun c_87 => ?_)
            · skip
              refine lv_aload_n hx hb dX4_copy_105 rfl (lv_at hl 0 rfl) ?_
              refine lv_iconst (v := 3) hx hb dX4_copy_106 (by decide) ?_
              have hPc := hP.sub (ws' := [(x0, .inr (4, [.ref t0, .ref r0, .ref y0, .ref g0, .ref w0, .int TR, .int 0]))]) [4] rfl
              have hDc := hD.sub (ws' := [(x0, .inr (4, [.ref t0, .ref r0, .ref y0, .ref g0, .ref w0, .int TR, .int 0]))]) [4] (by decide) rfl
              have hKc := hK.sub (tys' := [(cI, .int)]) [0] rfl
              have hFc := va_free (wc := [(x0, .inr (4, [.ref t0, .ref r0, .ref y0, .ref g0, .ref w0, .int TR, .int 0]))]) hD hS hA [4] rfl
              refine va_calli (va_runV (As := [.int 3]) (rest := []) ⟨hx, hb, hml, hown, hts⟩ (ctX4_failed l dC dI cI x0 t0 r0 y0 g0 w0 H.size TR 0 3) (cwV 1 hts gX4_copy_X4_failed rfl rfl rfl (by decide +kernel) ⟨Nat.le_of_ble_eq_true rfl, Nat.le_of_ble_eq_true rfl⟩) (pre_V hKc hN hPc hDc (RX4, TX4, 7) 4 0 rfl rfl) rfl rfl hl.1 rfl (lv_room (Nat.le_of_ble_eq_true rfl)) dX4_copy_107 ⟨Nat.le_of_ble_eq_true rfl, Nat.le_of_ble_eq_true rfl⟩) hS (fun q _ h => hFc q h) hFc (fun r_107 _ t H locs ht hvm hw hB hz1 hk1 hS => ?_)
              try dsimp only at hw
              have er_107 := hw.symm
              rw [ht] at hB
              refine nm_gen ((p4_failed 0 3).2) (fun LF_107 eLF_107 => ?_)
              rw [eLF_107] at hB
              obtain ⟨hP, hD⟩ := rw_join (rowsW cI rr M ++ [(x0, .inr (4, [.ref t0, .ref r0, .ref y0, .ref g0, .ref w0, .int TR, .int 0])), (w0, .inr (2, [.ref wr, .ref wl, .ref wn])), (wr, .inl (cR, 4, .inr (.inr (.inr (.inr (fun i => if i < 4 then some (rr i) else none)))))), (wl, .inl (cI, 4, .inl LA)), (wn, .inl (cI, 4, .inl LE))]) (rowsW cI rr M ++ [(x0, .inr (4, [.ref t0, .ref r0, .ref y0, .ref g0, .ref w0, .int TR, .int LF_107])), (w0, .inr (2, [.ref wr, .ref wl, .ref wn])), (wr, .inl (cR, 4, .inr (.inr (.inr (.inr (fun i => if i < 4 then some (rr i) else none)))))), (wl, .inl (cI, 4, .inl LA)), (wn, .inl (cI, 4, .inl LE))]) ([(x0, .inr (4, [.ref t0, .ref r0, .ref y0, .ref g0, .ref w0, .int TR, .int 0]))]) ([(x0, .inr (4, [.ref t0, .ref r0, .ref y0, .ref g0, .ref w0, .int TR, .int LF_107]))]) ([(rr 0, .inl (cI, 60, .inl (M 0))), (rr 1, .inl (cI, 60, .inl (M 1))), (rr 2, .inl (cI, 60, .inl (M 2))), (rr 3, .inl (cI, 60, .inl (M 3))), (w0, .inr (2, [.ref wr, .ref wl, .ref wn])), (wr, .inl (cR, 4, .inr (.inr (.inr (.inr (fun i => if i < 4 then some (rr i) else none)))))), (wl, .inl (cI, 4, .inl LA)), (wn, .inl (cI, 4, .inl LE))]) hP hD [4] [0, 1, 2, 3, 5, 6, 7, 8] [rr 0, rr 1, rr 2, rr 3, x0, w0, wr, wl, wn] 9 rfl rfl rfl rfl rfl (by decide) rfl rfl hk1 hB
              have hE9 : p4_copy M LF LA LE i1 i2 i3 i4 i5 = (r_107, M, LF_107) := by unfold p4_copy; simp only [er_107, eLF_107]; rw [if_neg c_9, if_neg c_16, if_pos c_29, if_pos c_40, if_pos c_67, if_neg c_87]
              exact W.iret (v := r_107) hx hb hr (fun t ht hW => ⟨⟨_, (), rfl, by rw [hE9], by show va_P (dC, dI) vwCl _ t.heap; rw [ht, hE9]; exact hP⟩, hS.F ht⟩) hS.2.2 dX4_copy_110
            · skip
              refine lv_aload_n hx hb dX4_copy_90 rfl (lv_at hl 0 rfl) ?_
              refine va_get (D := (dC, dI)) (ci := 4) (v := .ref w0) (C := RX4) (T := TX4) (N := 7) hx hb hts hin4 hown hK hP 4 rfl rfl 4 (by decide) kf_38 (fun _ h9 => h9) rfl dX4_copy_91 ?_
              refine lv_iload_n hx hb dX4_copy_94 rfl (lv_at hl 3 rfl) ?_
              refine lv_iload hx hb dX4_copy_95 (lv_at hl 4 rfl) ?_
              refine lv_iload hx hb dX4_copy_97 (lv_at hl 5 rfl) ?_
              have hPc := hP.sub (ws' := rowsW cI rr M ++ [(w0, .inr (2, [.ref wr, .ref wl, .ref wn])), (wr, .inl (cR, 4, .inr (.inr (.inr (.inr (fun i => if i < 4 then some (rr i) else none)))))), (wl, .inl (cI, 4, .inl LA)), (wn, .inl (cI, 4, .inl LE))]) [0, 1, 2, 3, 5, 6, 7, 8] rfl
              have hDc := hD.sub (ws' := rowsW cI rr M ++ [(w0, .inr (2, [.ref wr, .ref wl, .ref wn])), (wr, .inl (cR, 4, .inr (.inr (.inr (.inr (fun i => if i < 4 then some (rr i) else none)))))), (wl, .inl (cI, 4, .inl LA)), (wn, .inl (cI, 4, .inl LE))]) [0, 1, 2, 3, 5, 6, 7, 8] (by decide) rfl
              have hKc := hK.sub (tys' := [(cI, .int), (cR, .array .int)]) [0, 1] rfl
              have hFc := va_free (wc := rowsW cI rr M ++ [(w0, .inr (2, [.ref wr, .ref wl, .ref wn])), (wr, .inl (cR, 4, .inr (.inr (.inr (.inr (fun i => if i < 4 then some (rr i) else none)))))), (wl, .inl (cI, 4, .inl LA)), (wn, .inl (cI, 4, .inl LE))]) hD hS hA [0, 1, 2, 3, 5, 6, 7, 8] rfl
              refine va_calli (va_runV (As := [.int i3, .int i4, .int i5]) (rest := []) ⟨hx, hb, hml, hown, hts⟩ (ctX2_spanFault l dC dI cI cR rr w0 wr wl wn H.size M LA LE i3 i4 i5 (by assumption)) (cwV 3 hts gX4_copy_X2_spanFault rfl rfl rfl (by decide +kernel) ⟨Nat.le_of_ble_eq_true rfl, Nat.le_of_ble_eq_true rfl⟩) (pre_V hKc hN hPc hDc (RX2, TX2, 3) 2 4 rfl rfl) rfl rfl hl.1 rfl (lv_room (Nat.le_of_ble_eq_true rfl)) dX4_copy_99 ⟨Nat.le_of_ble_eq_true rfl, Nat.le_of_ble_eq_true rfl⟩) hS (fun q _ h => hFc q h) hFc (fun r _ t H locs ht hvm hw hB hz1 hk1 hS => ?_)
              try dsimp only at hw
              subst hw
              rw [ht] at hB
              obtain ⟨hP, hD⟩ := rw_join (rowsW cI rr M ++ [(x0, .inr (4, [.ref t0, .ref r0, .ref y0, .ref g0, .ref w0, .int TR, .int 0])), (w0, .inr (2, [.ref wr, .ref wl, .ref wn])), (wr, .inl (cR, 4, .inr (.inr (.inr (.inr (fun i => if i < 4 then some (rr i) else none)))))), (wl, .inl (cI, 4, .inl LA)), (wn, .inl (cI, 4, .inl LE))]) (rowsW cI rr M ++ [(x0, .inr (4, [.ref t0, .ref r0, .ref y0, .ref g0, .ref w0, .int TR, .int 0])), (w0, .inr (2, [.ref wr, .ref wl, .ref wn])), (wr, .inl (cR, 4, .inr (.inr (.inr (.inr (fun i => if i < 4 then some (rr i) else none)))))), (wl, .inl (cI, 4, .inl LA)), (wn, .inl (cI, 4, .inl LE))]) (rowsW cI rr M ++ [(w0, .inr (2, [.ref wr, .ref wl, .ref wn])), (wr, .inl (cR, 4, .inr (.inr (.inr (.inr (fun i => if i < 4 then some (rr i) else none)))))), (wl, .inl (cI, 4, .inl LA)), (wn, .inl (cI, 4, .inl LE))]) (rowsW cI rr M ++ [(w0, .inr (2, [.ref wr, .ref wl, .ref wn])), (wr, .inl (cR, 4, .inr (.inr (.inr (.inr (fun i => if i < 4 then some (rr i) else none)))))), (wl, .inl (cI, 4, .inl LA)), (wn, .inl (cI, 4, .inl LE))]) ([(x0, .inr (4, [.ref t0, .ref r0, .ref y0, .ref g0, .ref w0, .int TR, .int 0]))]) hP hD [0, 1, 2, 3, 5, 6, 7, 8] [4] [rr 0, rr 1, rr 2, rr 3, x0, w0, wr, wl, wn] 9 rfl rfl rfl rfl rfl (by decide) rfl rfl hk1 hB
              refine lv_if_eq (tgt := 111) hx hb dX4_copy_102 (by decide) (fun c_102 => ?_) (fun c_102 => ?_)
              · skip
                refine lv_aload_n hx hb dX4_copy_111 rfl (lv_at hl 0 rfl) ?_
                refine va_get (D := (dC, dI)) (ci := 4) (v := .ref w0) (C := RX4) (T := TX4) (N := 7) hx hb hts hin4 hown hK hP 4 rfl rfl 4 (by decide) kf_38 (fun _ h9 => h9) rfl dX4_copy_112 ?_
                refine va_getN (D := (dC, dI)) (ci := 2) (v := .ref wr) (C := RX2) (T := TX2) (N := 3) hx hb hts hin2 hown hK hP 5 rfl rfl 0 (by decide) hn_168 (fun _ h9 => h9) rfl dX4_copy_115 ?_
                refine lv_iload_n hx hb dX4_copy_118 rfl (lv_at hl 1 rfl) ?_
                refine va_alda (v := rr i1.toNatClampNeg) hx hb hK hP 6 1 rfl rfl j1 (if_pos (vp_lt j1)) dX4_copy_119 ?_
                refine lv_iload_n hx hb dX4_copy_120 rfl (lv_at hl 2 rfl) ?_
                refine lv_aload_n hx hb dX4_copy_121 rfl (lv_at hl 0 rfl) ?_
                refine va_get (D := (dC, dI)) (ci := 4) (v := .ref w0) (C := RX4) (T := TX4) (N := 7) hx hb hts hin4 hown hK hP 4 rfl rfl 4 (by decide) kf_38 (fun _ h9 => h9) rfl dX4_copy_122 ?_
                refine va_getN (D := (dC, dI)) (ci := 2) (v := .ref wr) (C := RX2) (T := TX2) (N := 3) hx hb hts hin2 hown hK hP 5 rfl rfl 0 (by decide) hn_168 (fun _ h9 => h9) rfl dX4_copy_125 ?_
                refine lv_iload_n hx hb dX4_copy_128 rfl (lv_at hl 3 rfl) ?_
                refine va_alda (v := rr i3.toNatClampNeg) hx hb hK hP 6 1 rfl rfl j3 (if_pos (vp_lt j3)) dX4_copy_129 ?_
                refine lv_iload hx hb dX4_copy_130 (lv_at hl 4 rfl) ?_
                refine lv_iload hx hb dX4_copy_132 (lv_at hl 5 rfl) ?_
                refine va_copyi (ty := .int) hx hb (hml.trans hl.1.symm) hown (hts (.methodLink RX4 175 arraycopyName) (by decide +kernel)) (hts (.native arraycopyName) (by decide +kernel)) (hts (.static arraycopyName) (by decide +kernel)) (hts (.initialized "java/lang/System") (by decide +kernel)) hK hP hD hS i1.toNatClampNeg i3.toNatClampNeg 0 0 (rows_get cI rr M ([(x0, .inr (4, [.ref t0, .ref r0, .ref y0, .ref g0, .ref w0, .int TR, .int 0])), (w0, .inr (2, [.ref wr, .ref wl, .ref wn])), (wr, .inl (cR, 4, .inr (.inr (.inr (.inr (fun i => if i < 4 then some (rr i) else none)))))), (wl, .inl (cI, 4, .inl LA)), (wn, .inl (cI, 4, .inl LE))]) (vp_lt j1)) (rows_get cI rr M ([(x0, .inr (4, [.ref t0, .ref r0, .ref y0, .ref g0, .ref w0, .int TR, .int 0])), (w0, .inr (2, [.ref wr, .ref wl, .ref wn])), (wr, .inl (cR, 4, .inr (.inr (.inr (.inr (fun i => if i < 4 then some (rr i) else none)))))), (wl, .inl (cI, 4, .inl LA)), (wn, .inl (cI, 4, .inl LE))]) (vp_lt j3)) rfl rfl rfl (span_ok (hLE _) c_87).1 (span_ok (hLE _) c_102).1 (span_ok (hLE _) c_87).2.1 (span_ok (hLE _) c_87).2.2 (span_ok (hLE _) c_102).2.2 (fun _ _ => rfl) (Nat.le_of_ble_eq_true rfl) (Nat.le_of_ble_eq_true rfl) dX4_copy_134 (fun H locs hP hD hS => ?_)
                rw [rows_set cI rr M ([(x0, .inr (4, [.ref t0, .ref r0, .ref y0, .ref g0, .ref w0, .int TR, .int 0])), (w0, .inr (2, [.ref wr, .ref wl, .ref wn])), (wr, .inl (cR, 4, .inr (.inr (.inr (.inr (fun i => if i < 4 then some (rr i) else none)))))), (wl, .inl (cI, 4, .inl LA)), (wn, .inl (cI, 4, .inl LE))]) (vp_lt j3)] at hP hD
                have hP : va_P (dC, dI) vwCl (rowsW cI rr (setr M (i3.toNatClampNeg) (va_cpy (M (i1.toNatClampNeg)) (M (i3.toNatClampNeg)) i2.toNatClampNeg i4.toNatClampNeg i5.toNatClampNeg)) ++ [(x0, .inr (4, [.ref t0, .ref r0, .ref y0, .ref g0, .ref w0, .int TR, .int 0])), (w0, .inr (2, [.ref wr, .ref wl, .ref wn])), (wr, .inl (cR, 4, .inr (.inr (.inr (.inr (fun i => if i < 4 then some (rr i) else none)))))), (wl, .inl (cI, 4, .inl LA)), (wn, .inl (cI, 4, .inl LE))]) H := hP
                have hD : va_D A (rowsW cI rr (setr M (i3.toNatClampNeg) (va_cpy (M (i1.toNatClampNeg)) (M (i3.toNatClampNeg)) i2.toNatClampNeg i4.toNatClampNeg i5.toNatClampNeg)) ++ [(x0, .inr (4, [.ref t0, .ref r0, .ref y0, .ref g0, .ref w0, .int TR, .int 0])), (w0, .inr (2, [.ref wr, .ref wl, .ref wn])), (wr, .inl (cR, 4, .inr (.inr (.inr (.inr (fun i => if i < 4 then some (rr i) else none)))))), (wl, .inl (cI, 4, .inl LA)), (wn, .inl (cI, 4, .inl LE))]) := hD
                refine lv_iload hx hb dX4_copy_137 (lv_at hl 5 rfl) ?_
                have hE9 : p4_copy M LF LA LE i1 i2 i3 i4 i5 = (i5, (setr M (i3.toNatClampNeg) (va_cpy (M (i1.toNatClampNeg)) (M (i3.toNatClampNeg)) i2.toNatClampNeg i4.toNatClampNeg i5.toNatClampNeg)), 0) := by unfold p4_copy; rw [if_neg c_9, if_neg c_16, if_pos c_29, if_pos c_40, if_pos c_67, if_pos c_87, if_pos c_102]
                exact W.iret (v := i5) hx hb hr (fun t ht hW => ⟨⟨_, (), rfl, by rw [hE9], by show va_P (dC, dI) vwCl _ t.heap; rw [ht, hE9]; exact hP⟩, hS.F ht⟩) hS.2.2 dX4_copy_139
              · skip
                refine lv_aload_n hx hb dX4_copy_105 rfl (lv_at hl 0 rfl) ?_
                refine lv_iconst (v := 3) hx hb dX4_copy_106 (by decide) ?_
                have hPc := hP.sub (ws' := [(x0, .inr (4, [.ref t0, .ref r0, .ref y0, .ref g0, .ref w0, .int TR, .int 0]))]) [4] rfl
                have hDc := hD.sub (ws' := [(x0, .inr (4, [.ref t0, .ref r0, .ref y0, .ref g0, .ref w0, .int TR, .int 0]))]) [4] (by decide) rfl
                have hKc := hK.sub (tys' := [(cI, .int)]) [0] rfl
                have hFc := va_free (wc := [(x0, .inr (4, [.ref t0, .ref r0, .ref y0, .ref g0, .ref w0, .int TR, .int 0]))]) hD hS hA [4] rfl
                refine va_calli (va_runV (As := [.int 3]) (rest := []) ⟨hx, hb, hml, hown, hts⟩ (ctX4_failed l dC dI cI x0 t0 r0 y0 g0 w0 H.size TR 0 3) (cwV 1 hts gX4_copy_X4_failed rfl rfl rfl (by decide +kernel) ⟨Nat.le_of_ble_eq_true rfl, Nat.le_of_ble_eq_true rfl⟩) (pre_V hKc hN hPc hDc (RX4, TX4, 7) 4 0 rfl rfl) rfl rfl hl.1 rfl (lv_room (Nat.le_of_ble_eq_true rfl)) dX4_copy_107 ⟨Nat.le_of_ble_eq_true rfl, Nat.le_of_ble_eq_true rfl⟩) hS (fun q _ h => hFc q h) hFc (fun r_107 _ t H locs ht hvm hw hB hz1 hk1 hS => ?_)
                try dsimp only at hw
                have er_107 := hw.symm
                rw [ht] at hB
                refine nm_gen ((p4_failed 0 3).2) (fun LF_107 eLF_107 => ?_)
                rw [eLF_107] at hB
                obtain ⟨hP, hD⟩ := rw_join (rowsW cI rr M ++ [(x0, .inr (4, [.ref t0, .ref r0, .ref y0, .ref g0, .ref w0, .int TR, .int 0])), (w0, .inr (2, [.ref wr, .ref wl, .ref wn])), (wr, .inl (cR, 4, .inr (.inr (.inr (.inr (fun i => if i < 4 then some (rr i) else none)))))), (wl, .inl (cI, 4, .inl LA)), (wn, .inl (cI, 4, .inl LE))]) (rowsW cI rr M ++ [(x0, .inr (4, [.ref t0, .ref r0, .ref y0, .ref g0, .ref w0, .int TR, .int LF_107])), (w0, .inr (2, [.ref wr, .ref wl, .ref wn])), (wr, .inl (cR, 4, .inr (.inr (.inr (.inr (fun i => if i < 4 then some (rr i) else none)))))), (wl, .inl (cI, 4, .inl LA)), (wn, .inl (cI, 4, .inl LE))]) ([(x0, .inr (4, [.ref t0, .ref r0, .ref y0, .ref g0, .ref w0, .int TR, .int 0]))]) ([(x0, .inr (4, [.ref t0, .ref r0, .ref y0, .ref g0, .ref w0, .int TR, .int LF_107]))]) ([(rr 0, .inl (cI, 60, .inl (M 0))), (rr 1, .inl (cI, 60, .inl (M 1))), (rr 2, .inl (cI, 60, .inl (M 2))), (rr 3, .inl (cI, 60, .inl (M 3))), (w0, .inr (2, [.ref wr, .ref wl, .ref wn])), (wr, .inl (cR, 4, .inr (.inr (.inr (.inr (fun i => if i < 4 then some (rr i) else none)))))), (wl, .inl (cI, 4, .inl LA)), (wn, .inl (cI, 4, .inl LE))]) hP hD [4] [0, 1, 2, 3, 5, 6, 7, 8] [rr 0, rr 1, rr 2, rr 3, x0, w0, wr, wl, wn] 9 rfl rfl rfl rfl rfl (by decide) rfl rfl hk1 hB
                have hE9 : p4_copy M LF LA LE i1 i2 i3 i4 i5 = (r_107, M, LF_107) := by unfold p4_copy; simp only [er_107, eLF_107]; rw [if_neg c_9, if_neg c_16, if_pos c_29, if_pos c_40, if_pos c_67, if_pos c_87, if_neg c_102]
                exact W.iret (v := r_107) hx hb hr (fun t ht hW => ⟨⟨_, (), rfl, by rw [hE9], by show va_P (dC, dI) vwCl _ t.heap; rw [ht, hE9]; exact hP⟩, hS.F ht⟩) hS.2.2 dX4_copy_110
          · skip
            refine lv_aload_n hx hb dX4_copy_70 rfl (lv_at hl 0 rfl) ?_
            refine lv_iconst (v := 2) hx hb dX4_copy_71 (by decide) ?_
            have hPc := hP.sub (ws' := [(x0, .inr (4, [.ref t0, .ref r0, .ref y0, .ref g0, .ref w0, .int TR, .int 0]))]) [4] rfl
            have hDc := hD.sub (ws' := [(x0, .inr (4, [.ref t0, .ref r0, .ref y0, .ref g0, .ref w0, .int TR, .int 0]))]) [4] (by decide) rfl
            have hKc := hK.sub (tys' := [(cI, .int)]) [0] rfl
            have hFc := va_free (wc := [(x0, .inr (4, [.ref t0, .ref r0, .ref y0, .ref g0, .ref w0, .int TR, .int 0]))]) hD hS hA [4] rfl
            refine va_calli (va_runV (As := [.int 2]) (rest := []) ⟨hx, hb, hml, hown, hts⟩ (ctX4_failed l dC dI cI x0 t0 r0 y0 g0 w0 H.size TR 0 2) (cwV 1 hts gX4_copy_X4_failed rfl rfl rfl (by decide +kernel) ⟨Nat.le_of_ble_eq_true rfl, Nat.le_of_ble_eq_true rfl⟩) (pre_V hKc hN hPc hDc (RX4, TX4, 7) 4 0 rfl rfl) rfl rfl hl.1 rfl (lv_room (Nat.le_of_ble_eq_true rfl)) dX4_copy_72 ⟨Nat.le_of_ble_eq_true rfl, Nat.le_of_ble_eq_true rfl⟩) hS (fun q _ h => hFc q h) hFc (fun r_72 _ t H locs ht hvm hw hB hz1 hk1 hS => ?_)
            try dsimp only at hw
            have er_72 := hw.symm
            rw [ht] at hB
            refine nm_gen ((p4_failed 0 2).2) (fun LF_72 eLF_72 => ?_)
            rw [eLF_72] at hB
            obtain ⟨hP, hD⟩ := rw_join (rowsW cI rr M ++ [(x0, .inr (4, [.ref t0, .ref r0, .ref y0, .ref g0, .ref w0, .int TR, .int 0])), (w0, .inr (2, [.ref wr, .ref wl, .ref wn])), (wr, .inl (cR, 4, .inr (.inr (.inr (.inr (fun i => if i < 4 then some (rr i) else none)))))), (wl, .inl (cI, 4, .inl LA)), (wn, .inl (cI, 4, .inl LE))]) (rowsW cI rr M ++ [(x0, .inr (4, [.ref t0, .ref r0, .ref y0, .ref g0, .ref w0, .int TR, .int LF_72])), (w0, .inr (2, [.ref wr, .ref wl, .ref wn])), (wr, .inl (cR, 4, .inr (.inr (.inr (.inr (fun i => if i < 4 then some (rr i) else none)))))), (wl, .inl (cI, 4, .inl LA)), (wn, .inl (cI, 4, .inl LE))]) ([(x0, .inr (4, [.ref t0, .ref r0, .ref y0, .ref g0, .ref w0, .int TR, .int 0]))]) ([(x0, .inr (4, [.ref t0, .ref r0, .ref y0, .ref g0, .ref w0, .int TR, .int LF_72]))]) ([(rr 0, .inl (cI, 60, .inl (M 0))), (rr 1, .inl (cI, 60, .inl (M 1))), (rr 2, .inl (cI, 60, .inl (M 2))), (rr 3, .inl (cI, 60, .inl (M 3))), (w0, .inr (2, [.ref wr, .ref wl, .ref wn])), (wr, .inl (cR, 4, .inr (.inr (.inr (.inr (fun i => if i < 4 then some (rr i) else none)))))), (wl, .inl (cI, 4, .inl LA)), (wn, .inl (cI, 4, .inl LE))]) hP hD [4] [0, 1, 2, 3, 5, 6, 7, 8] [rr 0, rr 1, rr 2, rr 3, x0, w0, wr, wl, wn] 9 rfl rfl rfl rfl rfl (by decide) rfl rfl hk1 hB
            have hE9 : p4_copy M LF LA LE i1 i2 i3 i4 i5 = (r_72, M, LF_72) := by unfold p4_copy; simp only [er_72, eLF_72]; rw [if_neg c_9, if_neg c_16, if_pos c_29, if_pos c_40, if_neg c_67]
            exact W.iret (v := r_72) hx hb hr (fun t ht hW => ⟨⟨_, (), rfl, by rw [hE9], by show va_P (dC, dI) vwCl _ t.heap; rw [ht, hE9]; exact hP⟩, hS.F ht⟩) hS.2.2 dX4_copy_75
        · skip
          refine lv_aload_n hx hb dX4_copy_43 rfl (lv_at hl 0 rfl) ?_
          refine lv_iconst (v := 1) hx hb dX4_copy_44 (by decide) ?_
          have hPc := hP.sub (ws' := [(x0, .inr (4, [.ref t0, .ref r0, .ref y0, .ref g0, .ref w0, .int TR, .int 0]))]) [4] rfl
          have hDc := hD.sub (ws' := [(x0, .inr (4, [.ref t0, .ref r0, .ref y0, .ref g0, .ref w0, .int TR, .int 0]))]) [4] (by decide) rfl
          have hKc := hK.sub (tys' := [(cI, .int)]) [0] rfl
          have hFc := va_free (wc := [(x0, .inr (4, [.ref t0, .ref r0, .ref y0, .ref g0, .ref w0, .int TR, .int 0]))]) hD hS hA [4] rfl
          refine va_calli (va_runV (As := [.int 1]) (rest := []) ⟨hx, hb, hml, hown, hts⟩ (ctX4_failed l dC dI cI x0 t0 r0 y0 g0 w0 H.size TR 0 1) (cwV 1 hts gX4_copy_X4_failed rfl rfl rfl (by decide +kernel) ⟨Nat.le_of_ble_eq_true rfl, Nat.le_of_ble_eq_true rfl⟩) (pre_V hKc hN hPc hDc (RX4, TX4, 7) 4 0 rfl rfl) rfl rfl hl.1 rfl (lv_room (Nat.le_of_ble_eq_true rfl)) dX4_copy_45 ⟨Nat.le_of_ble_eq_true rfl, Nat.le_of_ble_eq_true rfl⟩) hS (fun q _ h => hFc q h) hFc (fun r_45 _ t H locs ht hvm hw hB hz1 hk1 hS => ?_)
          try dsimp only at hw
          have er_45 := hw.symm
          rw [ht] at hB
          refine nm_gen ((p4_failed 0 1).2) (fun LF_45 eLF_45 => ?_)
          rw [eLF_45] at hB
          obtain ⟨hP, hD⟩ := rw_join (rowsW cI rr M ++ [(x0, .inr (4, [.ref t0, .ref r0, .ref y0, .ref g0, .ref w0, .int TR, .int 0])), (w0, .inr (2, [.ref wr, .ref wl, .ref wn])), (wr, .inl (cR, 4, .inr (.inr (.inr (.inr (fun i => if i < 4 then some (rr i) else none)))))), (wl, .inl (cI, 4, .inl LA)), (wn, .inl (cI, 4, .inl LE))]) (rowsW cI rr M ++ [(x0, .inr (4, [.ref t0, .ref r0, .ref y0, .ref g0, .ref w0, .int TR, .int LF_45])), (w0, .inr (2, [.ref wr, .ref wl, .ref wn])), (wr, .inl (cR, 4, .inr (.inr (.inr (.inr (fun i => if i < 4 then some (rr i) else none)))))), (wl, .inl (cI, 4, .inl LA)), (wn, .inl (cI, 4, .inl LE))]) ([(x0, .inr (4, [.ref t0, .ref r0, .ref y0, .ref g0, .ref w0, .int TR, .int 0]))]) ([(x0, .inr (4, [.ref t0, .ref r0, .ref y0, .ref g0, .ref w0, .int TR, .int LF_45]))]) ([(rr 0, .inl (cI, 60, .inl (M 0))), (rr 1, .inl (cI, 60, .inl (M 1))), (rr 2, .inl (cI, 60, .inl (M 2))), (rr 3, .inl (cI, 60, .inl (M 3))), (w0, .inr (2, [.ref wr, .ref wl, .ref wn])), (wr, .inl (cR, 4, .inr (.inr (.inr (.inr (fun i => if i < 4 then some (rr i) else none)))))), (wl, .inl (cI, 4, .inl LA)), (wn, .inl (cI, 4, .inl LE))]) hP hD [4] [0, 1, 2, 3, 5, 6, 7, 8] [rr 0, rr 1, rr 2, rr 3, x0, w0, wr, wl, wn] 9 rfl rfl rfl rfl rfl (by decide) rfl rfl hk1 hB
          have hE9 : p4_copy M LF LA LE i1 i2 i3 i4 i5 = (r_45, M, LF_45) := by unfold p4_copy; simp only [er_45, eLF_45]; rw [if_neg c_9, if_neg c_16, if_pos c_29, if_neg c_40]
          exact W.iret (v := r_45) hx hb hr (fun t ht hW => ⟨⟨_, (), rfl, by rw [hE9], by show va_P (dC, dI) vwCl _ t.heap; rw [ht, hE9]; exact hP⟩, hS.F ht⟩) hS.2.2 dX4_copy_48
    · skip
      refine lv_iconst (v := (-1)) hx hb dX4_copy_19 (by decide) ?_
      have hE9 : p4_copy M LF LA LE i1 i2 i3 i4 i5 = ((-1), M, 0) := by unfold p4_copy; rw [if_neg c_9, if_pos c_16]
      exact W.iret (v := (-1)) hx hb hr (fun t ht hW => ⟨⟨_, (), rfl, by rw [hE9], by show va_P (dC, dI) vwCl _ t.heap; rw [ht, hE9]; exact hP⟩, hS.F ht⟩) hS.2.2 dX4_copy_20

def p4_tell (TR : Int32) (N : Int32) (K : Nat → Int32) (L : Nat → Int32) (i1 : Int32) : Int32 × Int32 :=
  if (p0_has N i1) = 0 then
    ((-1), TR)
  else
    if (K i1.toNatClampNeg) = 1 then
      (((p4_kinTelling TR L i1).1), ((p4_kinTelling TR L i1).2))
    else
      if (K i1.toNatClampNeg) = 2 then
        (((p4_templeTelling TR L i1).1), ((p4_templeTelling TR L i1).2))
      else
        (((p4_houseTelling TR L i1).1), ((p4_houseTelling TR L i1).2))
abbrev rmX4_tell : Room := { frames := 4, cells := 0, slots := 0, locals := 85 }
abbrev QX4_tell (dC : Nat → ClassId) (dI : Nat → Nat → Nat) (A : Nat → Prop) (cI : ClassId) (x0 : Nat) (t0 : Nat) (r0 : Nat) (y0 : Nat) (g0 : Nat) (w0 : Nat) (tk : Nat) (tl : Nat) (tc : Nat) (TR : Int32) (LF : Int32) (N : Int32) (K : Nat → Int32) (L : Nat → Int32) (C : Nat → Int32) (i1 : Int32) : Array Value → State → Outcome → State → Prop := va_Qi (fun (r : Int32) (_ : Unit) => r = (p4_tell TR N K L i1).1) (fun (_ : Unit) (t : State) => va_P (dC, dI) vwCl ([(x0, .inr (4, [.ref t0, .ref r0, .ref y0, .ref g0, .ref w0, .int ((p4_tell TR N K L i1).2), .int LF])), (t0, .inr (0, [.ref tk, .ref tl, .ref tc, .int N])), (tk, .inl (cI, 6, .inl K)), (tl, .inl (cI, 6, .inl L)), (tc, .inl (cI, 6, .inl C))]) t.heap) A
set_option maxHeartbeats 4000000 in
set_option maxRecDepth 100000 in
theorem ctX4_tell (l : Launch) (dC : Nat → ClassId) (dI : Nat → Nat → Nat) (cI : ClassId) (x0 : Nat) (t0 : Nat) (r0 : Nat) (y0 : Nat) (g0 : Nat) (w0 : Nat) (tk : Nat) (tl : Nat) (tc : Nat) (sz : Nat) (TR : Int32) (LF : Int32) (N : Int32) (K : Nat → Int32) (L : Nat → Int32) (C : Nat → Int32) (i1 : Int32) (hNb : N.toInt ≤ 6) : Met l yX4_tell wsX4_tell rmX4_tell (va_Pc [.ref x0, .int i1] (cP dC dI [(cI, .int)] ([(x0, .inr (4, [.ref t0, .ref r0, .ref y0, .ref g0, .ref w0, .int TR, .int LF])), (t0, .inr (0, [.ref tk, .ref tl, .ref tc, .int N])), (tk, .inl (cI, 6, .inl K)), (tl, .inl (cI, 6, .inl L)), (tc, .inl (cI, 6, .inl C))]) sz)) (QX4_tell dC dI (va_A ([(x0, .inr (4, [.ref t0, .ref r0, .ref y0, .ref g0, .ref w0, .int TR, .int LF])), (t0, .inr (0, [.ref tk, .ref tl, .ref tc, .int N])), (tk, .inl (cI, 6, .inl K)), (tl, .inl (cI, 6, .inl L)), (tc, .inl (cI, 6, .inl C))]) sz) cI x0 t0 r0 y0 g0 w0 tk tl tc TR LF N K L C i1) 0 0 (va_A ([(x0, .inr (4, [.ref t0, .ref r0, .ref y0, .ref g0, .ref w0, .int TR, .int LF])), (t0, .inr (0, [.ref tk, .ref tl, .ref tc, .int N])), (tk, .inl (cI, 6, .inl K)), (tl, .inl (cI, 6, .inl L)), (tc, .inl (cI, 6, .inl C))]) sz) := by
  refine Met.ofW (cc := cX4_tell) (maxL := 2) (ret := (some .int)) (by decide) rfl ?_
  intro p e s m args below meth c s₁ B hml hv
  obtain ⟨rfl, hsz, hP, hK, hD0, hN⟩ := hv
  have hx := B.exec
  have hb := B.bytes
  have hr := B.returns
  have hts := atoms_spec (ws := wsX4_tell) B.pre
  have hown : s.vm.findClass RX4 = some m.cls := findClass_of_methodNamed B.named
  have hlocks := B.notSynchronized
  subst hsz
  have hD := hD0.self (sz := s.heap.size)
  generalize hAe : va_A ([(x0, .inr (4, [.ref t0, .ref r0, .ref y0, .ref g0, .ref w0, .int TR, .int LF])), (t0, .inr (0, [.ref tk, .ref tl, .ref tc, .int N])), (tk, .inl (cI, 6, .inl K)), (tl, .inl (cI, 6, .inl L)), (tc, .inl (cI, 6, .inl C))]) s.heap.size = A at hD ⊢
  have hA : ∀ q : Nat, s.heap.size ≤ q → A q := fun q h => by rw [← hAe]; exact Or.inr h
  have hS : va_S A s.heap s.heap [] := va_S.rf
  have hP : va_P (dC, dI) vwCl ([(x0, .inr (4, [.ref t0, .ref r0, .ref y0, .ref g0, .ref w0, .int TR, .int LF])), (t0, .inr (0, [.ref tk, .ref tl, .ref tc, .int N])), (tk, .inl (cI, 6, .inl K)), (tl, .inl (cI, 6, .inl L)), (tc, .inl (cI, 6, .inl C))]) s.heap := hP
  have hin0 : ∀ w ∈ wsX00, w ∈ wsX4_tell := by decide +kernel
  have hin4 : ∀ w ∈ wsX40, w ∈ wsX4_tell := by decide +kernel
  have kf_12 := hts (.fieldLink RX4 12 "RicherChange" "town" "LRicherChange$City;") (by decide +kernel)
  have hn_78 := va_Nw.use (A := [.ref x0, .int i1].toArray) rfl hN.1
  have hl := lv_entry ([.ref x0, .int i1]) (n := 2) (Nat.le_of_ble_eq_true rfl)
  rw [lg_entry_eq]
  generalize (lg_sl ([.ref x0, .int i1]) ++ List.replicate (2 - (lg_sl ([.ref x0, .int i1])).length) Slot.unset).toArray = ls at hl ⊢
  have hl : lv_has ls 2 [(0, .ref x0), (1, .int i1)] := hl
  refine lv_aload_n hx hb dX4_tell_0 rfl (lv_at hl 0 rfl) ?_
  refine va_get (D := (dC, dI)) (ci := 4) (v := .ref t0) (C := RX4) (T := TX4) (N := 7) hx hb hts hin4 hown hK hP 0 rfl rfl 0 (by decide) kf_12 (fun _ h9 => h9) rfl dX4_tell_1 ?_
  refine lv_iload_n hx hb dX4_tell_4 rfl (lv_at hl 1 rfl) ?_
  have hPc := hP.sub (ws' := [(t0, .inr (0, [.ref tk, .ref tl, .ref tc, .int N]))]) [1] rfl
  have hDc := hD.sub (ws' := [(t0, .inr (0, [.ref tk, .ref tl, .ref tc, .int N]))]) [1] (by decide) rfl
  have hKc := hK.sub (tys' := [(cI, .int)]) [0] rfl
  have hFc := va_free (wc := [(t0, .inr (0, [.ref tk, .ref tl, .ref tc, .int N]))]) hD hS hA [1] rfl
  refine va_calli (va_runV (As := [.int i1]) (rest := []) ⟨hx, hb, hml, hown, hts⟩ (ctX0_has l dC dI cI t0 tk tl tc s.heap.size N i1) (cwV 1 hts gX4_tell_X0_has rfl rfl rfl (by decide +kernel) ⟨Nat.le_of_ble_eq_true rfl, Nat.le_of_ble_eq_true rfl⟩) (pre_V hKc hN hPc hDc (RX0, TX0, 4) 0 0 rfl rfl) rfl rfl hl.1 rfl (lv_room (Nat.le_of_ble_eq_true rfl)) dX4_tell_5 ⟨Nat.le_of_ble_eq_true rfl, Nat.le_of_ble_eq_true rfl⟩) hS (fun q _ h => hFc q h) hFc (fun r _ t H locs ht hvm hw hB hz1 hk1 hS => ?_)
  try dsimp only at hw
  subst hw
  rw [ht] at hB
  obtain ⟨hP, hD⟩ := rw_join ([(x0, .inr (4, [.ref t0, .ref r0, .ref y0, .ref g0, .ref w0, .int TR, .int LF])), (t0, .inr (0, [.ref tk, .ref tl, .ref tc, .int N])), (tk, .inl (cI, 6, .inl K)), (tl, .inl (cI, 6, .inl L)), (tc, .inl (cI, 6, .inl C))]) ([(x0, .inr (4, [.ref t0, .ref r0, .ref y0, .ref g0, .ref w0, .int TR, .int LF])), (t0, .inr (0, [.ref tk, .ref tl, .ref tc, .int N])), (tk, .inl (cI, 6, .inl K)), (tl, .inl (cI, 6, .inl L)), (tc, .inl (cI, 6, .inl C))]) ([(t0, .inr (0, [.ref tk, .ref tl, .ref tc, .int N]))]) ([(t0, .inr (0, [.ref tk, .ref tl, .ref tc, .int N]))]) ([(x0, .inr (4, [.ref t0, .ref r0, .ref y0, .ref g0, .ref w0, .int TR, .int LF])), (tk, .inl (cI, 6, .inl K)), (tl, .inl (cI, 6, .inl L)), (tc, .inl (cI, 6, .inl C))]) hP hD [1] [0, 2, 3, 4] [x0, t0, tk, tl, tc] 5 rfl rfl rfl rfl rfl (by decide) rfl rfl hk1 hB
  refine lv_if_ne (tgt := 13) hx hb dX4_tell_8 (by decide) (fun c_8 => ?_) (fun c_8 => ?_)
  · skip
    have j1 : vp_in i1 6 := has_in hNb c_8
    refine lv_aload_n hx hb dX4_tell_13 rfl (lv_at hl 0 rfl) ?_
    refine va_get (D := (dC, dI)) (ci := 4) (v := .ref t0) (C := RX4) (T := TX4) (N := 7) hx hb hts hin4 hown hK hP 0 rfl rfl 0 (by decide) kf_12 (fun _ h9 => h9) rfl dX4_tell_14 ?_
    refine va_getN (D := (dC, dI)) (ci := 0) (v := .ref tk) (C := RX0) (T := TX0) (N := 4) hx hb hts hin0 hown hK hP 1 rfl rfl 0 (by decide) hn_78 (fun _ h9 => h9) rfl dX4_tell_17 ?_
    refine lv_iload_n hx hb dX4_tell_20 rfl (lv_at hl 1 rfl) ?_
    refine va_iald hx hb hK hP 2 0 rfl rfl (by assumption) dX4_tell_21 ?_
    by_cases c_22_1 : (K i1.toNatClampNeg) = 1
    · skip
      refine lv_lookup (off := 32) (tgt := 54) hx hb dX4_tell_22 (by decide) (by rw [c_22_1]; decide) (by decide) ?_
      refine lv_aload_n hx hb dX4_tell_54 rfl (lv_at hl 0 rfl) ?_
      refine lv_iload_n hx hb dX4_tell_55 rfl (lv_at hl 1 rfl) ?_
      have hPc := hP.sub (ws' := [(x0, .inr (4, [.ref t0, .ref r0, .ref y0, .ref g0, .ref w0, .int TR, .int LF])), (t0, .inr (0, [.ref tk, .ref tl, .ref tc, .int N])), (tk, .inl (cI, 6, .inl K)), (tl, .inl (cI, 6, .inl L)), (tc, .inl (cI, 6, .inl C))]) [0, 1, 2, 3, 4] rfl
      have hDc := hD.sub (ws' := [(x0, .inr (4, [.ref t0, .ref r0, .ref y0, .ref g0, .ref w0, .int TR, .int LF])), (t0, .inr (0, [.ref tk, .ref tl, .ref tc, .int N])), (tk, .inl (cI, 6, .inl K)), (tl, .inl (cI, 6, .inl L)), (tc, .inl (cI, 6, .inl C))]) [0, 1, 2, 3, 4] (by decide) rfl
      have hKc := hK.sub (tys' := [(cI, .int)]) [0] rfl
      have hFc := va_free (wc := [(x0, .inr (4, [.ref t0, .ref r0, .ref y0, .ref g0, .ref w0, .int TR, .int LF])), (t0, .inr (0, [.ref tk, .ref tl, .ref tc, .int N])), (tk, .inl (cI, 6, .inl K)), (tl, .inl (cI, 6, .inl L)), (tc, .inl (cI, 6, .inl C))]) hD hS hA [0, 1, 2, 3, 4] rfl
      refine va_calli (va_runV (As := [.int i1]) (rest := []) ⟨hx, hb, hml, hown, hts⟩ (ctX4_kinTelling l dC dI cI x0 t0 r0 y0 g0 w0 tk tl tc H.size TR LF N K L C i1 (by assumption)) (cwV 1 hts gX4_tell_X4_kinTelling rfl rfl rfl (by decide +kernel) ⟨Nat.le_of_ble_eq_true rfl, Nat.le_of_ble_eq_true rfl⟩) (pre_V hKc hN hPc hDc (RX4, TX4, 7) 4 0 rfl rfl) rfl rfl hl.1 rfl (lv_room (Nat.le_of_ble_eq_true rfl)) dX4_tell_56 ⟨Nat.le_of_ble_eq_true rfl, Nat.le_of_ble_eq_true rfl⟩) hS (fun q _ h => hFc q h) hFc (fun r_56 _ t H locs ht hvm hw hB hz1 hk1 hS => ?_)
      try dsimp only at hw
      have er_56 := hw.symm
      rw [ht] at hB
      refine nm_gen ((p4_kinTelling TR L i1).2) (fun TR_56 eTR_56 => ?_)
      rw [eTR_56] at hB
      obtain ⟨hP, hD⟩ := rw_join ([(x0, .inr (4, [.ref t0, .ref r0, .ref y0, .ref g0, .ref w0, .int TR, .int LF])), (t0, .inr (0, [.ref tk, .ref tl, .ref tc, .int N])), (tk, .inl (cI, 6, .inl K)), (tl, .inl (cI, 6, .inl L)), (tc, .inl (cI, 6, .inl C))]) ([(x0, .inr (4, [.ref t0, .ref r0, .ref y0, .ref g0, .ref w0, .int TR_56, .int LF])), (t0, .inr (0, [.ref tk, .ref tl, .ref tc, .int N])), (tk, .inl (cI, 6, .inl K)), (tl, .inl (cI, 6, .inl L)), (tc, .inl (cI, 6, .inl C))]) ([(x0, .inr (4, [.ref t0, .ref r0, .ref y0, .ref g0, .ref w0, .int TR, .int LF])), (t0, .inr (0, [.ref tk, .ref tl, .ref tc, .int N])), (tk, .inl (cI, 6, .inl K)), (tl, .inl (cI, 6, .inl L)), (tc, .inl (cI, 6, .inl C))]) ([(x0, .inr (4, [.ref t0, .ref r0, .ref y0, .ref g0, .ref w0, .int TR_56, .int LF])), (t0, .inr (0, [.ref tk, .ref tl, .ref tc, .int N])), (tk, .inl (cI, 6, .inl K)), (tl, .inl (cI, 6, .inl L)), (tc, .inl (cI, 6, .inl C))]) ([]) hP hD [0, 1, 2, 3, 4] [] [x0, t0, tk, tl, tc] 5 rfl rfl rfl rfl rfl (by decide) rfl rfl hk1 hB
      have hE9 : p4_tell TR N K L i1 = (r_56, TR_56) := by unfold p4_tell; simp only [er_56, eTR_56]; rw [if_neg c_8, if_pos c_22_1]
      exact W.iret (v := r_56) hx hb hr (fun t ht hW => ⟨⟨_, (), rfl, by rw [hE9], by show va_P (dC, dI) vwCl _ t.heap; rw [ht, hE9]; exact hP⟩, hS.F ht⟩) hS.2.2 dX4_tell_59
    · skip
      by_cases c_22_2 : (K i1.toNatClampNeg) = 2
      · skip
        refine lv_lookup (off := 26) (tgt := 48) hx hb dX4_tell_22 (by decide) (by rw [c_22_2]; decide) (by decide) ?_
        refine lv_aload_n hx hb dX4_tell_48 rfl (lv_at hl 0 rfl) ?_
        refine lv_iload_n hx hb dX4_tell_49 rfl (lv_at hl 1 rfl) ?_
        have hPc := hP.sub (ws' := [(x0, .inr (4, [.ref t0, .ref r0, .ref y0, .ref g0, .ref w0, .int TR, .int LF])), (t0, .inr (0, [.ref tk, .ref tl, .ref tc, .int N])), (tk, .inl (cI, 6, .inl K)), (tl, .inl (cI, 6, .inl L)), (tc, .inl (cI, 6, .inl C))]) [0, 1, 2, 3, 4] rfl
        have hDc := hD.sub (ws' := [(x0, .inr (4, [.ref t0, .ref r0, .ref y0, .ref g0, .ref w0, .int TR, .int LF])), (t0, .inr (0, [.ref tk, .ref tl, .ref tc, .int N])), (tk, .inl (cI, 6, .inl K)), (tl, .inl (cI, 6, .inl L)), (tc, .inl (cI, 6, .inl C))]) [0, 1, 2, 3, 4] (by decide) rfl
        have hKc := hK.sub (tys' := [(cI, .int)]) [0] rfl
        have hFc := va_free (wc := [(x0, .inr (4, [.ref t0, .ref r0, .ref y0, .ref g0, .ref w0, .int TR, .int LF])), (t0, .inr (0, [.ref tk, .ref tl, .ref tc, .int N])), (tk, .inl (cI, 6, .inl K)), (tl, .inl (cI, 6, .inl L)), (tc, .inl (cI, 6, .inl C))]) hD hS hA [0, 1, 2, 3, 4] rfl
        refine va_calli (va_runV (As := [.int i1]) (rest := []) ⟨hx, hb, hml, hown, hts⟩ (ctX4_templeTelling l dC dI cI x0 t0 r0 y0 g0 w0 tk tl tc H.size TR LF N K L C i1 (by assumption)) (cwV 1 hts gX4_tell_X4_templeTelling rfl rfl rfl (by decide +kernel) ⟨Nat.le_of_ble_eq_true rfl, Nat.le_of_ble_eq_true rfl⟩) (pre_V hKc hN hPc hDc (RX4, TX4, 7) 4 0 rfl rfl) rfl rfl hl.1 rfl (lv_room (Nat.le_of_ble_eq_true rfl)) dX4_tell_50 ⟨Nat.le_of_ble_eq_true rfl, Nat.le_of_ble_eq_true rfl⟩) hS (fun q _ h => hFc q h) hFc (fun r_50 _ t H locs ht hvm hw hB hz1 hk1 hS => ?_)
        try dsimp only at hw
        have er_50 := hw.symm
        rw [ht] at hB
        refine nm_gen ((p4_templeTelling TR L i1).2) (fun TR_50 eTR_50 => ?_)
        rw [eTR_50] at hB
        obtain ⟨hP, hD⟩ := rw_join ([(x0, .inr (4, [.ref t0, .ref r0, .ref y0, .ref g0, .ref w0, .int TR, .int LF])), (t0, .inr (0, [.ref tk, .ref tl, .ref tc, .int N])), (tk, .inl (cI, 6, .inl K)), (tl, .inl (cI, 6, .inl L)), (tc, .inl (cI, 6, .inl C))]) ([(x0, .inr (4, [.ref t0, .ref r0, .ref y0, .ref g0, .ref w0, .int TR_50, .int LF])), (t0, .inr (0, [.ref tk, .ref tl, .ref tc, .int N])), (tk, .inl (cI, 6, .inl K)), (tl, .inl (cI, 6, .inl L)), (tc, .inl (cI, 6, .inl C))]) ([(x0, .inr (4, [.ref t0, .ref r0, .ref y0, .ref g0, .ref w0, .int TR, .int LF])), (t0, .inr (0, [.ref tk, .ref tl, .ref tc, .int N])), (tk, .inl (cI, 6, .inl K)), (tl, .inl (cI, 6, .inl L)), (tc, .inl (cI, 6, .inl C))]) ([(x0, .inr (4, [.ref t0, .ref r0, .ref y0, .ref g0, .ref w0, .int TR_50, .int LF])), (t0, .inr (0, [.ref tk, .ref tl, .ref tc, .int N])), (tk, .inl (cI, 6, .inl K)), (tl, .inl (cI, 6, .inl L)), (tc, .inl (cI, 6, .inl C))]) ([]) hP hD [0, 1, 2, 3, 4] [] [x0, t0, tk, tl, tc] 5 rfl rfl rfl rfl rfl (by decide) rfl rfl hk1 hB
        have hE9 : p4_tell TR N K L i1 = (r_50, TR_50) := by unfold p4_tell; simp only [er_50, eTR_50]; rw [if_neg c_8, if_neg c_22_1, if_pos c_22_2]
        exact W.iret (v := r_50) hx hb hr (fun t ht hW => ⟨⟨_, (), rfl, by rw [hE9], by show va_P (dC, dI) vwCl _ t.heap; rw [ht, hE9]; exact hP⟩, hS.F ht⟩) hS.2.2 dX4_tell_53
      · skip
        refine lv_lookup (off := 38) (tgt := 60) hx hb dX4_tell_22 (by decide) (by show Op.lookupswitch.offset [(1, 32), (2, 26)] 38 _ = _; rw [lv_osw c_22_1 (by decide), lv_osw c_22_2 (by decide)]; rfl) (by decide) ?_
        refine lv_aload_n hx hb dX4_tell_60 rfl (lv_at hl 0 rfl) ?_
        refine lv_iload_n hx hb dX4_tell_61 rfl (lv_at hl 1 rfl) ?_
        have hPc := hP.sub (ws' := [(x0, .inr (4, [.ref t0, .ref r0, .ref y0, .ref g0, .ref w0, .int TR, .int LF])), (t0, .inr (0, [.ref tk, .ref tl, .ref tc, .int N])), (tk, .inl (cI, 6, .inl K)), (tl, .inl (cI, 6, .inl L)), (tc, .inl (cI, 6, .inl C))]) [0, 1, 2, 3, 4] rfl
        have hDc := hD.sub (ws' := [(x0, .inr (4, [.ref t0, .ref r0, .ref y0, .ref g0, .ref w0, .int TR, .int LF])), (t0, .inr (0, [.ref tk, .ref tl, .ref tc, .int N])), (tk, .inl (cI, 6, .inl K)), (tl, .inl (cI, 6, .inl L)), (tc, .inl (cI, 6, .inl C))]) [0, 1, 2, 3, 4] (by decide) rfl
        have hKc := hK.sub (tys' := [(cI, .int)]) [0] rfl
        have hFc := va_free (wc := [(x0, .inr (4, [.ref t0, .ref r0, .ref y0, .ref g0, .ref w0, .int TR, .int LF])), (t0, .inr (0, [.ref tk, .ref tl, .ref tc, .int N])), (tk, .inl (cI, 6, .inl K)), (tl, .inl (cI, 6, .inl L)), (tc, .inl (cI, 6, .inl C))]) hD hS hA [0, 1, 2, 3, 4] rfl
        refine va_calli (va_runV (As := [.int i1]) (rest := []) ⟨hx, hb, hml, hown, hts⟩ (ctX4_houseTelling l dC dI cI x0 t0 r0 y0 g0 w0 tk tl tc H.size TR LF N K L C i1 (by assumption)) (cwV 1 hts gX4_tell_X4_houseTelling rfl rfl rfl (by decide +kernel) ⟨Nat.le_of_ble_eq_true rfl, Nat.le_of_ble_eq_true rfl⟩) (pre_V hKc hN hPc hDc (RX4, TX4, 7) 4 0 rfl rfl) rfl rfl hl.1 rfl (lv_room (Nat.le_of_ble_eq_true rfl)) dX4_tell_62 ⟨Nat.le_of_ble_eq_true rfl, Nat.le_of_ble_eq_true rfl⟩) hS (fun q _ h => hFc q h) hFc (fun r_62 _ t H locs ht hvm hw hB hz1 hk1 hS => ?_)
        try dsimp only at hw
        have er_62 := hw.symm
        rw [ht] at hB
        refine nm_gen ((p4_houseTelling TR L i1).2) (fun TR_62 eTR_62 => ?_)
        rw [eTR_62] at hB
        obtain ⟨hP, hD⟩ := rw_join ([(x0, .inr (4, [.ref t0, .ref r0, .ref y0, .ref g0, .ref w0, .int TR, .int LF])), (t0, .inr (0, [.ref tk, .ref tl, .ref tc, .int N])), (tk, .inl (cI, 6, .inl K)), (tl, .inl (cI, 6, .inl L)), (tc, .inl (cI, 6, .inl C))]) ([(x0, .inr (4, [.ref t0, .ref r0, .ref y0, .ref g0, .ref w0, .int TR_62, .int LF])), (t0, .inr (0, [.ref tk, .ref tl, .ref tc, .int N])), (tk, .inl (cI, 6, .inl K)), (tl, .inl (cI, 6, .inl L)), (tc, .inl (cI, 6, .inl C))]) ([(x0, .inr (4, [.ref t0, .ref r0, .ref y0, .ref g0, .ref w0, .int TR, .int LF])), (t0, .inr (0, [.ref tk, .ref tl, .ref tc, .int N])), (tk, .inl (cI, 6, .inl K)), (tl, .inl (cI, 6, .inl L)), (tc, .inl (cI, 6, .inl C))]) ([(x0, .inr (4, [.ref t0, .ref r0, .ref y0, .ref g0, .ref w0, .int TR_62, .int LF])), (t0, .inr (0, [.ref tk, .ref tl, .ref tc, .int N])), (tk, .inl (cI, 6, .inl K)), (tl, .inl (cI, 6, .inl L)), (tc, .inl (cI, 6, .inl C))]) ([]) hP hD [0, 1, 2, 3, 4] [] [x0, t0, tk, tl, tc] 5 rfl rfl rfl rfl rfl (by decide) rfl rfl hk1 hB
        have hE9 : p4_tell TR N K L i1 = (r_62, TR_62) := by unfold p4_tell; simp only [er_62, eTR_62]; rw [if_neg c_8, if_neg c_22_1, if_neg c_22_2]
        exact W.iret (v := r_62) hx hb hr (fun t ht hW => ⟨⟨_, (), rfl, by rw [hE9], by show va_P (dC, dI) vwCl _ t.heap; rw [ht, hE9]; exact hP⟩, hS.F ht⟩) hS.2.2 dX4_tell_65
  · skip
    refine lv_iconst (v := (-1)) hx hb dX4_tell_11 (by decide) ?_
    have hE9 : p4_tell TR N K L i1 = ((-1), TR) := by unfold p4_tell; rw [if_pos c_8]
    exact W.iret (v := (-1)) hx hb hr (fun t ht hW => ⟨⟨_, (), rfl, by rw [hE9], by show va_P (dC, dI) vwCl _ t.heap; rw [ht, hE9]; exact hP⟩, hS.F ht⟩) hS.2.2 dX4_tell_12

def p4_seal (TR : Int32) (N : Int32) (K : Nat → Int32) (i1 : Int32) : Int32 × Int32 :=
  if (p0_has N i1) = 0 then
    ((-1), TR)
  else
    if (K i1.toNatClampNeg) = 2 then
      (((p4_templeSeal TR).1), ((p4_templeSeal TR).2))
    else
      (((p4_lentSeal TR i1).1), ((p4_lentSeal TR i1).2))
abbrev rmX4_seal : Room := { frames := 2, cells := 0, slots := 0, locals := 42 }
abbrev QX4_seal (dC : Nat → ClassId) (dI : Nat → Nat → Nat) (A : Nat → Prop) (cI : ClassId) (x0 : Nat) (t0 : Nat) (r0 : Nat) (y0 : Nat) (g0 : Nat) (w0 : Nat) (tk : Nat) (tl : Nat) (tc : Nat) (TR : Int32) (LF : Int32) (N : Int32) (K : Nat → Int32) (L : Nat → Int32) (C : Nat → Int32) (i1 : Int32) : Array Value → State → Outcome → State → Prop := va_Qi (fun (r : Int32) (_ : Unit) => r = (p4_seal TR N K i1).1) (fun (_ : Unit) (t : State) => va_P (dC, dI) vwCl ([(x0, .inr (4, [.ref t0, .ref r0, .ref y0, .ref g0, .ref w0, .int ((p4_seal TR N K i1).2), .int LF])), (t0, .inr (0, [.ref tk, .ref tl, .ref tc, .int N])), (tk, .inl (cI, 6, .inl K)), (tl, .inl (cI, 6, .inl L)), (tc, .inl (cI, 6, .inl C))]) t.heap) A
set_option maxHeartbeats 4000000 in
set_option maxRecDepth 100000 in
theorem ctX4_seal (l : Launch) (dC : Nat → ClassId) (dI : Nat → Nat → Nat) (cI : ClassId) (x0 : Nat) (t0 : Nat) (r0 : Nat) (y0 : Nat) (g0 : Nat) (w0 : Nat) (tk : Nat) (tl : Nat) (tc : Nat) (sz : Nat) (TR : Int32) (LF : Int32) (N : Int32) (K : Nat → Int32) (L : Nat → Int32) (C : Nat → Int32) (i1 : Int32) (hNb : N.toInt ≤ 6) : Met l yX4_seal wsX4_seal rmX4_seal (va_Pc [.ref x0, .int i1] (cP dC dI [(cI, .int)] ([(x0, .inr (4, [.ref t0, .ref r0, .ref y0, .ref g0, .ref w0, .int TR, .int LF])), (t0, .inr (0, [.ref tk, .ref tl, .ref tc, .int N])), (tk, .inl (cI, 6, .inl K)), (tl, .inl (cI, 6, .inl L)), (tc, .inl (cI, 6, .inl C))]) sz)) (QX4_seal dC dI (va_A ([(x0, .inr (4, [.ref t0, .ref r0, .ref y0, .ref g0, .ref w0, .int TR, .int LF])), (t0, .inr (0, [.ref tk, .ref tl, .ref tc, .int N])), (tk, .inl (cI, 6, .inl K)), (tl, .inl (cI, 6, .inl L)), (tc, .inl (cI, 6, .inl C))]) sz) cI x0 t0 r0 y0 g0 w0 tk tl tc TR LF N K L C i1) 0 0 (va_A ([(x0, .inr (4, [.ref t0, .ref r0, .ref y0, .ref g0, .ref w0, .int TR, .int LF])), (t0, .inr (0, [.ref tk, .ref tl, .ref tc, .int N])), (tk, .inl (cI, 6, .inl K)), (tl, .inl (cI, 6, .inl L)), (tc, .inl (cI, 6, .inl C))]) sz) := by
  refine Met.ofW (cc := cX4_seal) (maxL := 2) (ret := (some .int)) (by decide) rfl ?_
  intro p e s m args below meth c s₁ B hml hv
  obtain ⟨rfl, hsz, hP, hK, hD0, hN⟩ := hv
  have hx := B.exec
  have hb := B.bytes
  have hr := B.returns
  have hts := atoms_spec (ws := wsX4_seal) B.pre
  have hown : s.vm.findClass RX4 = some m.cls := findClass_of_methodNamed B.named
  have hlocks := B.notSynchronized
  subst hsz
  have hD := hD0.self (sz := s.heap.size)
  generalize hAe : va_A ([(x0, .inr (4, [.ref t0, .ref r0, .ref y0, .ref g0, .ref w0, .int TR, .int LF])), (t0, .inr (0, [.ref tk, .ref tl, .ref tc, .int N])), (tk, .inl (cI, 6, .inl K)), (tl, .inl (cI, 6, .inl L)), (tc, .inl (cI, 6, .inl C))]) s.heap.size = A at hD ⊢
  have hA : ∀ q : Nat, s.heap.size ≤ q → A q := fun q h => by rw [← hAe]; exact Or.inr h
  have hS : va_S A s.heap s.heap [] := va_S.rf
  have hP : va_P (dC, dI) vwCl ([(x0, .inr (4, [.ref t0, .ref r0, .ref y0, .ref g0, .ref w0, .int TR, .int LF])), (t0, .inr (0, [.ref tk, .ref tl, .ref tc, .int N])), (tk, .inl (cI, 6, .inl K)), (tl, .inl (cI, 6, .inl L)), (tc, .inl (cI, 6, .inl C))]) s.heap := hP
  have hin0 : ∀ w ∈ wsX00, w ∈ wsX4_seal := by decide +kernel
  have hin4 : ∀ w ∈ wsX40, w ∈ wsX4_seal := by decide +kernel
  have kf_12 := hts (.fieldLink RX4 12 "RicherChange" "town" "LRicherChange$City;") (by decide +kernel)
  have hn_78 := va_Nw.use (A := [.ref x0, .int i1].toArray) rfl hN.1
  have hl := lv_entry ([.ref x0, .int i1]) (n := 2) (Nat.le_of_ble_eq_true rfl)
  rw [lg_entry_eq]
  generalize (lg_sl ([.ref x0, .int i1]) ++ List.replicate (2 - (lg_sl ([.ref x0, .int i1])).length) Slot.unset).toArray = ls at hl ⊢
  have hl : lv_has ls 2 [(0, .ref x0), (1, .int i1)] := hl
  refine lv_aload_n hx hb dX4_seal_0 rfl (lv_at hl 0 rfl) ?_
  refine va_get (D := (dC, dI)) (ci := 4) (v := .ref t0) (C := RX4) (T := TX4) (N := 7) hx hb hts hin4 hown hK hP 0 rfl rfl 0 (by decide) kf_12 (fun _ h9 => h9) rfl dX4_seal_1 ?_
  refine lv_iload_n hx hb dX4_seal_4 rfl (lv_at hl 1 rfl) ?_
  have hPc := hP.sub (ws' := [(t0, .inr (0, [.ref tk, .ref tl, .ref tc, .int N]))]) [1] rfl
  have hDc := hD.sub (ws' := [(t0, .inr (0, [.ref tk, .ref tl, .ref tc, .int N]))]) [1] (by decide) rfl
  have hKc := hK.sub (tys' := [(cI, .int)]) [0] rfl
  have hFc := va_free (wc := [(t0, .inr (0, [.ref tk, .ref tl, .ref tc, .int N]))]) hD hS hA [1] rfl
  refine va_calli (va_runV (As := [.int i1]) (rest := []) ⟨hx, hb, hml, hown, hts⟩ (ctX0_has l dC dI cI t0 tk tl tc s.heap.size N i1) (cwV 1 hts gX4_seal_X0_has rfl rfl rfl (by decide +kernel) ⟨Nat.le_of_ble_eq_true rfl, Nat.le_of_ble_eq_true rfl⟩) (pre_V hKc hN hPc hDc (RX0, TX0, 4) 0 0 rfl rfl) rfl rfl hl.1 rfl (lv_room (Nat.le_of_ble_eq_true rfl)) dX4_seal_5 ⟨Nat.le_of_ble_eq_true rfl, Nat.le_of_ble_eq_true rfl⟩) hS (fun q _ h => hFc q h) hFc (fun r _ t H locs ht hvm hw hB hz1 hk1 hS => ?_)
  try dsimp only at hw
  subst hw
  rw [ht] at hB
  obtain ⟨hP, hD⟩ := rw_join ([(x0, .inr (4, [.ref t0, .ref r0, .ref y0, .ref g0, .ref w0, .int TR, .int LF])), (t0, .inr (0, [.ref tk, .ref tl, .ref tc, .int N])), (tk, .inl (cI, 6, .inl K)), (tl, .inl (cI, 6, .inl L)), (tc, .inl (cI, 6, .inl C))]) ([(x0, .inr (4, [.ref t0, .ref r0, .ref y0, .ref g0, .ref w0, .int TR, .int LF])), (t0, .inr (0, [.ref tk, .ref tl, .ref tc, .int N])), (tk, .inl (cI, 6, .inl K)), (tl, .inl (cI, 6, .inl L)), (tc, .inl (cI, 6, .inl C))]) ([(t0, .inr (0, [.ref tk, .ref tl, .ref tc, .int N]))]) ([(t0, .inr (0, [.ref tk, .ref tl, .ref tc, .int N]))]) ([(x0, .inr (4, [.ref t0, .ref r0, .ref y0, .ref g0, .ref w0, .int TR, .int LF])), (tk, .inl (cI, 6, .inl K)), (tl, .inl (cI, 6, .inl L)), (tc, .inl (cI, 6, .inl C))]) hP hD [1] [0, 2, 3, 4] [x0, t0, tk, tl, tc] 5 rfl rfl rfl rfl rfl (by decide) rfl rfl hk1 hB
  refine lv_if_ne (tgt := 13) hx hb dX4_seal_8 (by decide) (fun c_8 => ?_) (fun c_8 => ?_)
  · skip
    have j1 : vp_in i1 6 := has_in hNb c_8
    refine lv_aload_n hx hb dX4_seal_13 rfl (lv_at hl 0 rfl) ?_
    refine va_get (D := (dC, dI)) (ci := 4) (v := .ref t0) (C := RX4) (T := TX4) (N := 7) hx hb hts hin4 hown hK hP 0 rfl rfl 0 (by decide) kf_12 (fun _ h9 => h9) rfl dX4_seal_14 ?_
    refine va_getN (D := (dC, dI)) (ci := 0) (v := .ref tk) (C := RX0) (T := TX0) (N := 4) hx hb hts hin0 hown hK hP 1 rfl rfl 0 (by decide) hn_78 (fun _ h9 => h9) rfl dX4_seal_17 ?_
    refine lv_iload_n hx hb dX4_seal_20 rfl (lv_at hl 1 rfl) ?_
    refine va_iald hx hb hK hP 2 0 rfl rfl (by assumption) dX4_seal_21 ?_
    refine lv_iconst (v := 2) hx hb dX4_seal_22 (by decide) ?_
    refine lv_icmp_ne (tgt := 33) hx hb dX4_seal_23 (by decide) (fun c_23 => ?_) (fun c_23 => ?_)
    · skip
      refine lv_aload_n hx hb dX4_seal_33 rfl (lv_at hl 0 rfl) ?_
      refine lv_iload_n hx hb dX4_seal_34 rfl (lv_at hl 1 rfl) ?_
      have hPc := hP.sub (ws' := [(x0, .inr (4, [.ref t0, .ref r0, .ref y0, .ref g0, .ref w0, .int TR, .int LF]))]) [0] rfl
      have hDc := hD.sub (ws' := [(x0, .inr (4, [.ref t0, .ref r0, .ref y0, .ref g0, .ref w0, .int TR, .int LF]))]) [0] (by decide) rfl
      have hKc := hK.sub (tys' := [(cI, .int)]) [0] rfl
      have hFc := va_free (wc := [(x0, .inr (4, [.ref t0, .ref r0, .ref y0, .ref g0, .ref w0, .int TR, .int LF]))]) hD hS hA [0] rfl
      refine va_calli (va_runV (As := [.int i1]) (rest := []) ⟨hx, hb, hml, hown, hts⟩ (ctX4_lentSeal l dC dI cI x0 t0 r0 y0 g0 w0 H.size TR LF i1) (cwV 1 hts gX4_seal_X4_lentSeal rfl rfl rfl (by decide +kernel) ⟨Nat.le_of_ble_eq_true rfl, Nat.le_of_ble_eq_true rfl⟩) (pre_V hKc hN hPc hDc (RX4, TX4, 7) 4 0 rfl rfl) rfl rfl hl.1 rfl (lv_room (Nat.le_of_ble_eq_true rfl)) dX4_seal_35 ⟨Nat.le_of_ble_eq_true rfl, Nat.le_of_ble_eq_true rfl⟩) hS (fun q _ h => hFc q h) hFc (fun r_35 _ t H locs ht hvm hw hB hz1 hk1 hS => ?_)
      try dsimp only at hw
      have er_35 := hw.symm
      rw [ht] at hB
      refine nm_gen ((p4_lentSeal TR i1).2) (fun TR_35 eTR_35 => ?_)
      rw [eTR_35] at hB
      obtain ⟨hP, hD⟩ := rw_join ([(x0, .inr (4, [.ref t0, .ref r0, .ref y0, .ref g0, .ref w0, .int TR, .int LF])), (t0, .inr (0, [.ref tk, .ref tl, .ref tc, .int N])), (tk, .inl (cI, 6, .inl K)), (tl, .inl (cI, 6, .inl L)), (tc, .inl (cI, 6, .inl C))]) ([(x0, .inr (4, [.ref t0, .ref r0, .ref y0, .ref g0, .ref w0, .int TR_35, .int LF])), (t0, .inr (0, [.ref tk, .ref tl, .ref tc, .int N])), (tk, .inl (cI, 6, .inl K)), (tl, .inl (cI, 6, .inl L)), (tc, .inl (cI, 6, .inl C))]) ([(x0, .inr (4, [.ref t0, .ref r0, .ref y0, .ref g0, .ref w0, .int TR, .int LF]))]) ([(x0, .inr (4, [.ref t0, .ref r0, .ref y0, .ref g0, .ref w0, .int TR_35, .int LF]))]) ([(t0, .inr (0, [.ref tk, .ref tl, .ref tc, .int N])), (tk, .inl (cI, 6, .inl K)), (tl, .inl (cI, 6, .inl L)), (tc, .inl (cI, 6, .inl C))]) hP hD [0] [1, 2, 3, 4] [x0, t0, tk, tl, tc] 5 rfl rfl rfl rfl rfl (by decide) rfl rfl hk1 hB
      have hE9 : p4_seal TR N K i1 = (r_35, TR_35) := by unfold p4_seal; simp only [er_35, eTR_35]; rw [if_neg c_8, if_neg c_23]
      exact W.iret (v := r_35) hx hb hr (fun t ht hW => ⟨⟨_, (), rfl, by rw [hE9], by show va_P (dC, dI) vwCl _ t.heap; rw [ht, hE9]; exact hP⟩, hS.F ht⟩) hS.2.2 dX4_seal_38
    · skip
      refine lv_aload_n hx hb dX4_seal_26 rfl (lv_at hl 0 rfl) ?_
      have hPc := hP.sub (ws' := [(x0, .inr (4, [.ref t0, .ref r0, .ref y0, .ref g0, .ref w0, .int TR, .int LF]))]) [0] rfl
      have hDc := hD.sub (ws' := [(x0, .inr (4, [.ref t0, .ref r0, .ref y0, .ref g0, .ref w0, .int TR, .int LF]))]) [0] (by decide) rfl
      have hKc := hK.sub (tys' := [(cI, .int)]) [0] rfl
      have hFc := va_free (wc := [(x0, .inr (4, [.ref t0, .ref r0, .ref y0, .ref g0, .ref w0, .int TR, .int LF]))]) hD hS hA [0] rfl
      refine va_calli (va_runV (As := []) (rest := []) ⟨hx, hb, hml, hown, hts⟩ (ctX4_templeSeal l dC dI cI x0 t0 r0 y0 g0 w0 H.size TR LF) (cwV 0 hts gX4_seal_X4_templeSeal rfl rfl rfl (by decide +kernel) ⟨Nat.le_of_ble_eq_true rfl, Nat.le_of_ble_eq_true rfl⟩) (pre_V hKc hN hPc hDc (RX4, TX4, 7) 4 0 rfl rfl) rfl rfl hl.1 rfl (lv_room (Nat.le_of_ble_eq_true rfl)) dX4_seal_27 ⟨Nat.le_of_ble_eq_true rfl, Nat.le_of_ble_eq_true rfl⟩) hS (fun q _ h => hFc q h) hFc (fun r_27 _ t H locs ht hvm hw hB hz1 hk1 hS => ?_)
      try dsimp only at hw
      have er_27 := hw.symm
      rw [ht] at hB
      refine nm_gen ((p4_templeSeal TR).2) (fun TR_27 eTR_27 => ?_)
      rw [eTR_27] at hB
      obtain ⟨hP, hD⟩ := rw_join ([(x0, .inr (4, [.ref t0, .ref r0, .ref y0, .ref g0, .ref w0, .int TR, .int LF])), (t0, .inr (0, [.ref tk, .ref tl, .ref tc, .int N])), (tk, .inl (cI, 6, .inl K)), (tl, .inl (cI, 6, .inl L)), (tc, .inl (cI, 6, .inl C))]) ([(x0, .inr (4, [.ref t0, .ref r0, .ref y0, .ref g0, .ref w0, .int TR_27, .int LF])), (t0, .inr (0, [.ref tk, .ref tl, .ref tc, .int N])), (tk, .inl (cI, 6, .inl K)), (tl, .inl (cI, 6, .inl L)), (tc, .inl (cI, 6, .inl C))]) ([(x0, .inr (4, [.ref t0, .ref r0, .ref y0, .ref g0, .ref w0, .int TR, .int LF]))]) ([(x0, .inr (4, [.ref t0, .ref r0, .ref y0, .ref g0, .ref w0, .int TR_27, .int LF]))]) ([(t0, .inr (0, [.ref tk, .ref tl, .ref tc, .int N])), (tk, .inl (cI, 6, .inl K)), (tl, .inl (cI, 6, .inl L)), (tc, .inl (cI, 6, .inl C))]) hP hD [0] [1, 2, 3, 4] [x0, t0, tk, tl, tc] 5 rfl rfl rfl rfl rfl (by decide) rfl rfl hk1 hB
      refine lv_goto (tgt := 38) hx hb dX4_seal_30 (by decide) ?_
      have hE9 : p4_seal TR N K i1 = (r_27, TR_27) := by unfold p4_seal; simp only [er_27, eTR_27]; rw [if_neg c_8, if_pos c_23]
      exact W.iret (v := r_27) hx hb hr (fun t ht hW => ⟨⟨_, (), rfl, by rw [hE9], by show va_P (dC, dI) vwCl _ t.heap; rw [ht, hE9]; exact hP⟩, hS.F ht⟩) hS.2.2 dX4_seal_38
  · skip
    refine lv_iconst (v := (-1)) hx hb dX4_seal_11 (by decide) ?_
    have hE9 : p4_seal TR N K i1 = ((-1), TR) := by unfold p4_seal; rw [if_pos c_8]
    exact W.iret (v := (-1)) hx hb hr (fun t ht hW => ⟨⟨_, (), rfl, by rw [hE9], by show va_P (dC, dI) vwCl _ t.heap; rw [ht, hE9]; exact hP⟩, hS.F ht⟩) hS.2.2 dX4_seal_12

def p4_as (LF : Int32) (N : Int32) (K : Nat → Int32) (i1 : Int32) (i2 : Int32) : Int32 × Int32 :=
  if (p0_has N i1) = 0 then
    ((-1), 0)
  else
    if i2 < 0 then
      ((-2), 0)
    else
      if i2 < 3 then
        if (K i1.toNatClampNeg) < i2 then
          (((p4_failed 0 2).1), ((p4_failed 0 2).2))
        else
          (1, 0)
      else
        ((-2), 0)
abbrev rmX4_as : Room := { frames := 1, cells := 0, slots := 0, locals := 21 }
abbrev QX4_as (dC : Nat → ClassId) (dI : Nat → Nat → Nat) (A : Nat → Prop) (cI : ClassId) (x0 : Nat) (t0 : Nat) (r0 : Nat) (y0 : Nat) (g0 : Nat) (w0 : Nat) (tk : Nat) (tl : Nat) (tc : Nat) (TR : Int32) (LF : Int32) (N : Int32) (K : Nat → Int32) (L : Nat → Int32) (C : Nat → Int32) (i1 : Int32) (i2 : Int32) : Array Value → State → Outcome → State → Prop := va_Qi (fun (r : Int32) (_ : Unit) => r = (p4_as LF N K i1 i2).1) (fun (_ : Unit) (t : State) => va_P (dC, dI) vwCl ([(x0, .inr (4, [.ref t0, .ref r0, .ref y0, .ref g0, .ref w0, .int TR, .int ((p4_as LF N K i1 i2).2)])), (t0, .inr (0, [.ref tk, .ref tl, .ref tc, .int N])), (tk, .inl (cI, 6, .inl K)), (tl, .inl (cI, 6, .inl L)), (tc, .inl (cI, 6, .inl C))]) t.heap) A
set_option maxHeartbeats 4000000 in
set_option maxRecDepth 100000 in
theorem ctX4_as (l : Launch) (dC : Nat → ClassId) (dI : Nat → Nat → Nat) (cI : ClassId) (x0 : Nat) (t0 : Nat) (r0 : Nat) (y0 : Nat) (g0 : Nat) (w0 : Nat) (tk : Nat) (tl : Nat) (tc : Nat) (sz : Nat) (TR : Int32) (LF : Int32) (N : Int32) (K : Nat → Int32) (L : Nat → Int32) (C : Nat → Int32) (i1 : Int32) (i2 : Int32) (hNb : N.toInt ≤ 6) : Met l yX4_as wsX4_as rmX4_as (va_Pc [.ref x0, .int i1, .int i2] (cP dC dI [(cI, .int)] ([(x0, .inr (4, [.ref t0, .ref r0, .ref y0, .ref g0, .ref w0, .int TR, .int LF])), (t0, .inr (0, [.ref tk, .ref tl, .ref tc, .int N])), (tk, .inl (cI, 6, .inl K)), (tl, .inl (cI, 6, .inl L)), (tc, .inl (cI, 6, .inl C))]) sz)) (QX4_as dC dI (va_A ([(x0, .inr (4, [.ref t0, .ref r0, .ref y0, .ref g0, .ref w0, .int TR, .int LF])), (t0, .inr (0, [.ref tk, .ref tl, .ref tc, .int N])), (tk, .inl (cI, 6, .inl K)), (tl, .inl (cI, 6, .inl L)), (tc, .inl (cI, 6, .inl C))]) sz) cI x0 t0 r0 y0 g0 w0 tk tl tc TR LF N K L C i1 i2) 0 0 (va_A ([(x0, .inr (4, [.ref t0, .ref r0, .ref y0, .ref g0, .ref w0, .int TR, .int LF])), (t0, .inr (0, [.ref tk, .ref tl, .ref tc, .int N])), (tk, .inl (cI, 6, .inl K)), (tl, .inl (cI, 6, .inl L)), (tc, .inl (cI, 6, .inl C))]) sz) := by
  refine Met.ofW (cc := cX4_as) (maxL := 3) (ret := (some .int)) (by decide) rfl ?_
  intro p e s m args below meth c s₁ B hml hv
  obtain ⟨rfl, hsz, hP, hK, hD0, hN⟩ := hv
  have hx := B.exec
  have hb := B.bytes
  have hr := B.returns
  have hts := atoms_spec (ws := wsX4_as) B.pre
  have hown : s.vm.findClass RX4 = some m.cls := findClass_of_methodNamed B.named
  have hlocks := B.notSynchronized
  subst hsz
  have hD := hD0.self (sz := s.heap.size)
  generalize hAe : va_A ([(x0, .inr (4, [.ref t0, .ref r0, .ref y0, .ref g0, .ref w0, .int TR, .int LF])), (t0, .inr (0, [.ref tk, .ref tl, .ref tc, .int N])), (tk, .inl (cI, 6, .inl K)), (tl, .inl (cI, 6, .inl L)), (tc, .inl (cI, 6, .inl C))]) s.heap.size = A at hD ⊢
  have hA : ∀ q : Nat, s.heap.size ≤ q → A q := fun q h => by rw [← hAe]; exact Or.inr h
  have hS : va_S A s.heap s.heap [] := va_S.rf
  have hP : va_P (dC, dI) vwCl ([(x0, .inr (4, [.ref t0, .ref r0, .ref y0, .ref g0, .ref w0, .int TR, .int LF])), (t0, .inr (0, [.ref tk, .ref tl, .ref tc, .int N])), (tk, .inl (cI, 6, .inl K)), (tl, .inl (cI, 6, .inl L)), (tc, .inl (cI, 6, .inl C))]) s.heap := hP
  have hin0 : ∀ w ∈ wsX00, w ∈ wsX4_as := by decide +kernel
  have hin4 : ∀ w ∈ wsX40, w ∈ wsX4_as := by decide +kernel
  have kf_12 := hts (.fieldLink RX4 12 "RicherChange" "town" "LRicherChange$City;") (by decide +kernel)
  have kf_42 := hts (.fieldLink RX4 42 "RicherChange" "latestFault" "I") (by decide +kernel)
  have hn_78 := va_Nw.use (A := [.ref x0, .int i1, .int i2].toArray) rfl hN.1
  have hl := lv_entry ([.ref x0, .int i1, .int i2]) (n := 3) (Nat.le_of_ble_eq_true rfl)
  rw [lg_entry_eq]
  generalize (lg_sl ([.ref x0, .int i1, .int i2]) ++ List.replicate (3 - (lg_sl ([.ref x0, .int i1, .int i2])).length) Slot.unset).toArray = ls at hl ⊢
  have hl : lv_has ls 3 [(0, .ref x0), (1, .int i1), (2, .int i2)] := hl
  refine lv_aload_n hx hb dX4_as_0 rfl (lv_at hl 0 rfl) ?_
  refine lv_iconst (v := 0) hx hb dX4_as_1 (by decide) ?_
  refine va_put (D := (dC, dI)) (ci := 4) (v := .int 0) (ty := .int) (C := RX4) (T := TX4) (N := 7) hx hb hts hin4 tyX4 tyX4_ok nmX4 hown hK hP hD hS 0 rfl rfl 6 (by decide) kf_42 (fun _ h9 => h9) rfl (by decide +kernel) rfl rfl (Nat.le_of_ble_eq_true rfl) dX4_as_2 (fun H locs hP hD hS => ?_)
  have hP : va_P (dC, dI) vwCl ([(x0, .inr (4, [.ref t0, .ref r0, .ref y0, .ref g0, .ref w0, .int TR, .int 0])), (t0, .inr (0, [.ref tk, .ref tl, .ref tc, .int N])), (tk, .inl (cI, 6, .inl K)), (tl, .inl (cI, 6, .inl L)), (tc, .inl (cI, 6, .inl C))]) H := hP
  have hD : va_D A ([(x0, .inr (4, [.ref t0, .ref r0, .ref y0, .ref g0, .ref w0, .int TR, .int 0])), (t0, .inr (0, [.ref tk, .ref tl, .ref tc, .int N])), (tk, .inl (cI, 6, .inl K)), (tl, .inl (cI, 6, .inl L)), (tc, .inl (cI, 6, .inl C))]) := hD
  refine lv_aload_n hx hb dX4_as_5 rfl (lv_at hl 0 rfl) ?_
  refine va_get (D := (dC, dI)) (ci := 4) (v := .ref t0) (C := RX4) (T := TX4) (N := 7) hx hb hts hin4 hown hK hP 0 rfl rfl 0 (by decide) kf_12 (fun _ h9 => h9) rfl dX4_as_6 ?_
  refine lv_iload_n hx hb dX4_as_9 rfl (lv_at hl 1 rfl) ?_
  have hPc := hP.sub (ws' := [(t0, .inr (0, [.ref tk, .ref tl, .ref tc, .int N]))]) [1] rfl
  have hDc := hD.sub (ws' := [(t0, .inr (0, [.ref tk, .ref tl, .ref tc, .int N]))]) [1] (by decide) rfl
  have hKc := hK.sub (tys' := [(cI, .int)]) [0] rfl
  have hFc := va_free (wc := [(t0, .inr (0, [.ref tk, .ref tl, .ref tc, .int N]))]) hD hS hA [1] rfl
  refine va_calli (va_runV (As := [.int i1]) (rest := []) ⟨hx, hb, hml, hown, hts⟩ (ctX0_has l dC dI cI t0 tk tl tc H.size N i1) (cwV 1 hts gX4_as_X0_has rfl rfl rfl (by decide +kernel) ⟨Nat.le_of_ble_eq_true rfl, Nat.le_of_ble_eq_true rfl⟩) (pre_V hKc hN hPc hDc (RX0, TX0, 4) 0 0 rfl rfl) rfl rfl hl.1 rfl (lv_room (Nat.le_of_ble_eq_true rfl)) dX4_as_10 ⟨Nat.le_of_ble_eq_true rfl, Nat.le_of_ble_eq_true rfl⟩) hS (fun q _ h => hFc q h) hFc (fun r _ t H locs ht hvm hw hB hz1 hk1 hS => ?_)
  try dsimp only at hw
  subst hw
  rw [ht] at hB
  obtain ⟨hP, hD⟩ := rw_join ([(x0, .inr (4, [.ref t0, .ref r0, .ref y0, .ref g0, .ref w0, .int TR, .int 0])), (t0, .inr (0, [.ref tk, .ref tl, .ref tc, .int N])), (tk, .inl (cI, 6, .inl K)), (tl, .inl (cI, 6, .inl L)), (tc, .inl (cI, 6, .inl C))]) ([(x0, .inr (4, [.ref t0, .ref r0, .ref y0, .ref g0, .ref w0, .int TR, .int 0])), (t0, .inr (0, [.ref tk, .ref tl, .ref tc, .int N])), (tk, .inl (cI, 6, .inl K)), (tl, .inl (cI, 6, .inl L)), (tc, .inl (cI, 6, .inl C))]) ([(t0, .inr (0, [.ref tk, .ref tl, .ref tc, .int N]))]) ([(t0, .inr (0, [.ref tk, .ref tl, .ref tc, .int N]))]) ([(x0, .inr (4, [.ref t0, .ref r0, .ref y0, .ref g0, .ref w0, .int TR, .int 0])), (tk, .inl (cI, 6, .inl K)), (tl, .inl (cI, 6, .inl L)), (tc, .inl (cI, 6, .inl C))]) hP hD [1] [0, 2, 3, 4] [x0, t0, tk, tl, tc] 5 rfl rfl rfl rfl rfl (by decide) rfl rfl hk1 hB
  refine lv_if_ne (tgt := 18) hx hb dX4_as_13 (by decide) (fun c_13 => ?_) (fun c_13 => ?_)
  · skip
    have j1 : vp_in i1 6 := has_in hNb c_13
    refine lv_iload_n hx hb dX4_as_18 rfl (lv_at hl 2 rfl) ?_
    refine lv_if_lt (tgt := 27) hx hb dX4_as_19 (by decide) (fun c_19 => ?_) (fun c_19 => ?_)
    · skip
      refine lv_bipush (v := (-2)) hx hb dX4_as_27 (by decide) ?_
      have hE9 : p4_as LF N K i1 i2 = ((-2), 0) := by unfold p4_as; rw [if_neg c_13, if_pos c_19]
      exact W.iret (v := (-2)) hx hb hr (fun t ht hW => ⟨⟨_, (), rfl, by rw [hE9], by show va_P (dC, dI) vwCl _ t.heap; rw [ht, hE9]; exact hP⟩, hS.F ht⟩) hS.2.2 dX4_as_29
    · skip
      refine lv_iload_n hx hb dX4_as_22 rfl (lv_at hl 2 rfl) ?_
      refine lv_iconst (v := 3) hx hb dX4_as_23 (by decide) ?_
      refine lv_icmp_lt (tgt := 30) hx hb dX4_as_24 (by decide) (fun c_24 => ?_) (fun c_24 => ?_)
      · skip
        refine lv_aload_n hx hb dX4_as_30 rfl (lv_at hl 0 rfl) ?_
        refine va_get (D := (dC, dI)) (ci := 4) (v := .ref t0) (C := RX4) (T := TX4) (N := 7) hx hb hts hin4 hown hK hP 0 rfl rfl 0 (by decide) kf_12 (fun _ h9 => h9) rfl dX4_as_31 ?_
        refine va_getN (D := (dC, dI)) (ci := 0) (v := .ref tk) (C := RX0) (T := TX0) (N := 4) hx hb hts hin0 hown hK hP 1 rfl rfl 0 (by decide) hn_78 (fun _ h9 => h9) rfl dX4_as_34 ?_
        refine lv_iload_n hx hb dX4_as_37 rfl (lv_at hl 1 rfl) ?_
        refine va_iald hx hb hK hP 2 0 rfl rfl (by assumption) dX4_as_38 ?_
        refine lv_iload_n hx hb dX4_as_39 rfl (lv_at hl 2 rfl) ?_
        refine lv_icmp_lt (tgt := 47) hx hb dX4_as_40 (by decide) (fun c_40 => ?_) (fun c_40 => ?_)
        · skip
          refine lv_aload_n hx hb dX4_as_47 rfl (lv_at hl 0 rfl) ?_
          refine lv_iconst (v := 2) hx hb dX4_as_48 (by decide) ?_
          have hPc := hP.sub (ws' := [(x0, .inr (4, [.ref t0, .ref r0, .ref y0, .ref g0, .ref w0, .int TR, .int 0]))]) [0] rfl
          have hDc := hD.sub (ws' := [(x0, .inr (4, [.ref t0, .ref r0, .ref y0, .ref g0, .ref w0, .int TR, .int 0]))]) [0] (by decide) rfl
          have hKc := hK.sub (tys' := [(cI, .int)]) [0] rfl
          have hFc := va_free (wc := [(x0, .inr (4, [.ref t0, .ref r0, .ref y0, .ref g0, .ref w0, .int TR, .int 0]))]) hD hS hA [0] rfl
          refine va_calli (va_runV (As := [.int 2]) (rest := []) ⟨hx, hb, hml, hown, hts⟩ (ctX4_failed l dC dI cI x0 t0 r0 y0 g0 w0 H.size TR 0 2) (cwV 1 hts gX4_as_X4_failed rfl rfl rfl (by decide +kernel) ⟨Nat.le_of_ble_eq_true rfl, Nat.le_of_ble_eq_true rfl⟩) (pre_V hKc hN hPc hDc (RX4, TX4, 7) 4 0 rfl rfl) rfl rfl hl.1 rfl (lv_room (Nat.le_of_ble_eq_true rfl)) dX4_as_49 ⟨Nat.le_of_ble_eq_true rfl, Nat.le_of_ble_eq_true rfl⟩) hS (fun q _ h => hFc q h) hFc (fun r_49 _ t H locs ht hvm hw hB hz1 hk1 hS => ?_)
          try dsimp only at hw
          have er_49 := hw.symm
          rw [ht] at hB
          refine nm_gen ((p4_failed 0 2).2) (fun LF_49 eLF_49 => ?_)
          rw [eLF_49] at hB
          obtain ⟨hP, hD⟩ := rw_join ([(x0, .inr (4, [.ref t0, .ref r0, .ref y0, .ref g0, .ref w0, .int TR, .int 0])), (t0, .inr (0, [.ref tk, .ref tl, .ref tc, .int N])), (tk, .inl (cI, 6, .inl K)), (tl, .inl (cI, 6, .inl L)), (tc, .inl (cI, 6, .inl C))]) ([(x0, .inr (4, [.ref t0, .ref r0, .ref y0, .ref g0, .ref w0, .int TR, .int LF_49])), (t0, .inr (0, [.ref tk, .ref tl, .ref tc, .int N])), (tk, .inl (cI, 6, .inl K)), (tl, .inl (cI, 6, .inl L)), (tc, .inl (cI, 6, .inl C))]) ([(x0, .inr (4, [.ref t0, .ref r0, .ref y0, .ref g0, .ref w0, .int TR, .int 0]))]) ([(x0, .inr (4, [.ref t0, .ref r0, .ref y0, .ref g0, .ref w0, .int TR, .int LF_49]))]) ([(t0, .inr (0, [.ref tk, .ref tl, .ref tc, .int N])), (tk, .inl (cI, 6, .inl K)), (tl, .inl (cI, 6, .inl L)), (tc, .inl (cI, 6, .inl C))]) hP hD [0] [1, 2, 3, 4] [x0, t0, tk, tl, tc] 5 rfl rfl rfl rfl rfl (by decide) rfl rfl hk1 hB
          have hE9 : p4_as LF N K i1 i2 = (r_49, LF_49) := by unfold p4_as; simp only [er_49, eLF_49]; rw [if_neg c_13, if_neg c_19, if_pos c_24, if_pos c_40]
          exact W.iret (v := r_49) hx hb hr (fun t ht hW => ⟨⟨_, (), rfl, by rw [hE9], by show va_P (dC, dI) vwCl _ t.heap; rw [ht, hE9]; exact hP⟩, hS.F ht⟩) hS.2.2 dX4_as_52
        · skip
          refine lv_iconst (v := 1) hx hb dX4_as_43 (by decide) ?_
          refine lv_goto (tgt := 52) hx hb dX4_as_44 (by decide) ?_
          have hE9 : p4_as LF N K i1 i2 = (1, 0) := by unfold p4_as; rw [if_neg c_13, if_neg c_19, if_pos c_24, if_neg c_40]
          exact W.iret (v := 1) hx hb hr (fun t ht hW => ⟨⟨_, (), rfl, by rw [hE9], by show va_P (dC, dI) vwCl _ t.heap; rw [ht, hE9]; exact hP⟩, hS.F ht⟩) hS.2.2 dX4_as_52
      · skip
        refine lv_bipush (v := (-2)) hx hb dX4_as_27 (by decide) ?_
        have hE9 : p4_as LF N K i1 i2 = ((-2), 0) := by unfold p4_as; rw [if_neg c_13, if_neg c_19, if_neg c_24]
        exact W.iret (v := (-2)) hx hb hr (fun t ht hW => ⟨⟨_, (), rfl, by rw [hE9], by show va_P (dC, dI) vwCl _ t.heap; rw [ht, hE9]; exact hP⟩, hS.F ht⟩) hS.2.2 dX4_as_29
  · skip
    refine lv_iconst (v := (-1)) hx hb dX4_as_16 (by decide) ?_
    have hE9 : p4_as LF N K i1 i2 = ((-1), 0) := by unfold p4_as; rw [if_pos c_13]
    exact W.iret (v := (-1)) hx hb hr (fun t ht hW => ⟨⟨_, (), rfl, by rw [hE9], by show va_P (dC, dI) vwCl _ t.heap; rw [ht, hE9]; exact hP⟩, hS.F ht⟩) hS.2.2 dX4_as_17

def p4_trace (TR : Int32) : Int32 :=
  TR
abbrev rmX4_trace : Room := { frames := 0, cells := 0, slots := 0, locals := 0 }
abbrev QX4_trace (dC : Nat → ClassId) (dI : Nat → Nat → Nat) (A : Nat → Prop) (cI : ClassId) (x0 : Nat) (t0 : Nat) (r0 : Nat) (y0 : Nat) (g0 : Nat) (w0 : Nat) (TR : Int32) (LF : Int32) : Array Value → State → Outcome → State → Prop := va_Qi (fun (r : Int32) (_ : Unit) => r = p4_trace TR) (fun (_ : Unit) (t : State) => va_P (dC, dI) vwCl ([(x0, .inr (4, [.ref t0, .ref r0, .ref y0, .ref g0, .ref w0, .int TR, .int LF]))]) t.heap) A
set_option maxHeartbeats 4000000 in
set_option maxRecDepth 100000 in
theorem ctX4_trace (l : Launch) (dC : Nat → ClassId) (dI : Nat → Nat → Nat) (cI : ClassId) (x0 : Nat) (t0 : Nat) (r0 : Nat) (y0 : Nat) (g0 : Nat) (w0 : Nat) (sz : Nat) (TR : Int32) (LF : Int32) : Met l yX4_trace wsX4_trace rmX4_trace (va_Pc [.ref x0] (cP dC dI [(cI, .int)] ([(x0, .inr (4, [.ref t0, .ref r0, .ref y0, .ref g0, .ref w0, .int TR, .int LF]))]) sz)) (QX4_trace dC dI (va_A ([(x0, .inr (4, [.ref t0, .ref r0, .ref y0, .ref g0, .ref w0, .int TR, .int LF]))]) sz) cI x0 t0 r0 y0 g0 w0 TR LF ) 0 0 (va_A ([(x0, .inr (4, [.ref t0, .ref r0, .ref y0, .ref g0, .ref w0, .int TR, .int LF]))]) sz) := by
  refine Met.ofW (cc := cX4_trace) (maxL := 1) (ret := (some .int)) (by decide) rfl ?_
  intro p e s m args below meth c s₁ B hml hv
  obtain ⟨rfl, hsz, hP, hK, hD0, hN⟩ := hv
  have hx := B.exec
  have hb := B.bytes
  have hr := B.returns
  have hts := atoms_spec (ws := wsX4_trace) B.pre
  have hown : s.vm.findClass RX4 = some m.cls := findClass_of_methodNamed B.named
  have hlocks := B.notSynchronized
  subst hsz
  have hD := hD0.self (sz := s.heap.size)
  generalize hAe : va_A ([(x0, .inr (4, [.ref t0, .ref r0, .ref y0, .ref g0, .ref w0, .int TR, .int LF]))]) s.heap.size = A at hD ⊢
  have hA : ∀ q : Nat, s.heap.size ≤ q → A q := fun q h => by rw [← hAe]; exact Or.inr h
  have hS : va_S A s.heap s.heap [] := va_S.rf
  have hP : va_P (dC, dI) vwCl ([(x0, .inr (4, [.ref t0, .ref r0, .ref y0, .ref g0, .ref w0, .int TR, .int LF]))]) s.heap := hP
  have hin4 : ∀ w ∈ wsX40, w ∈ wsX4_trace := by decide +kernel
  have kf_197 := hts (.fieldLink RX4 197 "RicherChange" "traced" "I") (by decide +kernel)
  have hl := lv_entry ([.ref x0]) (n := 1) (Nat.le_of_ble_eq_true rfl)
  rw [lg_entry_eq]
  generalize (lg_sl ([.ref x0]) ++ List.replicate (1 - (lg_sl ([.ref x0])).length) Slot.unset).toArray = ls at hl ⊢
  have hl : lv_has ls 1 [(0, .ref x0)] := hl
  refine lv_aload_n hx hb dX4_trace_0 rfl (lv_at hl 0 rfl) ?_
  refine va_get (D := (dC, dI)) (ci := 4) (v := .int TR) (C := RX4) (T := TX4) (N := 7) hx hb hts hin4 hown hK hP 0 rfl rfl 5 (by decide) kf_197 (fun _ h9 => h9) rfl dX4_trace_1 ?_
  have hE9 : p4_trace TR = TR := rfl
  exact W.iret (v := TR) hx hb hr (fun t ht hW => ⟨⟨_, (), rfl, by rw [hE9], by show va_P (dC, dI) vwCl _ t.heap; rw [ht]; exact hP⟩, hS.F ht⟩) hS.2.2 dX4_trace_4

def p4_fault (LF : Int32) : Int32 :=
  LF
abbrev rmX4_fault : Room := { frames := 0, cells := 0, slots := 0, locals := 0 }
abbrev QX4_fault (dC : Nat → ClassId) (dI : Nat → Nat → Nat) (A : Nat → Prop) (cI : ClassId) (x0 : Nat) (t0 : Nat) (r0 : Nat) (y0 : Nat) (g0 : Nat) (w0 : Nat) (TR : Int32) (LF : Int32) : Array Value → State → Outcome → State → Prop := va_Qi (fun (r : Int32) (_ : Unit) => r = p4_fault LF) (fun (_ : Unit) (t : State) => va_P (dC, dI) vwCl ([(x0, .inr (4, [.ref t0, .ref r0, .ref y0, .ref g0, .ref w0, .int TR, .int LF]))]) t.heap) A
set_option maxHeartbeats 4000000 in
set_option maxRecDepth 100000 in
theorem ctX4_fault (l : Launch) (dC : Nat → ClassId) (dI : Nat → Nat → Nat) (cI : ClassId) (x0 : Nat) (t0 : Nat) (r0 : Nat) (y0 : Nat) (g0 : Nat) (w0 : Nat) (sz : Nat) (TR : Int32) (LF : Int32) : Met l yX4_fault wsX4_fault rmX4_fault (va_Pc [.ref x0] (cP dC dI [(cI, .int)] ([(x0, .inr (4, [.ref t0, .ref r0, .ref y0, .ref g0, .ref w0, .int TR, .int LF]))]) sz)) (QX4_fault dC dI (va_A ([(x0, .inr (4, [.ref t0, .ref r0, .ref y0, .ref g0, .ref w0, .int TR, .int LF]))]) sz) cI x0 t0 r0 y0 g0 w0 TR LF ) 0 0 (va_A ([(x0, .inr (4, [.ref t0, .ref r0, .ref y0, .ref g0, .ref w0, .int TR, .int LF]))]) sz) := by
  refine Met.ofW (cc := cX4_fault) (maxL := 1) (ret := (some .int)) (by decide) rfl ?_
  intro p e s m args below meth c s₁ B hml hv
  obtain ⟨rfl, hsz, hP, hK, hD0, hN⟩ := hv
  have hx := B.exec
  have hb := B.bytes
  have hr := B.returns
  have hts := atoms_spec (ws := wsX4_fault) B.pre
  have hown : s.vm.findClass RX4 = some m.cls := findClass_of_methodNamed B.named
  have hlocks := B.notSynchronized
  subst hsz
  have hD := hD0.self (sz := s.heap.size)
  generalize hAe : va_A ([(x0, .inr (4, [.ref t0, .ref r0, .ref y0, .ref g0, .ref w0, .int TR, .int LF]))]) s.heap.size = A at hD ⊢
  have hA : ∀ q : Nat, s.heap.size ≤ q → A q := fun q h => by rw [← hAe]; exact Or.inr h
  have hS : va_S A s.heap s.heap [] := va_S.rf
  have hP : va_P (dC, dI) vwCl ([(x0, .inr (4, [.ref t0, .ref r0, .ref y0, .ref g0, .ref w0, .int TR, .int LF]))]) s.heap := hP
  have hin4 : ∀ w ∈ wsX40, w ∈ wsX4_fault := by decide +kernel
  have kf_42 := hts (.fieldLink RX4 42 "RicherChange" "latestFault" "I") (by decide +kernel)
  have hl := lv_entry ([.ref x0]) (n := 1) (Nat.le_of_ble_eq_true rfl)
  rw [lg_entry_eq]
  generalize (lg_sl ([.ref x0]) ++ List.replicate (1 - (lg_sl ([.ref x0])).length) Slot.unset).toArray = ls at hl ⊢
  have hl : lv_has ls 1 [(0, .ref x0)] := hl
  refine lv_aload_n hx hb dX4_fault_0 rfl (lv_at hl 0 rfl) ?_
  refine va_get (D := (dC, dI)) (ci := 4) (v := .int LF) (C := RX4) (T := TX4) (N := 7) hx hb hts hin4 hown hK hP 0 rfl rfl 6 (by decide) kf_42 (fun _ h9 => h9) rfl dX4_fault_1 ?_
  have hE9 : p4_fault LF = LF := rfl
  exact W.iret (v := LF) hx hb hr (fun t ht hW => ⟨⟨_, (), rfl, by rw [hE9], by show va_P (dC, dI) vwCl _ t.heap; rw [ht]; exact hP⟩, hS.F ht⟩) hS.2.2 dX4_fault_4

def p4_many (N : Int32) (L : Nat → Int32) (C : Nat → Int32) (GK : Int32) (i1 : Int32) : Int32 :=
  if i1 = 0 then
    N
  else
    if i1 = 1 then
      (p0_sum N L)
    else
      if i1 = 2 then
        (p0_sum N C)
      else
        if i1 = 3 then
          GK
        else
          (-2)
abbrev rmX4_many : Room := { frames := 1, cells := 0, slots := 0, locals := 23 }
abbrev QX4_many (dC : Nat → ClassId) (dI : Nat → Nat → Nat) (A : Nat → Prop) (cI : ClassId) (x0 : Nat) (t0 : Nat) (r0 : Nat) (y0 : Nat) (g0 : Nat) (w0 : Nat) (tk : Nat) (tl : Nat) (tc : Nat) (gn : Nat) (gc : Nat) (gh : Nat) (TR : Int32) (LF : Int32) (N : Int32) (K : Nat → Int32) (L : Nat → Int32) (C : Nat → Int32) (GK : Int32) (GN : Nat → Int32) (GC : Nat → Int32) (GH : Nat → Int32) (i1 : Int32) : Array Value → State → Outcome → State → Prop := va_Qi (fun (r : Int32) (_ : Unit) => r = p4_many N L C GK i1) (fun (_ : Unit) (t : State) => va_P (dC, dI) vwCl ([(x0, .inr (4, [.ref t0, .ref r0, .ref y0, .ref g0, .ref w0, .int TR, .int LF])), (t0, .inr (0, [.ref tk, .ref tl, .ref tc, .int N])), (tk, .inl (cI, 6, .inl K)), (tl, .inl (cI, 6, .inl L)), (tc, .inl (cI, 6, .inl C)), (g0, .inr (1, [.ref gn, .ref gc, .ref gh, .int GK])), (gn, .inl (cI, 8, .inl GN)), (gc, .inl (cI, 8, .inl GC)), (gh, .inl (cI, 8, .inl GH))]) t.heap) A
set_option maxHeartbeats 4000000 in
set_option maxRecDepth 100000 in
theorem ctX4_many (l : Launch) (dC : Nat → ClassId) (dI : Nat → Nat → Nat) (cI : ClassId) (x0 : Nat) (t0 : Nat) (r0 : Nat) (y0 : Nat) (g0 : Nat) (w0 : Nat) (tk : Nat) (tl : Nat) (tc : Nat) (gn : Nat) (gc : Nat) (gh : Nat) (sz : Nat) (TR : Int32) (LF : Int32) (N : Int32) (K : Nat → Int32) (L : Nat → Int32) (C : Nat → Int32) (GK : Int32) (GN : Nat → Int32) (GC : Nat → Int32) (GH : Nat → Int32) (i1 : Int32) (hNb : N.toInt ≤ 6) : Met l yX4_many wsX4_many rmX4_many (va_Pc [.ref x0, .int i1] (cP dC dI [(cI, .int)] ([(x0, .inr (4, [.ref t0, .ref r0, .ref y0, .ref g0, .ref w0, .int TR, .int LF])), (t0, .inr (0, [.ref tk, .ref tl, .ref tc, .int N])), (tk, .inl (cI, 6, .inl K)), (tl, .inl (cI, 6, .inl L)), (tc, .inl (cI, 6, .inl C)), (g0, .inr (1, [.ref gn, .ref gc, .ref gh, .int GK])), (gn, .inl (cI, 8, .inl GN)), (gc, .inl (cI, 8, .inl GC)), (gh, .inl (cI, 8, .inl GH))]) sz)) (QX4_many dC dI (va_A ([(x0, .inr (4, [.ref t0, .ref r0, .ref y0, .ref g0, .ref w0, .int TR, .int LF])), (t0, .inr (0, [.ref tk, .ref tl, .ref tc, .int N])), (tk, .inl (cI, 6, .inl K)), (tl, .inl (cI, 6, .inl L)), (tc, .inl (cI, 6, .inl C)), (g0, .inr (1, [.ref gn, .ref gc, .ref gh, .int GK])), (gn, .inl (cI, 8, .inl GN)), (gc, .inl (cI, 8, .inl GC)), (gh, .inl (cI, 8, .inl GH))]) sz) cI x0 t0 r0 y0 g0 w0 tk tl tc gn gc gh TR LF N K L C GK GN GC GH i1) 0 0 (va_A ([(x0, .inr (4, [.ref t0, .ref r0, .ref y0, .ref g0, .ref w0, .int TR, .int LF])), (t0, .inr (0, [.ref tk, .ref tl, .ref tc, .int N])), (tk, .inl (cI, 6, .inl K)), (tl, .inl (cI, 6, .inl L)), (tc, .inl (cI, 6, .inl C)), (g0, .inr (1, [.ref gn, .ref gc, .ref gh, .int GK])), (gn, .inl (cI, 8, .inl GN)), (gc, .inl (cI, 8, .inl GC)), (gh, .inl (cI, 8, .inl GH))]) sz) := by
  refine Met.ofW (cc := cX4_many) (maxL := 2) (ret := (some .int)) (by decide) rfl ?_
  intro p e s m args below meth c s₁ B hml hv
  obtain ⟨rfl, hsz, hP, hK, hD0, hN⟩ := hv
  have hx := B.exec
  have hb := B.bytes
  have hr := B.returns
  have hts := atoms_spec (ws := wsX4_many) B.pre
  have hown : s.vm.findClass RX4 = some m.cls := findClass_of_methodNamed B.named
  have hlocks := B.notSynchronized
  subst hsz
  have hD := hD0.self (sz := s.heap.size)
  generalize hAe : va_A ([(x0, .inr (4, [.ref t0, .ref r0, .ref y0, .ref g0, .ref w0, .int TR, .int LF])), (t0, .inr (0, [.ref tk, .ref tl, .ref tc, .int N])), (tk, .inl (cI, 6, .inl K)), (tl, .inl (cI, 6, .inl L)), (tc, .inl (cI, 6, .inl C)), (g0, .inr (1, [.ref gn, .ref gc, .ref gh, .int GK])), (gn, .inl (cI, 8, .inl GN)), (gc, .inl (cI, 8, .inl GC)), (gh, .inl (cI, 8, .inl GH))]) s.heap.size = A at hD ⊢
  have hA : ∀ q : Nat, s.heap.size ≤ q → A q := fun q h => by rw [← hAe]; exact Or.inr h
  have hS : va_S A s.heap s.heap [] := va_S.rf
  have hP : va_P (dC, dI) vwCl ([(x0, .inr (4, [.ref t0, .ref r0, .ref y0, .ref g0, .ref w0, .int TR, .int LF])), (t0, .inr (0, [.ref tk, .ref tl, .ref tc, .int N])), (tk, .inl (cI, 6, .inl K)), (tl, .inl (cI, 6, .inl L)), (tc, .inl (cI, 6, .inl C)), (g0, .inr (1, [.ref gn, .ref gc, .ref gh, .int GK])), (gn, .inl (cI, 8, .inl GN)), (gc, .inl (cI, 8, .inl GC)), (gh, .inl (cI, 8, .inl GH))]) s.heap := hP
  have hin0 : ∀ w ∈ wsX00, w ∈ wsX4_many := by decide +kernel
  have hin1 : ∀ w ∈ wsX10, w ∈ wsX4_many := by decide +kernel
  have hin4 : ∀ w ∈ wsX40, w ∈ wsX4_many := by decide +kernel
  have kf_12 := hts (.fieldLink RX4 12 "RicherChange" "town" "LRicherChange$City;") (by decide +kernel)
  have kf_31 := hts (.fieldLink RX4 31 "RicherChange" "readings" "LRicherChange$Readings;") (by decide +kernel)
  have hn_72 := va_Nw.use (A := [.ref x0, .int i1].toArray) rfl hN.2.2.2.1
  have hn_82 := va_Nw.use (A := [.ref x0, .int i1].toArray) rfl hN.2.1
  have hn_85 := va_Nw.use (A := [.ref x0, .int i1].toArray) rfl hN.2.2.1
  have hn_138 := va_Nw.use (A := [.ref x0, .int i1].toArray) rfl hN.2.2.2.2.2.2.1
  have hl := lv_entry ([.ref x0, .int i1]) (n := 2) (Nat.le_of_ble_eq_true rfl)
  rw [lg_entry_eq]
  generalize (lg_sl ([.ref x0, .int i1]) ++ List.replicate (2 - (lg_sl ([.ref x0, .int i1])).length) Slot.unset).toArray = ls at hl ⊢
  have hl : lv_has ls 2 [(0, .ref x0), (1, .int i1)] := hl
  refine lv_iload_n hx hb dX4_many_0 rfl (lv_at hl 1 rfl) ?_
  by_cases c_1_0 : i1 = 0
  · skip
    refine lv_tableIn (off := 31) (tgt := 32) hx hb dX4_many_1 (by rw [c_1_0]; decide) (by rw [c_1_0]; decide) (by rw [c_1_0]; decide) (by decide) ?_
    refine lv_aload_n hx hb dX4_many_32 rfl (lv_at hl 0 rfl) ?_
    refine va_get (D := (dC, dI)) (ci := 4) (v := .ref t0) (C := RX4) (T := TX4) (N := 7) hx hb hts hin4 hown hK hP 0 rfl rfl 0 (by decide) kf_12 (fun _ h9 => h9) rfl dX4_many_33 ?_
    refine va_getN (D := (dC, dI)) (ci := 0) (v := .int N) (C := RX0) (T := TX0) (N := 4) hx hb hts hin0 hown hK hP 1 rfl rfl 3 (by decide) hn_72 (fun _ h9 => h9) rfl dX4_many_36 ?_
    have hE9 : p4_many N L C GK i1 = N := by unfold p4_many; rw [if_pos c_1_0]
    exact W.iret (v := N) hx hb hr (fun t ht hW => ⟨⟨_, (), rfl, by rw [hE9], by show va_P (dC, dI) vwCl _ t.heap; rw [ht]; exact hP⟩, hS.F ht⟩) hS.2.2 dX4_many_39
  · skip
    by_cases c_1_1 : i1 = 1
    · skip
      refine lv_tableIn (off := 39) (tgt := 40) hx hb dX4_many_1 (by rw [c_1_1]; decide) (by rw [c_1_1]; decide) (by rw [c_1_1]; decide) (by decide) ?_
      refine lv_aload_n hx hb dX4_many_40 rfl (lv_at hl 0 rfl) ?_
      refine va_get (D := (dC, dI)) (ci := 4) (v := .ref t0) (C := RX4) (T := TX4) (N := 7) hx hb hts hin4 hown hK hP 0 rfl rfl 0 (by decide) kf_12 (fun _ h9 => h9) rfl dX4_many_41 ?_
      refine lv_aload_n hx hb dX4_many_44 rfl (lv_at hl 0 rfl) ?_
      refine va_get (D := (dC, dI)) (ci := 4) (v := .ref t0) (C := RX4) (T := TX4) (N := 7) hx hb hts hin4 hown hK hP 0 rfl rfl 0 (by decide) kf_12 (fun _ h9 => h9) rfl dX4_many_45 ?_
      refine va_getN (D := (dC, dI)) (ci := 0) (v := .ref tl) (C := RX0) (T := TX0) (N := 4) hx hb hts hin0 hown hK hP 1 rfl rfl 1 (by decide) hn_82 (fun _ h9 => h9) rfl dX4_many_48 ?_
      have hPc := hP.sub (ws' := [(t0, .inr (0, [.ref tk, .ref tl, .ref tc, .int N])), (tl, .inl (cI, 6, .inl L))]) [1, 3] rfl
      have hDc := hD.sub (ws' := [(t0, .inr (0, [.ref tk, .ref tl, .ref tc, .int N])), (tl, .inl (cI, 6, .inl L))]) [1, 3] (by decide) rfl
      have hKc := hK.sub (tys' := [(cI, .int)]) [0] rfl
      have hFc := va_free (wc := [(t0, .inr (0, [.ref tk, .ref tl, .ref tc, .int N])), (tl, .inl (cI, 6, .inl L))]) hD hS hA [1, 3] rfl
      refine va_calli (va_runV (As := [.ref tl]) (rest := []) ⟨hx, hb, hml, hown, hts⟩ (ctX0_sum l dC dI cI t0 tk tl tc tl s.heap.size N L (by assumption)) (cwV 1 hts gX4_many_X0_sum rfl rfl rfl (by decide +kernel) ⟨Nat.le_of_ble_eq_true rfl, Nat.le_of_ble_eq_true rfl⟩) (pre_V hKc hN hPc hDc (RX0, TX0, 4) 0 0 rfl rfl) rfl rfl hl.1 rfl (lv_room (Nat.le_of_ble_eq_true rfl)) dX4_many_51 ⟨Nat.le_of_ble_eq_true rfl, Nat.le_of_ble_eq_true rfl⟩) hS (fun q _ h => hFc q h) hFc (fun r _ t H locs ht hvm hw hB hz1 hk1 hS => ?_)
      try dsimp only at hw
      subst hw
      rw [ht] at hB
      obtain ⟨hP, hD⟩ := rw_join ([(x0, .inr (4, [.ref t0, .ref r0, .ref y0, .ref g0, .ref w0, .int TR, .int LF])), (t0, .inr (0, [.ref tk, .ref tl, .ref tc, .int N])), (tk, .inl (cI, 6, .inl K)), (tl, .inl (cI, 6, .inl L)), (tc, .inl (cI, 6, .inl C)), (g0, .inr (1, [.ref gn, .ref gc, .ref gh, .int GK])), (gn, .inl (cI, 8, .inl GN)), (gc, .inl (cI, 8, .inl GC)), (gh, .inl (cI, 8, .inl GH))]) ([(x0, .inr (4, [.ref t0, .ref r0, .ref y0, .ref g0, .ref w0, .int TR, .int LF])), (t0, .inr (0, [.ref tk, .ref tl, .ref tc, .int N])), (tk, .inl (cI, 6, .inl K)), (tl, .inl (cI, 6, .inl L)), (tc, .inl (cI, 6, .inl C)), (g0, .inr (1, [.ref gn, .ref gc, .ref gh, .int GK])), (gn, .inl (cI, 8, .inl GN)), (gc, .inl (cI, 8, .inl GC)), (gh, .inl (cI, 8, .inl GH))]) ([(t0, .inr (0, [.ref tk, .ref tl, .ref tc, .int N])), (tl, .inl (cI, 6, .inl L))]) ([(t0, .inr (0, [.ref tk, .ref tl, .ref tc, .int N])), (tl, .inl (cI, 6, .inl L))]) ([(x0, .inr (4, [.ref t0, .ref r0, .ref y0, .ref g0, .ref w0, .int TR, .int LF])), (tk, .inl (cI, 6, .inl K)), (tc, .inl (cI, 6, .inl C)), (g0, .inr (1, [.ref gn, .ref gc, .ref gh, .int GK])), (gn, .inl (cI, 8, .inl GN)), (gc, .inl (cI, 8, .inl GC)), (gh, .inl (cI, 8, .inl GH))]) hP hD [1, 3] [0, 2, 4, 5, 6, 7, 8] [x0, t0, tk, tl, tc, g0, gn, gc, gh] 9 rfl rfl rfl rfl rfl (by decide) rfl rfl hk1 hB
      have hE9 : p4_many N L C GK i1 = (p0_sum N L) := by unfold p4_many; rw [if_neg c_1_0, if_pos c_1_1]
      exact W.iret (v := (p0_sum N L)) hx hb hr (fun t ht hW => ⟨⟨_, (), rfl, by rw [hE9], by show va_P (dC, dI) vwCl _ t.heap; rw [ht]; exact hP⟩, hS.F ht⟩) hS.2.2 dX4_many_54
    · skip
      by_cases c_1_2 : i1 = 2
      · skip
        refine lv_tableIn (off := 54) (tgt := 55) hx hb dX4_many_1 (by rw [c_1_2]; decide) (by rw [c_1_2]; decide) (by rw [c_1_2]; decide) (by decide) ?_
        refine lv_aload_n hx hb dX4_many_55 rfl (lv_at hl 0 rfl) ?_
        refine va_get (D := (dC, dI)) (ci := 4) (v := .ref t0) (C := RX4) (T := TX4) (N := 7) hx hb hts hin4 hown hK hP 0 rfl rfl 0 (by decide) kf_12 (fun _ h9 => h9) rfl dX4_many_56 ?_
        refine lv_aload_n hx hb dX4_many_59 rfl (lv_at hl 0 rfl) ?_
        refine va_get (D := (dC, dI)) (ci := 4) (v := .ref t0) (C := RX4) (T := TX4) (N := 7) hx hb hts hin4 hown hK hP 0 rfl rfl 0 (by decide) kf_12 (fun _ h9 => h9) rfl dX4_many_60 ?_
        refine va_getN (D := (dC, dI)) (ci := 0) (v := .ref tc) (C := RX0) (T := TX0) (N := 4) hx hb hts hin0 hown hK hP 1 rfl rfl 2 (by decide) hn_85 (fun _ h9 => h9) rfl dX4_many_63 ?_
        have hPc := hP.sub (ws' := [(t0, .inr (0, [.ref tk, .ref tl, .ref tc, .int N])), (tc, .inl (cI, 6, .inl C))]) [1, 4] rfl
        have hDc := hD.sub (ws' := [(t0, .inr (0, [.ref tk, .ref tl, .ref tc, .int N])), (tc, .inl (cI, 6, .inl C))]) [1, 4] (by decide) rfl
        have hKc := hK.sub (tys' := [(cI, .int)]) [0] rfl
        have hFc := va_free (wc := [(t0, .inr (0, [.ref tk, .ref tl, .ref tc, .int N])), (tc, .inl (cI, 6, .inl C))]) hD hS hA [1, 4] rfl
        refine va_calli (va_runV (As := [.ref tc]) (rest := []) ⟨hx, hb, hml, hown, hts⟩ (ctX0_sum l dC dI cI t0 tk tl tc tc s.heap.size N C (by assumption)) (cwV 1 hts gX4_many_X0_sum rfl rfl rfl (by decide +kernel) ⟨Nat.le_of_ble_eq_true rfl, Nat.le_of_ble_eq_true rfl⟩) (pre_V hKc hN hPc hDc (RX0, TX0, 4) 0 0 rfl rfl) rfl rfl hl.1 rfl (lv_room (Nat.le_of_ble_eq_true rfl)) dX4_many_66 ⟨Nat.le_of_ble_eq_true rfl, Nat.le_of_ble_eq_true rfl⟩) hS (fun q _ h => hFc q h) hFc (fun r _ t H locs ht hvm hw hB hz1 hk1 hS => ?_)
        try dsimp only at hw
        subst hw
        rw [ht] at hB
        obtain ⟨hP, hD⟩ := rw_join ([(x0, .inr (4, [.ref t0, .ref r0, .ref y0, .ref g0, .ref w0, .int TR, .int LF])), (t0, .inr (0, [.ref tk, .ref tl, .ref tc, .int N])), (tk, .inl (cI, 6, .inl K)), (tl, .inl (cI, 6, .inl L)), (tc, .inl (cI, 6, .inl C)), (g0, .inr (1, [.ref gn, .ref gc, .ref gh, .int GK])), (gn, .inl (cI, 8, .inl GN)), (gc, .inl (cI, 8, .inl GC)), (gh, .inl (cI, 8, .inl GH))]) ([(x0, .inr (4, [.ref t0, .ref r0, .ref y0, .ref g0, .ref w0, .int TR, .int LF])), (t0, .inr (0, [.ref tk, .ref tl, .ref tc, .int N])), (tk, .inl (cI, 6, .inl K)), (tl, .inl (cI, 6, .inl L)), (tc, .inl (cI, 6, .inl C)), (g0, .inr (1, [.ref gn, .ref gc, .ref gh, .int GK])), (gn, .inl (cI, 8, .inl GN)), (gc, .inl (cI, 8, .inl GC)), (gh, .inl (cI, 8, .inl GH))]) ([(t0, .inr (0, [.ref tk, .ref tl, .ref tc, .int N])), (tc, .inl (cI, 6, .inl C))]) ([(t0, .inr (0, [.ref tk, .ref tl, .ref tc, .int N])), (tc, .inl (cI, 6, .inl C))]) ([(x0, .inr (4, [.ref t0, .ref r0, .ref y0, .ref g0, .ref w0, .int TR, .int LF])), (tk, .inl (cI, 6, .inl K)), (tl, .inl (cI, 6, .inl L)), (g0, .inr (1, [.ref gn, .ref gc, .ref gh, .int GK])), (gn, .inl (cI, 8, .inl GN)), (gc, .inl (cI, 8, .inl GC)), (gh, .inl (cI, 8, .inl GH))]) hP hD [1, 4] [0, 2, 3, 5, 6, 7, 8] [x0, t0, tk, tl, tc, g0, gn, gc, gh] 9 rfl rfl rfl rfl rfl (by decide) rfl rfl hk1 hB
        have hE9 : p4_many N L C GK i1 = (p0_sum N C) := by unfold p4_many; rw [if_neg c_1_0, if_neg c_1_1, if_pos c_1_2]
        exact W.iret (v := (p0_sum N C)) hx hb hr (fun t ht hW => ⟨⟨_, (), rfl, by rw [hE9], by show va_P (dC, dI) vwCl _ t.heap; rw [ht]; exact hP⟩, hS.F ht⟩) hS.2.2 dX4_many_69
      · skip
        by_cases c_1_3 : i1 = 3
        · skip
          refine lv_tableIn (off := 69) (tgt := 70) hx hb dX4_many_1 (by rw [c_1_3]; decide) (by rw [c_1_3]; decide) (by rw [c_1_3]; decide) (by decide) ?_
          refine lv_aload_n hx hb dX4_many_70 rfl (lv_at hl 0 rfl) ?_
          refine va_get (D := (dC, dI)) (ci := 4) (v := .ref g0) (C := RX4) (T := TX4) (N := 7) hx hb hts hin4 hown hK hP 0 rfl rfl 3 (by decide) kf_31 (fun _ h9 => h9) rfl dX4_many_71 ?_
          refine va_getN (D := (dC, dI)) (ci := 1) (v := .int GK) (C := RX1) (T := TX1) (N := 4) hx hb hts hin1 hown hK hP 5 rfl rfl 3 (by decide) hn_138 (fun _ h9 => h9) rfl dX4_many_74 ?_
          have hE9 : p4_many N L C GK i1 = GK := by unfold p4_many; rw [if_neg c_1_0, if_neg c_1_1, if_neg c_1_2, if_pos c_1_3]
          exact W.iret (v := GK) hx hb hr (fun t ht hW => ⟨⟨_, (), rfl, by rw [hE9], by show va_P (dC, dI) vwCl _ t.heap; rw [ht]; exact hP⟩, hS.F ht⟩) hS.2.2 dX4_many_77
        · skip
          refine lv_tableOut (tgt := 78) hx hb dX4_many_1 (sw_out4 c_1_0 c_1_1 c_1_2 c_1_3) (by decide) ?_
          refine lv_bipush (v := (-2)) hx hb dX4_many_78 (by decide) ?_
          have hE9 : p4_many N L C GK i1 = (-2) := by unfold p4_many; rw [if_neg c_1_0, if_neg c_1_1, if_neg c_1_2, if_neg c_1_3]
          exact W.iret (v := (-2)) hx hb hr (fun t ht hW => ⟨⟨_, (), rfl, by rw [hE9], by show va_P (dC, dI) vwCl _ t.heap; rw [ht]; exact hP⟩, hS.F ht⟩) hS.2.2 dX4_many_80

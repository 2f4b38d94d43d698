def p5_readsHouse (mra : Int32) (mrh : Int32) (RK : Nat → Int32) (RL : Nat → Int32) (RC : Nat → Int32) (SH : Nat → Int32) (i1 : Int32) (i2 : Int32) : Int32 × Int32 × Int32 × (Nat → Int32) × (Nat → Int32) × (Nat → Int32) :=
  if mrh = 6 then
    (0, mra, mrh, RK, RL, RC)
  else
    if (p5_codeAt mra SH i1 i2) = 59 then
      if (p5_codeAt (mra + 1) SH i1 i2) = 104 then
        if 0 ≤ ((p5_figure ((mra + 1) + 1) SH i1 i2).1) then
          if 0 ≤ ((p5_figure ((p5_figure ((mra + 1) + 1) SH i1 i2).2) SH i1 i2).1) then
            (1, ((p5_figure ((p5_figure ((mra + 1) + 1) SH i1 i2).2) SH i1 i2).2), (mrh + 1), (upd RK mrh.toNatClampNeg 0), (upd RL mrh.toNatClampNeg ((p5_figure ((mra + 1) + 1) SH i1 i2).1)), (upd RC mrh.toNatClampNeg ((p5_figure ((p5_figure ((mra + 1) + 1) SH i1 i2).2) SH i1 i2).1)))
          else
            (0, ((p5_figure ((p5_figure ((mra + 1) + 1) SH i1 i2).2) SH i1 i2).2), mrh, RK, RL, RC)
        else
          (0, ((p5_figure ((mra + 1) + 1) SH i1 i2).2), mrh, RK, RL, RC)
      else
        if (p5_codeAt (mra + 1) SH i1 i2) = 107 then
          if 0 ≤ ((p5_figure ((mra + 1) + 1) SH i1 i2).1) then
            if 0 ≤ ((p5_figure ((p5_figure ((mra + 1) + 1) SH i1 i2).2) SH i1 i2).1) then
              (1, ((p5_figure ((p5_figure ((mra + 1) + 1) SH i1 i2).2) SH i1 i2).2), (mrh + 1), (upd RK mrh.toNatClampNeg 1), (upd RL mrh.toNatClampNeg ((p5_figure ((mra + 1) + 1) SH i1 i2).1)), (upd RC mrh.toNatClampNeg ((p5_figure ((p5_figure ((mra + 1) + 1) SH i1 i2).2) SH i1 i2).1)))
            else
              (0, ((p5_figure ((p5_figure ((mra + 1) + 1) SH i1 i2).2) SH i1 i2).2), mrh, RK, RL, RC)
          else
            (0, ((p5_figure ((mra + 1) + 1) SH i1 i2).2), mrh, RK, RL, RC)
        else
          if (p5_codeAt (mra + 1) SH i1 i2) = 116 then
            if 0 ≤ ((p5_figure ((mra + 1) + 1) SH i1 i2).1) then
              if 0 ≤ ((p5_figure ((p5_figure ((mra + 1) + 1) SH i1 i2).2) SH i1 i2).1) then
                (1, ((p5_figure ((p5_figure ((mra + 1) + 1) SH i1 i2).2) SH i1 i2).2), (mrh + 1), (upd RK mrh.toNatClampNeg 2), (upd RL mrh.toNatClampNeg ((p5_figure ((mra + 1) + 1) SH i1 i2).1)), (upd RC mrh.toNatClampNeg ((p5_figure ((p5_figure ((mra + 1) + 1) SH i1 i2).2) SH i1 i2).1)))
              else
                (0, ((p5_figure ((p5_figure ((mra + 1) + 1) SH i1 i2).2) SH i1 i2).2), mrh, RK, RL, RC)
            else
              (0, ((p5_figure ((mra + 1) + 1) SH i1 i2).2), mrh, RK, RL, RC)
          else
            (0, (mra + 1), mrh, RK, RL, RC)
    else
      (0, mra, mrh, RK, RL, RC)
abbrev rmX5_readsHouse : Room := { frames := 2, cells := 0, slots := 0, locals := 49 }
abbrev QX5_readsHouse (dC : Nat → ClassId) (dI : Nat → Nat → Nat) (A : Nat → Prop) (cI : ClassId) (m0 : Nat) (m2 : Nat) (m3 : Nat) (m4 : Nat) (m7 : Nat) (m8 : Nat) (m9 : Nat) (m10 : Nat) (m11 : Nat) (m12 : Nat) (m17 : Nat) (m18 : Nat) (m19 : Nat) (m20 : Nat) (m21 : Nat) (m22 : Nat) (m23 : Nat) (mfa : Int32) (mho : Int32) (mra : Int32) (mrh : Int32) (mch : Int32) (mfr : Int32) (mfw : Int32) (mrd : Int32) (mtr : Int32) (RK : Nat → Int32) (RL : Nat → Int32) (RC : Nat → Int32) (SH : Nat → Int32) (i1 : Int32) (i2 : Int32) : Array Value → State → Outcome → State → Prop := va_Qi (fun (r : Int32) (_ : Unit) => r = (p5_readsHouse mra mrh RK RL RC SH i1 i2).1) (fun (_ : Unit) (t : State) => va_P (dC, dI) vwCl ([(m0, .inr (5, [.int mfa, .int mho, .ref m2, .ref m3, .ref m4, .int ((p5_readsHouse mra mrh RK RL RC SH i1 i2).2.1), .int ((p5_readsHouse mra mrh RK RL RC SH i1 i2).2.2.1), .ref m7, .ref m8, .ref m9, .ref m10, .ref m11, .ref m12, .int mch, .int mfr, .int mfw, .int mrd, .ref m17, .ref m18, .ref m19, .ref m20, .ref m21, .ref m22, .ref m23, .int mtr])), (m7, .inl (cI, 6, .inl ((p5_readsHouse mra mrh RK RL RC SH i1 i2).2.2.2.1))), (m8, .inl (cI, 6, .inl ((p5_readsHouse mra mrh RK RL RC SH i1 i2).2.2.2.2.1))), (m9, .inl (cI, 6, .inl ((p5_readsHouse mra mrh RK RL RC SH i1 i2).2.2.2.2.2))), (m22, .inl (cI, 240, .inl SH))]) t.heap) A
set_option maxHeartbeats 4000000 in
set_option maxRecDepth 100000 in
theorem ctX5_readsHouse (l : Launch) (dC : Nat → ClassId) (dI : Nat → Nat → Nat) (cI : ClassId) (m0 : Nat) (m2 : Nat) (m3 : Nat) (m4 : Nat) (m7 : Nat) (m8 : Nat) (m9 : Nat) (m10 : Nat) (m11 : Nat) (m12 : Nat) (m17 : Nat) (m18 : Nat) (m19 : Nat) (m20 : Nat) (m21 : Nat) (m22 : Nat) (m23 : Nat) (sz : Nat) (mfa : Int32) (mho : Int32) (mra : Int32) (mrh : Int32) (mch : Int32) (mfr : Int32) (mfw : Int32) (mrd : Int32) (mtr : Int32) (RK : Nat → Int32) (RL : Nat → Int32) (RC : Nat → Int32) (SH : Nat → Int32) (i1 : Int32) (i2 : Int32) (hra : 0 ≤ mra.toInt ∧ mra.toInt ≤ 100) (hfn : 0 ≤ i1.toInt ∧ i1.toInt + i2.toInt ≤ 240) (hrh : 0 ≤ mrh.toInt ∧ mrh.toInt ≤ 6) : Met l yX5_readsHouse wsX5_readsHouse rmX5_readsHouse (va_Pc [.ref m0, .int i1, .int i2] (cP dC dI [(cI, .int)] ([(m0, .inr (5, [.int mfa, .int mho, .ref m2, .ref m3, .ref m4, .int mra, .int mrh, .ref m7, .ref m8, .ref m9, .ref m10, .ref m11, .ref m12, .int mch, .int mfr, .int mfw, .int mrd, .ref m17, .ref m18, .ref m19, .ref m20, .ref m21, .ref m22, .ref m23, .int mtr])), (m7, .inl (cI, 6, .inl RK)), (m8, .inl (cI, 6, .inl RL)), (m9, .inl (cI, 6, .inl RC)), (m22, .inl (cI, 240, .inl SH))]) sz)) (QX5_readsHouse dC dI (va_A ([(m0, .inr (5, [.int mfa, .int mho, .ref m2, .ref m3, .ref m4, .int mra, .int mrh, .ref m7, .ref m8, .ref m9, .ref m10, .ref m11, .ref m12, .int mch, .int mfr, .int mfw, .int mrd, .ref m17, .ref m18, .ref m19, .ref m20, .ref m21, .ref m22, .ref m23, .int mtr])), (m7, .inl (cI, 6, .inl RK)), (m8, .inl (cI, 6, .inl RL)), (m9, .inl (cI, 6, .inl RC)), (m22, .inl (cI, 240, .inl SH))]) sz) cI m0 m2 m3 m4 m7 m8 m9 m10 m11 m12 m17 m18 m19 m20 m21 m22 m23 mfa mho mra mrh mch mfr mfw mrd mtr RK RL RC SH i1 i2) 0 0 (va_A ([(m0, .inr (5, [.int mfa, .int mho, .ref m2, .ref m3, .ref m4, .int mra, .int mrh, .ref m7, .ref m8, .ref m9, .ref m10, .ref m11, .ref m12, .int mch, .int mfr, .int mfw, .int mrd, .ref m17, .ref m18, .ref m19, .ref m20, .ref m21, .ref m22, .ref m23, .int mtr])), (m7, .inl (cI, 6, .inl RK)), (m8, .inl (cI, 6, .inl RL)), (m9, .inl (cI, 6, .inl RC)), (m22, .inl (cI, 240, .inl SH))]) sz) := by
  refine Met.ofW (cc := cX5_readsHouse) (maxL := 6) (ret := (some .boolean)) (by decide) rfl ?_
  intro p e s m args below meth c s₁ B hml hv
  obtain ⟨rfl, hsz, hP, hK, hD0, hN⟩ := hv
  have hx := B.exec
  have hb := B.bytes
  have hr := B.returns
  have hts := atoms_spec (ws := wsX5_readsHouse) B.pre
  have hown : s.vm.findClass RX5 = some m.cls := findClass_of_methodNamed B.named
  have hlocks := B.notSynchronized
  subst hsz
  have hD := hD0.self (sz := s.heap.size)
  generalize hAe : va_A ([(m0, .inr (5, [.int mfa, .int mho, .ref m2, .ref m3, .ref m4, .int mra, .int mrh, .ref m7, .ref m8, .ref m9, .ref m10, .ref m11, .ref m12, .int mch, .int mfr, .int mfw, .int mrd, .ref m17, .ref m18, .ref m19, .ref m20, .ref m21, .ref m22, .ref m23, .int mtr])), (m7, .inl (cI, 6, .inl RK)), (m8, .inl (cI, 6, .inl RL)), (m9, .inl (cI, 6, .inl RC)), (m22, .inl (cI, 240, .inl SH))]) s.heap.size = A at hD ⊢
  have hA : ∀ q : Nat, s.heap.size ≤ q → A q := fun q h => by rw [← hAe]; exact Or.inr h
  have hS : va_S A s.heap s.heap [] := va_S.rf
  have hP : va_P (dC, dI) vwCl ([(m0, .inr (5, [.int mfa, .int mho, .ref m2, .ref m3, .ref m4, .int mra, .int mrh, .ref m7, .ref m8, .ref m9, .ref m10, .ref m11, .ref m12, .int mch, .int mfr, .int mfw, .int mrd, .ref m17, .ref m18, .ref m19, .ref m20, .ref m21, .ref m22, .ref m23, .int mtr])), (m7, .inl (cI, 6, .inl RK)), (m8, .inl (cI, 6, .inl RL)), (m9, .inl (cI, 6, .inl RC)), (m22, .inl (cI, 240, .inl SH))]) s.heap := hP
  have hin5 : ∀ w ∈ wsX50, w ∈ wsX5_readsHouse := by decide +kernel
  have kf_19 := hts (.fieldLink RX5 19 "RicherChangeModel" "readKind" "[I") (by decide +kernel)
  have kf_22 := hts (.fieldLink RX5 22 "RicherChangeModel" "readLand" "[I") (by decide +kernel)
  have kf_25 := hts (.fieldLink RX5 25 "RicherChangeModel" "readCoin" "[I") (by decide +kernel)
  have kf_77 := hts (.fieldLink RX5 77 "RicherChangeModel" "readAt" "I") (by decide +kernel)
  have kf_84 := hts (.fieldLink RX5 84 "RicherChangeModel" "readHouses" "I") (by decide +kernel)
  have hl := lv_entry ([.ref m0, .int i1, .int i2]) (n := 6) (Nat.le_of_ble_eq_true rfl)
  rw [lg_entry_eq]
  generalize (lg_sl ([.ref m0, .int i1, .int i2]) ++ List.replicate (6 - (lg_sl ([.ref m0, .int i1, .int i2])).length) Slot.unset).toArray = ls at hl ⊢
  have hl : lv_has ls 6 [(0, .ref m0), (1, .int i1), (2, .int i2)] := hl
  refine lv_aload_n hx hb dX5_readsHouse_0 rfl (lv_at hl 0 rfl) ?_
  refine va_get (D := (dC, dI)) (ci := 5) (v := .int mrh) (C := RX5) (T := TX5) (N := 25) hx hb hts hin5 hown hK hP 0 rfl rfl 6 (by decide) kf_84 (fun _ h9 => h9) rfl dX5_readsHouse_1 ?_
  refine lv_bipush (v := 6) hx hb dX5_readsHouse_4 (by decide) ?_
  refine lv_icmp_eq (tgt := 20) hx hb dX5_readsHouse_6 (by decide) (fun c_6 => ?_) (fun c_6 => ?_)
  · skip
    refine lv_iconst (v := 0) hx hb dX5_readsHouse_20 (by decide) ?_
    have hE9 : p5_readsHouse mra mrh RK RL RC SH i1 i2 = (0, mra, mrh, RK, RL, RC) := by unfold p5_readsHouse; rw [if_pos c_6]
    exact W.zret (v := 0) hx hb hr (by decide +kernel) (fun t ht hW => ⟨⟨_, (), rfl, by rw [hE9], by show va_P (dC, dI) vwCl _ t.heap; rw [ht, hE9]; exact hP⟩, hS.F ht⟩) hS.2.2 dX5_readsHouse_21
  · skip
    refine lv_aload_n hx hb dX5_readsHouse_9 rfl (lv_at hl 0 rfl) ?_
    refine lv_iload_n hx hb dX5_readsHouse_10 rfl (lv_at hl 1 rfl) ?_
    refine lv_iload_n hx hb dX5_readsHouse_11 rfl (lv_at hl 2 rfl) ?_
    have hPc := hP.sub (ws' := [(m0, .inr (5, [.int mfa, .int mho, .ref m2, .ref m3, .ref m4, .int mra, .int mrh, .ref m7, .ref m8, .ref m9, .ref m10, .ref m11, .ref m12, .int mch, .int mfr, .int mfw, .int mrd, .ref m17, .ref m18, .ref m19, .ref m20, .ref m21, .ref m22, .ref m23, .int mtr])), (m22, .inl (cI, 240, .inl SH))]) [0, 4] rfl
    have hDc := hD.sub (ws' := [(m0, .inr (5, [.int mfa, .int mho, .ref m2, .ref m3, .ref m4, .int mra, .int mrh, .ref m7, .ref m8, .ref m9, .ref m10, .ref m11, .ref m12, .int mch, .int mfr, .int mfw, .int mrd, .ref m17, .ref m18, .ref m19, .ref m20, .ref m21, .ref m22, .ref m23, .int mtr])), (m22, .inl (cI, 240, .inl SH))]) [0, 4] (by decide) rfl
    have hKc := hK.sub (tys' := [(cI, .int)]) [0] rfl
    have hFc := va_free (wc := [(m0, .inr (5, [.int mfa, .int mho, .ref m2, .ref m3, .ref m4, .int mra, .int mrh, .ref m7, .ref m8, .ref m9, .ref m10, .ref m11, .ref m12, .int mch, .int mfr, .int mfw, .int mrd, .ref m17, .ref m18, .ref m19, .ref m20, .ref m21, .ref m22, .ref m23, .int mtr])), (m22, .inl (cI, 240, .inl SH))]) hD hS hA [0, 4] rfl
    refine va_calli (va_runV (As := [.int i1, .int i2]) (rest := []) ⟨hx, hb, hml, hown, hts⟩ (ctX5_codeAt l dC dI cI m0 m2 m3 m4 m7 m8 m9 m10 m11 m12 m17 m18 m19 m20 m21 m22 m23 s.heap.size mfa mho mra mrh mch mfr mfw mrd mtr SH i1 i2 hra.1 (by assumption)) (cwV 2 hts gX5_readsHouse_X5_codeAt rfl rfl rfl (by decide +kernel) ⟨Nat.le_of_ble_eq_true rfl, Nat.le_of_ble_eq_true rfl⟩) (pre_V hKc hN hPc hDc (RX5, TX5, 25) 5 0 rfl rfl) rfl rfl hl.1 rfl (lv_room (Nat.le_of_ble_eq_true rfl)) dX5_readsHouse_12 ⟨Nat.le_of_ble_eq_true rfl, Nat.le_of_ble_eq_true rfl⟩) hS (fun q _ h => hFc q h) hFc (fun r _ t H locs ht hvm hw hB hz1 hk1 hS => ?_)
    try dsimp only at hw
    subst hw
    rw [ht] at hB
    obtain ⟨hP, hD⟩ := rw_join ([(m0, .inr (5, [.int mfa, .int mho, .ref m2, .ref m3, .ref m4, .int mra, .int mrh, .ref m7, .ref m8, .ref m9, .ref m10, .ref m11, .ref m12, .int mch, .int mfr, .int mfw, .int mrd, .ref m17, .ref m18, .ref m19, .ref m20, .ref m21, .ref m22, .ref m23, .int mtr])), (m7, .inl (cI, 6, .inl RK)), (m8, .inl (cI, 6, .inl RL)), (m9, .inl (cI, 6, .inl RC)), (m22, .inl (cI, 240, .inl SH))]) ([(m0, .inr (5, [.int mfa, .int mho, .ref m2, .ref m3, .ref m4, .int mra, .int mrh, .ref m7, .ref m8, .ref m9, .ref m10, .ref m11, .ref m12, .int mch, .int mfr, .int mfw, .int mrd, .ref m17, .ref m18, .ref m19, .ref m20, .ref m21, .ref m22, .ref m23, .int mtr])), (m7, .inl (cI, 6, .inl RK)), (m8, .inl (cI, 6, .inl RL)), (m9, .inl (cI, 6, .inl RC)), (m22, .inl (cI, 240, .inl SH))]) ([(m0, .inr (5, [.int mfa, .int mho, .ref m2, .ref m3, .ref m4, .int mra, .int mrh, .ref m7, .ref m8, .ref m9, .ref m10, .ref m11, .ref m12, .int mch, .int mfr, .int mfw, .int mrd, .ref m17, .ref m18, .ref m19, .ref m20, .ref m21, .ref m22, .ref m23, .int mtr])), (m22, .inl (cI, 240, .inl SH))]) ([(m0, .inr (5, [.int mfa, .int mho, .ref m2, .ref m3, .ref m4, .int mra, .int mrh, .ref m7, .ref m8, .ref m9, .ref m10, .ref m11, .ref m12, .int mch, .int mfr, .int mfw, .int mrd, .ref m17, .ref m18, .ref m19, .ref m20, .ref m21, .ref m22, .ref m23, .int mtr])), (m22, .inl (cI, 240, .inl SH))]) ([(m7, .inl (cI, 6, .inl RK)), (m8, .inl (cI, 6, .inl RL)), (m9, .inl (cI, 6, .inl RC))]) hP hD [0, 4] [1, 2, 3] [m0, m7, m8, m9, m22] 5 rfl rfl rfl rfl rfl (by decide) rfl rfl hk1 hB
    refine lv_bipush (v := 59) hx hb dX5_readsHouse_15 (by decide) ?_
    refine lv_icmp_eq (tgt := 22) hx hb dX5_readsHouse_17 (by decide) (fun c_17 => ?_) (fun c_17 => ?_)
    · skip
      refine lv_aload_n hx hb dX5_readsHouse_22 rfl (lv_at hl 0 rfl) ?_
      refine lv_dup hx hb dX5_readsHouse_23 rfl ?_
      refine va_get (D := (dC, dI)) (ci := 5) (v := .int mra) (C := RX5) (T := TX5) (N := 25) hx hb hts hin5 hown hK hP 0 rfl rfl 5 (by decide) kf_77 (fun _ h9 => h9) rfl dX5_readsHouse_24 ?_
      refine lv_iconst (v := 1) hx hb dX5_readsHouse_27 (by decide) ?_
      refine lv_iadd hx hb dX5_readsHouse_28 ?_
      refine va_put (D := (dC, dI)) (ci := 5) (v := .int (mra + 1)) (ty := .int) (C := RX5) (T := TX5) (N := 25) hx hb hts hin5 tyX5 tyX5_ok nmX5 hown hK hP hD hS 0 rfl rfl 5 (by decide) kf_77 (fun _ h9 => h9) rfl (by decide +kernel) rfl rfl (Nat.le_of_ble_eq_true rfl) dX5_readsHouse_29 (fun H locs hP hD hS => ?_)
      have hP : va_P (dC, dI) vwCl ([(m0, .inr (5, [.int mfa, .int mho, .ref m2, .ref m3, .ref m4, .int (mra + 1), .int mrh, .ref m7, .ref m8, .ref m9, .ref m10, .ref m11, .ref m12, .int mch, .int mfr, .int mfw, .int mrd, .ref m17, .ref m18, .ref m19, .ref m20, .ref m21, .ref m22, .ref m23, .int mtr])), (m7, .inl (cI, 6, .inl RK)), (m8, .inl (cI, 6, .inl RL)), (m9, .inl (cI, 6, .inl RC)), (m22, .inl (cI, 240, .inl SH))]) H := hP
      have hD : va_D A ([(m0, .inr (5, [.int mfa, .int mho, .ref m2, .ref m3, .ref m4, .int (mra + 1), .int mrh, .ref m7, .ref m8, .ref m9, .ref m10, .ref m11, .ref m12, .int mch, .int mfr, .int mfw, .int mrd, .ref m17, .ref m18, .ref m19, .ref m20, .ref m21, .ref m22, .ref m23, .int mtr])), (m7, .inl (cI, 6, .inl RK)), (m8, .inl (cI, 6, .inl RL)), (m9, .inl (cI, 6, .inl RC)), (m22, .inl (cI, 240, .inl SH))]) := hD
      refine lv_aload_n hx hb dX5_readsHouse_32 rfl (lv_at hl 0 rfl) ?_
      refine lv_iload_n hx hb dX5_readsHouse_33 rfl (lv_at hl 1 rfl) ?_
      refine lv_iload_n hx hb dX5_readsHouse_34 rfl (lv_at hl 2 rfl) ?_
      have hPc := hP.sub (ws' := [(m0, .inr (5, [.int mfa, .int mho, .ref m2, .ref m3, .ref m4, .int (mra + 1), .int mrh, .ref m7, .ref m8, .ref m9, .ref m10, .ref m11, .ref m12, .int mch, .int mfr, .int mfw, .int mrd, .ref m17, .ref m18, .ref m19, .ref m20, .ref m21, .ref m22, .ref m23, .int mtr])), (m22, .inl (cI, 240, .inl SH))]) [0, 4] rfl
      have hDc := hD.sub (ws' := [(m0, .inr (5, [.int mfa, .int mho, .ref m2, .ref m3, .ref m4, .int (mra + 1), .int mrh, .ref m7, .ref m8, .ref m9, .ref m10, .ref m11, .ref m12, .int mch, .int mfr, .int mfw, .int mrd, .ref m17, .ref m18, .ref m19, .ref m20, .ref m21, .ref m22, .ref m23, .int mtr])), (m22, .inl (cI, 240, .inl SH))]) [0, 4] (by decide) rfl
      have hKc := hK.sub (tys' := [(cI, .int)]) [0] rfl
      have hFc := va_free (wc := [(m0, .inr (5, [.int mfa, .int mho, .ref m2, .ref m3, .ref m4, .int (mra + 1), .int mrh, .ref m7, .ref m8, .ref m9, .ref m10, .ref m11, .ref m12, .int mch, .int mfr, .int mfw, .int mrd, .ref m17, .ref m18, .ref m19, .ref m20, .ref m21, .ref m22, .ref m23, .int mtr])), (m22, .inl (cI, 240, .inl SH))]) hD hS hA [0, 4] rfl
      refine va_calli (va_runV (As := [.int i1, .int i2]) (rest := []) ⟨hx, hb, hml, hown, hts⟩ (ctX5_codeAt l dC dI cI m0 m2 m3 m4 m7 m8 m9 m10 m11 m12 m17 m18 m19 m20 m21 m22 m23 H.size mfa mho (mra + 1) mrh mch mfr mfw mrd mtr SH i1 i2 (ra1 hra) (by assumption)) (cwV 2 hts gX5_readsHouse_X5_codeAt rfl rfl rfl (by decide +kernel) ⟨Nat.le_of_ble_eq_true rfl, Nat.le_of_ble_eq_true rfl⟩) (pre_V hKc hN hPc hDc (RX5, TX5, 25) 5 0 rfl rfl) rfl rfl hl.1 rfl (lv_room (Nat.le_of_ble_eq_true rfl)) dX5_readsHouse_35 ⟨Nat.le_of_ble_eq_true rfl, Nat.le_of_ble_eq_true rfl⟩) hS (fun q _ h => hFc q h) hFc (fun r _ t H locs ht hvm hw hB hz1 hk1 hS => ?_)
      try dsimp only at hw
      subst hw
      rw [ht] at hB
      obtain ⟨hP, hD⟩ := rw_join ([(m0, .inr (5, [.int mfa, .int mho, .ref m2, .ref m3, .ref m4, .int (mra + 1), .int mrh, .ref m7, .ref m8, .ref m9, .ref m10, .ref m11, .ref m12, .int mch, .int mfr, .int mfw, .int mrd, .ref m17, .ref m18, .ref m19, .ref m20, .ref m21, .ref m22, .ref m23, .int mtr])), (m7, .inl (cI, 6, .inl RK)), (m8, .inl (cI, 6, .inl RL)), (m9, .inl (cI, 6, .inl RC)), (m22, .inl (cI, 240, .inl SH))]) ([(m0, .inr (5, [.int mfa, .int mho, .ref m2, .ref m3, .ref m4, .int (mra + 1), .int mrh, .ref m7, .ref m8, .ref m9, .ref m10, .ref m11, .ref m12, .int mch, .int mfr, .int mfw, .int mrd, .ref m17, .ref m18, .ref m19, .ref m20, .ref m21, .ref m22, .ref m23, .int mtr])), (m7, .inl (cI, 6, .inl RK)), (m8, .inl (cI, 6, .inl RL)), (m9, .inl (cI, 6, .inl RC)), (m22, .inl (cI, 240, .inl SH))]) ([(m0, .inr (5, [.int mfa, .int mho, .ref m2, .ref m3, .ref m4, .int (mra + 1), .int mrh, .ref m7, .ref m8, .ref m9, .ref m10, .ref m11, .ref m12, .int mch, .int mfr, .int mfw, .int mrd, .ref m17, .ref m18, .ref m19, .ref m20, .ref m21, .ref m22, .ref m23, .int mtr])), (m22, .inl (cI, 240, .inl SH))]) ([(m0, .inr (5, [.int mfa, .int mho, .ref m2, .ref m3, .ref m4, .int (mra + 1), .int mrh, .ref m7, .ref m8, .ref m9, .ref m10, .ref m11, .ref m12, .int mch, .int mfr, .int mfw, .int mrd, .ref m17, .ref m18, .ref m19, .ref m20, .ref m21, .ref m22, .ref m23, .int mtr])), (m22, .inl (cI, 240, .inl SH))]) ([(m7, .inl (cI, 6, .inl RK)), (m8, .inl (cI, 6, .inl RL)), (m9, .inl (cI, 6, .inl RC))]) hP hD [0, 4] [1, 2, 3] [m0, m7, m8, m9, m22] 5 rfl rfl rfl rfl rfl (by decide) rfl rfl hk1 hB
      refine lv_istore_n (lv' := [(3, .int (p5_codeAt (mra + 1) SH i1 i2)), (0, .ref m0), (1, .int i1), (2, .int i2)]) hx hb dX5_readsHouse_38 rfl hl (by decide) rfl (fun ls hl => ?_)
      refine lv_iload_n hx hb dX5_readsHouse_39 rfl (lv_at hl 0 rfl) ?_
      refine lv_bipush (v := 104) hx hb dX5_readsHouse_40 (by decide) ?_
      refine lv_icmp_eq (tgt := 59) hx hb dX5_readsHouse_42 (by decide) (fun c_42 => ?_) (fun c_42 => ?_)
      · skip
        refine lv_aload_n hx hb dX5_readsHouse_59 rfl (lv_at hl 1 rfl) ?_
        refine lv_dup hx hb dX5_readsHouse_60 rfl ?_
        refine va_get (D := (dC, dI)) (ci := 5) (v := .int (mra + 1)) (C := RX5) (T := TX5) (N := 25) hx hb hts hin5 hown hK hP 0 rfl rfl 5 (by decide) kf_77 (fun _ h9 => h9) rfl dX5_readsHouse_61 ?_
        refine lv_iconst (v := 1) hx hb dX5_readsHouse_64 (by decide) ?_
        refine lv_iadd hx hb dX5_readsHouse_65 ?_
        refine va_put (D := (dC, dI)) (ci := 5) (v := .int ((mra + 1) + 1)) (ty := .int) (C := RX5) (T := TX5) (N := 25) hx hb hts hin5 tyX5 tyX5_ok nmX5 hown hK hP hD hS 0 rfl rfl 5 (by decide) kf_77 (fun _ h9 => h9) rfl (by decide +kernel) rfl rfl (Nat.le_of_ble_eq_true rfl) dX5_readsHouse_66 (fun H locs hP hD hS => ?_)
        have hP : va_P (dC, dI) vwCl ([(m0, .inr (5, [.int mfa, .int mho, .ref m2, .ref m3, .ref m4, .int ((mra + 1) + 1), .int mrh, .ref m7, .ref m8, .ref m9, .ref m10, .ref m11, .ref m12, .int mch, .int mfr, .int mfw, .int mrd, .ref m17, .ref m18, .ref m19, .ref m20, .ref m21, .ref m22, .ref m23, .int mtr])), (m7, .inl (cI, 6, .inl RK)), (m8, .inl (cI, 6, .inl RL)), (m9, .inl (cI, 6, .inl RC)), (m22, .inl (cI, 240, .inl SH))]) H := hP
        have hD : va_D A ([(m0, .inr (5, [.int mfa, .int mho, .ref m2, .ref m3, .ref m4, .int ((mra + 1) + 1), .int mrh, .ref m7, .ref m8, .ref m9, .ref m10, .ref m11, .ref m12, .int mch, .int mfr, .int mfw, .int mrd, .ref m17, .ref m18, .ref m19, .ref m20, .ref m21, .ref m22, .ref m23, .int mtr])), (m7, .inl (cI, 6, .inl RK)), (m8, .inl (cI, 6, .inl RL)), (m9, .inl (cI, 6, .inl RC)), (m22, .inl (cI, 240, .inl SH))]) := hD
        refine lv_aload_n hx hb dX5_readsHouse_69 rfl (lv_at hl 1 rfl) ?_
        refine lv_iload_n hx hb dX5_readsHouse_70 rfl (lv_at hl 2 rfl) ?_
        refine lv_iload_n hx hb dX5_readsHouse_71 rfl (lv_at hl 3 rfl) ?_
        have hPc := hP.sub (ws' := [(m0, .inr (5, [.int mfa, .int mho, .ref m2, .ref m3, .ref m4, .int ((mra + 1) + 1), .int mrh, .ref m7, .ref m8, .ref m9, .ref m10, .ref m11, .ref m12, .int mch, .int mfr, .int mfw, .int mrd, .ref m17, .ref m18, .ref m19, .ref m20, .ref m21, .ref m22, .ref m23, .int mtr])), (m22, .inl (cI, 240, .inl SH))]) [0, 4] rfl
        have hDc := hD.sub (ws' := [(m0, .inr (5, [.int mfa, .int mho, .ref m2, .ref m3, .ref m4, .int ((mra + 1) + 1), .int mrh, .ref m7, .ref m8, .ref m9, .ref m10, .ref m11, .ref m12, .int mch, .int mfr, .int mfw, .int mrd, .ref m17, .ref m18, .ref m19, .ref m20, .ref m21, .ref m22, .ref m23, .int mtr])), (m22, .inl (cI, 240, .inl SH))]) [0, 4] (by decide) rfl
        have hKc := hK.sub (tys' := [(cI, .int)]) [0] rfl
        have hFc := va_free (wc := [(m0, .inr (5, [.int mfa, .int mho, .ref m2, .ref m3, .ref m4, .int ((mra + 1) + 1), .int mrh, .ref m7, .ref m8, .ref m9, .ref m10, .ref m11, .ref m12, .int mch, .int mfr, .int mfw, .int mrd, .ref m17, .ref m18, .ref m19, .ref m20, .ref m21, .ref m22, .ref m23, .int mtr])), (m22, .inl (cI, 240, .inl SH))]) hD hS hA [0, 4] rfl
        refine va_calli (va_runV (As := [.int i1, .int i2]) (rest := []) ⟨hx, hb, hml, hown, hts⟩ (ctX5_figure l dC dI cI m0 m2 m3 m4 m7 m8 m9 m10 m11 m12 m17 m18 m19 m20 m21 m22 m23 H.size mfa mho ((mra + 1) + 1) mrh mch mfr mfw mrd mtr SH i1 i2 (ra2 hra) (by assumption)) (cwV 2 hts gX5_readsHouse_X5_figure rfl rfl rfl (by decide +kernel) ⟨Nat.le_of_ble_eq_true rfl, Nat.le_of_ble_eq_true rfl⟩) (pre_V hKc hN hPc hDc (RX5, TX5, 25) 5 0 rfl rfl) rfl rfl hl.1 rfl (lv_room (Nat.le_of_ble_eq_true rfl)) dX5_readsHouse_72 ⟨Nat.le_of_ble_eq_true rfl, Nat.le_of_ble_eq_true rfl⟩) hS (fun q _ h => hFc q h) hFc (fun r_72 _ t H locs ht hvm hw hB hz1 hk1 hS => ?_)
        try dsimp only at hw
        have er_72 := hw.symm
        rw [ht] at hB
        refine nm_gen ((p5_figure ((mra + 1) + 1) SH i1 i2).2) (fun mra_72 emra_72 => ?_)
        rw [emra_72] at hB
        obtain ⟨hP, hD⟩ := rw_join ([(m0, .inr (5, [.int mfa, .int mho, .ref m2, .ref m3, .ref m4, .int ((mra + 1) + 1), .int mrh, .ref m7, .ref m8, .ref m9, .ref m10, .ref m11, .ref m12, .int mch, .int mfr, .int mfw, .int mrd, .ref m17, .ref m18, .ref m19, .ref m20, .ref m21, .ref m22, .ref m23, .int mtr])), (m7, .inl (cI, 6, .inl RK)), (m8, .inl (cI, 6, .inl RL)), (m9, .inl (cI, 6, .inl RC)), (m22, .inl (cI, 240, .inl SH))]) ([(m0, .inr (5, [.int mfa, .int mho, .ref m2, .ref m3, .ref m4, .int mra_72, .int mrh, .ref m7, .ref m8, .ref m9, .ref m10, .ref m11, .ref m12, .int mch, .int mfr, .int mfw, .int mrd, .ref m17, .ref m18, .ref m19, .ref m20, .ref m21, .ref m22, .ref m23, .int mtr])), (m7, .inl (cI, 6, .inl RK)), (m8, .inl (cI, 6, .inl RL)), (m9, .inl (cI, 6, .inl RC)), (m22, .inl (cI, 240, .inl SH))]) ([(m0, .inr (5, [.int mfa, .int mho, .ref m2, .ref m3, .ref m4, .int ((mra + 1) + 1), .int mrh, .ref m7, .ref m8, .ref m9, .ref m10, .ref m11, .ref m12, .int mch, .int mfr, .int mfw, .int mrd, .ref m17, .ref m18, .ref m19, .ref m20, .ref m21, .ref m22, .ref m23, .int mtr])), (m22, .inl (cI, 240, .inl SH))]) ([(m0, .inr (5, [.int mfa, .int mho, .ref m2, .ref m3, .ref m4, .int mra_72, .int mrh, .ref m7, .ref m8, .ref m9, .ref m10, .ref m11, .ref m12, .int mch, .int mfr, .int mfw, .int mrd, .ref m17, .ref m18, .ref m19, .ref m20, .ref m21, .ref m22, .ref m23, .int mtr])), (m22, .inl (cI, 240, .inl SH))]) ([(m7, .inl (cI, 6, .inl RK)), (m8, .inl (cI, 6, .inl RL)), (m9, .inl (cI, 6, .inl RC))]) hP hD [0, 4] [1, 2, 3] [m0, m7, m8, m9, m22] 5 rfl rfl rfl rfl rfl (by decide) rfl rfl hk1 hB
        refine lv_istore (lv' := [(4, .int r_72), (3, .int (p5_codeAt (mra + 1) SH i1 i2)), (0, .ref m0), (1, .int i1), (2, .int i2)]) hx hb dX5_readsHouse_75 hl (by decide) rfl (fun ls hl => ?_)
        refine lv_iload hx hb dX5_readsHouse_77 (lv_at hl 0 rfl) ?_
        refine lv_if_ge (tgt := 87) hx hb dX5_readsHouse_79 (by decide) (fun c_79 => ?_) (fun c_79 => ?_)
        · skip
          refine lv_aload_n hx hb dX5_readsHouse_87 rfl (lv_at hl 2 rfl) ?_
          refine lv_iload_n hx hb dX5_readsHouse_88 rfl (lv_at hl 3 rfl) ?_
          refine lv_iload_n hx hb dX5_readsHouse_89 rfl (lv_at hl 4 rfl) ?_
          have hPc := hP.sub (ws' := [(m0, .inr (5, [.int mfa, .int mho, .ref m2, .ref m3, .ref m4, .int mra_72, .int mrh, .ref m7, .ref m8, .ref m9, .ref m10, .ref m11, .ref m12, .int mch, .int mfr, .int mfw, .int mrd, .ref m17, .ref m18, .ref m19, .ref m20, .ref m21, .ref m22, .ref m23, .int mtr])), (m22, .inl (cI, 240, .inl SH))]) [0, 4] rfl
          have hDc := hD.sub (ws' := [(m0, .inr (5, [.int mfa, .int mho, .ref m2, .ref m3, .ref m4, .int mra_72, .int mrh, .ref m7, .ref m8, .ref m9, .ref m10, .ref m11, .ref m12, .int mch, .int mfr, .int mfw, .int mrd, .ref m17, .ref m18, .ref m19, .ref m20, .ref m21, .ref m22, .ref m23, .int mtr])), (m22, .inl (cI, 240, .inl SH))]) [0, 4] (by decide) rfl
          have hKc := hK.sub (tys' := [(cI, .int)]) [0] rfl
          have hFc := va_free (wc := [(m0, .inr (5, [.int mfa, .int mho, .ref m2, .ref m3, .ref m4, .int mra_72, .int mrh, .ref m7, .ref m8, .ref m9, .ref m10, .ref m11, .ref m12, .int mch, .int mfr, .int mfw, .int mrd, .ref m17, .ref m18, .ref m19, .ref m20, .ref m21, .ref m22, .ref m23, .int mtr])), (m22, .inl (cI, 240, .inl SH))]) hD hS hA [0, 4] rfl
          refine va_calli (va_runV (As := [.int i1, .int i2]) (rest := []) ⟨hx, hb, hml, hown, hts⟩ (ctX5_figure l dC dI cI m0 m2 m3 m4 m7 m8 m9 m10 m11 m12 m17 m18 m19 m20 m21 m22 m23 H.size mfa mho mra_72 mrh mch mfr mfw mrd mtr SH i1 i2 (by rw [← emra_72]; exact figure_nn (ra2 hra) (ra2b hra)) (by assumption)) (cwV 2 hts gX5_readsHouse_X5_figure rfl rfl rfl (by decide +kernel) ⟨Nat.le_of_ble_eq_true rfl, Nat.le_of_ble_eq_true rfl⟩) (pre_V hKc hN hPc hDc (RX5, TX5, 25) 5 0 rfl rfl) rfl rfl hl.1 rfl (lv_room (Nat.le_of_ble_eq_true rfl)) dX5_readsHouse_90 ⟨Nat.le_of_ble_eq_true rfl, Nat.le_of_ble_eq_true rfl⟩) hS (fun q _ h => hFc q h) hFc (fun r_90 _ t H locs ht hvm hw hB hz1 hk1 hS => ?_)
          try dsimp only at hw
          have er_90 := hw.symm
          rw [ht] at hB
          refine nm_gen ((p5_figure mra_72 SH i1 i2).2) (fun mra_90 emra_90 => ?_)
          rw [emra_90] at hB
          obtain ⟨hP, hD⟩ := rw_join ([(m0, .inr (5, [.int mfa, .int mho, .ref m2, .ref m3, .ref m4, .int mra_72, .int mrh, .ref m7, .ref m8, .ref m9, .ref m10, .ref m11, .ref m12, .int mch, .int mfr, .int mfw, .int mrd, .ref m17, .ref m18, .ref m19, .ref m20, .ref m21, .ref m22, .ref m23, .int mtr])), (m7, .inl (cI, 6, .inl RK)), (m8, .inl (cI, 6, .inl RL)), (m9, .inl (cI, 6, .inl RC)), (m22, .inl (cI, 240, .inl SH))]) ([(m0, .inr (5, [.int mfa, .int mho, .ref m2, .ref m3, .ref m4, .int mra_90, .int mrh, .ref m7, .ref m8, .ref m9, .ref m10, .ref m11, .ref m12, .int mch, .int mfr, .int mfw, .int mrd, .ref m17, .ref m18, .ref m19, .ref m20, .ref m21, .ref m22, .ref m23, .int mtr])), (m7, .inl (cI, 6, .inl RK)), (m8, .inl (cI, 6, .inl RL)), (m9, .inl (cI, 6, .inl RC)), (m22, .inl (cI, 240, .inl SH))]) ([(m0, .inr (5, [.int mfa, .int mho, .ref m2, .ref m3, .ref m4, .int mra_72, .int mrh, .ref m7, .ref m8, .ref m9, .ref m10, .ref m11, .ref m12, .int mch, .int mfr, .int mfw, .int mrd, .ref m17, .ref m18, .ref m19, .ref m20, .ref m21, .ref m22, .ref m23, .int mtr])), (m22, .inl (cI, 240, .inl SH))]) ([(m0, .inr (5, [.int mfa, .int mho, .ref m2, .ref m3, .ref m4, .int mra_90, .int mrh, .ref m7, .ref m8, .ref m9, .ref m10, .ref m11, .ref m12, .int mch, .int mfr, .int mfw, .int mrd, .ref m17, .ref m18, .ref m19, .ref m20, .ref m21, .ref m22, .ref m23, .int mtr])), (m22, .inl (cI, 240, .inl SH))]) ([(m7, .inl (cI, 6, .inl RK)), (m8, .inl (cI, 6, .inl RL)), (m9, .inl (cI, 6, .inl RC))]) hP hD [0, 4] [1, 2, 3] [m0, m7, m8, m9, m22] 5 rfl rfl rfl rfl rfl (by decide) rfl rfl hk1 hB
          refine lv_istore (lv' := [(5, .int r_90), (4, .int r_72), (3, .int (p5_codeAt (mra + 1) SH i1 i2)), (0, .ref m0), (1, .int i1), (2, .int i2)]) hx hb dX5_readsHouse_93 hl (by decide) rfl (fun ls hl => ?_)
          refine lv_iload hx hb dX5_readsHouse_95 (lv_at hl 0 rfl) ?_
          refine lv_if_ge (tgt := 102) hx hb dX5_readsHouse_97 (by decide) (fun c_97 => ?_) (fun c_97 => ?_)
          · skip
            have jh : vp_in mrh 6 := rh_ix hrh c_6
            refine lv_aload_n hx hb dX5_readsHouse_102 rfl (lv_at hl 3 rfl) ?_
            refine va_get (D := (dC, dI)) (ci := 5) (v := .ref m7) (C := RX5) (T := TX5) (N := 25) hx hb hts hin5 hown hK hP 0 rfl rfl 7 (by decide) kf_19 (fun _ h9 => h9) rfl dX5_readsHouse_103 ?_
            refine lv_aload_n hx hb dX5_readsHouse_106 rfl (lv_at hl 3 rfl) ?_
            refine va_get (D := (dC, dI)) (ci := 5) (v := .int mrh) (C := RX5) (T := TX5) (N := 25) hx hb hts hin5 hown hK hP 0 rfl rfl 6 (by decide) kf_84 (fun _ h9 => h9) rfl dX5_readsHouse_107 ?_
            refine lv_iload_n hx hb dX5_readsHouse_110 rfl (lv_at hl 2 rfl) ?_
            refine lv_bipush (v := 104) hx hb dX5_readsHouse_111 (by decide) ?_
            refine lv_icmp_ne (tgt := 120) hx hb dX5_readsHouse_113 (by decide) (fun c_113 => ?_) (fun c_113 => ?_)
            · exact absurd c_42 c_113
            · skip
              refine lv_iconst (v := 0) hx hb dX5_readsHouse_116 (by decide) ?_
              refine lv_goto (tgt := 131) hx hb dX5_readsHouse_117 (by decide) ?_
              refine va_iast hx hb hK hP hD hS 1 0 rfl rfl (by assumption) dX5_readsHouse_131 (fun H locs hP hD hS => ?_)
              have hP : va_P (dC, dI) vwCl ([(m0, .inr (5, [.int mfa, .int mho, .ref m2, .ref m3, .ref m4, .int mra_90, .int mrh, .ref m7, .ref m8, .ref m9, .ref m10, .ref m11, .ref m12, .int mch, .int mfr, .int mfw, .int mrd, .ref m17, .ref m18, .ref m19, .ref m20, .ref m21, .ref m22, .ref m23, .int mtr])), (m7, .inl (cI, 6, .inl (upd RK mrh.toNatClampNeg 0))), (m8, .inl (cI, 6, .inl RL)), (m9, .inl (cI, 6, .inl RC)), (m22, .inl (cI, 240, .inl SH))]) H := hP
              have hD : va_D A ([(m0, .inr (5, [.int mfa, .int mho, .ref m2, .ref m3, .ref m4, .int mra_90, .int mrh, .ref m7, .ref m8, .ref m9, .ref m10, .ref m11, .ref m12, .int mch, .int mfr, .int mfw, .int mrd, .ref m17, .ref m18, .ref m19, .ref m20, .ref m21, .ref m22, .ref m23, .int mtr])), (m7, .inl (cI, 6, .inl (upd RK mrh.toNatClampNeg 0))), (m8, .inl (cI, 6, .inl RL)), (m9, .inl (cI, 6, .inl RC)), (m22, .inl (cI, 240, .inl SH))]) := hD
              refine lv_aload_n hx hb dX5_readsHouse_132 rfl (lv_at hl 3 rfl) ?_
              refine va_get (D := (dC, dI)) (ci := 5) (v := .ref m8) (C := RX5) (T := TX5) (N := 25) hx hb hts hin5 hown hK hP 0 rfl rfl 8 (by decide) kf_22 (fun _ h9 => h9) rfl dX5_readsHouse_133 ?_
              refine lv_aload_n hx hb dX5_readsHouse_136 rfl (lv_at hl 3 rfl) ?_
              refine va_get (D := (dC, dI)) (ci := 5) (v := .int mrh) (C := RX5) (T := TX5) (N := 25) hx hb hts hin5 hown hK hP 0 rfl rfl 6 (by decide) kf_84 (fun _ h9 => h9) rfl dX5_readsHouse_137 ?_
              refine lv_iload hx hb dX5_readsHouse_140 (lv_at hl 1 rfl) ?_
              refine va_iast hx hb hK hP hD hS 2 0 rfl rfl (by assumption) dX5_readsHouse_142 (fun H locs hP hD hS => ?_)
              have hP : va_P (dC, dI) vwCl ([(m0, .inr (5, [.int mfa, .int mho, .ref m2, .ref m3, .ref m4, .int mra_90, .int mrh, .ref m7, .ref m8, .ref m9, .ref m10, .ref m11, .ref m12, .int mch, .int mfr, .int mfw, .int mrd, .ref m17, .ref m18, .ref m19, .ref m20, .ref m21, .ref m22, .ref m23, .int mtr])), (m7, .inl (cI, 6, .inl (upd RK mrh.toNatClampNeg 0))), (m8, .inl (cI, 6, .inl (upd RL mrh.toNatClampNeg r_72))), (m9, .inl (cI, 6, .inl RC)), (m22, .inl (cI, 240, .inl SH))]) H := hP
              have hD : va_D A ([(m0, .inr (5, [.int mfa, .int mho, .ref m2, .ref m3, .ref m4, .int mra_90, .int mrh, .ref m7, .ref m8, .ref m9, .ref m10, .ref m11, .ref m12, .int mch, .int mfr, .int mfw, .int mrd, .ref m17, .ref m18, .ref m19, .ref m20, .ref m21, .ref m22, .ref m23, .int mtr])), (m7, .inl (cI, 6, .inl (upd RK mrh.toNatClampNeg 0))), (m8, .inl (cI, 6, .inl (upd RL mrh.toNatClampNeg r_72))), (m9, .inl (cI, 6, .inl RC)), (m22, .inl (cI, 240, .inl SH))]) := hD
              refine lv_aload_n hx hb dX5_readsHouse_143 rfl (lv_at hl 3 rfl) ?_
              refine va_get (D := (dC, dI)) (ci := 5) (v := .ref m9) (C := RX5) (T := TX5) (N := 25) hx hb hts hin5 hown hK hP 0 rfl rfl 9 (by decide) kf_25 (fun _ h9 => h9) rfl dX5_readsHouse_144 ?_
              refine lv_aload_n hx hb dX5_readsHouse_147 rfl (lv_at hl 3 rfl) ?_
              refine va_get (D := (dC, dI)) (ci := 5) (v := .int mrh) (C := RX5) (T := TX5) (N := 25) hx hb hts hin5 hown hK hP 0 rfl rfl 6 (by decide) kf_84 (fun _ h9 => h9) rfl dX5_readsHouse_148 ?_
              refine lv_iload hx hb dX5_readsHouse_151 (lv_at hl 0 rfl) ?_
              refine va_iast hx hb hK hP hD hS 3 0 rfl rfl (by assumption) dX5_readsHouse_153 (fun H locs hP hD hS => ?_)
              have hP : va_P (dC, dI) vwCl ([(m0, .inr (5, [.int mfa, .int mho, .ref m2, .ref m3, .ref m4, .int mra_90, .int mrh, .ref m7, .ref m8, .ref m9, .ref m10, .ref m11, .ref m12, .int mch, .int mfr, .int mfw, .int mrd, .ref m17, .ref m18, .ref m19, .ref m20, .ref m21, .ref m22, .ref m23, .int mtr])), (m7, .inl (cI, 6, .inl (upd RK mrh.toNatClampNeg 0))), (m8, .inl (cI, 6, .inl (upd RL mrh.toNatClampNeg r_72))), (m9, .inl (cI, 6, .inl (upd RC mrh.toNatClampNeg r_90))), (m22, .inl (cI, 240, .inl SH))]) H := hP
              have hD : va_D A ([(m0, .inr (5, [.int mfa, .int mho, .ref m2, .ref m3, .ref m4, .int mra_90, .int mrh, .ref m7, .ref m8, .ref m9, .ref m10, .ref m11, .ref m12, .int mch, .int mfr, .int mfw, .int mrd, .ref m17, .ref m18, .ref m19, .ref m20, .ref m21, .ref m22, .ref m23, .int mtr])), (m7, .inl (cI, 6, .inl (upd RK mrh.toNatClampNeg 0))), (m8, .inl (cI, 6, .inl (upd RL mrh.toNatClampNeg r_72))), (m9, .inl (cI, 6, .inl (upd RC mrh.toNatClampNeg r_90))), (m22, .inl (cI, 240, .inl SH))]) := hD
              refine lv_aload_n hx hb dX5_readsHouse_154 rfl (lv_at hl 3 rfl) ?_
              refine lv_dup hx hb dX5_readsHouse_155 rfl ?_
              refine va_get (D := (dC, dI)) (ci := 5) (v := .int mrh) (C := RX5) (T := TX5) (N := 25) hx hb hts hin5 hown hK hP 0 rfl rfl 6 (by decide) kf_84 (fun _ h9 => h9) rfl dX5_readsHouse_156 ?_
              refine lv_iconst (v := 1) hx hb dX5_readsHouse_159 (by decide) ?_
              refine lv_iadd hx hb dX5_readsHouse_160 ?_
              refine va_put (D := (dC, dI)) (ci := 5) (v := .int (mrh + 1)) (ty := .int) (C := RX5) (T := TX5) (N := 25) hx hb hts hin5 tyX5 tyX5_ok nmX5 hown hK hP hD hS 0 rfl rfl 6 (by decide) kf_84 (fun _ h9 => h9) rfl (by decide +kernel) rfl rfl (Nat.le_of_ble_eq_true rfl) dX5_readsHouse_161 (fun H locs hP hD hS => ?_)
              have hP : va_P (dC, dI) vwCl ([(m0, .inr (5, [.int mfa, .int mho, .ref m2, .ref m3, .ref m4, .int mra_90, .int (mrh + 1), .ref m7, .ref m8, .ref m9, .ref m10, .ref m11, .ref m12, .int mch, .int mfr, .int mfw, .int mrd, .ref m17, .ref m18, .ref m19, .ref m20, .ref m21, .ref m22, .ref m23, .int mtr])), (m7, .inl (cI, 6, .inl (upd RK mrh.toNatClampNeg 0))), (m8, .inl (cI, 6, .inl (upd RL mrh.toNatClampNeg r_72))), (m9, .inl (cI, 6, .inl (upd RC mrh.toNatClampNeg r_90))), (m22, .inl (cI, 240, .inl SH))]) H := hP
              have hD : va_D A ([(m0, .inr (5, [.int mfa, .int mho, .ref m2, .ref m3, .ref m4, .int mra_90, .int (mrh + 1), .ref m7, .ref m8, .ref m9, .ref m10, .ref m11, .ref m12, .int mch, .int mfr, .int mfw, .int mrd, .ref m17, .ref m18, .ref m19, .ref m20, .ref m21, .ref m22, .ref m23, .int mtr])), (m7, .inl (cI, 6, .inl (upd RK mrh.toNatClampNeg 0))), (m8, .inl (cI, 6, .inl (upd RL mrh.toNatClampNeg r_72))), (m9, .inl (cI, 6, .inl (upd RC mrh.toNatClampNeg r_90))), (m22, .inl (cI, 240, .inl SH))]) := hD
              refine lv_iconst (v := 1) hx hb dX5_readsHouse_164 (by decide) ?_
              have hE9 : p5_readsHouse mra mrh RK RL RC SH i1 i2 = (1, mra_90, (mrh + 1), (upd RK mrh.toNatClampNeg 0), (upd RL mrh.toNatClampNeg r_72), (upd RC mrh.toNatClampNeg r_90)) := by unfold p5_readsHouse; simp only [er_72, emra_72, er_90, emra_90]; rw [if_neg c_6, if_pos c_17, if_pos c_42, if_pos c_79, if_pos c_97]
              exact W.zret (v := 1) hx hb hr (by decide +kernel) (fun t ht hW => ⟨⟨_, (), rfl, by rw [hE9], by show va_P (dC, dI) vwCl _ t.heap; rw [ht, hE9]; exact hP⟩, hS.F ht⟩) hS.2.2 dX5_readsHouse_165
          · skip
            refine lv_iconst (v := 0) hx hb dX5_readsHouse_100 (by decide) ?_
            have hE9 : p5_readsHouse mra mrh RK RL RC SH i1 i2 = (0, mra_90, mrh, RK, RL, RC) := by unfold p5_readsHouse; simp only [er_72, emra_72, er_90, emra_90]; rw [if_neg c_6, if_pos c_17, if_pos c_42, if_pos c_79, if_neg c_97]
            exact W.zret (v := 0) hx hb hr (by decide +kernel) (fun t ht hW => ⟨⟨_, (), rfl, by rw [hE9], by show va_P (dC, dI) vwCl _ t.heap; rw [ht, hE9]; exact hP⟩, hS.F ht⟩) hS.2.2 dX5_readsHouse_101
        · skip
          refine lv_bipush (v := (-9)) hx hb dX5_readsHouse_82 (by decide) ?_
          refine lv_goto (tgt := 93) hx hb dX5_readsHouse_84 (by decide) ?_
          refine lv_istore (lv' := [(5, .int (-9)), (4, .int r_72), (3, .int (p5_codeAt (mra + 1) SH i1 i2)), (0, .ref m0), (1, .int i1), (2, .int i2)]) hx hb dX5_readsHouse_93 hl (by decide) rfl (fun ls hl => ?_)
          refine lv_iload hx hb dX5_readsHouse_95 (lv_at hl 0 rfl) ?_
          refine lv_if_ge (tgt := 102) hx hb dX5_readsHouse_97 (by decide) (fun c_97 => ?_) (fun c_97 => ?_)
          · exact absurd c_97 (by decide)
          · skip
            refine lv_iconst (v := 0) hx hb dX5_readsHouse_100 (by decide) ?_
            have hE9 : p5_readsHouse mra mrh RK RL RC SH i1 i2 = (0, mra_72, mrh, RK, RL, RC) := by unfold p5_readsHouse; simp only [er_72, emra_72]; rw [if_neg c_6, if_pos c_17, if_pos c_42, if_neg c_79]
            exact W.zret (v := 0) hx hb hr (by decide +kernel) (fun t ht hW => ⟨⟨_, (), rfl, by rw [hE9], by show va_P (dC, dI) vwCl _ t.heap; rw [ht, hE9]; exact hP⟩, hS.F ht⟩) hS.2.2 dX5_readsHouse_101
      · skip
        refine lv_iload_n hx hb dX5_readsHouse_45 rfl (lv_at hl 0 rfl) ?_
        refine lv_bipush (v := 107) hx hb dX5_readsHouse_46 (by decide) ?_
        refine lv_icmp_eq (tgt := 59) hx hb dX5_readsHouse_48 (by decide) (fun c_48 => ?_) (fun c_48 => ?_)
        · skip
          refine lv_aload_n hx hb dX5_readsHouse_59 rfl (lv_at hl 1 rfl) ?_
          refine lv_dup hx hb dX5_readsHouse_60 rfl ?_
          refine va_get (D := (dC, dI)) (ci := 5) (v := .int (mra + 1)) (C := RX5) (T := TX5) (N := 25) hx hb hts hin5 hown hK hP 0 rfl rfl 5 (by decide) kf_77 (fun _ h9 => h9) rfl dX5_readsHouse_61 ?_
          refine lv_iconst (v := 1) hx hb dX5_readsHouse_64 (by decide) ?_
          refine lv_iadd hx hb dX5_readsHouse_65 ?_
          refine va_put (D := (dC, dI)) (ci := 5) (v := .int ((mra + 1) + 1)) (ty := .int) (C := RX5) (T := TX5) (N := 25) hx hb hts hin5 tyX5 tyX5_ok nmX5 hown hK hP hD hS 0 rfl rfl 5 (by decide) kf_77 (fun _ h9 => h9) rfl (by decide +kernel) rfl rfl (Nat.le_of_ble_eq_true rfl) dX5_readsHouse_66 (fun H locs hP hD hS => ?_)
          have hP : va_P (dC, dI) vwCl ([(m0, .inr (5, [.int mfa, .int mho, .ref m2, .ref m3, .ref m4, .int ((mra + 1) + 1), .int mrh, .ref m7, .ref m8, .ref m9, .ref m10, .ref m11, .ref m12, .int mch, .int mfr, .int mfw, .int mrd, .ref m17, .ref m18, .ref m19, .ref m20, .ref m21, .ref m22, .ref m23, .int mtr])), (m7, .inl (cI, 6, .inl RK)), (m8, .inl (cI, 6, .inl RL)), (m9, .inl (cI, 6, .inl RC)), (m22, .inl (cI, 240, .inl SH))]) H := hP
          have hD : va_D A ([(m0, .inr (5, [.int mfa, .int mho, .ref m2, .ref m3, .ref m4, .int ((mra + 1) + 1), .int mrh, .ref m7, .ref m8, .ref m9, .ref m10, .ref m11, .ref m12, .int mch, .int mfr, .int mfw, .int mrd, .ref m17, .ref m18, .ref m19, .ref m20, .ref m21, .ref m22, .ref m23, .int mtr])), (m7, .inl (cI, 6, .inl RK)), (m8, .inl (cI, 6, .inl RL)), (m9, .inl (cI, 6, .inl RC)), (m22, .inl (cI, 240, .inl SH))]) := hD
          refine lv_aload_n hx hb dX5_readsHouse_69 rfl (lv_at hl 1 rfl) ?_
          refine lv_iload_n hx hb dX5_readsHouse_70 rfl (lv_at hl 2 rfl) ?_
          refine lv_iload_n hx hb dX5_readsHouse_71 rfl (lv_at hl 3 rfl) ?_
          have hPc := hP.sub (ws' := [(m0, .inr (5, [.int mfa, .int mho, .ref m2, .ref m3, .ref m4, .int ((mra + 1) + 1), .int mrh, .ref m7, .ref m8, .ref m9, .ref m10, .ref m11, .ref m12, .int mch, .int mfr, .int mfw, .int mrd, .ref m17, .ref m18, .ref m19, .ref m20, .ref m21, .ref m22, .ref m23, .int mtr])), (m22, .inl (cI, 240, .inl SH))]) [0, 4] rfl
          have hDc := hD.sub (ws' := [(m0, .inr (5, [.int mfa, .int mho, .ref m2, .ref m3, .ref m4, .int ((mra + 1) + 1), .int mrh, .ref m7, .ref m8, .ref m9, .ref m10, .ref m11, .ref m12, .int mch, .int mfr, .int mfw, .int mrd, .ref m17, .ref m18, .ref m19, .ref m20, .ref m21, .ref m22, .ref m23, .int mtr])), (m22, .inl (cI, 240, .inl SH))]) [0, 4] (by decide) rfl
          have hKc := hK.sub (tys' := [(cI, .int)]) [0] rfl
          have hFc := va_free (wc := [(m0, .inr (5, [.int mfa, .int mho, .ref m2, .ref m3, .ref m4, .int ((mra + 1) + 1), .int mrh, .ref m7, .ref m8, .ref m9, .ref m10, .ref m11, .ref m12, .int mch, .int mfr, .int mfw, .int mrd, .ref m17, .ref m18, .ref m19, .ref m20, .ref m21, .ref m22, .ref m23, .int mtr])), (m22, .inl (cI, 240, .inl SH))]) hD hS hA [0, 4] rfl
          refine va_calli (va_runV (As := [.int i1, .int i2]) (rest := []) ⟨hx, hb, hml, hown, hts⟩ (ctX5_figure l dC dI cI m0 m2 m3 m4 m7 m8 m9 m10 m11 m12 m17 m18 m19 m20 m21 m22 m23 H.size mfa mho ((mra + 1) + 1) mrh mch mfr mfw mrd mtr SH i1 i2 (ra2 hra) (by assumption)) (cwV 2 hts gX5_readsHouse_X5_figure rfl rfl rfl (by decide +kernel) ⟨Nat.le_of_ble_eq_true rfl, Nat.le_of_ble_eq_true rfl⟩) (pre_V hKc hN hPc hDc (RX5, TX5, 25) 5 0 rfl rfl) rfl rfl hl.1 rfl (lv_room (Nat.le_of_ble_eq_true rfl)) dX5_readsHouse_72 ⟨Nat.le_of_ble_eq_true rfl, Nat.le_of_ble_eq_true rfl⟩) hS (fun q _ h => hFc q h) hFc (fun r_72 _ t H locs ht hvm hw hB hz1 hk1 hS => ?_)
          try dsimp only at hw
          have er_72 := hw.symm
          rw [ht] at hB
          refine nm_gen ((p5_figure ((mra + 1) + 1) SH i1 i2).2) (fun mra_72 emra_72 => ?_)
          rw [emra_72] at hB
          obtain ⟨hP, hD⟩ := rw_join ([(m0, .inr (5, [.int mfa, .int mho, .ref m2, .ref m3, .ref m4, .int ((mra + 1) + 1), .int mrh, .ref m7, .ref m8, .ref m9, .ref m10, .ref m11, .ref m12, .int mch, .int mfr, .int mfw, .int mrd, .ref m17, .ref m18, .ref m19, .ref m20, .ref m21, .ref m22, .ref m23, .int mtr])), (m7, .inl (cI, 6, .inl RK)), (m8, .inl (cI, 6, .inl RL)), (m9, .inl (cI, 6, .inl RC)), (m22, .inl (cI, 240, .inl SH))]) ([(m0, .inr (5, [.int mfa, .int mho, .ref m2, .ref m3, .ref m4, .int mra_72, .int mrh, .ref m7, .ref m8, .ref m9, .ref m10, .ref m11, .ref m12, .int mch, .int mfr, .int mfw, .int mrd, .ref m17, .ref m18, .ref m19, .ref m20, .ref m21, .ref m22, .ref m23, .int mtr])), (m7, .inl (cI, 6, .inl RK)), (m8, .inl (cI, 6, .inl RL)), (m9, .inl (cI, 6, .inl RC)), (m22, .inl (cI, 240, .inl SH))]) ([(m0, .inr (5, [.int mfa, .int mho, .ref m2, .ref m3, .ref m4, .int ((mra + 1) + 1), .int mrh, .ref m7, .ref m8, .ref m9, .ref m10, .ref m11, .ref m12, .int mch, .int mfr, .int mfw, .int mrd, .ref m17, .ref m18, .ref m19, .ref m20, .ref m21, .ref m22, .ref m23, .int mtr])), (m22, .inl (cI, 240, .inl SH))]) ([(m0, .inr (5, [.int mfa, .int mho, .ref m2, .ref m3, .ref m4, .int mra_72, .int mrh, .ref m7, .ref m8, .ref m9, .ref m10, .ref m11, .ref m12, .int mch, .int mfr, .int mfw, .int mrd, .ref m17, .ref m18, .ref m19, .ref m20, .ref m21, .ref m22, .ref m23, .int mtr])), (m22, .inl (cI, 240, .inl SH))]) ([(m7, .inl (cI, 6, .inl RK)), (m8, .inl (cI, 6, .inl RL)), (m9, .inl (cI, 6, .inl RC))]) hP hD [0, 4] [1, 2, 3] [m0, m7, m8, m9, m22] 5 rfl rfl rfl rfl rfl (by decide) rfl rfl hk1 hB
          refine lv_istore (lv' := [(4, .int r_72), (3, .int (p5_codeAt (mra + 1) SH i1 i2)), (0, .ref m0), (1, .int i1), (2, .int i2)]) hx hb dX5_readsHouse_75 hl (by decide) rfl (fun ls hl => ?_)
          refine lv_iload hx hb dX5_readsHouse_77 (lv_at hl 0 rfl) ?_
          refine lv_if_ge (tgt := 87) hx hb dX5_readsHouse_79 (by decide) (fun c_79 => ?_) (fun c_79 => ?_)
          · skip
            refine lv_aload_n hx hb dX5_readsHouse_87 rfl (lv_at hl 2 rfl) ?_
            refine lv_iload_n hx hb dX5_readsHouse_88 rfl (lv_at hl 3 rfl) ?_
            refine lv_iload_n hx hb dX5_readsHouse_89 rfl (lv_at hl 4 rfl) ?_
            have hPc := hP.sub (ws' := [(m0, .inr (5, [.int mfa, .int mho, .ref m2, .ref m3, .ref m4, .int mra_72, .int mrh, .ref m7, .ref m8, .ref m9, .ref m10, .ref m11, .ref m12, .int mch, .int mfr, .int mfw, .int mrd, .ref m17, .ref m18, .ref m19, .ref m20, .ref m21, .ref m22, .ref m23, .int mtr])), (m22, .inl (cI, 240, .inl SH))]) [0, 4] rfl
            have hDc := hD.sub (ws' := [(m0, .inr (5, [.int mfa, .int mho, .ref m2, .ref m3, .ref m4, .int mra_72, .int mrh, .ref m7, .ref m8, .ref m9, .ref m10, .ref m11, .ref m12, .int mch, .int mfr, .int mfw, .int mrd, .ref m17, .ref m18, .ref m19, .ref m20, .ref m21, .ref m22, .ref m23, .int mtr])), (m22, .inl (cI, 240, .inl SH))]) [0, 4] (by decide) rfl
            have hKc := hK.sub (tys' := [(cI, .int)]) [0] rfl
            have hFc := va_free (wc := [(m0, .inr (5, [.int mfa, .int mho, .ref m2, .ref m3, .ref m4, .int mra_72, .int mrh, .ref m7, .ref m8, .ref m9, .ref m10, .ref m11, .ref m12, .int mch, .int mfr, .int mfw, .int mrd, .ref m17, .ref m18, .ref m19, .ref m20, .ref m21, .ref m22, .ref m23, .int mtr])), (m22, .inl (cI, 240, .inl SH))]) hD hS hA [0, 4] rfl
            refine va_calli (va_runV (As := [.int i1, .int i2]) (rest := []) ⟨hx, hb, hml, hown, hts⟩ (ctX5_figure l dC dI cI m0 m2 m3 m4 m7 m8 m9 m10 m11 m12 m17 m18 m19 m20 m21 m22 m23 H.size mfa mho mra_72 mrh mch mfr mfw mrd mtr SH i1 i2 (by rw [← emra_72]; exact figure_nn (ra2 hra) (ra2b hra)) (by assumption)) (cwV 2 hts gX5_readsHouse_X5_figure rfl rfl rfl (by decide +kernel) ⟨Nat.le_of_ble_eq_true rfl, Nat.le_of_ble_eq_true rfl⟩) (pre_V hKc hN hPc hDc (RX5, TX5, 25) 5 0 rfl rfl) rfl rfl hl.1 rfl (lv_room (Nat.le_of_ble_eq_true rfl)) dX5_readsHouse_90 ⟨Nat.le_of_ble_eq_true rfl, Nat.le_of_ble_eq_true rfl⟩) hS (fun q _ h => hFc q h) hFc (fun r_90 _ t H locs ht hvm hw hB hz1 hk1 hS => ?_)
            try dsimp only at hw
            have er_90 := hw.symm
            rw [ht] at hB
            refine nm_gen ((p5_figure mra_72 SH i1 i2).2) (fun mra_90 emra_90 => ?_)
            rw [emra_90] at hB
            obtain ⟨hP, hD⟩ := rw_join ([(m0, .inr (5, [.int mfa, .int mho, .ref m2, .ref m3, .ref m4, .int mra_72, .int mrh, .ref m7, .ref m8, .ref m9, .ref m10, .ref m11, .ref m12, .int mch, .int mfr, .int mfw, .int mrd, .ref m17, .ref m18, .ref m19, .ref m20, .ref m21, .ref m22, .ref m23, .int mtr])), (m7, .inl (cI, 6, .inl RK)), (m8, .inl (cI, 6, .inl RL)), (m9, .inl (cI, 6, .inl RC)), (m22, .inl (cI, 240, .inl SH))]) ([(m0, .inr (5, [.int mfa, .int mho, .ref m2, .ref m3, .ref m4, .int mra_90, .int mrh, .ref m7, .ref m8, .ref m9, .ref m10, .ref m11, .ref m12, .int mch, .int mfr, .int mfw, .int mrd, .ref m17, .ref m18, .ref m19, .ref m20, .ref m21, .ref m22, .ref m23, .int mtr])), (m7, .inl (cI, 6, .inl RK)), (m8, .inl (cI, 6, .inl RL)), (m9, .inl (cI, 6, .inl RC)), (m22, .inl (cI, 240, .inl SH))]) ([(m0, .inr (5, [.int mfa, .int mho, .ref m2, .ref m3, .ref m4, .int mra_72, .int mrh, .ref m7, .ref m8, .ref m9, .ref m10, .ref m11, .ref m12, .int mch, .int mfr, .int mfw, .int mrd, .ref m17, .ref m18, .ref m19, .ref m20, .ref m21, .ref m22, .ref m23, .int mtr])), (m22, .inl (cI, 240, .inl SH))]) ([(m0, .inr (5, [.int mfa, .int mho, .ref m2, .ref m3, .ref m4, .int mra_90, .int mrh, .ref m7, .ref m8, .ref m9, .ref m10, .ref m11, .ref m12, .int mch, .int mfr, .int mfw, .int mrd, .ref m17, .ref m18, .ref m19, .ref m20, .ref m21, .ref m22, .ref m23, .int mtr])), (m22, .inl (cI, 240, .inl SH))]) ([(m7, .inl (cI, 6, .inl RK)), (m8, .inl (cI, 6, .inl RL)), (m9, .inl (cI, 6, .inl RC))]) hP hD [0, 4] [1, 2, 3] [m0, m7, m8, m9, m22] 5 rfl rfl rfl rfl rfl (by decide) rfl rfl hk1 hB
            refine lv_istore (lv' := [(5, .int r_90), (4, .int r_72), (3, .int (p5_codeAt (mra + 1) SH i1 i2)), (0, .ref m0), (1, .int i1), (2, .int i2)]) hx hb dX5_readsHouse_93 hl (by decide) rfl (fun ls hl => ?_)
            refine lv_iload hx hb dX5_readsHouse_95 (lv_at hl 0 rfl) ?_
            refine lv_if_ge (tgt := 102) hx hb dX5_readsHouse_97 (by decide) (fun c_97 => ?_) (fun c_97 => ?_)
            · skip
              have jh : vp_in mrh 6 := rh_ix hrh c_6
              refine lv_aload_n hx hb dX5_readsHouse_102 rfl (lv_at hl 3 rfl) ?_
              refine va_get (D := (dC, dI)) (ci := 5) (v := .ref m7) (C := RX5) (T := TX5) (N := 25) hx hb hts hin5 hown hK hP 0 rfl rfl 7 (by decide) kf_19 (fun _ h9 => h9) rfl dX5_readsHouse_103 ?_
              refine lv_aload_n hx hb dX5_readsHouse_106 rfl (lv_at hl 3 rfl) ?_
              refine va_get (D := (dC, dI)) (ci := 5) (v := .int mrh) (C := RX5) (T := TX5) (N := 25) hx hb hts hin5 hown hK hP 0 rfl rfl 6 (by decide) kf_84 (fun _ h9 => h9) rfl dX5_readsHouse_107 ?_
              refine lv_iload_n hx hb dX5_readsHouse_110 rfl (lv_at hl 2 rfl) ?_
              refine lv_bipush (v := 104) hx hb dX5_readsHouse_111 (by decide) ?_
              refine lv_icmp_ne (tgt := 120) hx hb dX5_readsHouse_113 (by decide) (fun c_113 => ?_) (fun c_113 => ?_)
              · skip
                refine lv_iload_n hx hb dX5_readsHouse_120 rfl (lv_at hl 2 rfl) ?_
                refine lv_bipush (v := 107) hx hb dX5_readsHouse_121 (by decide) ?_
                refine lv_icmp_ne (tgt := 130) hx hb dX5_readsHouse_123 (by decide) (fun c_123 => ?_) (fun c_123 => ?_)
                · exact absurd c_48 c_123
                · skip
                  refine lv_iconst (v := 1) hx hb dX5_readsHouse_126 (by decide) ?_
                  refine lv_goto (tgt := 131) hx hb dX5_readsHouse_127 (by decide) ?_
                  refine va_iast hx hb hK hP hD hS 1 0 rfl rfl (by assumption) dX5_readsHouse_131 (fun H locs hP hD hS => ?_)
                  have hP : va_P (dC, dI) vwCl ([(m0, .inr (5, [.int mfa, .int mho, .ref m2, .ref m3, .ref m4, .int mra_90, .int mrh, .ref m7, .ref m8, .ref m9, .ref m10, .ref m11, .ref m12, .int mch, .int mfr, .int mfw, .int mrd, .ref m17, .ref m18, .ref m19, .ref m20, .ref m21, .ref m22, .ref m23, .int mtr])), (m7, .inl (cI, 6, .inl (upd RK mrh.toNatClampNeg 1))), (m8, .inl (cI, 6, .inl RL)), (m9, .inl (cI, 6, .inl RC)), (m22, .inl (cI, 240, .inl SH))]) H := hP
                  have hD : va_D A ([(m0, .inr (5, [.int mfa, .int mho, .ref m2, .ref m3, .ref m4, .int mra_90, .int mrh, .ref m7, .ref m8, .ref m9, .ref m10, .ref m11, .ref m12, .int mch, .int mfr, .int mfw, .int mrd, .ref m17, .ref m18, .ref m19, .ref m20, .ref m21, .ref m22, .ref m23, .int mtr])), (m7, .inl (cI, 6, .inl (upd RK mrh.toNatClampNeg 1))), (m8, .inl (cI, 6, .inl RL)), (m9, .inl (cI, 6, .inl RC)), (m22, .inl (cI, 240, .inl SH))]) := hD
                  refine lv_aload_n hx hb dX5_readsHouse_132 rfl (lv_at hl 3 rfl) ?_
                  refine va_get (D := (dC, dI)) (ci := 5) (v := .ref m8) (C := RX5) (T := TX5) (N := 25) hx hb hts hin5 hown hK hP 0 rfl rfl 8 (by decide) kf_22 (fun _ h9 => h9) rfl dX5_readsHouse_133 ?_
                  refine lv_aload_n hx hb dX5_readsHouse_136 rfl (lv_at hl 3 rfl) ?_
                  refine va_get (D := (dC, dI)) (ci := 5) (v := .int mrh) (C := RX5) (T := TX5) (N := 25) hx hb hts hin5 hown hK hP 0 rfl rfl 6 (by decide) kf_84 (fun _ h9 => h9) rfl dX5_readsHouse_137 ?_
                  refine lv_iload hx hb dX5_readsHouse_140 (lv_at hl 1 rfl) ?_
                  refine va_iast hx hb hK hP hD hS 2 0 rfl rfl (by assumption) dX5_readsHouse_142 (fun H locs hP hD hS => ?_)
                  have hP : va_P (dC, dI) vwCl ([(m0, .inr (5, [.int mfa, .int mho, .ref m2, .ref m3, .ref m4, .int mra_90, .int mrh, .ref m7, .ref m8, .ref m9, .ref m10, .ref m11, .ref m12, .int mch, .int mfr, .int mfw, .int mrd, .ref m17, .ref m18, .ref m19, .ref m20, .ref m21, .ref m22, .ref m23, .int mtr])), (m7, .inl (cI, 6, .inl (upd RK mrh.toNatClampNeg 1))), (m8, .inl (cI, 6, .inl (upd RL mrh.toNatClampNeg r_72))), (m9, .inl (cI, 6, .inl RC)), (m22, .inl (cI, 240, .inl SH))]) H := hP
                  have hD : va_D A ([(m0, .inr (5, [.int mfa, .int mho, .ref m2, .ref m3, .ref m4, .int mra_90, .int mrh, .ref m7, .ref m8, .ref m9, .ref m10, .ref m11, .ref m12, .int mch, .int mfr, .int mfw, .int mrd, .ref m17, .ref m18, .ref m19, .ref m20, .ref m21, .ref m22, .ref m23, .int mtr])), (m7, .inl (cI, 6, .inl (upd RK mrh.toNatClampNeg 1))), (m8, .inl (cI, 6, .inl (upd RL mrh.toNatClampNeg r_72))), (m9, .inl (cI, 6, .inl RC)), (m22, .inl (cI, 240, .inl SH))]) := hD
                  refine lv_aload_n hx hb dX5_readsHouse_143 rfl (lv_at hl 3 rfl) ?_
                  refine va_get (D := (dC, dI)) (ci := 5) (v := .ref m9) (C := RX5) (T := TX5) (N := 25) hx hb hts hin5 hown hK hP 0 rfl rfl 9 (by decide) kf_25 (fun _ h9 => h9) rfl dX5_readsHouse_144 ?_
                  refine lv_aload_n hx hb dX5_readsHouse_147 rfl (lv_at hl 3 rfl) ?_
                  refine va_get (D := (dC, dI)) (ci := 5) (v := .int mrh) (C := RX5) (T := TX5) (N := 25) hx hb hts hin5 hown hK hP 0 rfl rfl 6 (by decide) kf_84 (fun _ h9 => h9) rfl dX5_readsHouse_148 ?_
                  refine lv_iload hx hb dX5_readsHouse_151 (lv_at hl 0 rfl) ?_
                  refine va_iast hx hb hK hP hD hS 3 0 rfl rfl (by assumption) dX5_readsHouse_153 (fun H locs hP hD hS => ?_)
                  have hP : va_P (dC, dI) vwCl ([(m0, .inr (5, [.int mfa, .int mho, .ref m2, .ref m3, .ref m4, .int mra_90, .int mrh, .ref m7, .ref m8, .ref m9, .ref m10, .ref m11, .ref m12, .int mch, .int mfr, .int mfw, .int mrd, .ref m17, .ref m18, .ref m19, .ref m20, .ref m21, .ref m22, .ref m23, .int mtr])), (m7, .inl (cI, 6, .inl (upd RK mrh.toNatClampNeg 1))), (m8, .inl (cI, 6, .inl (upd RL mrh.toNatClampNeg r_72))), (m9, .inl (cI, 6, .inl (upd RC mrh.toNatClampNeg r_90))), (m22, .inl (cI, 240, .inl SH))]) H := hP
                  have hD : va_D A ([(m0, .inr (5, [.int mfa, .int mho, .ref m2, .ref m3, .ref m4, .int mra_90, .int mrh, .ref m7, .ref m8, .ref m9, .ref m10, .ref m11, .ref m12, .int mch, .int mfr, .int mfw, .int mrd, .ref m17, .ref m18, .ref m19, .ref m20, .ref m21, .ref m22, .ref m23, .int mtr])), (m7, .inl (cI, 6, .inl (upd RK mrh.toNatClampNeg 1))), (m8, .inl (cI, 6, .inl (upd RL mrh.toNatClampNeg r_72))), (m9, .inl (cI, 6, .inl (upd RC mrh.toNatClampNeg r_90))), (m22, .inl (cI, 240, .inl SH))]) := hD
                  refine lv_aload_n hx hb dX5_readsHouse_154 rfl (lv_at hl 3 rfl) ?_
                  refine lv_dup hx hb dX5_readsHouse_155 rfl ?_
                  refine va_get (D := (dC, dI)) (ci := 5) (v := .int mrh) (C := RX5) (T := TX5) (N := 25) hx hb hts hin5 hown hK hP 0 rfl rfl 6 (by decide) kf_84 (fun _ h9 => h9) rfl dX5_readsHouse_156 ?_
                  refine lv_iconst (v := 1) hx hb dX5_readsHouse_159 (by decide) ?_
                  refine lv_iadd hx hb dX5_readsHouse_160 ?_
                  refine va_put (D := (dC, dI)) (ci := 5) (v := .int (mrh + 1)) (ty := .int) (C := RX5) (T := TX5) (N := 25) hx hb hts hin5 tyX5 tyX5_ok nmX5 hown hK hP hD hS 0 rfl rfl 6 (by decide) kf_84 (fun _ h9 => h9) rfl (by decide +kernel) rfl rfl (Nat.le_of_ble_eq_true rfl) dX5_readsHouse_161 (fun H locs hP hD hS => ?_)
                  have hP : va_P (dC, dI) vwCl ([(m0, .inr (5, [.int mfa, .int mho, .ref m2, .ref m3, .ref m4, .int mra_90, .int (mrh + 1), .ref m7, .ref m8, .ref m9, .ref m10, .ref m11, .ref m12, .int mch, .int mfr, .int mfw, .int mrd, .ref m17, .ref m18, .ref m19, .ref m20, .ref m21, .ref m22, .ref m23, .int mtr])), (m7, .inl (cI, 6, .inl (upd RK mrh.toNatClampNeg 1))), (m8, .inl (cI, 6, .inl (upd RL mrh.toNatClampNeg r_72))), (m9, .inl (cI, 6, .inl (upd RC mrh.toNatClampNeg r_90))), (m22, .inl (cI, 240, .inl SH))]) H := hP
                  have hD : va_D A ([(m0, .inr (5, [.int mfa, .int mho, .ref m2, .ref m3, .ref m4, .int mra_90, .int (mrh + 1), .ref m7, .ref m8, .ref m9, .ref m10, .ref m11, .ref m12, .int mch, .int mfr, .int mfw, .int mrd, .ref m17, .ref m18, .ref m19, .ref m20, .ref m21, .ref m22, .ref m23, .int mtr])), (m7, .inl (cI, 6, .inl (upd RK mrh.toNatClampNeg 1))), (m8, .inl (cI, 6, .inl (upd RL mrh.toNatClampNeg r_72))), (m9, .inl (cI, 6, .inl (upd RC mrh.toNatClampNeg r_90))), (m22, .inl (cI, 240, .inl SH))]) := hD
                  refine lv_iconst (v := 1) hx hb dX5_readsHouse_164 (by decide) ?_
                  have hE9 : p5_readsHouse mra mrh RK RL RC SH i1 i2 = (1, mra_90, (mrh + 1), (upd RK mrh.toNatClampNeg 1), (upd RL mrh.toNatClampNeg r_72), (upd RC mrh.toNatClampNeg r_90)) := by unfold p5_readsHouse; simp only [er_72, emra_72, er_90, emra_90]; rw [if_neg c_6, if_pos c_17, if_neg c_42, if_pos c_48, if_pos c_79, if_pos c_97]
                  exact W.zret (v := 1) hx hb hr (by decide +kernel) (fun t ht hW => ⟨⟨_, (), rfl, by rw [hE9], by show va_P (dC, dI) vwCl _ t.heap; rw [ht, hE9]; exact hP⟩, hS.F ht⟩) hS.2.2 dX5_readsHouse_165
              · exact absurd c_113 c_42
            · skip
              refine lv_iconst (v := 0) hx hb dX5_readsHouse_100 (by decide) ?_
              have hE9 : p5_readsHouse mra mrh RK RL RC SH i1 i2 = (0, mra_90, mrh, RK, RL, RC) := by unfold p5_readsHouse; simp only [er_72, emra_72, er_90, emra_90]; rw [if_neg c_6, if_pos c_17, if_neg c_42, if_pos c_48, if_pos c_79, if_neg c_97]
              exact W.zret (v := 0) hx hb hr (by decide +kernel) (fun t ht hW => ⟨⟨_, (), rfl, by rw [hE9], by show va_P (dC, dI) vwCl _ t.heap; rw [ht, hE9]; exact hP⟩, hS.F ht⟩) hS.2.2 dX5_readsHouse_101
          · skip
            refine lv_bipush (v := (-9)) hx hb dX5_readsHouse_82 (by decide) ?_
            refine lv_goto (tgt := 93) hx hb dX5_readsHouse_84 (by decide) ?_
            refine lv_istore (lv' := [(5, .int (-9)), (4, .int r_72), (3, .int (p5_codeAt (mra + 1) SH i1 i2)), (0, .ref m0), (1, .int i1), (2, .int i2)]) hx hb dX5_readsHouse_93 hl (by decide) rfl (fun ls hl => ?_)
            refine lv_iload hx hb dX5_readsHouse_95 (lv_at hl 0 rfl) ?_
            refine lv_if_ge (tgt := 102) hx hb dX5_readsHouse_97 (by decide) (fun c_97 => ?_) (fun c_97 => ?_)
            · exact absurd c_97 (by decide)
            · skip
              refine lv_iconst (v := 0) hx hb dX5_readsHouse_100 (by decide) ?_
              have hE9 : p5_readsHouse mra mrh RK RL RC SH i1 i2 = (0, mra_72, mrh, RK, RL, RC) := by unfold p5_readsHouse; simp only [er_72, emra_72]; rw [if_neg c_6, if_pos c_17, if_neg c_42, if_pos c_48, if_neg c_79]
              exact W.zret (v := 0) hx hb hr (by decide +kernel) (fun t ht hW => ⟨⟨_, (), rfl, by rw [hE9], by show va_P (dC, dI) vwCl _ t.heap; rw [ht, hE9]; exact hP⟩, hS.F ht⟩) hS.2.2 dX5_readsHouse_101
        · skip
          refine lv_iload_n hx hb dX5_readsHouse_51 rfl (lv_at hl 0 rfl) ?_
          refine lv_bipush (v := 116) hx hb dX5_readsHouse_52 (by decide) ?_
          refine lv_icmp_eq (tgt := 59) hx hb dX5_readsHouse_54 (by decide) (fun c_54 => ?_) (fun c_54 => ?_)
          · skip
            refine lv_aload_n hx hb dX5_readsHouse_59 rfl (lv_at hl 1 rfl) ?_
            refine lv_dup hx hb dX5_readsHouse_60 rfl ?_
            refine va_get (D := (dC, dI)) (ci := 5) (v := .int (mra + 1)) (C := RX5) (T := TX5) (N := 25) hx hb hts hin5 hown hK hP 0 rfl rfl 5 (by decide) kf_77 (fun _ h9 => h9) rfl dX5_readsHouse_61 ?_
            refine lv_iconst (v := 1) hx hb dX5_readsHouse_64 (by decide) ?_
            refine lv_iadd hx hb dX5_readsHouse_65 ?_
            refine va_put (D := (dC, dI)) (ci := 5) (v := .int ((mra + 1) + 1)) (ty := .int) (C := RX5) (T := TX5) (N := 25) hx hb hts hin5 tyX5 tyX5_ok nmX5 hown hK hP hD hS 0 rfl rfl 5 (by decide) kf_77 (fun _ h9 => h9) rfl (by decide +kernel) rfl rfl (Nat.le_of_ble_eq_true rfl) dX5_readsHouse_66 (fun H locs hP hD hS => ?_)
            have hP : va_P (dC, dI) vwCl ([(m0, .inr (5, [.int mfa, .int mho, .ref m2, .ref m3, .ref m4, .int ((mra + 1) + 1), .int mrh, .ref m7, .ref m8, .ref m9, .ref m10, .ref m11, .ref m12, .int mch, .int mfr, .int mfw, .int mrd, .ref m17, .ref m18, .ref m19, .ref m20, .ref m21, .ref m22, .ref m23, .int mtr])), (m7, .inl (cI, 6, .inl RK)), (m8, .inl (cI, 6, .inl RL)), (m9, .inl (cI, 6, .inl RC)), (m22, .inl (cI, 240, .inl SH))]) H := hP
            have hD : va_D A ([(m0, .inr (5, [.int mfa, .int mho, .ref m2, .ref m3, .ref m4, .int ((mra + 1) + 1), .int mrh, .ref m7, .ref m8, .ref m9, .ref m10, .ref m11, .ref m12, .int mch, .int mfr, .int mfw, .int mrd, .ref m17, .ref m18, .ref m19, .ref m20, .ref m21, .ref m22, .ref m23, .int mtr])), (m7, .inl (cI, 6, .inl RK)), (m8, .inl (cI, 6, .inl RL)), (m9, .inl (cI, 6, .inl RC)), (m22, .inl (cI, 240, .inl SH))]) := hD
            refine lv_aload_n hx hb dX5_readsHouse_69 rfl (lv_at hl 1 rfl) ?_
            refine lv_iload_n hx hb dX5_readsHouse_70 rfl (lv_at hl 2 rfl) ?_
            refine lv_iload_n hx hb dX5_readsHouse_71 rfl (lv_at hl 3 rfl) ?_
            have hPc := hP.sub (ws' := [(m0, .inr (5, [.int mfa, .int mho, .ref m2, .ref m3, .ref m4, .int ((mra + 1) + 1), .int mrh, .ref m7, .ref m8, .ref m9, .ref m10, .ref m11, .ref m12, .int mch, .int mfr, .int mfw, .int mrd, .ref m17, .ref m18, .ref m19, .ref m20, .ref m21, .ref m22, .ref m23, .int mtr])), (m22, .inl (cI, 240, .inl SH))]) [0, 4] rfl
            have hDc := hD.sub (ws' := [(m0, .inr (5, [.int mfa, .int mho, .ref m2, .ref m3, .ref m4, .int ((mra + 1) + 1), .int mrh, .ref m7, .ref m8, .ref m9, .ref m10, .ref m11, .ref m12, .int mch, .int mfr, .int mfw, .int mrd, .ref m17, .ref m18, .ref m19, .ref m20, .ref m21, .ref m22, .ref m23, .int mtr])), (m22, .inl (cI, 240, .inl SH))]) [0, 4] (by decide) rfl
            have hKc := hK.sub (tys' := [(cI, .int)]) [0] rfl
            have hFc := va_free (wc := [(m0, .inr (5, [.int mfa, .int mho, .ref m2, .ref m3, .ref m4, .int ((mra + 1) + 1), .int mrh, .ref m7, .ref m8, .ref m9, .ref m10, .ref m11, .ref m12, .int mch, .int mfr, .int mfw, .int mrd, .ref m17, .ref m18, .ref m19, .ref m20, .ref m21, .ref m22, .ref m23, .int mtr])), (m22, .inl (cI, 240, .inl SH))]) hD hS hA [0, 4] rfl
            refine va_calli (va_runV (As := [.int i1, .int i2]) (rest := []) ⟨hx, hb, hml, hown, hts⟩ (ctX5_figure l dC dI cI m0 m2 m3 m4 m7 m8 m9 m10 m11 m12 m17 m18 m19 m20 m21 m22 m23 H.size mfa mho ((mra + 1) + 1) mrh mch mfr mfw mrd mtr SH i1 i2 (ra2 hra) (by assumption)) (cwV 2 hts gX5_readsHouse_X5_figure rfl rfl rfl (by decide +kernel) ⟨Nat.le_of_ble_eq_true rfl, Nat.le_of_ble_eq_true rfl⟩) (pre_V hKc hN hPc hDc (RX5, TX5, 25) 5 0 rfl rfl) rfl rfl hl.1 rfl (lv_room (Nat.le_of_ble_eq_true rfl)) dX5_readsHouse_72 ⟨Nat.le_of_ble_eq_true rfl, Nat.le_of_ble_eq_true rfl⟩) hS (fun q _ h => hFc q h) hFc (fun r_72 _ t H locs ht hvm hw hB hz1 hk1 hS => ?_)
            try dsimp only at hw
            have er_72 := hw.symm
            rw [ht] at hB
            refine nm_gen ((p5_figure ((mra + 1) + 1) SH i1 i2).2) (fun mra_72 emra_72 => ?_)
            rw [emra_72] at hB
            obtain ⟨hP, hD⟩ := rw_join ([(m0, .inr (5, [.int mfa, .int mho, .ref m2, .ref m3, .ref m4, .int ((mra + 1) + 1), .int mrh, .ref m7, .ref m8, .ref m9, .ref m10, .ref m11, .ref m12, .int mch, .int mfr, .int mfw, .int mrd, .ref m17, .ref m18, .ref m19, .ref m20, .ref m21, .ref m22, .ref m23, .int mtr])), (m7, .inl (cI, 6, .inl RK)), (m8, .inl (cI, 6, .inl RL)), (m9, .inl (cI, 6, .inl RC)), (m22, .inl (cI, 240, .inl SH))]) ([(m0, .inr (5, [.int mfa, .int mho, .ref m2, .ref m3, .ref m4, .int mra_72, .int mrh, .ref m7, .ref m8, .ref m9, .ref m10, .ref m11, .ref m12, .int mch, .int mfr, .int mfw, .int mrd, .ref m17, .ref m18, .ref m19, .ref m20, .ref m21, .ref m22, .ref m23, .int mtr])), (m7, .inl (cI, 6, .inl RK)), (m8, .inl (cI, 6, .inl RL)), (m9, .inl (cI, 6, .inl RC)), (m22, .inl (cI, 240, .inl SH))]) ([(m0, .inr (5, [.int mfa, .int mho, .ref m2, .ref m3, .ref m4, .int ((mra + 1) + 1), .int mrh, .ref m7, .ref m8, .ref m9, .ref m10, .ref m11, .ref m12, .int mch, .int mfr, .int mfw, .int mrd, .ref m17, .ref m18, .ref m19, .ref m20, .ref m21, .ref m22, .ref m23, .int mtr])), (m22, .inl (cI, 240, .inl SH))]) ([(m0, .inr (5, [.int mfa, .int mho, .ref m2, .ref m3, .ref m4, .int mra_72, .int mrh, .ref m7, .ref m8, .ref m9, .ref m10, .ref m11, .ref m12, .int mch, .int mfr, .int mfw, .int mrd, .ref m17, .ref m18, .ref m19, .ref m20, .ref m21, .ref m22, .ref m23, .int mtr])), (m22, .inl (cI, 240, .inl SH))]) ([(m7, .inl (cI, 6, .inl RK)), (m8, .inl (cI, 6, .inl RL)), (m9, .inl (cI, 6, .inl RC))]) hP hD [0, 4] [1, 2, 3] [m0, m7, m8, m9, m22] 5 rfl rfl rfl rfl rfl (by decide) rfl rfl hk1 hB
            refine lv_istore (lv' := [(4, .int r_72), (3, .int (p5_codeAt (mra + 1) SH i1 i2)), (0, .ref m0), (1, .int i1), (2, .int i2)]) hx hb dX5_readsHouse_75 hl (by decide) rfl (fun ls hl => ?_)
            refine lv_iload hx hb dX5_readsHouse_77 (lv_at hl 0 rfl) ?_
            refine lv_if_ge (tgt := 87) hx hb dX5_readsHouse_79 (by decide) (fun c_79 => ?_) (fun c_79 => ?_)
            · skip
              refine lv_aload_n hx hb dX5_readsHouse_87 rfl (lv_at hl 2 rfl) ?_
              refine lv_iload_n hx hb dX5_readsHouse_88 rfl (lv_at hl 3 rfl) ?_
              refine lv_iload_n hx hb dX5_readsHouse_89 rfl (lv_at hl 4 rfl) ?_
              have hPc := hP.sub (ws' := [(m0, .inr (5, [.int mfa, .int mho, .ref m2, .ref m3, .ref m4, .int mra_72, .int mrh, .ref m7, .ref m8, .ref m9, .ref m10, .ref m11, .ref m12, .int mch, .int mfr, .int mfw, .int mrd, .ref m17, .ref m18, .ref m19, .ref m20, .ref m21, .ref m22, .ref m23, .int mtr])), (m22, .inl (cI, 240, .inl SH))]) [0, 4] rfl
              have hDc := hD.sub (ws' := [(m0, .inr (5, [.int mfa, .int mho, .ref m2, .ref m3, .ref m4, .int mra_72, .int mrh, .ref m7, .ref m8, .ref m9, .ref m10, .ref m11, .ref m12, .int mch, .int mfr, .int mfw, .int mrd, .ref m17, .ref m18, .ref m19, .ref m20, .ref m21, .ref m22, .ref m23, .int mtr])), (m22, .inl (cI, 240, .inl SH))]) [0, 4] (by decide) rfl
              have hKc := hK.sub (tys' := [(cI, .int)]) [0] rfl
              have hFc := va_free (wc := [(m0, .inr (5, [.int mfa, .int mho, .ref m2, .ref m3, .ref m4, .int mra_72, .int mrh, .ref m7, .ref m8, .ref m9, .ref m10, .ref m11, .ref m12, .int mch, .int mfr, .int mfw, .int mrd, .ref m17, .ref m18, .ref m19, .ref m20, .ref m21, .ref m22, .ref m23, .int mtr])), (m22, .inl (cI, 240, .inl SH))]) hD hS hA [0, 4] rfl
              refine va_calli (va_runV (As := [.int i1, .int i2]) (rest := []) ⟨hx, hb, hml, hown, hts⟩ (ctX5_figure l dC dI cI m0 m2 m3 m4 m7 m8 m9 m10 m11 m12 m17 m18 m19 m20 m21 m22 m23 H.size mfa mho mra_72 mrh mch mfr mfw mrd mtr SH i1 i2 (by rw [← emra_72]; exact figure_nn (ra2 hra) (ra2b hra)) (by assumption)) (cwV 2 hts gX5_readsHouse_X5_figure rfl rfl rfl (by decide +kernel) ⟨Nat.le_of_ble_eq_true rfl, Nat.le_of_ble_eq_true rfl⟩) (pre_V hKc hN hPc hDc (RX5, TX5, 25) 5 0 rfl rfl) rfl rfl hl.1 rfl (lv_room (Nat.le_of_ble_eq_true rfl)) dX5_readsHouse_90 ⟨Nat.le_of_ble_eq_true rfl, Nat.le_of_ble_eq_true rfl⟩) hS (fun q _ h => hFc q h) hFc (fun r_90 _ t H locs ht hvm hw hB hz1 hk1 hS => ?_)
              try dsimp only at hw
              have er_90 := hw.symm
              rw [ht] at hB
              refine nm_gen ((p5_figure mra_72 SH i1 i2).2) (fun mra_90 emra_90 => ?_)
              rw [emra_90] at hB
              obtain ⟨hP, hD⟩ := rw_join ([(m0, .inr (5, [.int mfa, .int mho, .ref m2, .ref m3, .ref m4, .int mra_72, .int mrh, .ref m7, .ref m8, .ref m9, .ref m10, .ref m11, .ref m12, .int mch, .int mfr, .int mfw, .int mrd, .ref m17, .ref m18, .ref m19, .ref m20, .ref m21, .ref m22, .ref m23, .int mtr])), (m7, .inl (cI, 6, .inl RK)), (m8, .inl (cI, 6, .inl RL)), (m9, .inl (cI, 6, .inl RC)), (m22, .inl (cI, 240, .inl SH))]) ([(m0, .inr (5, [.int mfa, .int mho, .ref m2, .ref m3, .ref m4, .int mra_90, .int mrh, .ref m7, .ref m8, .ref m9, .ref m10, .ref m11, .ref m12, .int mch, .int mfr, .int mfw, .int mrd, .ref m17, .ref m18, .ref m19, .ref m20, .ref m21, .ref m22, .ref m23, .int mtr])), (m7, .inl (cI, 6, .inl RK)), (m8, .inl (cI, 6, .inl RL)), (m9, .inl (cI, 6, .inl RC)), (m22, .inl (cI, 240, .inl SH))]) ([(m0, .inr (5, [.int mfa, .int mho, .ref m2, .ref m3, .ref m4, .int mra_72, .int mrh, .ref m7, .ref m8, .ref m9, .ref m10, .ref m11, .ref m12, .int mch, .int mfr, .int mfw, .int mrd, .ref m17, .ref m18, .ref m19, .ref m20, .ref m21, .ref m22, .ref m23, .int mtr])), (m22, .inl (cI, 240, .inl SH))]) ([(m0, .inr (5, [.int mfa, .int mho, .ref m2, .ref m3, .ref m4, .int mra_90, .int mrh, .ref m7, .ref m8, .ref m9, .ref m10, .ref m11, .ref m12, .int mch, .int mfr, .int mfw, .int mrd, .ref m17, .ref m18, .ref m19, .ref m20, .ref m21, .ref m22, .ref m23, .int mtr])), (m22, .inl (cI, 240, .inl SH))]) ([(m7, .inl (cI, 6, .inl RK)), (m8, .inl (cI, 6, .inl RL)), (m9, .inl (cI, 6, .inl RC))]) hP hD [0, 4] [1, 2, 3] [m0, m7, m8, m9, m22] 5 rfl rfl rfl rfl rfl (by decide) rfl rfl hk1 hB
              refine lv_istore (lv' := [(5, .int r_90), (4, .int r_72), (3, .int (p5_codeAt (mra + 1) SH i1 i2)), (0, .ref m0), (1, .int i1), (2, .int i2)]) hx hb dX5_readsHouse_93 hl (by decide) rfl (fun ls hl => ?_)
              refine lv_iload hx hb dX5_readsHouse_95 (lv_at hl 0 rfl) ?_
              refine lv_if_ge (tgt := 102) hx hb dX5_readsHouse_97 (by decide) (fun c_97 => ?_) (fun c_97 => ?_)
              · skip
                have jh : vp_in mrh 6 := rh_ix hrh c_6
                refine lv_aload_n hx hb dX5_readsHouse_102 rfl (lv_at hl 3 rfl) ?_
                refine va_get (D := (dC, dI)) (ci := 5) (v := .ref m7) (C := RX5) (T := TX5) (N := 25) hx hb hts hin5 hown hK hP 0 rfl rfl 7 (by decide) kf_19 (fun _ h9 => h9) rfl dX5_readsHouse_103 ?_
                refine lv_aload_n hx hb dX5_readsHouse_106 rfl (lv_at hl 3 rfl) ?_
                refine va_get (D := (dC, dI)) (ci := 5) (v := .int mrh) (C := RX5) (T := TX5) (N := 25) hx hb hts hin5 hown hK hP 0 rfl rfl 6 (by decide) kf_84 (fun _ h9 => h9) rfl dX5_readsHouse_107 ?_
                refine lv_iload_n hx hb dX5_readsHouse_110 rfl (lv_at hl 2 rfl) ?_
                refine lv_bipush (v := 104) hx hb dX5_readsHouse_111 (by decide) ?_
                refine lv_icmp_ne (tgt := 120) hx hb dX5_readsHouse_113 (by decide) (fun c_113 => ?_) (fun c_113 => ?_)
                · skip
                  refine lv_iload_n hx hb dX5_readsHouse_120 rfl (lv_at hl 2 rfl) ?_
                  refine lv_bipush (v := 107) hx hb dX5_readsHouse_121 (by decide) ?_
                  refine lv_icmp_ne (tgt := 130) hx hb dX5_readsHouse_123 (by decide) (fun c_123 => ?_) (fun c_123 => ?_)
                  · skip
                    refine lv_iconst (v := 2) hx hb dX5_readsHouse_130 (by decide) ?_
                    refine va_iast hx hb hK hP hD hS 1 0 rfl rfl (by assumption) dX5_readsHouse_131 (fun H locs hP hD hS => ?_)
                    have hP : va_P (dC, dI) vwCl ([(m0, .inr (5, [.int mfa, .int mho, .ref m2, .ref m3, .ref m4, .int mra_90, .int mrh, .ref m7, .ref m8, .ref m9, .ref m10, .ref m11, .ref m12, .int mch, .int mfr, .int mfw, .int mrd, .ref m17, .ref m18, .ref m19, .ref m20, .ref m21, .ref m22, .ref m23, .int mtr])), (m7, .inl (cI, 6, .inl (upd RK mrh.toNatClampNeg 2))), (m8, .inl (cI, 6, .inl RL)), (m9, .inl (cI, 6, .inl RC)), (m22, .inl (cI, 240, .inl SH))]) H := hP
                    have hD : va_D A ([(m0, .inr (5, [.int mfa, .int mho, .ref m2, .ref m3, .ref m4, .int mra_90, .int mrh, .ref m7, .ref m8, .ref m9, .ref m10, .ref m11, .ref m12, .int mch, .int mfr, .int mfw, .int mrd, .ref m17, .ref m18, .ref m19, .ref m20, .ref m21, .ref m22, .ref m23, .int mtr])), (m7, .inl (cI, 6, .inl (upd RK mrh.toNatClampNeg 2))), (m8, .inl (cI, 6, .inl RL)), (m9, .inl (cI, 6, .inl RC)), (m22, .inl (cI, 240, .inl SH))]) := hD
                    refine lv_aload_n hx hb dX5_readsHouse_132 rfl (lv_at hl 3 rfl) ?_
                    refine va_get (D := (dC, dI)) (ci := 5) (v := .ref m8) (C := RX5) (T := TX5) (N := 25) hx hb hts hin5 hown hK hP 0 rfl rfl 8 (by decide) kf_22 (fun _ h9 => h9) rfl dX5_readsHouse_133 ?_
                    refine lv_aload_n hx hb dX5_readsHouse_136 rfl (lv_at hl 3 rfl) ?_
                    refine va_get (D := (dC, dI)) (ci := 5) (v := .int mrh) (C := RX5) (T := TX5) (N := 25) hx hb hts hin5 hown hK hP 0 rfl rfl 6 (by decide) kf_84 (fun _ h9 => h9) rfl dX5_readsHouse_137 ?_
                    refine lv_iload hx hb dX5_readsHouse_140 (lv_at hl 1 rfl) ?_
                    refine va_iast hx hb hK hP hD hS 2 0 rfl rfl (by assumption) dX5_readsHouse_142 (fun H locs hP hD hS => ?_)
                    have hP : va_P (dC, dI) vwCl ([(m0, .inr (5, [.int mfa, .int mho, .ref m2, .ref m3, .ref m4, .int mra_90, .int mrh, .ref m7, .ref m8, .ref m9, .ref m10, .ref m11, .ref m12, .int mch, .int mfr, .int mfw, .int mrd, .ref m17, .ref m18, .ref m19, .ref m20, .ref m21, .ref m22, .ref m23, .int mtr])), (m7, .inl (cI, 6, .inl (upd RK mrh.toNatClampNeg 2))), (m8, .inl (cI, 6, .inl (upd RL mrh.toNatClampNeg r_72))), (m9, .inl (cI, 6, .inl RC)), (m22, .inl (cI, 240, .inl SH))]) H := hP
                    have hD : va_D A ([(m0, .inr (5, [.int mfa, .int mho, .ref m2, .ref m3, .ref m4, .int mra_90, .int mrh, .ref m7, .ref m8, .ref m9, .ref m10, .ref m11, .ref m12, .int mch, .int mfr, .int mfw, .int mrd, .ref m17, .ref m18, .ref m19, .ref m20, .ref m21, .ref m22, .ref m23, .int mtr])), (m7, .inl (cI, 6, .inl (upd RK mrh.toNatClampNeg 2))), (m8, .inl (cI, 6, .inl (upd RL mrh.toNatClampNeg r_72))), (m9, .inl (cI, 6, .inl RC)), (m22, .inl (cI, 240, .inl SH))]) := hD
                    refine lv_aload_n hx hb dX5_readsHouse_143 rfl (lv_at hl 3 rfl) ?_
                    refine va_get (D := (dC, dI)) (ci := 5) (v := .ref m9) (C := RX5) (T := TX5) (N := 25) hx hb hts hin5 hown hK hP 0 rfl rfl 9 (by decide) kf_25 (fun _ h9 => h9) rfl dX5_readsHouse_144 ?_
                    refine lv_aload_n hx hb dX5_readsHouse_147 rfl (lv_at hl 3 rfl) ?_
                    refine va_get (D := (dC, dI)) (ci := 5) (v := .int mrh) (C := RX5) (T := TX5) (N := 25) hx hb hts hin5 hown hK hP 0 rfl rfl 6 (by decide) kf_84 (fun _ h9 => h9) rfl dX5_readsHouse_148 ?_
                    refine lv_iload hx hb dX5_readsHouse_151 (lv_at hl 0 rfl) ?_
                    refine va_iast hx hb hK hP hD hS 3 0 rfl rfl (by assumption) dX5_readsHouse_153 (fun H locs hP hD hS => ?_)
                    have hP : va_P (dC, dI) vwCl ([(m0, .inr (5, [.int mfa, .int mho, .ref m2, .ref m3, .ref m4, .int mra_90, .int mrh, .ref m7, .ref m8, .ref m9, .ref m10, .ref m11, .ref m12, .int mch, .int mfr, .int mfw, .int mrd, .ref m17, .ref m18, .ref m19, .ref m20, .ref m21, .ref m22, .ref m23, .int mtr])), (m7, .inl (cI, 6, .inl (upd RK mrh.toNatClampNeg 2))), (m8, .inl (cI, 6, .inl (upd RL mrh.toNatClampNeg r_72))), (m9, .inl (cI, 6, .inl (upd RC mrh.toNatClampNeg r_90))), (m22, .inl (cI, 240, .inl SH))]) H := hP
                    have hD : va_D A ([(m0, .inr (5, [.int mfa, .int mho, .ref m2, .ref m3, .ref m4, .int mra_90, .int mrh, .ref m7, .ref m8, .ref m9, .ref m10, .ref m11, .ref m12, .int mch, .int mfr, .int mfw, .int mrd, .ref m17, .ref m18, .ref m19, .ref m20, .ref m21, .ref m22, .ref m23, .int mtr])), (m7, .inl (cI, 6, .inl (upd RK mrh.toNatClampNeg 2))), (m8, .inl (cI, 6, .inl (upd RL mrh.toNatClampNeg r_72))), (m9, .inl (cI, 6, .inl (upd RC mrh.toNatClampNeg r_90))), (m22, .inl (cI, 240, .inl SH))]) := hD
                    refine lv_aload_n hx hb dX5_readsHouse_154 rfl (lv_at hl 3 rfl) ?_
                    refine lv_dup hx hb dX5_readsHouse_155 rfl ?_
                    refine va_get (D := (dC, dI)) (ci := 5) (v := .int mrh) (C := RX5) (T := TX5) (N := 25) hx hb hts hin5 hown hK hP 0 rfl rfl 6 (by decide) kf_84 (fun _ h9 => h9) rfl dX5_readsHouse_156 ?_
                    refine lv_iconst (v := 1) hx hb dX5_readsHouse_159 (by decide) ?_
                    refine lv_iadd hx hb dX5_readsHouse_160 ?_
                    refine va_put (D := (dC, dI)) (ci := 5) (v := .int (mrh + 1)) (ty := .int) (C := RX5) (T := TX5) (N := 25) hx hb hts hin5 tyX5 tyX5_ok nmX5 hown hK hP hD hS 0 rfl rfl 6 (by decide) kf_84 (fun _ h9 => h9) rfl (by decide +kernel) rfl rfl (Nat.le_of_ble_eq_true rfl) dX5_readsHouse_161 (fun H locs hP hD hS => ?_)
                    have hP : va_P (dC, dI) vwCl ([(m0, .inr (5, [.int mfa, .int mho, .ref m2, .ref m3, .ref m4, .int mra_90, .int (mrh + 1), .ref m7, .ref m8, .ref m9, .ref m10, .ref m11, .ref m12, .int mch, .int mfr, .int mfw, .int mrd, .ref m17, .ref m18, .ref m19, .ref m20, .ref m21, .ref m22, .ref m23, .int mtr])), (m7, .inl (cI, 6, .inl (upd RK mrh.toNatClampNeg 2))), (m8, .inl (cI, 6, .inl (upd RL mrh.toNatClampNeg r_72))), (m9, .inl (cI, 6, .inl (upd RC mrh.toNatClampNeg r_90))), (m22, .inl (cI, 240, .inl SH))]) H := hP
                    have hD : va_D A ([(m0, .inr (5, [.int mfa, .int mho, .ref m2, .ref m3, .ref m4, .int mra_90, .int (mrh + 1), .ref m7, .ref m8, .ref m9, .ref m10, .ref m11, .ref m12, .int mch, .int mfr, .int mfw, .int mrd, .ref m17, .ref m18, .ref m19, .ref m20, .ref m21, .ref m22, .ref m23, .int mtr])), (m7, .inl (cI, 6, .inl (upd RK mrh.toNatClampNeg 2))), (m8, .inl (cI, 6, .inl (upd RL mrh.toNatClampNeg r_72))), (m9, .inl (cI, 6, .inl (upd RC mrh.toNatClampNeg r_90))), (m22, .inl (cI, 240, .inl SH))]) := hD
                    refine lv_iconst (v := 1) hx hb dX5_readsHouse_164 (by decide) ?_
                    have hE9 : p5_readsHouse mra mrh RK RL RC SH i1 i2 = (1, mra_90, (mrh + 1), (upd RK mrh.toNatClampNeg 2), (upd RL mrh.toNatClampNeg r_72), (upd RC mrh.toNatClampNeg r_90)) := by unfold p5_readsHouse; simp only [er_72, emra_72, er_90, emra_90]; rw [if_neg c_6, if_pos c_17, if_neg c_42, if_neg c_48, if_pos c_54, if_pos c_79, if_pos c_97]
                    exact W.zret (v := 1) hx hb hr (by decide +kernel) (fun t ht hW => ⟨⟨_, (), rfl, by rw [hE9], by show va_P (dC, dI) vwCl _ t.heap; rw [ht, hE9]; exact hP⟩, hS.F ht⟩) hS.2.2 dX5_readsHouse_165
                  · exact absurd c_123 c_48
                · exact absurd c_113 c_42
              · skip
                refine lv_iconst (v := 0) hx hb dX5_readsHouse_100 (by decide) ?_
                have hE9 : p5_readsHouse mra mrh RK RL RC SH i1 i2 = (0, mra_90, mrh, RK, RL, RC) := by unfold p5_readsHouse; simp only [er_72, emra_72, er_90, emra_90]; rw [if_neg c_6, if_pos c_17, if_neg c_42, if_neg c_48, if_pos c_54, if_pos c_79, if_neg c_97]
                exact W.zret (v := 0) hx hb hr (by decide +kernel) (fun t ht hW => ⟨⟨_, (), rfl, by rw [hE9], by show va_P (dC, dI) vwCl _ t.heap; rw [ht, hE9]; exact hP⟩, hS.F ht⟩) hS.2.2 dX5_readsHouse_101
            · skip
              refine lv_bipush (v := (-9)) hx hb dX5_readsHouse_82 (by decide) ?_
              refine lv_goto (tgt := 93) hx hb dX5_readsHouse_84 (by decide) ?_
              refine lv_istore (lv' := [(5, .int (-9)), (4, .int r_72), (3, .int (p5_codeAt (mra + 1) SH i1 i2)), (0, .ref m0), (1, .int i1), (2, .int i2)]) hx hb dX5_readsHouse_93 hl (by decide) rfl (fun ls hl => ?_)
              refine lv_iload hx hb dX5_readsHouse_95 (lv_at hl 0 rfl) ?_
              refine lv_if_ge (tgt := 102) hx hb dX5_readsHouse_97 (by decide) (fun c_97 => ?_) (fun c_97 => ?_)
              · exact absurd c_97 (by decide)
              · skip
                refine lv_iconst (v := 0) hx hb dX5_readsHouse_100 (by decide) ?_
                have hE9 : p5_readsHouse mra mrh RK RL RC SH i1 i2 = (0, mra_72, mrh, RK, RL, RC) := by unfold p5_readsHouse; simp only [er_72, emra_72]; rw [if_neg c_6, if_pos c_17, if_neg c_42, if_neg c_48, if_pos c_54, if_neg c_79]
                exact W.zret (v := 0) hx hb hr (by decide +kernel) (fun t ht hW => ⟨⟨_, (), rfl, by rw [hE9], by show va_P (dC, dI) vwCl _ t.heap; rw [ht, hE9]; exact hP⟩, hS.F ht⟩) hS.2.2 dX5_readsHouse_101
          · skip
            refine lv_iconst (v := 0) hx hb dX5_readsHouse_57 (by decide) ?_
            have hE9 : p5_readsHouse mra mrh RK RL RC SH i1 i2 = (0, (mra + 1), mrh, RK, RL, RC) := by unfold p5_readsHouse; rw [if_neg c_6, if_pos c_17, if_neg c_42, if_neg c_48, if_neg c_54]
            exact W.zret (v := 0) hx hb hr (by decide +kernel) (fun t ht hW => ⟨⟨_, (), rfl, by rw [hE9], by show va_P (dC, dI) vwCl _ t.heap; rw [ht, hE9]; exact hP⟩, hS.F ht⟩) hS.2.2 dX5_readsHouse_58
    · skip
      refine lv_iconst (v := 0) hx hb dX5_readsHouse_20 (by decide) ?_
      have hE9 : p5_readsHouse mra mrh RK RL RC SH i1 i2 = (0, mra, mrh, RK, RL, RC) := by unfold p5_readsHouse; rw [if_neg c_6, if_neg c_17]
      exact W.zret (v := 0) hx hb hr (by decide +kernel) (fun t ht hW => ⟨⟨_, (), rfl, by rw [hE9], by show va_P (dC, dI) vwCl _ t.heap; rw [ht, hE9]; exact hP⟩, hS.F ht⟩) hS.2.2 dX5_readsHouse_21

def p5_goPair (mho : Int32) (mch : Int32) (mfr : Int32) (K : Nat → Int32) (L : Nat → Int32) (C : Nat → Int32) (PY : Nat → Int32) (i1 : Int32) (i2 : Int32) (i3 : Int32) : Int32 × Int32 × Int32 × (Nat → Int32) × (Nat → Int32) × (Nat → Int32) :=
  if (p5_payerOf K L C i1 i2 i3) = (p5_richest mho K L C) then
    if i1 = i2 then
      ((p5_payerOf K L C i1 i2 i3), mch, (mfr + 1), ((p5_pay L C (p5_payerOf K L C i1 i2 i3) i3).1), ((p5_pay L C (p5_payerOf K L C i1 i2 i3) i3).2), (upd PY (p5_payerOf K L C i1 i2 i3).toNatClampNeg ((PY (p5_payerOf K L C i1 i2 i3).toNatClampNeg) + 1)))
    else
      if (p5_payerOf K L C i1 i2 i3) = i1 then
        ((p5_payerOf K L C i1 i2 i3), (mch + 1), (mfr + 1), ((p5_pay (upd (upd L i1.toNatClampNeg (L i2.toNatClampNeg)) i2.toNatClampNeg (L i1.toNatClampNeg)) (upd (upd C i1.toNatClampNeg (C i2.toNatClampNeg)) i2.toNatClampNeg (C i1.toNatClampNeg)) (p5_payerOf K L C i1 i2 i3) i3).1), ((p5_pay (upd (upd L i1.toNatClampNeg (L i2.toNatClampNeg)) i2.toNatClampNeg (L i1.toNatClampNeg)) (upd (upd C i1.toNatClampNeg (C i2.toNatClampNeg)) i2.toNatClampNeg (C i1.toNatClampNeg)) (p5_payerOf K L C i1 i2 i3) i3).2), (upd PY (p5_payerOf K L C i1 i2 i3).toNatClampNeg ((PY (p5_payerOf K L C i1 i2 i3).toNatClampNeg) + 1)))
      else
        ((p5_payerOf K L C i1 i2 i3), mch, (mfr + 1), ((p5_pay L C (p5_payerOf K L C i1 i2 i3) i3).1), ((p5_pay L C (p5_payerOf K L C i1 i2 i3) i3).2), (upd PY (p5_payerOf K L C i1 i2 i3).toNatClampNeg ((PY (p5_payerOf K L C i1 i2 i3).toNatClampNeg) + 1)))
  else
    if i1 = i2 then
      ((p5_payerOf K L C i1 i2 i3), mch, (mfr + 0), ((p5_pay L C (p5_payerOf K L C i1 i2 i3) i3).1), ((p5_pay L C (p5_payerOf K L C i1 i2 i3) i3).2), (upd PY (p5_payerOf K L C i1 i2 i3).toNatClampNeg ((PY (p5_payerOf K L C i1 i2 i3).toNatClampNeg) + 1)))
    else
      if (p5_payerOf K L C i1 i2 i3) = i1 then
        ((p5_payerOf K L C i1 i2 i3), (mch + 1), (mfr + 0), ((p5_pay (upd (upd L i1.toNatClampNeg (L i2.toNatClampNeg)) i2.toNatClampNeg (L i1.toNatClampNeg)) (upd (upd C i1.toNatClampNeg (C i2.toNatClampNeg)) i2.toNatClampNeg (C i1.toNatClampNeg)) (p5_payerOf K L C i1 i2 i3) i3).1), ((p5_pay (upd (upd L i1.toNatClampNeg (L i2.toNatClampNeg)) i2.toNatClampNeg (L i1.toNatClampNeg)) (upd (upd C i1.toNatClampNeg (C i2.toNatClampNeg)) i2.toNatClampNeg (C i1.toNatClampNeg)) (p5_payerOf K L C i1 i2 i3) i3).2), (upd PY (p5_payerOf K L C i1 i2 i3).toNatClampNeg ((PY (p5_payerOf K L C i1 i2 i3).toNatClampNeg) + 1)))
      else
        ((p5_payerOf K L C i1 i2 i3), mch, (mfr + 0), ((p5_pay L C (p5_payerOf K L C i1 i2 i3) i3).1), ((p5_pay L C (p5_payerOf K L C i1 i2 i3) i3).2), (upd PY (p5_payerOf K L C i1 i2 i3).toNatClampNeg ((PY (p5_payerOf K L C i1 i2 i3).toNatClampNeg) + 1)))
abbrev rmX5_goPair : Room := { frames := 4, cells := 0, slots := 0, locals := 93 }
abbrev QX5_goPair (dC : Nat → ClassId) (dI : Nat → Nat → Nat) (A : Nat → Prop) (cI : ClassId) (m0 : Nat) (m2 : Nat) (m3 : Nat) (m4 : Nat) (m7 : Nat) (m8 : Nat) (m9 : Nat) (m10 : Nat) (m11 : Nat) (m12 : Nat) (m17 : Nat) (m18 : Nat) (m19 : Nat) (m20 : Nat) (m21 : Nat) (m22 : Nat) (m23 : Nat) (mfa : Int32) (mho : Int32) (mra : Int32) (mrh : Int32) (mch : Int32) (mfr : Int32) (mfw : Int32) (mrd : Int32) (mtr : Int32) (K : Nat → Int32) (L : Nat → Int32) (C : Nat → Int32) (PY : Nat → Int32) (i1 : Int32) (i2 : Int32) (i3 : Int32) : Array Value → State → Outcome → State → Prop := va_Qi (fun (r : Int32) (_ : Unit) => r = (p5_goPair mho mch mfr K L C PY i1 i2 i3).1) (fun (_ : Unit) (t : State) => va_P (dC, dI) vwCl ([(m0, .inr (5, [.int mfa, .int mho, .ref m2, .ref m3, .ref m4, .int mra, .int mrh, .ref m7, .ref m8, .ref m9, .ref m10, .ref m11, .ref m12, .int ((p5_goPair mho mch mfr K L C PY i1 i2 i3).2.1), .int ((p5_goPair mho mch mfr K L C PY i1 i2 i3).2.2.1), .int mfw, .int mrd, .ref m17, .ref m18, .ref m19, .ref m20, .ref m21, .ref m22, .ref m23, .int mtr])), (m2, .inl (cI, 6, .inl K)), (m3, .inl (cI, 6, .inl ((p5_goPair mho mch mfr K L C PY i1 i2 i3).2.2.2.1))), (m4, .inl (cI, 6, .inl ((p5_goPair mho mch mfr K L C PY i1 i2 i3).2.2.2.2.1))), (m12, .inl (cI, 6, .inl ((p5_goPair mho mch mfr K L C PY i1 i2 i3).2.2.2.2.2)))]) t.heap) A
set_option maxHeartbeats 4000000 in
set_option maxRecDepth 100000 in
theorem ctX5_goPair (l : Launch) (dC : Nat → ClassId) (dI : Nat → Nat → Nat) (cI : ClassId) (m0 : Nat) (m2 : Nat) (m3 : Nat) (m4 : Nat) (m7 : Nat) (m8 : Nat) (m9 : Nat) (m10 : Nat) (m11 : Nat) (m12 : Nat) (m17 : Nat) (m18 : Nat) (m19 : Nat) (m20 : Nat) (m21 : Nat) (m22 : Nat) (m23 : Nat) (sz : Nat) (mfa : Int32) (mho : Int32) (mra : Int32) (mrh : Int32) (mch : Int32) (mfr : Int32) (mfw : Int32) (mrd : Int32) (mtr : Int32) (K : Nat → Int32) (L : Nat → Int32) (C : Nat → Int32) (PY : Nat → Int32) (i1 : Int32) (i2 : Int32) (i3 : Int32) (hi1 : vp_in i1 6) (hi2 : vp_in i2 6) (hNb : mho.toInt ≤ 6) : Met l yX5_goPair wsX5_goPair rmX5_goPair (va_Pc [.ref m0, .int i1, .int i2, .int i3] (cP dC dI [(cI, .int)] ([(m0, .inr (5, [.int mfa, .int mho, .ref m2, .ref m3, .ref m4, .int mra, .int mrh, .ref m7, .ref m8, .ref m9, .ref m10, .ref m11, .ref m12, .int mch, .int mfr, .int mfw, .int mrd, .ref m17, .ref m18, .ref m19, .ref m20, .ref m21, .ref m22, .ref m23, .int mtr])), (m2, .inl (cI, 6, .inl K)), (m3, .inl (cI, 6, .inl L)), (m4, .inl (cI, 6, .inl C)), (m12, .inl (cI, 6, .inl PY))]) sz)) (QX5_goPair dC dI (va_A ([(m0, .inr (5, [.int mfa, .int mho, .ref m2, .ref m3, .ref m4, .int mra, .int mrh, .ref m7, .ref m8, .ref m9, .ref m10, .ref m11, .ref m12, .int mch, .int mfr, .int mfw, .int mrd, .ref m17, .ref m18, .ref m19, .ref m20, .ref m21, .ref m22, .ref m23, .int mtr])), (m2, .inl (cI, 6, .inl K)), (m3, .inl (cI, 6, .inl L)), (m4, .inl (cI, 6, .inl C)), (m12, .inl (cI, 6, .inl PY))]) sz) cI m0 m2 m3 m4 m7 m8 m9 m10 m11 m12 m17 m18 m19 m20 m21 m22 m23 mfa mho mra mrh mch mfr mfw mrd mtr K L C PY i1 i2 i3) 0 0 (va_A ([(m0, .inr (5, [.int mfa, .int mho, .ref m2, .ref m3, .ref m4, .int mra, .int mrh, .ref m7, .ref m8, .ref m9, .ref m10, .ref m11, .ref m12, .int mch, .int mfr, .int mfw, .int mrd, .ref m17, .ref m18, .ref m19, .ref m20, .ref m21, .ref m22, .ref m23, .int mtr])), (m2, .inl (cI, 6, .inl K)), (m3, .inl (cI, 6, .inl L)), (m4, .inl (cI, 6, .inl C)), (m12, .inl (cI, 6, .inl PY))]) sz) := by
  refine Met.ofW (cc := cX5_goPair) (maxL := 7) (ret := (some .int)) (by decide) rfl ?_
  intro p e s m args below meth c s₁ B hml hv
  obtain ⟨rfl, hsz, hP, hK, hD0, hN⟩ := hv
  have hx := B.exec
  have hb := B.bytes
  have hr := B.returns
  have hts := atoms_spec (ws := wsX5_goPair) B.pre
  have hown : s.vm.findClass RX5 = some m.cls := findClass_of_methodNamed B.named
  have hlocks := B.notSynchronized
  subst hsz
  have hD := hD0.self (sz := s.heap.size)
  generalize hAe : va_A ([(m0, .inr (5, [.int mfa, .int mho, .ref m2, .ref m3, .ref m4, .int mra, .int mrh, .ref m7, .ref m8, .ref m9, .ref m10, .ref m11, .ref m12, .int mch, .int mfr, .int mfw, .int mrd, .ref m17, .ref m18, .ref m19, .ref m20, .ref m21, .ref m22, .ref m23, .int mtr])), (m2, .inl (cI, 6, .inl K)), (m3, .inl (cI, 6, .inl L)), (m4, .inl (cI, 6, .inl C)), (m12, .inl (cI, 6, .inl PY))]) s.heap.size = A at hD ⊢
  have hA : ∀ q : Nat, s.heap.size ≤ q → A q := fun q h => by rw [← hAe]; exact Or.inr h
  have hS : va_S A s.heap s.heap [] := va_S.rf
  have hP : va_P (dC, dI) vwCl ([(m0, .inr (5, [.int mfa, .int mho, .ref m2, .ref m3, .ref m4, .int mra, .int mrh, .ref m7, .ref m8, .ref m9, .ref m10, .ref m11, .ref m12, .int mch, .int mfr, .int mfw, .int mrd, .ref m17, .ref m18, .ref m19, .ref m20, .ref m21, .ref m22, .ref m23, .int mtr])), (m2, .inl (cI, 6, .inl K)), (m3, .inl (cI, 6, .inl L)), (m4, .inl (cI, 6, .inl C)), (m12, .inl (cI, 6, .inl PY))]) s.heap := hP
  have hin5 : ∀ w ∈ wsX50, w ∈ wsX5_goPair := by decide +kernel
  have kf_13 := hts (.fieldLink RX5 13 "RicherChangeModel" "landOf" "[I") (by decide +kernel)
  have kf_16 := hts (.fieldLink RX5 16 "RicherChangeModel" "coinOf" "[I") (by decide +kernel)
  have kf_168 := hts (.fieldLink RX5 168 "RicherChangeModel" "fairs" "I") (by decide +kernel)
  have kf_171 := hts (.fieldLink RX5 171 "RicherChangeModel" "changes" "I") (by decide +kernel)
  have kf_34 := hts (.fieldLink RX5 34 "RicherChangeModel" "paysOf" "[I") (by decide +kernel)
  have hl := lv_entry ([.ref m0, .int i1, .int i2, .int i3]) (n := 7) (Nat.le_of_ble_eq_true rfl)
  rw [lg_entry_eq]
  generalize (lg_sl ([.ref m0, .int i1, .int i2, .int i3]) ++ List.replicate (7 - (lg_sl ([.ref m0, .int i1, .int i2, .int i3])).length) Slot.unset).toArray = ls at hl ⊢
  have hl : lv_has ls 7 [(0, .ref m0), (1, .int i1), (2, .int i2), (3, .int i3)] := hl
  refine lv_aload_n hx hb dX5_goPair_0 rfl (lv_at hl 0 rfl) ?_
  refine lv_iload_n hx hb dX5_goPair_1 rfl (lv_at hl 1 rfl) ?_
  refine lv_iload_n hx hb dX5_goPair_2 rfl (lv_at hl 2 rfl) ?_
  refine lv_iload_n hx hb dX5_goPair_3 rfl (lv_at hl 3 rfl) ?_
  have hPc := hP.sub (ws' := [(m0, .inr (5, [.int mfa, .int mho, .ref m2, .ref m3, .ref m4, .int mra, .int mrh, .ref m7, .ref m8, .ref m9, .ref m10, .ref m11, .ref m12, .int mch, .int mfr, .int mfw, .int mrd, .ref m17, .ref m18, .ref m19, .ref m20, .ref m21, .ref m22, .ref m23, .int mtr])), (m2, .inl (cI, 6, .inl K)), (m3, .inl (cI, 6, .inl L)), (m4, .inl (cI, 6, .inl C))]) [0, 1, 2, 3] rfl
  have hDc := hD.sub (ws' := [(m0, .inr (5, [.int mfa, .int mho, .ref m2, .ref m3, .ref m4, .int mra, .int mrh, .ref m7, .ref m8, .ref m9, .ref m10, .ref m11, .ref m12, .int mch, .int mfr, .int mfw, .int mrd, .ref m17, .ref m18, .ref m19, .ref m20, .ref m21, .ref m22, .ref m23, .int mtr])), (m2, .inl (cI, 6, .inl K)), (m3, .inl (cI, 6, .inl L)), (m4, .inl (cI, 6, .inl C))]) [0, 1, 2, 3] (by decide) rfl
  have hKc := hK.sub (tys' := [(cI, .int)]) [0] rfl
  have hFc := va_free (wc := [(m0, .inr (5, [.int mfa, .int mho, .ref m2, .ref m3, .ref m4, .int mra, .int mrh, .ref m7, .ref m8, .ref m9, .ref m10, .ref m11, .ref m12, .int mch, .int mfr, .int mfw, .int mrd, .ref m17, .ref m18, .ref m19, .ref m20, .ref m21, .ref m22, .ref m23, .int mtr])), (m2, .inl (cI, 6, .inl K)), (m3, .inl (cI, 6, .inl L)), (m4, .inl (cI, 6, .inl C))]) hD hS hA [0, 1, 2, 3] rfl
  refine va_calli (va_runV (As := [.int i1, .int i2, .int i3]) (rest := []) ⟨hx, hb, hml, hown, hts⟩ (ctX5_payerOf l dC dI cI m0 m2 m3 m4 m7 m8 m9 m10 m11 m12 m17 m18 m19 m20 m21 m22 m23 s.heap.size mfa mho mra mrh mch mfr mfw mrd mtr K L C i1 i2 i3 (by assumption) (by assumption)) (cwV 3 hts gX5_goPair_X5_payerOf rfl rfl rfl (by decide +kernel) ⟨Nat.le_of_ble_eq_true rfl, Nat.le_of_ble_eq_true rfl⟩) (pre_V hKc hN hPc hDc (RX5, TX5, 25) 5 0 rfl rfl) rfl rfl hl.1 rfl (lv_room (Nat.le_of_ble_eq_true rfl)) dX5_goPair_4 ⟨Nat.le_of_ble_eq_true rfl, Nat.le_of_ble_eq_true rfl⟩) hS (fun q _ h => hFc q h) hFc (fun r _ t H locs ht hvm hw hB hz1 hk1 hS => ?_)
  try dsimp only at hw
  subst hw
  rw [ht] at hB
  obtain ⟨hP, hD⟩ := rw_join ([(m0, .inr (5, [.int mfa, .int mho, .ref m2, .ref m3, .ref m4, .int mra, .int mrh, .ref m7, .ref m8, .ref m9, .ref m10, .ref m11, .ref m12, .int mch, .int mfr, .int mfw, .int mrd, .ref m17, .ref m18, .ref m19, .ref m20, .ref m21, .ref m22, .ref m23, .int mtr])), (m2, .inl (cI, 6, .inl K)), (m3, .inl (cI, 6, .inl L)), (m4, .inl (cI, 6, .inl C)), (m12, .inl (cI, 6, .inl PY))]) ([(m0, .inr (5, [.int mfa, .int mho, .ref m2, .ref m3, .ref m4, .int mra, .int mrh, .ref m7, .ref m8, .ref m9, .ref m10, .ref m11, .ref m12, .int mch, .int mfr, .int mfw, .int mrd, .ref m17, .ref m18, .ref m19, .ref m20, .ref m21, .ref m22, .ref m23, .int mtr])), (m2, .inl (cI, 6, .inl K)), (m3, .inl (cI, 6, .inl L)), (m4, .inl (cI, 6, .inl C)), (m12, .inl (cI, 6, .inl PY))]) ([(m0, .inr (5, [.int mfa, .int mho, .ref m2, .ref m3, .ref m4, .int mra, .int mrh, .ref m7, .ref m8, .ref m9, .ref m10, .ref m11, .ref m12, .int mch, .int mfr, .int mfw, .int mrd, .ref m17, .ref m18, .ref m19, .ref m20, .ref m21, .ref m22, .ref m23, .int mtr])), (m2, .inl (cI, 6, .inl K)), (m3, .inl (cI, 6, .inl L)), (m4, .inl (cI, 6, .inl C))]) ([(m0, .inr (5, [.int mfa, .int mho, .ref m2, .ref m3, .ref m4, .int mra, .int mrh, .ref m7, .ref m8, .ref m9, .ref m10, .ref m11, .ref m12, .int mch, .int mfr, .int mfw, .int mrd, .ref m17, .ref m18, .ref m19, .ref m20, .ref m21, .ref m22, .ref m23, .int mtr])), (m2, .inl (cI, 6, .inl K)), (m3, .inl (cI, 6, .inl L)), (m4, .inl (cI, 6, .inl C))]) ([(m12, .inl (cI, 6, .inl PY))]) hP hD [0, 1, 2, 3] [4] [m0, m2, m3, m4, m12] 5 rfl rfl rfl rfl rfl (by decide) rfl rfl hk1 hB
  refine lv_istore (lv' := [(4, .int (p5_payerOf K L C i1 i2 i3)), (0, .ref m0), (1, .int i1), (2, .int i2), (3, .int i3)]) hx hb dX5_goPair_7 hl (by decide) rfl (fun ls hl => ?_)
  refine lv_aload_n hx hb dX5_goPair_9 rfl (lv_at hl 1 rfl) ?_
  refine lv_dup hx hb dX5_goPair_10 rfl ?_
  refine va_get (D := (dC, dI)) (ci := 5) (v := .int mfr) (C := RX5) (T := TX5) (N := 25) hx hb hts hin5 hown hK hP 0 rfl rfl 14 (by decide) kf_168 (fun _ h9 => h9) rfl dX5_goPair_11 ?_
  refine lv_iload hx hb dX5_goPair_14 (lv_at hl 0 rfl) ?_
  refine lv_aload_n hx hb dX5_goPair_16 rfl (lv_at hl 1 rfl) ?_
  have hPc := hP.sub (ws' := [(m0, .inr (5, [.int mfa, .int mho, .ref m2, .ref m3, .ref m4, .int mra, .int mrh, .ref m7, .ref m8, .ref m9, .ref m10, .ref m11, .ref m12, .int mch, .int mfr, .int mfw, .int mrd, .ref m17, .ref m18, .ref m19, .ref m20, .ref m21, .ref m22, .ref m23, .int mtr])), (m2, .inl (cI, 6, .inl K)), (m3, .inl (cI, 6, .inl L)), (m4, .inl (cI, 6, .inl C))]) [0, 1, 2, 3] rfl
  have hDc := hD.sub (ws' := [(m0, .inr (5, [.int mfa, .int mho, .ref m2, .ref m3, .ref m4, .int mra, .int mrh, .ref m7, .ref m8, .ref m9, .ref m10, .ref m11, .ref m12, .int mch, .int mfr, .int mfw, .int mrd, .ref m17, .ref m18, .ref m19, .ref m20, .ref m21, .ref m22, .ref m23, .int mtr])), (m2, .inl (cI, 6, .inl K)), (m3, .inl (cI, 6, .inl L)), (m4, .inl (cI, 6, .inl C))]) [0, 1, 2, 3] (by decide) rfl
  have hKc := hK.sub (tys' := [(cI, .int)]) [0] rfl
  have hFc := va_free (wc := [(m0, .inr (5, [.int mfa, .int mho, .ref m2, .ref m3, .ref m4, .int mra, .int mrh, .ref m7, .ref m8, .ref m9, .ref m10, .ref m11, .ref m12, .int mch, .int mfr, .int mfw, .int mrd, .ref m17, .ref m18, .ref m19, .ref m20, .ref m21, .ref m22, .ref m23, .int mtr])), (m2, .inl (cI, 6, .inl K)), (m3, .inl (cI, 6, .inl L)), (m4, .inl (cI, 6, .inl C))]) hD hS hA [0, 1, 2, 3] rfl
  refine va_calli (va_runV (As := []) (rest := [.int (p5_payerOf K L C i1 i2 i3), .int mfr, .ref m0]) ⟨hx, hb, hml, hown, hts⟩ (ctX5_richest l dC dI cI m0 m2 m3 m4 m7 m8 m9 m10 m11 m12 m17 m18 m19 m20 m21 m22 m23 H.size mfa mho mra mrh mch mfr mfw mrd mtr K L C (by assumption)) (cwV 0 hts gX5_goPair_X5_richest rfl rfl rfl (by decide +kernel) ⟨Nat.le_of_ble_eq_true rfl, Nat.le_of_ble_eq_true rfl⟩) (pre_V hKc hN hPc hDc (RX5, TX5, 25) 5 0 rfl rfl) rfl rfl hl.1 rfl (lv_room (Nat.le_of_ble_eq_true rfl)) dX5_goPair_17 ⟨Nat.le_of_ble_eq_true rfl, Nat.le_of_ble_eq_true rfl⟩) hS (fun q _ h => hFc q h) hFc (fun r _ t H locs ht hvm hw hB hz1 hk1 hS => ?_)
  try dsimp only at hw
  subst hw
  rw [ht] at hB
  obtain ⟨hP, hD⟩ := rw_join ([(m0, .inr (5, [.int mfa, .int mho, .ref m2, .ref m3, .ref m4, .int mra, .int mrh, .ref m7, .ref m8, .ref m9, .ref m10, .ref m11, .ref m12, .int mch, .int mfr, .int mfw, .int mrd, .ref m17, .ref m18, .ref m19, .ref m20, .ref m21, .ref m22, .ref m23, .int mtr])), (m2, .inl (cI, 6, .inl K)), (m3, .inl (cI, 6, .inl L)), (m4, .inl (cI, 6, .inl C)), (m12, .inl (cI, 6, .inl PY))]) ([(m0, .inr (5, [.int mfa, .int mho, .ref m2, .ref m3, .ref m4, .int mra, .int mrh, .ref m7, .ref m8, .ref m9, .ref m10, .ref m11, .ref m12, .int mch, .int mfr, .int mfw, .int mrd, .ref m17, .ref m18, .ref m19, .ref m20, .ref m21, .ref m22, .ref m23, .int mtr])), (m2, .inl (cI, 6, .inl K)), (m3, .inl (cI, 6, .inl L)), (m4, .inl (cI, 6, .inl C)), (m12, .inl (cI, 6, .inl PY))]) ([(m0, .inr (5, [.int mfa, .int mho, .ref m2, .ref m3, .ref m4, .int mra, .int mrh, .ref m7, .ref m8, .ref m9, .ref m10, .ref m11, .ref m12, .int mch, .int mfr, .int mfw, .int mrd, .ref m17, .ref m18, .ref m19, .ref m20, .ref m21, .ref m22, .ref m23, .int mtr])), (m2, .inl (cI, 6, .inl K)), (m3, .inl (cI, 6, .inl L)), (m4, .inl (cI, 6, .inl C))]) ([(m0, .inr (5, [.int mfa, .int mho, .ref m2, .ref m3, .ref m4, .int mra, .int mrh, .ref m7, .ref m8, .ref m9, .ref m10, .ref m11, .ref m12, .int mch, .int mfr, .int mfw, .int mrd, .ref m17, .ref m18, .ref m19, .ref m20, .ref m21, .ref m22, .ref m23, .int mtr])), (m2, .inl (cI, 6, .inl K)), (m3, .inl (cI, 6, .inl L)), (m4, .inl (cI, 6, .inl C))]) ([(m12, .inl (cI, 6, .inl PY))]) hP hD [0, 1, 2, 3] [4] [m0, m2, m3, m4, m12] 5 rfl rfl rfl rfl rfl (by decide) rfl rfl hk1 hB
  refine lv_icmp_ne (tgt := 27) hx hb dX5_goPair_20 (by decide) (fun c_20 => ?_) (fun c_20 => ?_)
  · skip
    refine lv_iconst (v := 0) hx hb dX5_goPair_27 (by decide) ?_
    refine lv_iadd hx hb dX5_goPair_28 ?_
    refine va_put (D := (dC, dI)) (ci := 5) (v := .int (mfr + 0)) (ty := .int) (C := RX5) (T := TX5) (N := 25) hx hb hts hin5 tyX5 tyX5_ok nmX5 hown hK hP hD hS 0 rfl rfl 14 (by decide) kf_168 (fun _ h9 => h9) rfl (by decide +kernel) rfl rfl (Nat.le_of_ble_eq_true rfl) dX5_goPair_29 (fun H locs hP hD hS => ?_)
    have hP : va_P (dC, dI) vwCl ([(m0, .inr (5, [.int mfa, .int mho, .ref m2, .ref m3, .ref m4, .int mra, .int mrh, .ref m7, .ref m8, .ref m9, .ref m10, .ref m11, .ref m12, .int mch, .int (mfr + 0), .int mfw, .int mrd, .ref m17, .ref m18, .ref m19, .ref m20, .ref m21, .ref m22, .ref m23, .int mtr])), (m2, .inl (cI, 6, .inl K)), (m3, .inl (cI, 6, .inl L)), (m4, .inl (cI, 6, .inl C)), (m12, .inl (cI, 6, .inl PY))]) H := hP
    have hD : va_D A ([(m0, .inr (5, [.int mfa, .int mho, .ref m2, .ref m3, .ref m4, .int mra, .int mrh, .ref m7, .ref m8, .ref m9, .ref m10, .ref m11, .ref m12, .int mch, .int (mfr + 0), .int mfw, .int mrd, .ref m17, .ref m18, .ref m19, .ref m20, .ref m21, .ref m22, .ref m23, .int mtr])), (m2, .inl (cI, 6, .inl K)), (m3, .inl (cI, 6, .inl L)), (m4, .inl (cI, 6, .inl C)), (m12, .inl (cI, 6, .inl PY))]) := hD
    refine lv_iload_n hx hb dX5_goPair_32 rfl (lv_at hl 2 rfl) ?_
    refine lv_iload_n hx hb dX5_goPair_33 rfl (lv_at hl 3 rfl) ?_
    refine lv_icmp_eq (tgt := 109) hx hb dX5_goPair_34 (by decide) (fun c_34 => ?_) (fun c_34 => ?_)
    · skip
      refine lv_aload_n hx hb dX5_goPair_109 rfl (lv_at hl 1 rfl) ?_
      refine lv_iload hx hb dX5_goPair_110 (lv_at hl 0 rfl) ?_
      refine lv_iload_n hx hb dX5_goPair_112 rfl (lv_at hl 4 rfl) ?_
      have hPc := hP.sub (ws' := [(m0, .inr (5, [.int mfa, .int mho, .ref m2, .ref m3, .ref m4, .int mra, .int mrh, .ref m7, .ref m8, .ref m9, .ref m10, .ref m11, .ref m12, .int mch, .int (mfr + 0), .int mfw, .int mrd, .ref m17, .ref m18, .ref m19, .ref m20, .ref m21, .ref m22, .ref m23, .int mtr])), (m3, .inl (cI, 6, .inl L)), (m4, .inl (cI, 6, .inl C))]) [0, 2, 3] rfl
      have hDc := hD.sub (ws' := [(m0, .inr (5, [.int mfa, .int mho, .ref m2, .ref m3, .ref m4, .int mra, .int mrh, .ref m7, .ref m8, .ref m9, .ref m10, .ref m11, .ref m12, .int mch, .int (mfr + 0), .int mfw, .int mrd, .ref m17, .ref m18, .ref m19, .ref m20, .ref m21, .ref m22, .ref m23, .int mtr])), (m3, .inl (cI, 6, .inl L)), (m4, .inl (cI, 6, .inl C))]) [0, 2, 3] (by decide) rfl
      have hKc := hK.sub (tys' := [(cI, .int)]) [0] rfl
      have hFc := va_free (wc := [(m0, .inr (5, [.int mfa, .int mho, .ref m2, .ref m3, .ref m4, .int mra, .int mrh, .ref m7, .ref m8, .ref m9, .ref m10, .ref m11, .ref m12, .int mch, .int (mfr + 0), .int mfw, .int mrd, .ref m17, .ref m18, .ref m19, .ref m20, .ref m21, .ref m22, .ref m23, .int mtr])), (m3, .inl (cI, 6, .inl L)), (m4, .inl (cI, 6, .inl C))]) hD hS hA [0, 2, 3] rfl
      refine va_callv (va_runV (As := [.int (p5_payerOf K L C i1 i2 i3), .int i3]) (rest := []) ⟨hx, hb, hml, hown, hts⟩ (ctX5_pay l dC dI cI m0 m2 m3 m4 m7 m8 m9 m10 m11 m12 m17 m18 m19 m20 m21 m22 m23 H.size mfa mho mra mrh mch (mfr + 0) mfw mrd mtr L C (p5_payerOf K L C i1 i2 i3) i3 (payerOf_in hi1 hi2)) (cwV 2 hts gX5_goPair_X5_pay rfl rfl rfl (by decide +kernel) ⟨Nat.le_of_ble_eq_true rfl, Nat.le_of_ble_eq_true rfl⟩) (pre_V hKc hN hPc hDc (RX5, TX5, 25) 5 0 rfl rfl) rfl rfl hl.1 rfl (lv_room (Nat.le_of_ble_eq_true rfl)) dX5_goPair_113 ⟨Nat.le_of_ble_eq_true rfl, Nat.le_of_ble_eq_true rfl⟩) hS (fun q _ h => hFc q h) hFc (fun _ t H locs ht hvm hw hB hz1 hk1 hS => ?_)
      rw [ht] at hB
      refine nm_gen ((p5_pay L C (p5_payerOf K L C i1 i2 i3) i3).1) (fun L_113 eL_113 => ?_)
      rw [eL_113] at hB
      refine nm_gen ((p5_pay L C (p5_payerOf K L C i1 i2 i3) i3).2) (fun C_113 eC_113 => ?_)
      rw [eC_113] at hB
      obtain ⟨hP, hD⟩ := rw_join ([(m0, .inr (5, [.int mfa, .int mho, .ref m2, .ref m3, .ref m4, .int mra, .int mrh, .ref m7, .ref m8, .ref m9, .ref m10, .ref m11, .ref m12, .int mch, .int (mfr + 0), .int mfw, .int mrd, .ref m17, .ref m18, .ref m19, .ref m20, .ref m21, .ref m22, .ref m23, .int mtr])), (m2, .inl (cI, 6, .inl K)), (m3, .inl (cI, 6, .inl L)), (m4, .inl (cI, 6, .inl C)), (m12, .inl (cI, 6, .inl PY))]) ([(m0, .inr (5, [.int mfa, .int mho, .ref m2, .ref m3, .ref m4, .int mra, .int mrh, .ref m7, .ref m8, .ref m9, .ref m10, .ref m11, .ref m12, .int mch, .int (mfr + 0), .int mfw, .int mrd, .ref m17, .ref m18, .ref m19, .ref m20, .ref m21, .ref m22, .ref m23, .int mtr])), (m2, .inl (cI, 6, .inl K)), (m3, .inl (cI, 6, .inl L_113)), (m4, .inl (cI, 6, .inl C_113)), (m12, .inl (cI, 6, .inl PY))]) ([(m0, .inr (5, [.int mfa, .int mho, .ref m2, .ref m3, .ref m4, .int mra, .int mrh, .ref m7, .ref m8, .ref m9, .ref m10, .ref m11, .ref m12, .int mch, .int (mfr + 0), .int mfw, .int mrd, .ref m17, .ref m18, .ref m19, .ref m20, .ref m21, .ref m22, .ref m23, .int mtr])), (m3, .inl (cI, 6, .inl L)), (m4, .inl (cI, 6, .inl C))]) ([(m0, .inr (5, [.int mfa, .int mho, .ref m2, .ref m3, .ref m4, .int mra, .int mrh, .ref m7, .ref m8, .ref m9, .ref m10, .ref m11, .ref m12, .int mch, .int (mfr + 0), .int mfw, .int mrd, .ref m17, .ref m18, .ref m19, .ref m20, .ref m21, .ref m22, .ref m23, .int mtr])), (m3, .inl (cI, 6, .inl L_113)), (m4, .inl (cI, 6, .inl C_113))]) ([(m2, .inl (cI, 6, .inl K)), (m12, .inl (cI, 6, .inl PY))]) hP hD [0, 2, 3] [1, 4] [m0, m2, m3, m4, m12] 5 rfl rfl rfl rfl rfl (by decide) rfl rfl hk1 hB
      refine lv_aload_n hx hb dX5_goPair_116 rfl (lv_at hl 1 rfl) ?_
      refine va_get (D := (dC, dI)) (ci := 5) (v := .ref m12) (C := RX5) (T := TX5) (N := 25) hx hb hts hin5 hown hK hP 0 rfl rfl 12 (by decide) kf_34 (fun _ h9 => h9) rfl dX5_goPair_117 ?_
      refine lv_iload hx hb dX5_goPair_120 (lv_at hl 0 rfl) ?_
      refine lv_dup2_11 hx hb dX5_goPair_122 rfl rfl ?_
      refine va_iald hx hb hK hP 4 0 rfl rfl (payerOf_in hi1 hi2) dX5_goPair_123 ?_
      refine lv_iconst (v := 1) hx hb dX5_goPair_124 (by decide) ?_
      refine lv_iadd hx hb dX5_goPair_125 ?_
      refine va_iast hx hb hK hP hD hS 4 0 rfl rfl (payerOf_in hi1 hi2) dX5_goPair_126 (fun H locs hP hD hS => ?_)
      have hP : va_P (dC, dI) vwCl ([(m0, .inr (5, [.int mfa, .int mho, .ref m2, .ref m3, .ref m4, .int mra, .int mrh, .ref m7, .ref m8, .ref m9, .ref m10, .ref m11, .ref m12, .int mch, .int (mfr + 0), .int mfw, .int mrd, .ref m17, .ref m18, .ref m19, .ref m20, .ref m21, .ref m22, .ref m23, .int mtr])), (m2, .inl (cI, 6, .inl K)), (m3, .inl (cI, 6, .inl L_113)), (m4, .inl (cI, 6, .inl C_113)), (m12, .inl (cI, 6, .inl (upd PY (p5_payerOf K L C i1 i2 i3).toNatClampNeg ((PY (p5_payerOf K L C i1 i2 i3).toNatClampNeg) + 1))))]) H := hP
      have hD : va_D A ([(m0, .inr (5, [.int mfa, .int mho, .ref m2, .ref m3, .ref m4, .int mra, .int mrh, .ref m7, .ref m8, .ref m9, .ref m10, .ref m11, .ref m12, .int mch, .int (mfr + 0), .int mfw, .int mrd, .ref m17, .ref m18, .ref m19, .ref m20, .ref m21, .ref m22, .ref m23, .int mtr])), (m2, .inl (cI, 6, .inl K)), (m3, .inl (cI, 6, .inl L_113)), (m4, .inl (cI, 6, .inl C_113)), (m12, .inl (cI, 6, .inl (upd PY (p5_payerOf K L C i1 i2 i3).toNatClampNeg ((PY (p5_payerOf K L C i1 i2 i3).toNatClampNeg) + 1))))]) := hD
      refine lv_iload hx hb dX5_goPair_127 (lv_at hl 0 rfl) ?_
      have hE9 : p5_goPair mho mch mfr K L C PY i1 i2 i3 = ((p5_payerOf K L C i1 i2 i3), mch, (mfr + 0), L_113, C_113, (upd PY (p5_payerOf K L C i1 i2 i3).toNatClampNeg ((PY (p5_payerOf K L C i1 i2 i3).toNatClampNeg) + 1))) := by unfold p5_goPair; simp only [eL_113, eC_113]; rw [if_neg c_20, if_pos c_34]
      exact W.iret (v := (p5_payerOf K L C i1 i2 i3)) hx hb hr (fun t ht hW => ⟨⟨_, (), rfl, by rw [hE9], by show va_P (dC, dI) vwCl _ t.heap; rw [ht, hE9]; exact hP⟩, hS.F ht⟩) hS.2.2 dX5_goPair_129
    · skip
      refine lv_iload hx hb dX5_goPair_37 (lv_at hl 0 rfl) ?_
      refine lv_iload_n hx hb dX5_goPair_39 rfl (lv_at hl 2 rfl) ?_
      refine lv_icmp_ne (tgt := 109) hx hb dX5_goPair_40 (by decide) (fun c_40 => ?_) (fun c_40 => ?_)
      · skip
        refine lv_aload_n hx hb dX5_goPair_109 rfl (lv_at hl 1 rfl) ?_
        refine lv_iload hx hb dX5_goPair_110 (lv_at hl 0 rfl) ?_
        refine lv_iload_n hx hb dX5_goPair_112 rfl (lv_at hl 4 rfl) ?_
        have hPc := hP.sub (ws' := [(m0, .inr (5, [.int mfa, .int mho, .ref m2, .ref m3, .ref m4, .int mra, .int mrh, .ref m7, .ref m8, .ref m9, .ref m10, .ref m11, .ref m12, .int mch, .int (mfr + 0), .int mfw, .int mrd, .ref m17, .ref m18, .ref m19, .ref m20, .ref m21, .ref m22, .ref m23, .int mtr])), (m3, .inl (cI, 6, .inl L)), (m4, .inl (cI, 6, .inl C))]) [0, 2, 3] rfl
        have hDc := hD.sub (ws' := [(m0, .inr (5, [.int mfa, .int mho, .ref m2, .ref m3, .ref m4, .int mra, .int mrh, .ref m7, .ref m8, .ref m9, .ref m10, .ref m11, .ref m12, .int mch, .int (mfr + 0), .int mfw, .int mrd, .ref m17, .ref m18, .ref m19, .ref m20, .ref m21, .ref m22, .ref m23, .int mtr])), (m3, .inl (cI, 6, .inl L)), (m4, .inl (cI, 6, .inl C))]) [0, 2, 3] (by decide) rfl
        have hKc := hK.sub (tys' := [(cI, .int)]) [0] rfl
        have hFc := va_free (wc := [(m0, .inr (5, [.int mfa, .int mho, .ref m2, .ref m3, .ref m4, .int mra, .int mrh, .ref m7, .ref m8, .ref m9, .ref m10, .ref m11, .ref m12, .int mch, .int (mfr + 0), .int mfw, .int mrd, .ref m17, .ref m18, .ref m19, .ref m20, .ref m21, .ref m22, .ref m23, .int mtr])), (m3, .inl (cI, 6, .inl L)), (m4, .inl (cI, 6, .inl C))]) hD hS hA [0, 2, 3] rfl
        refine va_callv (va_runV (As := [.int (p5_payerOf K L C i1 i2 i3), .int i3]) (rest := []) ⟨hx, hb, hml, hown, hts⟩ (ctX5_pay l dC dI cI m0 m2 m3 m4 m7 m8 m9 m10 m11 m12 m17 m18 m19 m20 m21 m22 m23 H.size mfa mho mra mrh mch (mfr + 0) mfw mrd mtr L C (p5_payerOf K L C i1 i2 i3) i3 (payerOf_in hi1 hi2)) (cwV 2 hts gX5_goPair_X5_pay rfl rfl rfl (by decide +kernel) ⟨Nat.le_of_ble_eq_true rfl, Nat.le_of_ble_eq_true rfl⟩) (pre_V hKc hN hPc hDc (RX5, TX5, 25) 5 0 rfl rfl) rfl rfl hl.1 rfl (lv_room (Nat.le_of_ble_eq_true rfl)) dX5_goPair_113 ⟨Nat.le_of_ble_eq_true rfl, Nat.le_of_ble_eq_true rfl⟩) hS (fun q _ h => hFc q h) hFc (fun _ t H locs ht hvm hw hB hz1 hk1 hS => ?_)
        rw [ht] at hB
        refine nm_gen ((p5_pay L C (p5_payerOf K L C i1 i2 i3) i3).1) (fun L_113 eL_113 => ?_)
        rw [eL_113] at hB
        refine nm_gen ((p5_pay L C (p5_payerOf K L C i1 i2 i3) i3).2) (fun C_113 eC_113 => ?_)
        rw [eC_113] at hB
        obtain ⟨hP, hD⟩ := rw_join ([(m0, .inr (5, [.int mfa, .int mho, .ref m2, .ref m3, .ref m4, .int mra, .int mrh, .ref m7, .ref m8, .ref m9, .ref m10, .ref m11, .ref m12, .int mch, .int (mfr + 0), .int mfw, .int mrd, .ref m17, .ref m18, .ref m19, .ref m20, .ref m21, .ref m22, .ref m23, .int mtr])), (m2, .inl (cI, 6, .inl K)), (m3, .inl (cI, 6, .inl L)), (m4, .inl (cI, 6, .inl C)), (m12, .inl (cI, 6, .inl PY))]) ([(m0, .inr (5, [.int mfa, .int mho, .ref m2, .ref m3, .ref m4, .int mra, .int mrh, .ref m7, .ref m8, .ref m9, .ref m10, .ref m11, .ref m12, .int mch, .int (mfr + 0), .int mfw, .int mrd, .ref m17, .ref m18, .ref m19, .ref m20, .ref m21, .ref m22, .ref m23, .int mtr])), (m2, .inl (cI, 6, .inl K)), (m3, .inl (cI, 6, .inl L_113)), (m4, .inl (cI, 6, .inl C_113)), (m12, .inl (cI, 6, .inl PY))]) ([(m0, .inr (5, [.int mfa, .int mho, .ref m2, .ref m3, .ref m4, .int mra, .int mrh, .ref m7, .ref m8, .ref m9, .ref m10, .ref m11, .ref m12, .int mch, .int (mfr + 0), .int mfw, .int mrd, .ref m17, .ref m18, .ref m19, .ref m20, .ref m21, .ref m22, .ref m23, .int mtr])), (m3, .inl (cI, 6, .inl L)), (m4, .inl (cI, 6, .inl C))]) ([(m0, .inr (5, [.int mfa, .int mho, .ref m2, .ref m3, .ref m4, .int mra, .int mrh, .ref m7, .ref m8, .ref m9, .ref m10, .ref m11, .ref m12, .int mch, .int (mfr + 0), .int mfw, .int mrd, .ref m17, .ref m18, .ref m19, .ref m20, .ref m21, .ref m22, .ref m23, .int mtr])), (m3, .inl (cI, 6, .inl L_113)), (m4, .inl (cI, 6, .inl C_113))]) ([(m2, .inl (cI, 6, .inl K)), (m12, .inl (cI, 6, .inl PY))]) hP hD [0, 2, 3] [1, 4] [m0, m2, m3, m4, m12] 5 rfl rfl rfl rfl rfl (by decide) rfl rfl hk1 hB
        refine lv_aload_n hx hb dX5_goPair_116 rfl (lv_at hl 1 rfl) ?_
        refine va_get (D := (dC, dI)) (ci := 5) (v := .ref m12) (C := RX5) (T := TX5) (N := 25) hx hb hts hin5 hown hK hP 0 rfl rfl 12 (by decide) kf_34 (fun _ h9 => h9) rfl dX5_goPair_117 ?_
        refine lv_iload hx hb dX5_goPair_120 (lv_at hl 0 rfl) ?_
        refine lv_dup2_11 hx hb dX5_goPair_122 rfl rfl ?_
        refine va_iald hx hb hK hP 4 0 rfl rfl (payerOf_in hi1 hi2) dX5_goPair_123 ?_
        refine lv_iconst (v := 1) hx hb dX5_goPair_124 (by decide) ?_
        refine lv_iadd hx hb dX5_goPair_125 ?_
        refine va_iast hx hb hK hP hD hS 4 0 rfl rfl (payerOf_in hi1 hi2) dX5_goPair_126 (fun H locs hP hD hS => ?_)
        have hP : va_P (dC, dI) vwCl ([(m0, .inr (5, [.int mfa, .int mho, .ref m2, .ref m3, .ref m4, .int mra, .int mrh, .ref m7, .ref m8, .ref m9, .ref m10, .ref m11, .ref m12, .int mch, .int (mfr + 0), .int mfw, .int mrd, .ref m17, .ref m18, .ref m19, .ref m20, .ref m21, .ref m22, .ref m23, .int mtr])), (m2, .inl (cI, 6, .inl K)), (m3, .inl (cI, 6, .inl L_113)), (m4, .inl (cI, 6, .inl C_113)), (m12, .inl (cI, 6, .inl (upd PY (p5_payerOf K L C i1 i2 i3).toNatClampNeg ((PY (p5_payerOf K L C i1 i2 i3).toNatClampNeg) + 1))))]) H := hP
        have hD : va_D A ([(m0, .inr (5, [.int mfa, .int mho, .ref m2, .ref m3, .ref m4, .int mra, .int mrh, .ref m7, .ref m8, .ref m9, .ref m10, .ref m11, .ref m12, .int mch, .int (mfr + 0), .int mfw, .int mrd, .ref m17, .ref m18, .ref m19, .ref m20, .ref m21, .ref m22, .ref m23, .int mtr])), (m2, .inl (cI, 6, .inl K)), (m3, .inl (cI, 6, .inl L_113)), (m4, .inl (cI, 6, .inl C_113)), (m12, .inl (cI, 6, .inl (upd PY (p5_payerOf K L C i1 i2 i3).toNatClampNeg ((PY (p5_payerOf K L C i1 i2 i3).toNatClampNeg) + 1))))]) := hD
        refine lv_iload hx hb dX5_goPair_127 (lv_at hl 0 rfl) ?_
        have hE9 : p5_goPair mho mch mfr K L C PY i1 i2 i3 = ((p5_payerOf K L C i1 i2 i3), mch, (mfr + 0), L_113, C_113, (upd PY (p5_payerOf K L C i1 i2 i3).toNatClampNeg ((PY (p5_payerOf K L C i1 i2 i3).toNatClampNeg) + 1))) := by unfold p5_goPair; simp only [eL_113, eC_113]; rw [if_neg c_20, if_neg c_34, if_neg c_40]
        exact W.iret (v := (p5_payerOf K L C i1 i2 i3)) hx hb hr (fun t ht hW => ⟨⟨_, (), rfl, by rw [hE9], by show va_P (dC, dI) vwCl _ t.heap; rw [ht, hE9]; exact hP⟩, hS.F ht⟩) hS.2.2 dX5_goPair_129
      · skip
        refine lv_aload_n hx hb dX5_goPair_43 rfl (lv_at hl 1 rfl) ?_
        refine va_get (D := (dC, dI)) (ci := 5) (v := .ref m3) (C := RX5) (T := TX5) (N := 25) hx hb hts hin5 hown hK hP 0 rfl rfl 3 (by decide) kf_13 (fun _ h9 => h9) rfl dX5_goPair_44 ?_
        refine lv_iload_n hx hb dX5_goPair_47 rfl (lv_at hl 2 rfl) ?_
        refine va_iald hx hb hK hP 2 0 rfl rfl (by assumption) dX5_goPair_48 ?_
        refine lv_istore (lv' := [(5, .int (L i1.toNatClampNeg)), (4, .int (p5_payerOf K L C i1 i2 i3)), (0, .ref m0), (1, .int i1), (2, .int i2), (3, .int i3)]) hx hb dX5_goPair_49 hl (by decide) rfl (fun ls hl => ?_)
        refine lv_aload_n hx hb dX5_goPair_51 rfl (lv_at hl 2 rfl) ?_
        refine va_get (D := (dC, dI)) (ci := 5) (v := .ref m4) (C := RX5) (T := TX5) (N := 25) hx hb hts hin5 hown hK hP 0 rfl rfl 4 (by decide) kf_16 (fun _ h9 => h9) rfl dX5_goPair_52 ?_
        refine lv_iload_n hx hb dX5_goPair_55 rfl (lv_at hl 3 rfl) ?_
        refine va_iald hx hb hK hP 3 0 rfl rfl (by assumption) dX5_goPair_56 ?_
        refine lv_istore (lv' := [(6, .int (C i1.toNatClampNeg)), (5, .int (L i1.toNatClampNeg)), (4, .int (p5_payerOf K L C i1 i2 i3)), (0, .ref m0), (1, .int i1), (2, .int i2), (3, .int i3)]) hx hb dX5_goPair_57 hl (by decide) rfl (fun ls hl => ?_)
        refine lv_aload_n hx hb dX5_goPair_59 rfl (lv_at hl 3 rfl) ?_
        refine va_get (D := (dC, dI)) (ci := 5) (v := .ref m3) (C := RX5) (T := TX5) (N := 25) hx hb hts hin5 hown hK hP 0 rfl rfl 3 (by decide) kf_13 (fun _ h9 => h9) rfl dX5_goPair_60 ?_
        refine lv_iload_n hx hb dX5_goPair_63 rfl (lv_at hl 4 rfl) ?_
        refine lv_aload_n hx hb dX5_goPair_64 rfl (lv_at hl 3 rfl) ?_
        refine va_get (D := (dC, dI)) (ci := 5) (v := .ref m3) (C := RX5) (T := TX5) (N := 25) hx hb hts hin5 hown hK hP 0 rfl rfl 3 (by decide) kf_13 (fun _ h9 => h9) rfl dX5_goPair_65 ?_
        refine lv_iload_n hx hb dX5_goPair_68 rfl (lv_at hl 5 rfl) ?_
        refine va_iald hx hb hK hP 2 0 rfl rfl (by assumption) dX5_goPair_69 ?_
        refine va_iast hx hb hK hP hD hS 2 0 rfl rfl (by assumption) dX5_goPair_70 (fun H locs hP hD hS => ?_)
        have hP : va_P (dC, dI) vwCl ([(m0, .inr (5, [.int mfa, .int mho, .ref m2, .ref m3, .ref m4, .int mra, .int mrh, .ref m7, .ref m8, .ref m9, .ref m10, .ref m11, .ref m12, .int mch, .int (mfr + 0), .int mfw, .int mrd, .ref m17, .ref m18, .ref m19, .ref m20, .ref m21, .ref m22, .ref m23, .int mtr])), (m2, .inl (cI, 6, .inl K)), (m3, .inl (cI, 6, .inl (upd L i1.toNatClampNeg (L i2.toNatClampNeg)))), (m4, .inl (cI, 6, .inl C)), (m12, .inl (cI, 6, .inl PY))]) H := hP
        have hD : va_D A ([(m0, .inr (5, [.int mfa, .int mho, .ref m2, .ref m3, .ref m4, .int mra, .int mrh, .ref m7, .ref m8, .ref m9, .ref m10, .ref m11, .ref m12, .int mch, .int (mfr + 0), .int mfw, .int mrd, .ref m17, .ref m18, .ref m19, .ref m20, .ref m21, .ref m22, .ref m23, .int mtr])), (m2, .inl (cI, 6, .inl K)), (m3, .inl (cI, 6, .inl (upd L i1.toNatClampNeg (L i2.toNatClampNeg)))), (m4, .inl (cI, 6, .inl C)), (m12, .inl (cI, 6, .inl PY))]) := hD
        refine lv_aload_n hx hb dX5_goPair_71 rfl (lv_at hl 3 rfl) ?_
        refine va_get (D := (dC, dI)) (ci := 5) (v := .ref m4) (C := RX5) (T := TX5) (N := 25) hx hb hts hin5 hown hK hP 0 rfl rfl 4 (by decide) kf_16 (fun _ h9 => h9) rfl dX5_goPair_72 ?_
        refine lv_iload_n hx hb dX5_goPair_75 rfl (lv_at hl 4 rfl) ?_
        refine lv_aload_n hx hb dX5_goPair_76 rfl (lv_at hl 3 rfl) ?_
        refine va_get (D := (dC, dI)) (ci := 5) (v := .ref m4) (C := RX5) (T := TX5) (N := 25) hx hb hts hin5 hown hK hP 0 rfl rfl 4 (by decide) kf_16 (fun _ h9 => h9) rfl dX5_goPair_77 ?_
        refine lv_iload_n hx hb dX5_goPair_80 rfl (lv_at hl 5 rfl) ?_
        refine va_iald hx hb hK hP 3 0 rfl rfl (by assumption) dX5_goPair_81 ?_
        refine va_iast hx hb hK hP hD hS 3 0 rfl rfl (by assumption) dX5_goPair_82 (fun H locs hP hD hS => ?_)
        have hP : va_P (dC, dI) vwCl ([(m0, .inr (5, [.int mfa, .int mho, .ref m2, .ref m3, .ref m4, .int mra, .int mrh, .ref m7, .ref m8, .ref m9, .ref m10, .ref m11, .ref m12, .int mch, .int (mfr + 0), .int mfw, .int mrd, .ref m17, .ref m18, .ref m19, .ref m20, .ref m21, .ref m22, .ref m23, .int mtr])), (m2, .inl (cI, 6, .inl K)), (m3, .inl (cI, 6, .inl (upd L i1.toNatClampNeg (L i2.toNatClampNeg)))), (m4, .inl (cI, 6, .inl (upd C i1.toNatClampNeg (C i2.toNatClampNeg)))), (m12, .inl (cI, 6, .inl PY))]) H := hP
        have hD : va_D A ([(m0, .inr (5, [.int mfa, .int mho, .ref m2, .ref m3, .ref m4, .int mra, .int mrh, .ref m7, .ref m8, .ref m9, .ref m10, .ref m11, .ref m12, .int mch, .int (mfr + 0), .int mfw, .int mrd, .ref m17, .ref m18, .ref m19, .ref m20, .ref m21, .ref m22, .ref m23, .int mtr])), (m2, .inl (cI, 6, .inl K)), (m3, .inl (cI, 6, .inl (upd L i1.toNatClampNeg (L i2.toNatClampNeg)))), (m4, .inl (cI, 6, .inl (upd C i1.toNatClampNeg (C i2.toNatClampNeg)))), (m12, .inl (cI, 6, .inl PY))]) := hD
        refine lv_aload_n hx hb dX5_goPair_83 rfl (lv_at hl 3 rfl) ?_
        refine va_get (D := (dC, dI)) (ci := 5) (v := .ref m3) (C := RX5) (T := TX5) (N := 25) hx hb hts hin5 hown hK hP 0 rfl rfl 3 (by decide) kf_13 (fun _ h9 => h9) rfl dX5_goPair_84 ?_
        refine lv_iload_n hx hb dX5_goPair_87 rfl (lv_at hl 5 rfl) ?_
        refine lv_iload hx hb dX5_goPair_88 (lv_at hl 1 rfl) ?_
        refine va_iast hx hb hK hP hD hS 2 0 rfl rfl (by assumption) dX5_goPair_90 (fun H locs hP hD hS => ?_)
        have hP : va_P (dC, dI) vwCl ([(m0, .inr (5, [.int mfa, .int mho, .ref m2, .ref m3, .ref m4, .int mra, .int mrh, .ref m7, .ref m8, .ref m9, .ref m10, .ref m11, .ref m12, .int mch, .int (mfr + 0), .int mfw, .int mrd, .ref m17, .ref m18, .ref m19, .ref m20, .ref m21, .ref m22, .ref m23, .int mtr])), (m2, .inl (cI, 6, .inl K)), (m3, .inl (cI, 6, .inl (upd (upd L i1.toNatClampNeg (L i2.toNatClampNeg)) i2.toNatClampNeg (L i1.toNatClampNeg)))), (m4, .inl (cI, 6, .inl (upd C i1.toNatClampNeg (C i2.toNatClampNeg)))), (m12, .inl (cI, 6, .inl PY))]) H := hP
        have hD : va_D A ([(m0, .inr (5, [.int mfa, .int mho, .ref m2, .ref m3, .ref m4, .int mra, .int mrh, .ref m7, .ref m8, .ref m9, .ref m10, .ref m11, .ref m12, .int mch, .int (mfr + 0), .int mfw, .int mrd, .ref m17, .ref m18, .ref m19, .ref m20, .ref m21, .ref m22, .ref m23, .int mtr])), (m2, .inl (cI, 6, .inl K)), (m3, .inl (cI, 6, .inl (upd (upd L i1.toNatClampNeg (L i2.toNatClampNeg)) i2.toNatClampNeg (L i1.toNatClampNeg)))), (m4, .inl (cI, 6, .inl (upd C i1.toNatClampNeg (C i2.toNatClampNeg)))), (m12, .inl (cI, 6, .inl PY))]) := hD
        refine lv_aload_n hx hb dX5_goPair_91 rfl (lv_at hl 3 rfl) ?_
        refine va_get (D := (dC, dI)) (ci := 5) (v := .ref m4) (C := RX5) (T := TX5) (N := 25) hx hb hts hin5 hown hK hP 0 rfl rfl 4 (by decide) kf_16 (fun _ h9 => h9) rfl dX5_goPair_92 ?_
        refine lv_iload_n hx hb dX5_goPair_95 rfl (lv_at hl 5 rfl) ?_
        refine lv_iload hx hb dX5_goPair_96 (lv_at hl 0 rfl) ?_
        refine va_iast hx hb hK hP hD hS 3 0 rfl rfl (by assumption) dX5_goPair_98 (fun H locs hP hD hS => ?_)
        have hP : va_P (dC, dI) vwCl ([(m0, .inr (5, [.int mfa, .int mho, .ref m2, .ref m3, .ref m4, .int mra, .int mrh, .ref m7, .ref m8, .ref m9, .ref m10, .ref m11, .ref m12, .int mch, .int (mfr + 0), .int mfw, .int mrd, .ref m17, .ref m18, .ref m19, .ref m20, .ref m21, .ref m22, .ref m23, .int mtr])), (m2, .inl (cI, 6, .inl K)), (m3, .inl (cI, 6, .inl (upd (upd L i1.toNatClampNeg (L i2.toNatClampNeg)) i2.toNatClampNeg (L i1.toNatClampNeg)))), (m4, .inl (cI, 6, .inl (upd (upd C i1.toNatClampNeg (C i2.toNatClampNeg)) i2.toNatClampNeg (C i1.toNatClampNeg)))), (m12, .inl (cI, 6, .inl PY))]) H := hP
        have hD : va_D A ([(m0, .inr (5, [.int mfa, .int mho, .ref m2, .ref m3, .ref m4, .int mra, .int mrh, .ref m7, .ref m8, .ref m9, .ref m10, .ref m11, .ref m12, .int mch, .int (mfr + 0), .int mfw, .int mrd, .ref m17, .ref m18, .ref m19, .ref m20, .ref m21, .ref m22, .ref m23, .int mtr])), (m2, .inl (cI, 6, .inl K)), (m3, .inl (cI, 6, .inl (upd (upd L i1.toNatClampNeg (L i2.toNatClampNeg)) i2.toNatClampNeg (L i1.toNatClampNeg)))), (m4, .inl (cI, 6, .inl (upd (upd C i1.toNatClampNeg (C i2.toNatClampNeg)) i2.toNatClampNeg (C i1.toNatClampNeg)))), (m12, .inl (cI, 6, .inl PY))]) := hD
        refine lv_aload_n hx hb dX5_goPair_99 rfl (lv_at hl 3 rfl) ?_
        refine lv_dup hx hb dX5_goPair_100 rfl ?_
        refine va_get (D := (dC, dI)) (ci := 5) (v := .int mch) (C := RX5) (T := TX5) (N := 25) hx hb hts hin5 hown hK hP 0 rfl rfl 13 (by decide) kf_171 (fun _ h9 => h9) rfl dX5_goPair_101 ?_
        refine lv_iconst (v := 1) hx hb dX5_goPair_104 (by decide) ?_
        refine lv_iadd hx hb dX5_goPair_105 ?_
        refine va_put (D := (dC, dI)) (ci := 5) (v := .int (mch + 1)) (ty := .int) (C := RX5) (T := TX5) (N := 25) hx hb hts hin5 tyX5 tyX5_ok nmX5 hown hK hP hD hS 0 rfl rfl 13 (by decide) kf_171 (fun _ h9 => h9) rfl (by decide +kernel) rfl rfl (Nat.le_of_ble_eq_true rfl) dX5_goPair_106 (fun H locs hP hD hS => ?_)
        have hP : va_P (dC, dI) vwCl ([(m0, .inr (5, [.int mfa, .int mho, .ref m2, .ref m3, .ref m4, .int mra, .int mrh, .ref m7, .ref m8, .ref m9, .ref m10, .ref m11, .ref m12, .int (mch + 1), .int (mfr + 0), .int mfw, .int mrd, .ref m17, .ref m18, .ref m19, .ref m20, .ref m21, .ref m22, .ref m23, .int mtr])), (m2, .inl (cI, 6, .inl K)), (m3, .inl (cI, 6, .inl (upd (upd L i1.toNatClampNeg (L i2.toNatClampNeg)) i2.toNatClampNeg (L i1.toNatClampNeg)))), (m4, .inl (cI, 6, .inl (upd (upd C i1.toNatClampNeg (C i2.toNatClampNeg)) i2.toNatClampNeg (C i1.toNatClampNeg)))), (m12, .inl (cI, 6, .inl PY))]) H := hP
        have hD : va_D A ([(m0, .inr (5, [.int mfa, .int mho, .ref m2, .ref m3, .ref m4, .int mra, .int mrh, .ref m7, .ref m8, .ref m9, .ref m10, .ref m11, .ref m12, .int (mch + 1), .int (mfr + 0), .int mfw, .int mrd, .ref m17, .ref m18, .ref m19, .ref m20, .ref m21, .ref m22, .ref m23, .int mtr])), (m2, .inl (cI, 6, .inl K)), (m3, .inl (cI, 6, .inl (upd (upd L i1.toNatClampNeg (L i2.toNatClampNeg)) i2.toNatClampNeg (L i1.toNatClampNeg)))), (m4, .inl (cI, 6, .inl (upd (upd C i1.toNatClampNeg (C i2.toNatClampNeg)) i2.toNatClampNeg (C i1.toNatClampNeg)))), (m12, .inl (cI, 6, .inl PY))]) := hD
        refine lv_aload_n hx hb dX5_goPair_109 rfl (lv_at hl 3 rfl) ?_
        refine lv_iload hx hb dX5_goPair_110 (lv_at hl 2 rfl) ?_
        refine lv_iload_n hx hb dX5_goPair_112 rfl (lv_at hl 6 rfl) ?_
        have hPc := hP.sub (ws' := [(m0, .inr (5, [.int mfa, .int mho, .ref m2, .ref m3, .ref m4, .int mra, .int mrh, .ref m7, .ref m8, .ref m9, .ref m10, .ref m11, .ref m12, .int (mch + 1), .int (mfr + 0), .int mfw, .int mrd, .ref m17, .ref m18, .ref m19, .ref m20, .ref m21, .ref m22, .ref m23, .int mtr])), (m3, .inl (cI, 6, .inl (upd (upd L i1.toNatClampNeg (L i2.toNatClampNeg)) i2.toNatClampNeg (L i1.toNatClampNeg)))), (m4, .inl (cI, 6, .inl (upd (upd C i1.toNatClampNeg (C i2.toNatClampNeg)) i2.toNatClampNeg (C i1.toNatClampNeg))))]) [0, 2, 3] rfl
        have hDc := hD.sub (ws' := [(m0, .inr (5, [.int mfa, .int mho, .ref m2, .ref m3, .ref m4, .int mra, .int mrh, .ref m7, .ref m8, .ref m9, .ref m10, .ref m11, .ref m12, .int (mch + 1), .int (mfr + 0), .int mfw, .int mrd, .ref m17, .ref m18, .ref m19, .ref m20, .ref m21, .ref m22, .ref m23, .int mtr])), (m3, .inl (cI, 6, .inl (upd (upd L i1.toNatClampNeg (L i2.toNatClampNeg)) i2.toNatClampNeg (L i1.toNatClampNeg)))), (m4, .inl (cI, 6, .inl (upd (upd C i1.toNatClampNeg (C i2.toNatClampNeg)) i2.toNatClampNeg (C i1.toNatClampNeg))))]) [0, 2, 3] (by decide) rfl
        have hKc := hK.sub (tys' := [(cI, .int)]) [0] rfl
        have hFc := va_free (wc := [(m0, .inr (5, [.int mfa, .int mho, .ref m2, .ref m3, .ref m4, .int mra, .int mrh, .ref m7, .ref m8, .ref m9, .ref m10, .ref m11, .ref m12, .int (mch + 1), .int (mfr + 0), .int mfw, .int mrd, .ref m17, .ref m18, .ref m19, .ref m20, .ref m21, .ref m22, .ref m23, .int mtr])), (m3, .inl (cI, 6, .inl (upd (upd L i1.toNatClampNeg (L i2.toNatClampNeg)) i2.toNatClampNeg (L i1.toNatClampNeg)))), (m4, .inl (cI, 6, .inl (upd (upd C i1.toNatClampNeg (C i2.toNatClampNeg)) i2.toNatClampNeg (C i1.toNatClampNeg))))]) hD hS hA [0, 2, 3] rfl
        refine va_callv (va_runV (As := [.int (p5_payerOf K L C i1 i2 i3), .int i3]) (rest := []) ⟨hx, hb, hml, hown, hts⟩ (ctX5_pay l dC dI cI m0 m2 m3 m4 m7 m8 m9 m10 m11 m12 m17 m18 m19 m20 m21 m22 m23 H.size mfa mho mra mrh (mch + 1) (mfr + 0) mfw mrd mtr (upd (upd L i1.toNatClampNeg (L i2.toNatClampNeg)) i2.toNatClampNeg (L i1.toNatClampNeg)) (upd (upd C i1.toNatClampNeg (C i2.toNatClampNeg)) i2.toNatClampNeg (C i1.toNatClampNeg)) (p5_payerOf K L C i1 i2 i3) i3 (payerOf_in hi1 hi2)) (cwV 2 hts gX5_goPair_X5_pay rfl rfl rfl (by decide +kernel) ⟨Nat.le_of_ble_eq_true rfl, Nat.le_of_ble_eq_true rfl⟩) (pre_V hKc hN hPc hDc (RX5, TX5, 25) 5 0 rfl rfl) rfl rfl hl.1 rfl (lv_room (Nat.le_of_ble_eq_true rfl)) dX5_goPair_113 ⟨Nat.le_of_ble_eq_true rfl, Nat.le_of_ble_eq_true rfl⟩) hS (fun q _ h => hFc q h) hFc (fun _ t H locs ht hvm hw hB hz1 hk1 hS => ?_)
        rw [ht] at hB
        refine nm_gen ((p5_pay (upd (upd L i1.toNatClampNeg (L i2.toNatClampNeg)) i2.toNatClampNeg (L i1.toNatClampNeg)) (upd (upd C i1.toNatClampNeg (C i2.toNatClampNeg)) i2.toNatClampNeg (C i1.toNatClampNeg)) (p5_payerOf K L C i1 i2 i3) i3).1) (fun L_113 eL_113 => ?_)
        rw [eL_113] at hB
        refine nm_gen ((p5_pay (upd (upd L i1.toNatClampNeg (L i2.toNatClampNeg)) i2.toNatClampNeg (L i1.toNatClampNeg)) (upd (upd C i1.toNatClampNeg (C i2.toNatClampNeg)) i2.toNatClampNeg (C i1.toNatClampNeg)) (p5_payerOf K L C i1 i2 i3) i3).2) (fun C_113 eC_113 => ?_)
        rw [eC_113] at hB
        obtain ⟨hP, hD⟩ := rw_join ([(m0, .inr (5, [.int mfa, .int mho, .ref m2, .ref m3, .ref m4, .int mra, .int mrh, .ref m7, .ref m8, .ref m9, .ref m10, .ref m11, .ref m12, .int (mch + 1), .int (mfr + 0), .int mfw, .int mrd, .ref m17, .ref m18, .ref m19, .ref m20, .ref m21, .ref m22, .ref m23, .int mtr])), (m2, .inl (cI, 6, .inl K)), (m3, .inl (cI, 6, .inl (upd (upd L i1.toNatClampNeg (L i2.toNatClampNeg)) i2.toNatClampNeg (L i1.toNatClampNeg)))), (m4, .inl (cI, 6, .inl (upd (upd C i1.toNatClampNeg (C i2.toNatClampNeg)) i2.toNatClampNeg (C i1.toNatClampNeg)))), (m12, .inl (cI, 6, .inl PY))]) ([(m0, .inr (5, [.int mfa, .int mho, .ref m2, .ref m3, .ref m4, .int mra, .int mrh, .ref m7, .ref m8, .ref m9, .ref m10, .ref m11, .ref m12, .int (mch + 1), .int (mfr + 0), .int mfw, .int mrd, .ref m17, .ref m18, .ref m19, .ref m20, .ref m21, .ref m22, .ref m23, .int mtr])), (m2, .inl (cI, 6, .inl K)), (m3, .inl (cI, 6, .inl L_113)), (m4, .inl (cI, 6, .inl C_113)), (m12, .inl (cI, 6, .inl PY))]) ([(m0, .inr (5, [.int mfa, .int mho, .ref m2, .ref m3, .ref m4, .int mra, .int mrh, .ref m7, .ref m8, .ref m9, .ref m10, .ref m11, .ref m12, .int (mch + 1), .int (mfr + 0), .int mfw, .int mrd, .ref m17, .ref m18, .ref m19, .ref m20, .ref m21, .ref m22, .ref m23, .int mtr])), (m3, .inl (cI, 6, .inl (upd (upd L i1.toNatClampNeg (L i2.toNatClampNeg)) i2.toNatClampNeg (L i1.toNatClampNeg)))), (m4, .inl (cI, 6, .inl (upd (upd C i1.toNatClampNeg (C i2.toNatClampNeg)) i2.toNatClampNeg (C i1.toNatClampNeg))))]) ([(m0, .inr (5, [.int mfa, .int mho, .ref m2, .ref m3, .ref m4, .int mra, .int mrh, .ref m7, .ref m8, .ref m9, .ref m10, .ref m11, .ref m12, .int (mch + 1), .int (mfr + 0), .int mfw, .int mrd, .ref m17, .ref m18, .ref m19, .ref m20, .ref m21, .ref m22, .ref m23, .int mtr])), (m3, .inl (cI, 6, .inl L_113)), (m4, .inl (cI, 6, .inl C_113))]) ([(m2, .inl (cI, 6, .inl K)), (m12, .inl (cI, 6, .inl PY))]) hP hD [0, 2, 3] [1, 4] [m0, m2, m3, m4, m12] 5 rfl rfl rfl rfl rfl (by decide) rfl rfl hk1 hB
        refine lv_aload_n hx hb dX5_goPair_116 rfl (lv_at hl 3 rfl) ?_
        refine va_get (D := (dC, dI)) (ci := 5) (v := .ref m12) (C := RX5) (T := TX5) (N := 25) hx hb hts hin5 hown hK hP 0 rfl rfl 12 (by decide) kf_34 (fun _ h9 => h9) rfl dX5_goPair_117 ?_
        refine lv_iload hx hb dX5_goPair_120 (lv_at hl 2 rfl) ?_
        refine lv_dup2_11 hx hb dX5_goPair_122 rfl rfl ?_
        refine va_iald hx hb hK hP 4 0 rfl rfl (payerOf_in hi1 hi2) dX5_goPair_123 ?_
        refine lv_iconst (v := 1) hx hb dX5_goPair_124 (by decide) ?_
        refine lv_iadd hx hb dX5_goPair_125 ?_
        refine va_iast hx hb hK hP hD hS 4 0 rfl rfl (payerOf_in hi1 hi2) dX5_goPair_126 (fun H locs hP hD hS => ?_)
        have hP : va_P (dC, dI) vwCl ([(m0, .inr (5, [.int mfa, .int mho, .ref m2, .ref m3, .ref m4, .int mra, .int mrh, .ref m7, .ref m8, .ref m9, .ref m10, .ref m11, .ref m12, .int (mch + 1), .int (mfr + 0), .int mfw, .int mrd, .ref m17, .ref m18, .ref m19, .ref m20, .ref m21, .ref m22, .ref m23, .int mtr])), (m2, .inl (cI, 6, .inl K)), (m3, .inl (cI, 6, .inl L_113)), (m4, .inl (cI, 6, .inl C_113)), (m12, .inl (cI, 6, .inl (upd PY (p5_payerOf K L C i1 i2 i3).toNatClampNeg ((PY (p5_payerOf K L C i1 i2 i3).toNatClampNeg) + 1))))]) H := hP
        have hD : va_D A ([(m0, .inr (5, [.int mfa, .int mho, .ref m2, .ref m3, .ref m4, .int mra, .int mrh, .ref m7, .ref m8, .ref m9, .ref m10, .ref m11, .ref m12, .int (mch + 1), .int (mfr + 0), .int mfw, .int mrd, .ref m17, .ref m18, .ref m19, .ref m20, .ref m21, .ref m22, .ref m23, .int mtr])), (m2, .inl (cI, 6, .inl K)), (m3, .inl (cI, 6, .inl L_113)), (m4, .inl (cI, 6, .inl C_113)), (m12, .inl (cI, 6, .inl (upd PY (p5_payerOf K L C i1 i2 i3).toNatClampNeg ((PY (p5_payerOf K L C i1 i2 i3).toNatClampNeg) + 1))))]) := hD
        refine lv_iload hx hb dX5_goPair_127 (lv_at hl 2 rfl) ?_
        have hE9 : p5_goPair mho mch mfr K L C PY i1 i2 i3 = ((p5_payerOf K L C i1 i2 i3), (mch + 1), (mfr + 0), L_113, C_113, (upd PY (p5_payerOf K L C i1 i2 i3).toNatClampNeg ((PY (p5_payerOf K L C i1 i2 i3).toNatClampNeg) + 1))) := by unfold p5_goPair; simp only [eL_113, eC_113]; rw [if_neg c_20, if_neg c_34, if_pos c_40]
        exact W.iret (v := (p5_payerOf K L C i1 i2 i3)) hx hb hr (fun t ht hW => ⟨⟨_, (), rfl, by rw [hE9], by show va_P (dC, dI) vwCl _ t.heap; rw [ht, hE9]; exact hP⟩, hS.F ht⟩) hS.2.2 dX5_goPair_129
  · skip
    refine lv_iconst (v := 1) hx hb dX5_goPair_23 (by decide) ?_
    refine lv_goto (tgt := 28) hx hb dX5_goPair_24 (by decide) ?_
    refine lv_iadd hx hb dX5_goPair_28 ?_
    refine va_put (D := (dC, dI)) (ci := 5) (v := .int (mfr + 1)) (ty := .int) (C := RX5) (T := TX5) (N := 25) hx hb hts hin5 tyX5 tyX5_ok nmX5 hown hK hP hD hS 0 rfl rfl 14 (by decide) kf_168 (fun _ h9 => h9) rfl (by decide +kernel) rfl rfl (Nat.le_of_ble_eq_true rfl) dX5_goPair_29 (fun H locs hP hD hS => ?_)
    have hP : va_P (dC, dI) vwCl ([(m0, .inr (5, [.int mfa, .int mho, .ref m2, .ref m3, .ref m4, .int mra, .int mrh, .ref m7, .ref m8, .ref m9, .ref m10, .ref m11, .ref m12, .int mch, .int (mfr + 1), .int mfw, .int mrd, .ref m17, .ref m18, .ref m19, .ref m20, .ref m21, .ref m22, .ref m23, .int mtr])), (m2, .inl (cI, 6, .inl K)), (m3, .inl (cI, 6, .inl L)), (m4, .inl (cI, 6, .inl C)), (m12, .inl (cI, 6, .inl PY))]) H := hP
    have hD : va_D A ([(m0, .inr (5, [.int mfa, .int mho, .ref m2, .ref m3, .ref m4, .int mra, .int mrh, .ref m7, .ref m8, .ref m9, .ref m10, .ref m11, .ref m12, .int mch, .int (mfr + 1), .int mfw, .int mrd, .ref m17, .ref m18, .ref m19, .ref m20, .ref m21, .ref m22, .ref m23, .int mtr])), (m2, .inl (cI, 6, .inl K)), (m3, .inl (cI, 6, .inl L)), (m4, .inl (cI, 6, .inl C)), (m12, .inl (cI, 6, .inl PY))]) := hD
    refine lv_iload_n hx hb dX5_goPair_32 rfl (lv_at hl 2 rfl) ?_
    refine lv_iload_n hx hb dX5_goPair_33 rfl (lv_at hl 3 rfl) ?_
    refine lv_icmp_eq (tgt := 109) hx hb dX5_goPair_34 (by decide) (fun c_34 => ?_) (fun c_34 => ?_)
    · skip
      refine lv_aload_n hx hb dX5_goPair_109 rfl (lv_at hl 1 rfl) ?_
      refine lv_iload hx hb dX5_goPair_110 (lv_at hl 0 rfl) ?_
      refine lv_iload_n hx hb dX5_goPair_112 rfl (lv_at hl 4 rfl) ?_
      have hPc := hP.sub (ws' := [(m0, .inr (5, [.int mfa, .int mho, .ref m2, .ref m3, .ref m4, .int mra, .int mrh, .ref m7, .ref m8, .ref m9, .ref m10, .ref m11, .ref m12, .int mch, .int (mfr + 1), .int mfw, .int mrd, .ref m17, .ref m18, .ref m19, .ref m20, .ref m21, .ref m22, .ref m23, .int mtr])), (m3, .inl (cI, 6, .inl L)), (m4, .inl (cI, 6, .inl C))]) [0, 2, 3] rfl
      have hDc := hD.sub (ws' := [(m0, .inr (5, [.int mfa, .int mho, .ref m2, .ref m3, .ref m4, .int mra, .int mrh, .ref m7, .ref m8, .ref m9, .ref m10, .ref m11, .ref m12, .int mch, .int (mfr + 1), .int mfw, .int mrd, .ref m17, .ref m18, .ref m19, .ref m20, .ref m21, .ref m22, .ref m23, .int mtr])), (m3, .inl (cI, 6, .inl L)), (m4, .inl (cI, 6, .inl C))]) [0, 2, 3] (by decide) rfl
      have hKc := hK.sub (tys' := [(cI, .int)]) [0] rfl
      have hFc := va_free (wc := [(m0, .inr (5, [.int mfa, .int mho, .ref m2, .ref m3, .ref m4, .int mra, .int mrh, .ref m7, .ref m8, .ref m9, .ref m10, .ref m11, .ref m12, .int mch, .int (mfr + 1), .int mfw, .int mrd, .ref m17, .ref m18, .ref m19, .ref m20, .ref m21, .ref m22, .ref m23, .int mtr])), (m3, .inl (cI, 6, .inl L)), (m4, .inl (cI, 6, .inl C))]) hD hS hA [0, 2, 3] rfl
      refine va_callv (va_runV (As := [.int (p5_payerOf K L C i1 i2 i3), .int i3]) (rest := []) ⟨hx, hb, hml, hown, hts⟩ (ctX5_pay l dC dI cI m0 m2 m3 m4 m7 m8 m9 m10 m11 m12 m17 m18 m19 m20 m21 m22 m23 H.size mfa mho mra mrh mch (mfr + 1) mfw mrd mtr L C (p5_payerOf K L C i1 i2 i3) i3 (payerOf_in hi1 hi2)) (cwV 2 hts gX5_goPair_X5_pay rfl rfl rfl (by decide +kernel) ⟨Nat.le_of_ble_eq_true rfl, Nat.le_of_ble_eq_true rfl⟩) (pre_V hKc hN hPc hDc (RX5, TX5, 25) 5 0 rfl rfl) rfl rfl hl.1 rfl (lv_room (Nat.le_of_ble_eq_true rfl)) dX5_goPair_113 ⟨Nat.le_of_ble_eq_true rfl, Nat.le_of_ble_eq_true rfl⟩) hS (fun q _ h => hFc q h) hFc (fun _ t H locs ht hvm hw hB hz1 hk1 hS => ?_)
      rw [ht] at hB
      refine nm_gen ((p5_pay L C (p5_payerOf K L C i1 i2 i3) i3).1) (fun L_113 eL_113 => ?_)
      rw [eL_113] at hB
      refine nm_gen ((p5_pay L C (p5_payerOf K L C i1 i2 i3) i3).2) (fun C_113 eC_113 => ?_)
      rw [eC_113] at hB
      obtain ⟨hP, hD⟩ := rw_join ([(m0, .inr (5, [.int mfa, .int mho, .ref m2, .ref m3, .ref m4, .int mra, .int mrh, .ref m7, .ref m8, .ref m9, .ref m10, .ref m11, .ref m12, .int mch, .int (mfr + 1), .int mfw, .int mrd, .ref m17, .ref m18, .ref m19, .ref m20, .ref m21, .ref m22, .ref m23, .int mtr])), (m2, .inl (cI, 6, .inl K)), (m3, .inl (cI, 6, .inl L)), (m4, .inl (cI, 6, .inl C)), (m12, .inl (cI, 6, .inl PY))]) ([(m0, .inr (5, [.int mfa, .int mho, .ref m2, .ref m3, .ref m4, .int mra, .int mrh, .ref m7, .ref m8, .ref m9, .ref m10, .ref m11, .ref m12, .int mch, .int (mfr + 1), .int mfw, .int mrd, .ref m17, .ref m18, .ref m19, .ref m20, .ref m21, .ref m22, .ref m23, .int mtr])), (m2, .inl (cI, 6, .inl K)), (m3, .inl (cI, 6, .inl L_113)), (m4, .inl (cI, 6, .inl C_113)), (m12, .inl (cI, 6, .inl PY))]) ([(m0, .inr (5, [.int mfa, .int mho, .ref m2, .ref m3, .ref m4, .int mra, .int mrh, .ref m7, .ref m8, .ref m9, .ref m10, .ref m11, .ref m12, .int mch, .int (mfr + 1), .int mfw, .int mrd, .ref m17, .ref m18, .ref m19, .ref m20, .ref m21, .ref m22, .ref m23, .int mtr])), (m3, .inl (cI, 6, .inl L)), (m4, .inl (cI, 6, .inl C))]) ([(m0, .inr (5, [.int mfa, .int mho, .ref m2, .ref m3, .ref m4, .int mra, .int mrh, .ref m7, .ref m8, .ref m9, .ref m10, .ref m11, .ref m12, .int mch, .int (mfr + 1), .int mfw, .int mrd, .ref m17, .ref m18, .ref m19, .ref m20, .ref m21, .ref m22, .ref m23, .int mtr])), (m3, .inl (cI, 6, .inl L_113)), (m4, .inl (cI, 6, .inl C_113))]) ([(m2, .inl (cI, 6, .inl K)), (m12, .inl (cI, 6, .inl PY))]) hP hD [0, 2, 3] [1, 4] [m0, m2, m3, m4, m12] 5 rfl rfl rfl rfl rfl (by decide) rfl rfl hk1 hB
      refine lv_aload_n hx hb dX5_goPair_116 rfl (lv_at hl 1 rfl) ?_
      refine va_get (D := (dC, dI)) (ci := 5) (v := .ref m12) (C := RX5) (T := TX5) (N := 25) hx hb hts hin5 hown hK hP 0 rfl rfl 12 (by decide) kf_34 (fun _ h9 => h9) rfl dX5_goPair_117 ?_
      refine lv_iload hx hb dX5_goPair_120 (lv_at hl 0 rfl) ?_
      refine lv_dup2_11 hx hb dX5_goPair_122 rfl rfl ?_
      refine va_iald hx hb hK hP 4 0 rfl rfl (payerOf_in hi1 hi2) dX5_goPair_123 ?_
      refine lv_iconst (v := 1) hx hb dX5_goPair_124 (by decide) ?_
      refine lv_iadd hx hb dX5_goPair_125 ?_
      refine va_iast hx hb hK hP hD hS 4 0 rfl rfl (payerOf_in hi1 hi2) dX5_goPair_126 (fun H locs hP hD hS => ?_)
      have hP : va_P (dC, dI) vwCl ([(m0, .inr (5, [.int mfa, .int mho, .ref m2, .ref m3, .ref m4, .int mra, .int mrh, .ref m7, .ref m8, .ref m9, .ref m10, .ref m11, .ref m12, .int mch, .int (mfr + 1), .int mfw, .int mrd, .ref m17, .ref m18, .ref m19, .ref m20, .ref m21, .ref m22, .ref m23, .int mtr])), (m2, .inl (cI, 6, .inl K)), (m3, .inl (cI, 6, .inl L_113)), (m4, .inl (cI, 6, .inl C_113)), (m12, .inl (cI, 6, .inl (upd PY (p5_payerOf K L C i1 i2 i3).toNatClampNeg ((PY (p5_payerOf K L C i1 i2 i3).toNatClampNeg) + 1))))]) H := hP
      have hD : va_D A ([(m0, .inr (5, [.int mfa, .int mho, .ref m2, .ref m3, .ref m4, .int mra, .int mrh, .ref m7, .ref m8, .ref m9, .ref m10, .ref m11, .ref m12, .int mch, .int (mfr + 1), .int mfw, .int mrd, .ref m17, .ref m18, .ref m19, .ref m20, .ref m21, .ref m22, .ref m23, .int mtr])), (m2, .inl (cI, 6, .inl K)), (m3, .inl (cI, 6, .inl L_113)), (m4, .inl (cI, 6, .inl C_113)), (m12, .inl (cI, 6, .inl (upd PY (p5_payerOf K L C i1 i2 i3).toNatClampNeg ((PY (p5_payerOf K L C i1 i2 i3).toNatClampNeg) + 1))))]) := hD
      refine lv_iload hx hb dX5_goPair_127 (lv_at hl 0 rfl) ?_
      have hE9 : p5_goPair mho mch mfr K L C PY i1 i2 i3 = ((p5_payerOf K L C i1 i2 i3), mch, (mfr + 1), L_113, C_113, (upd PY (p5_payerOf K L C i1 i2 i3).toNatClampNeg ((PY (p5_payerOf K L C i1 i2 i3).toNatClampNeg) + 1))) := by unfold p5_goPair; simp only [eL_113, eC_113]; rw [if_pos c_20, if_pos c_34]
      exact W.iret (v := (p5_payerOf K L C i1 i2 i3)) hx hb hr (fun t ht hW => ⟨⟨_, (), rfl, by rw [hE9], by show va_P (dC, dI) vwCl _ t.heap; rw [ht, hE9]; exact hP⟩, hS.F ht⟩) hS.2.2 dX5_goPair_129
    · skip
      refine lv_iload hx hb dX5_goPair_37 (lv_at hl 0 rfl) ?_
      refine lv_iload_n hx hb dX5_goPair_39 rfl (lv_at hl 2 rfl) ?_
      refine lv_icmp_ne (tgt := 109) hx hb dX5_goPair_40 (by decide) (fun c_40 => ?_) (fun c_40 => ?_)
      · skip
        refine lv_aload_n hx hb dX5_goPair_109 rfl (lv_at hl 1 rfl) ?_
        refine lv_iload hx hb dX5_goPair_110 (lv_at hl 0 rfl) ?_
        refine lv_iload_n hx hb dX5_goPair_112 rfl (lv_at hl 4 rfl) ?_
        have hPc := hP.sub (ws' := [(m0, .inr (5, [.int mfa, .int mho, .ref m2, .ref m3, .ref m4, .int mra, .int mrh, .ref m7, .ref m8, .ref m9, .ref m10, .ref m11, .ref m12, .int mch, .int (mfr + 1), .int mfw, .int mrd, .ref m17, .ref m18, .ref m19, .ref m20, .ref m21, .ref m22, .ref m23, .int mtr])), (m3, .inl (cI, 6, .inl L)), (m4, .inl (cI, 6, .inl C))]) [0, 2, 3] rfl
        have hDc := hD.sub (ws' := [(m0, .inr (5, [.int mfa, .int mho, .ref m2, .ref m3, .ref m4, .int mra, .int mrh, .ref m7, .ref m8, .ref m9, .ref m10, .ref m11, .ref m12, .int mch, .int (mfr + 1), .int mfw, .int mrd, .ref m17, .ref m18, .ref m19, .ref m20, .ref m21, .ref m22, .ref m23, .int mtr])), (m3, .inl (cI, 6, .inl L)), (m4, .inl (cI, 6, .inl C))]) [0, 2, 3] (by decide) rfl
        have hKc := hK.sub (tys' := [(cI, .int)]) [0] rfl
        have hFc := va_free (wc := [(m0, .inr (5, [.int mfa, .int mho, .ref m2, .ref m3, .ref m4, .int mra, .int mrh, .ref m7, .ref m8, .ref m9, .ref m10, .ref m11, .ref m12, .int mch, .int (mfr + 1), .int mfw, .int mrd, .ref m17, .ref m18, .ref m19, .ref m20, .ref m21, .ref m22, .ref m23, .int mtr])), (m3, .inl (cI, 6, .inl L)), (m4, .inl (cI, 6, .inl C))]) hD hS hA [0, 2, 3] rfl
        refine va_callv (va_runV (As := [.int (p5_payerOf K L C i1 i2 i3), .int i3]) (rest := []) ⟨hx, hb, hml, hown, hts⟩ (ctX5_pay l dC dI cI m0 m2 m3 m4 m7 m8 m9 m10 m11 m12 m17 m18 m19 m20 m21 m22 m23 H.size mfa mho mra mrh mch (mfr + 1) mfw mrd mtr L C (p5_payerOf K L C i1 i2 i3) i3 (payerOf_in hi1 hi2)) (cwV 2 hts gX5_goPair_X5_pay rfl rfl rfl (by decide +kernel) ⟨Nat.le_of_ble_eq_true rfl, Nat.le_of_ble_eq_true rfl⟩) (pre_V hKc hN hPc hDc (RX5, TX5, 25) 5 0 rfl rfl) rfl rfl hl.1 rfl (lv_room (Nat.le_of_ble_eq_true rfl)) dX5_goPair_113 ⟨Nat.le_of_ble_eq_true rfl, Nat.le_of_ble_eq_true rfl⟩) hS (fun q _ h => hFc q h) hFc (fun _ t H locs ht hvm hw hB hz1 hk1 hS => ?_)
        rw [ht] at hB
        refine nm_gen ((p5_pay L C (p5_payerOf K L C i1 i2 i3) i3).1) (fun L_113 eL_113 => ?_)
        rw [eL_113] at hB
        refine nm_gen ((p5_pay L C (p5_payerOf K L C i1 i2 i3) i3).2) (fun C_113 eC_113 => ?_)
        rw [eC_113] at hB
        obtain ⟨hP, hD⟩ := rw_join ([(m0, .inr (5, [.int mfa, .int mho, .ref m2, .ref m3, .ref m4, .int mra, .int mrh, .ref m7, .ref m8, .ref m9, .ref m10, .ref m11, .ref m12, .int mch, .int (mfr + 1), .int mfw, .int mrd, .ref m17, .ref m18, .ref m19, .ref m20, .ref m21, .ref m22, .ref m23, .int mtr])), (m2, .inl (cI, 6, .inl K)), (m3, .inl (cI, 6, .inl L)), (m4, .inl (cI, 6, .inl C)), (m12, .inl (cI, 6, .inl PY))]) ([(m0, .inr (5, [.int mfa, .int mho, .ref m2, .ref m3, .ref m4, .int mra, .int mrh, .ref m7, .ref m8, .ref m9, .ref m10, .ref m11, .ref m12, .int mch, .int (mfr + 1), .int mfw, .int mrd, .ref m17, .ref m18, .ref m19, .ref m20, .ref m21, .ref m22, .ref m23, .int mtr])), (m2, .inl (cI, 6, .inl K)), (m3, .inl (cI, 6, .inl L_113)), (m4, .inl (cI, 6, .inl C_113)), (m12, .inl (cI, 6, .inl PY))]) ([(m0, .inr (5, [.int mfa, .int mho, .ref m2, .ref m3, .ref m4, .int mra, .int mrh, .ref m7, .ref m8, .ref m9, .ref m10, .ref m11, .ref m12, .int mch, .int (mfr + 1), .int mfw, .int mrd, .ref m17, .ref m18, .ref m19, .ref m20, .ref m21, .ref m22, .ref m23, .int mtr])), (m3, .inl (cI, 6, .inl L)), (m4, .inl (cI, 6, .inl C))]) ([(m0, .inr (5, [.int mfa, .int mho, .ref m2, .ref m3, .ref m4, .int mra, .int mrh, .ref m7, .ref m8, .ref m9, .ref m10, .ref m11, .ref m12, .int mch, .int (mfr + 1), .int mfw, .int mrd, .ref m17, .ref m18, .ref m19, .ref m20, .ref m21, .ref m22, .ref m23, .int mtr])), (m3, .inl (cI, 6, .inl L_113)), (m4, .inl (cI, 6, .inl C_113))]) ([(m2, .inl (cI, 6, .inl K)), (m12, .inl (cI, 6, .inl PY))]) hP hD [0, 2, 3] [1, 4] [m0, m2, m3, m4, m12] 5 rfl rfl rfl rfl rfl (by decide) rfl rfl hk1 hB
        refine lv_aload_n hx hb dX5_goPair_116 rfl (lv_at hl 1 rfl) ?_
        refine va_get (D := (dC, dI)) (ci := 5) (v := .ref m12) (C := RX5) (T := TX5) (N := 25) hx hb hts hin5 hown hK hP 0 rfl rfl 12 (by decide) kf_34 (fun _ h9 => h9) rfl dX5_goPair_117 ?_
        refine lv_iload hx hb dX5_goPair_120 (lv_at hl 0 rfl) ?_
        refine lv_dup2_11 hx hb dX5_goPair_122 rfl rfl ?_
        refine va_iald hx hb hK hP 4 0 rfl rfl (payerOf_in hi1 hi2) dX5_goPair_123 ?_
        refine lv_iconst (v := 1) hx hb dX5_goPair_124 (by decide) ?_
        refine lv_iadd hx hb dX5_goPair_125 ?_
        refine va_iast hx hb hK hP hD hS 4 0 rfl rfl (payerOf_in hi1 hi2) dX5_goPair_126 (fun H locs hP hD hS => ?_)
        have hP : va_P (dC, dI) vwCl ([(m0, .inr (5, [.int mfa, .int mho, .ref m2, .ref m3, .ref m4, .int mra, .int mrh, .ref m7, .ref m8, .ref m9, .ref m10, .ref m11, .ref m12, .int mch, .int (mfr + 1), .int mfw, .int mrd, .ref m17, .ref m18, .ref m19, .ref m20, .ref m21, .ref m22, .ref m23, .int mtr])), (m2, .inl (cI, 6, .inl K)), (m3, .inl (cI, 6, .inl L_113)), (m4, .inl (cI, 6, .inl C_113)), (m12, .inl (cI, 6, .inl (upd PY (p5_payerOf K L C i1 i2 i3).toNatClampNeg ((PY (p5_payerOf K L C i1 i2 i3).toNatClampNeg) + 1))))]) H := hP
        have hD : va_D A ([(m0, .inr (5, [.int mfa, .int mho, .ref m2, .ref m3, .ref m4, .int mra, .int mrh, .ref m7, .ref m8, .ref m9, .ref m10, .ref m11, .ref m12, .int mch, .int (mfr + 1), .int mfw, .int mrd, .ref m17, .ref m18, .ref m19, .ref m20, .ref m21, .ref m22, .ref m23, .int mtr])), (m2, .inl (cI, 6, .inl K)), (m3, .inl (cI, 6, .inl L_113)), (m4, .inl (cI, 6, .inl C_113)), (m12, .inl (cI, 6, .inl (upd PY (p5_payerOf K L C i1 i2 i3).toNatClampNeg ((PY (p5_payerOf K L C i1 i2 i3).toNatClampNeg) + 1))))]) := hD
        refine lv_iload hx hb dX5_goPair_127 (lv_at hl 0 rfl) ?_
        have hE9 : p5_goPair mho mch mfr K L C PY i1 i2 i3 = ((p5_payerOf K L C i1 i2 i3), mch, (mfr + 1), L_113, C_113, (upd PY (p5_payerOf K L C i1 i2 i3).toNatClampNeg ((PY (p5_payerOf K L C i1 i2 i3).toNatClampNeg) + 1))) := by unfold p5_goPair; simp only [eL_113, eC_113]; rw [if_pos c_20, if_neg c_34, if_neg c_40]
        exact W.iret (v := (p5_payerOf K L C i1 i2 i3)) hx hb hr (fun t ht hW => ⟨⟨_, (), rfl, by rw [hE9], by show va_P (dC, dI) vwCl _ t.heap; rw [ht, hE9]; exact hP⟩, hS.F ht⟩) hS.2.2 dX5_goPair_129
      · skip
        refine lv_aload_n hx hb dX5_goPair_43 rfl (lv_at hl 1 rfl) ?_
        refine va_get (D := (dC, dI)) (ci := 5) (v := .ref m3) (C := RX5) (T := TX5) (N := 25) hx hb hts hin5 hown hK hP 0 rfl rfl 3 (by decide) kf_13 (fun _ h9 => h9) rfl dX5_goPair_44 ?_
        refine lv_iload_n hx hb dX5_goPair_47 rfl (lv_at hl 2 rfl) ?_
        refine va_iald hx hb hK hP 2 0 rfl rfl (by assumption) dX5_goPair_48 ?_
        refine lv_istore (lv' := [(5, .int (L i1.toNatClampNeg)), (4, .int (p5_payerOf K L C i1 i2 i3)), (0, .ref m0), (1, .int i1), (2, .int i2), (3, .int i3)]) hx hb dX5_goPair_49 hl (by decide) rfl (fun ls hl => ?_)
        refine lv_aload_n hx hb dX5_goPair_51 rfl (lv_at hl 2 rfl) ?_
        refine va_get (D := (dC, dI)) (ci := 5) (v := .ref m4) (C := RX5) (T := TX5) (N := 25) hx hb hts hin5 hown hK hP 0 rfl rfl 4 (by decide) kf_16 (fun _ h9 => h9) rfl dX5_goPair_52 ?_
        refine lv_iload_n hx hb dX5_goPair_55 rfl (lv_at hl 3 rfl) ?_
        refine va_iald hx hb hK hP 3 0 rfl rfl (by assumption) dX5_goPair_56 ?_
        refine lv_istore (lv' := [(6, .int (C i1.toNatClampNeg)), (5, .int (L i1.toNatClampNeg)), (4, .int (p5_payerOf K L C i1 i2 i3)), (0, .ref m0), (1, .int i1), (2, .int i2), (3, .int i3)]) hx hb dX5_goPair_57 hl (by decide) rfl (fun ls hl => ?_)
        refine lv_aload_n hx hb dX5_goPair_59 rfl (lv_at hl 3 rfl) ?_
        refine va_get (D := (dC, dI)) (ci := 5) (v := .ref m3) (C := RX5) (T := TX5) (N := 25) hx hb hts hin5 hown hK hP 0 rfl rfl 3 (by decide) kf_13 (fun _ h9 => h9) rfl dX5_goPair_60 ?_
        refine lv_iload_n hx hb dX5_goPair_63 rfl (lv_at hl 4 rfl) ?_
        refine lv_aload_n hx hb dX5_goPair_64 rfl (lv_at hl 3 rfl) ?_
        refine va_get (D := (dC, dI)) (ci := 5) (v := .ref m3) (C := RX5) (T := TX5) (N := 25) hx hb hts hin5 hown hK hP 0 rfl rfl 3 (by decide) kf_13 (fun _ h9 => h9) rfl dX5_goPair_65 ?_
        refine lv_iload_n hx hb dX5_goPair_68 rfl (lv_at hl 5 rfl) ?_
        refine va_iald hx hb hK hP 2 0 rfl rfl (by assumption) dX5_goPair_69 ?_
        refine va_iast hx hb hK hP hD hS 2 0 rfl rfl (by assumption) dX5_goPair_70 (fun H locs hP hD hS => ?_)
        have hP : va_P (dC, dI) vwCl ([(m0, .inr (5, [.int mfa, .int mho, .ref m2, .ref m3, .ref m4, .int mra, .int mrh, .ref m7, .ref m8, .ref m9, .ref m10, .ref m11, .ref m12, .int mch, .int (mfr + 1), .int mfw, .int mrd, .ref m17, .ref m18, .ref m19, .ref m20, .ref m21, .ref m22, .ref m23, .int mtr])), (m2, .inl (cI, 6, .inl K)), (m3, .inl (cI, 6, .inl (upd L i1.toNatClampNeg (L i2.toNatClampNeg)))), (m4, .inl (cI, 6, .inl C)), (m12, .inl (cI, 6, .inl PY))]) H := hP
        have hD : va_D A ([(m0, .inr (5, [.int mfa, .int mho, .ref m2, .ref m3, .ref m4, .int mra, .int mrh, .ref m7, .ref m8, .ref m9, .ref m10, .ref m11, .ref m12, .int mch, .int (mfr + 1), .int mfw, .int mrd, .ref m17, .ref m18, .ref m19, .ref m20, .ref m21, .ref m22, .ref m23, .int mtr])), (m2, .inl (cI, 6, .inl K)), (m3, .inl (cI, 6, .inl (upd L i1.toNatClampNeg (L i2.toNatClampNeg)))), (m4, .inl (cI, 6, .inl C)), (m12, .inl (cI, 6, .inl PY))]) := hD
        refine lv_aload_n hx hb dX5_goPair_71 rfl (lv_at hl 3 rfl) ?_
        refine va_get (D := (dC, dI)) (ci := 5) (v := .ref m4) (C := RX5) (T := TX5) (N := 25) hx hb hts hin5 hown hK hP 0 rfl rfl 4 (by decide) kf_16 (fun _ h9 => h9) rfl dX5_goPair_72 ?_
        refine lv_iload_n hx hb dX5_goPair_75 rfl (lv_at hl 4 rfl) ?_
        refine lv_aload_n hx hb dX5_goPair_76 rfl (lv_at hl 3 rfl) ?_
        refine va_get (D := (dC, dI)) (ci := 5) (v := .ref m4) (C := RX5) (T := TX5) (N := 25) hx hb hts hin5 hown hK hP 0 rfl rfl 4 (by decide) kf_16 (fun _ h9 => h9) rfl dX5_goPair_77 ?_
        refine lv_iload_n hx hb dX5_goPair_80 rfl (lv_at hl 5 rfl) ?_
        refine va_iald hx hb hK hP 3 0 rfl rfl (by assumption) dX5_goPair_81 ?_
        refine va_iast hx hb hK hP hD hS 3 0 rfl rfl (by assumption) dX5_goPair_82 (fun H locs hP hD hS => ?_)
        have hP : va_P (dC, dI) vwCl ([(m0, .inr (5, [.int mfa, .int mho, .ref m2, .ref m3, .ref m4, .int mra, .int mrh, .ref m7, .ref m8, .ref m9, .ref m10, .ref m11, .ref m12, .int mch, .int (mfr + 1), .int mfw, .int mrd, .ref m17, .ref m18, .ref m19, .ref m20, .ref m21, .ref m22, .ref m23, .int mtr])), (m2, .inl (cI, 6, .inl K)), (m3, .inl (cI, 6, .inl (upd L i1.toNatClampNeg (L i2.toNatClampNeg)))), (m4, .inl (cI, 6, .inl (upd C i1.toNatClampNeg (C i2.toNatClampNeg)))), (m12, .inl (cI, 6, .inl PY))]) H := hP
        have hD : va_D A ([(m0, .inr (5, [.int mfa, .int mho, .ref m2, .ref m3, .ref m4, .int mra, .int mrh, .ref m7, .ref m8, .ref m9, .ref m10, .ref m11, .ref m12, .int mch, .int (mfr + 1), .int mfw, .int mrd, .ref m17, .ref m18, .ref m19, .ref m20, .ref m21, .ref m22, .ref m23, .int mtr])), (m2, .inl (cI, 6, .inl K)), (m3, .inl (cI, 6, .inl (upd L i1.toNatClampNeg (L i2.toNatClampNeg)))), (m4, .inl (cI, 6, .inl (upd C i1.toNatClampNeg (C i2.toNatClampNeg)))), (m12, .inl (cI, 6, .inl PY))]) := hD
        refine lv_aload_n hx hb dX5_goPair_83 rfl (lv_at hl 3 rfl) ?_
        refine va_get (D := (dC, dI)) (ci := 5) (v := .ref m3) (C := RX5) (T := TX5) (N := 25) hx hb hts hin5 hown hK hP 0 rfl rfl 3 (by decide) kf_13 (fun _ h9 => h9) rfl dX5_goPair_84 ?_
        refine lv_iload_n hx hb dX5_goPair_87 rfl (lv_at hl 5 rfl) ?_
        refine lv_iload hx hb dX5_goPair_88 (lv_at hl 1 rfl) ?_
        refine va_iast hx hb hK hP hD hS 2 0 rfl rfl (by assumption) dX5_goPair_90 (fun H locs hP hD hS => ?_)
        have hP : va_P (dC, dI) vwCl ([(m0, .inr (5, [.int mfa, .int mho, .ref m2, .ref m3, .ref m4, .int mra, .int mrh, .ref m7, .ref m8, .ref m9, .ref m10, .ref m11, .ref m12, .int mch, .int (mfr + 1), .int mfw, .int mrd, .ref m17, .ref m18, .ref m19, .ref m20, .ref m21, .ref m22, .ref m23, .int mtr])), (m2, .inl (cI, 6, .inl K)), (m3, .inl (cI, 6, .inl (upd (upd L i1.toNatClampNeg (L i2.toNatClampNeg)) i2.toNatClampNeg (L i1.toNatClampNeg)))), (m4, .inl (cI, 6, .inl (upd C i1.toNatClampNeg (C i2.toNatClampNeg)))), (m12, .inl (cI, 6, .inl PY))]) H := hP
        have hD : va_D A ([(m0, .inr (5, [.int mfa, .int mho, .ref m2, .ref m3, .ref m4, .int mra, .int mrh, .ref m7, .ref m8, .ref m9, .ref m10, .ref m11, .ref m12, .int mch, .int (mfr + 1), .int mfw, .int mrd, .ref m17, .ref m18, .ref m19, .ref m20, .ref m21, .ref m22, .ref m23, .int mtr])), (m2, .inl (cI, 6, .inl K)), (m3, .inl (cI, 6, .inl (upd (upd L i1.toNatClampNeg (L i2.toNatClampNeg)) i2.toNatClampNeg (L i1.toNatClampNeg)))), (m4, .inl (cI, 6, .inl (upd C i1.toNatClampNeg (C i2.toNatClampNeg)))), (m12, .inl (cI, 6, .inl PY))]) := hD
        refine lv_aload_n hx hb dX5_goPair_91 rfl (lv_at hl 3 rfl) ?_
        refine va_get (D := (dC, dI)) (ci := 5) (v := .ref m4) (C := RX5) (T := TX5) (N := 25) hx hb hts hin5 hown hK hP 0 rfl rfl 4 (by decide) kf_16 (fun _ h9 => h9) rfl dX5_goPair_92 ?_
        refine lv_iload_n hx hb dX5_goPair_95 rfl (lv_at hl 5 rfl) ?_
        refine lv_iload hx hb dX5_goPair_96 (lv_at hl 0 rfl) ?_
        refine va_iast hx hb hK hP hD hS 3 0 rfl rfl (by assumption) dX5_goPair_98 (fun H locs hP hD hS => ?_)
        have hP : va_P (dC, dI) vwCl ([(m0, .inr (5, [.int mfa, .int mho, .ref m2, .ref m3, .ref m4, .int mra, .int mrh, .ref m7, .ref m8, .ref m9, .ref m10, .ref m11, .ref m12, .int mch, .int (mfr + 1), .int mfw, .int mrd, .ref m17, .ref m18, .ref m19, .ref m20, .ref m21, .ref m22, .ref m23, .int mtr])), (m2, .inl (cI, 6, .inl K)), (m3, .inl (cI, 6, .inl (upd (upd L i1.toNatClampNeg (L i2.toNatClampNeg)) i2.toNatClampNeg (L i1.toNatClampNeg)))), (m4, .inl (cI, 6, .inl (upd (upd C i1.toNatClampNeg (C i2.toNatClampNeg)) i2.toNatClampNeg (C i1.toNatClampNeg)))), (m12, .inl (cI, 6, .inl PY))]) H := hP
        have hD : va_D A ([(m0, .inr (5, [.int mfa, .int mho, .ref m2, .ref m3, .ref m4, .int mra, .int mrh, .ref m7, .ref m8, .ref m9, .ref m10, .ref m11, .ref m12, .int mch, .int (mfr + 1), .int mfw, .int mrd, .ref m17, .ref m18, .ref m19, .ref m20, .ref m21, .ref m22, .ref m23, .int mtr])), (m2, .inl (cI, 6, .inl K)), (m3, .inl (cI, 6, .inl (upd (upd L i1.toNatClampNeg (L i2.toNatClampNeg)) i2.toNatClampNeg (L i1.toNatClampNeg)))), (m4, .inl (cI, 6, .inl (upd (upd C i1.toNatClampNeg (C i2.toNatClampNeg)) i2.toNatClampNeg (C i1.toNatClampNeg)))), (m12, .inl (cI, 6, .inl PY))]) := hD
        refine lv_aload_n hx hb dX5_goPair_99 rfl (lv_at hl 3 rfl) ?_
        refine lv_dup hx hb dX5_goPair_100 rfl ?_
        refine va_get (D := (dC, dI)) (ci := 5) (v := .int mch) (C := RX5) (T := TX5) (N := 25) hx hb hts hin5 hown hK hP 0 rfl rfl 13 (by decide) kf_171 (fun _ h9 => h9) rfl dX5_goPair_101 ?_
        refine lv_iconst (v := 1) hx hb dX5_goPair_104 (by decide) ?_
        refine lv_iadd hx hb dX5_goPair_105 ?_
        refine va_put (D := (dC, dI)) (ci := 5) (v := .int (mch + 1)) (ty := .int) (C := RX5) (T := TX5) (N := 25) hx hb hts hin5 tyX5 tyX5_ok nmX5 hown hK hP hD hS 0 rfl rfl 13 (by decide) kf_171 (fun _ h9 => h9) rfl (by decide +kernel) rfl rfl (Nat.le_of_ble_eq_true rfl) dX5_goPair_106 (fun H locs hP hD hS => ?_)
        have hP : va_P (dC, dI) vwCl ([(m0, .inr (5, [.int mfa, .int mho, .ref m2, .ref m3, .ref m4, .int mra, .int mrh, .ref m7, .ref m8, .ref m9, .ref m10, .ref m11, .ref m12, .int (mch + 1), .int (mfr + 1), .int mfw, .int mrd, .ref m17, .ref m18, .ref m19, .ref m20, .ref m21, .ref m22, .ref m23, .int mtr])), (m2, .inl (cI, 6, .inl K)), (m3, .inl (cI, 6, .inl (upd (upd L i1.toNatClampNeg (L i2.toNatClampNeg)) i2.toNatClampNeg (L i1.toNatClampNeg)))), (m4, .inl (cI, 6, .inl (upd (upd C i1.toNatClampNeg (C i2.toNatClampNeg)) i2.toNatClampNeg (C i1.toNatClampNeg)))), (m12, .inl (cI, 6, .inl PY))]) H := hP
        have hD : va_D A ([(m0, .inr (5, [.int mfa, .int mho, .ref m2, .ref m3, .ref m4, .int mra, .int mrh, .ref m7, .ref m8, .ref m9, .ref m10, .ref m11, .ref m12, .int (mch + 1), .int (mfr + 1), .int mfw, .int mrd, .ref m17, .ref m18, .ref m19, .ref m20, .ref m21, .ref m22, .ref m23, .int mtr])), (m2, .inl (cI, 6, .inl K)), (m3, .inl (cI, 6, .inl (upd (upd L i1.toNatClampNeg (L i2.toNatClampNeg)) i2.toNatClampNeg (L i1.toNatClampNeg)))), (m4, .inl (cI, 6, .inl (upd (upd C i1.toNatClampNeg (C i2.toNatClampNeg)) i2.toNatClampNeg (C i1.toNatClampNeg)))), (m12, .inl (cI, 6, .inl PY))]) := hD
        refine lv_aload_n hx hb dX5_goPair_109 rfl (lv_at hl 3 rfl) ?_
        refine lv_iload hx hb dX5_goPair_110 (lv_at hl 2 rfl) ?_
        refine lv_iload_n hx hb dX5_goPair_112 rfl (lv_at hl 6 rfl) ?_
        have hPc := hP.sub (ws' := [(m0, .inr (5, [.int mfa, .int mho, .ref m2, .ref m3, .ref m4, .int mra, .int mrh, .ref m7, .ref m8, .ref m9, .ref m10, .ref m11, .ref m12, .int (mch + 1), .int (mfr + 1), .int mfw, .int mrd, .ref m17, .ref m18, .ref m19, .ref m20, .ref m21, .ref m22, .ref m23, .int mtr])), (m3, .inl (cI, 6, .inl (upd (upd L i1.toNatClampNeg (L i2.toNatClampNeg)) i2.toNatClampNeg (L i1.toNatClampNeg)))), (m4, .inl (cI, 6, .inl (upd (upd C i1.toNatClampNeg (C i2.toNatClampNeg)) i2.toNatClampNeg (C i1.toNatClampNeg))))]) [0, 2, 3] rfl
        have hDc := hD.sub (ws' := [(m0, .inr (5, [.int mfa, .int mho, .ref m2, .ref m3, .ref m4, .int mra, .int mrh, .ref m7, .ref m8, .ref m9, .ref m10, .ref m11, .ref m12, .int (mch + 1), .int (mfr + 1), .int mfw, .int mrd, .ref m17, .ref m18, .ref m19, .ref m20, .ref m21, .ref m22, .ref m23, .int mtr])), (m3, .inl (cI, 6, .inl (upd (upd L i1.toNatClampNeg (L i2.toNatClampNeg)) i2.toNatClampNeg (L i1.toNatClampNeg)))), (m4, .inl (cI, 6, .inl (upd (upd C i1.toNatClampNeg (C i2.toNatClampNeg)) i2.toNatClampNeg (C i1.toNatClampNeg))))]) [0, 2, 3] (by decide) rfl
        have hKc := hK.sub (tys' := [(cI, .int)]) [0] rfl
        have hFc := va_free (wc := [(m0, .inr (5, [.int mfa, .int mho, .ref m2, .ref m3, .ref m4, .int mra, .int mrh, .ref m7, .ref m8, .ref m9, .ref m10, .ref m11, .ref m12, .int (mch + 1), .int (mfr + 1), .int mfw, .int mrd, .ref m17, .ref m18, .ref m19, .ref m20, .ref m21, .ref m22, .ref m23, .int mtr])), (m3, .inl (cI, 6, .inl (upd (upd L i1.toNatClampNeg (L i2.toNatClampNeg)) i2.toNatClampNeg (L i1.toNatClampNeg)))), (m4, .inl (cI, 6, .inl (upd (upd C i1.toNatClampNeg (C i2.toNatClampNeg)) i2.toNatClampNeg (C i1.toNatClampNeg))))]) hD hS hA [0, 2, 3] rfl
        refine va_callv (va_runV (As := [.int (p5_payerOf K L C i1 i2 i3), .int i3]) (rest := []) ⟨hx, hb, hml, hown, hts⟩ (ctX5_pay l dC dI cI m0 m2 m3 m4 m7 m8 m9 m10 m11 m12 m17 m18 m19 m20 m21 m22 m23 H.size mfa mho mra mrh (mch + 1) (mfr + 1) mfw mrd mtr (upd (upd L i1.toNatClampNeg (L i2.toNatClampNeg)) i2.toNatClampNeg (L i1.toNatClampNeg)) (upd (upd C i1.toNatClampNeg (C i2.toNatClampNeg)) i2.toNatClampNeg (C i1.toNatClampNeg)) (p5_payerOf K L C i1 i2 i3) i3 (payerOf_in hi1 hi2)) (cwV 2 hts gX5_goPair_X5_pay rfl rfl rfl (by decide +kernel) ⟨Nat.le_of_ble_eq_true rfl, Nat.le_of_ble_eq_true rfl⟩) (pre_V hKc hN hPc hDc (RX5, TX5, 25) 5 0 rfl rfl) rfl rfl hl.1 rfl (lv_room (Nat.le_of_ble_eq_true rfl)) dX5_goPair_113 ⟨Nat.le_of_ble_eq_true rfl, Nat.le_of_ble_eq_true rfl⟩) hS (fun q _ h => hFc q h) hFc (fun _ t H locs ht hvm hw hB hz1 hk1 hS => ?_)
        rw [ht] at hB
        refine nm_gen ((p5_pay (upd (upd L i1.toNatClampNeg (L i2.toNatClampNeg)) i2.toNatClampNeg (L i1.toNatClampNeg)) (upd (upd C i1.toNatClampNeg (C i2.toNatClampNeg)) i2.toNatClampNeg (C i1.toNatClampNeg)) (p5_payerOf K L C i1 i2 i3) i3).1) (fun L_113 eL_113 => ?_)
        rw [eL_113] at hB
        refine nm_gen ((p5_pay (upd (upd L i1.toNatClampNeg (L i2.toNatClampNeg)) i2.toNatClampNeg (L i1.toNatClampNeg)) (upd (upd C i1.toNatClampNeg (C i2.toNatClampNeg)) i2.toNatClampNeg (C i1.toNatClampNeg)) (p5_payerOf K L C i1 i2 i3) i3).2) (fun C_113 eC_113 => ?_)
        rw [eC_113] at hB
        obtain ⟨hP, hD⟩ := rw_join ([(m0, .inr (5, [.int mfa, .int mho, .ref m2, .ref m3, .ref m4, .int mra, .int mrh, .ref m7, .ref m8, .ref m9, .ref m10, .ref m11, .ref m12, .int (mch + 1), .int (mfr + 1), .int mfw, .int mrd, .ref m17, .ref m18, .ref m19, .ref m20, .ref m21, .ref m22, .ref m23, .int mtr])), (m2, .inl (cI, 6, .inl K)), (m3, .inl (cI, 6, .inl (upd (upd L i1.toNatClampNeg (L i2.toNatClampNeg)) i2.toNatClampNeg (L i1.toNatClampNeg)))), (m4, .inl (cI, 6, .inl (upd (upd C i1.toNatClampNeg (C i2.toNatClampNeg)) i2.toNatClampNeg (C i1.toNatClampNeg)))), (m12, .inl (cI, 6, .inl PY))]) ([(m0, .inr (5, [.int mfa, .int mho, .ref m2, .ref m3, .ref m4, .int mra, .int mrh, .ref m7, .ref m8, .ref m9, .ref m10, .ref m11, .ref m12, .int (mch + 1), .int (mfr + 1), .int mfw, .int mrd, .ref m17, .ref m18, .ref m19, .ref m20, .ref m21, .ref m22, .ref m23, .int mtr])), (m2, .inl (cI, 6, .inl K)), (m3, .inl (cI, 6, .inl L_113)), (m4, .inl (cI, 6, .inl C_113)), (m12, .inl (cI, 6, .inl PY))]) ([(m0, .inr (5, [.int mfa, .int mho, .ref m2, .ref m3, .ref m4, .int mra, .int mrh, .ref m7, .ref m8, .ref m9, .ref m10, .ref m11, .ref m12, .int (mch + 1), .int (mfr + 1), .int mfw, .int mrd, .ref m17, .ref m18, .ref m19, .ref m20, .ref m21, .ref m22, .ref m23, .int mtr])), (m3, .inl (cI, 6, .inl (upd (upd L i1.toNatClampNeg (L i2.toNatClampNeg)) i2.toNatClampNeg (L i1.toNatClampNeg)))), (m4, .inl (cI, 6, .inl (upd (upd C i1.toNatClampNeg (C i2.toNatClampNeg)) i2.toNatClampNeg (C i1.toNatClampNeg))))]) ([(m0, .inr (5, [.int mfa, .int mho, .ref m2, .ref m3, .ref m4, .int mra, .int mrh, .ref m7, .ref m8, .ref m9, .ref m10, .ref m11, .ref m12, .int (mch + 1), .int (mfr + 1), .int mfw, .int mrd, .ref m17, .ref m18, .ref m19, .ref m20, .ref m21, .ref m22, .ref m23, .int mtr])), (m3, .inl (cI, 6, .inl L_113)), (m4, .inl (cI, 6, .inl C_113))]) ([(m2, .inl (cI, 6, .inl K)), (m12, .inl (cI, 6, .inl PY))]) hP hD [0, 2, 3] [1, 4] [m0, m2, m3, m4, m12] 5 rfl rfl rfl rfl rfl (by decide) rfl rfl hk1 hB
        refine lv_aload_n hx hb dX5_goPair_116 rfl (lv_at hl 3 rfl) ?_
        refine va_get (D := (dC, dI)) (ci := 5) (v := .ref m12) (C := RX5) (T := TX5) (N := 25) hx hb hts hin5 hown hK hP 0 rfl rfl 12 (by decide) kf_34 (fun _ h9 => h9) rfl dX5_goPair_117 ?_
        refine lv_iload hx hb dX5_goPair_120 (lv_at hl 2 rfl) ?_
        refine lv_dup2_11 hx hb dX5_goPair_122 rfl rfl ?_
        refine va_iald hx hb hK hP 4 0 rfl rfl (payerOf_in hi1 hi2) dX5_goPair_123 ?_
        refine lv_iconst (v := 1) hx hb dX5_goPair_124 (by decide) ?_
        refine lv_iadd hx hb dX5_goPair_125 ?_
        refine va_iast hx hb hK hP hD hS 4 0 rfl rfl (payerOf_in hi1 hi2) dX5_goPair_126 (fun H locs hP hD hS => ?_)
        have hP : va_P (dC, dI) vwCl ([(m0, .inr (5, [.int mfa, .int mho, .ref m2, .ref m3, .ref m4, .int mra, .int mrh, .ref m7, .ref m8, .ref m9, .ref m10, .ref m11, .ref m12, .int (mch + 1), .int (mfr + 1), .int mfw, .int mrd, .ref m17, .ref m18, .ref m19, .ref m20, .ref m21, .ref m22, .ref m23, .int mtr])), (m2, .inl (cI, 6, .inl K)), (m3, .inl (cI, 6, .inl L_113)), (m4, .inl (cI, 6, .inl C_113)), (m12, .inl (cI, 6, .inl (upd PY (p5_payerOf K L C i1 i2 i3).toNatClampNeg ((PY (p5_payerOf K L C i1 i2 i3).toNatClampNeg) + 1))))]) H := hP
        have hD : va_D A ([(m0, .inr (5, [.int mfa, .int mho, .ref m2, .ref m3, .ref m4, .int mra, .int mrh, .ref m7, .ref m8, .ref m9, .ref m10, .ref m11, .ref m12, .int (mch + 1), .int (mfr + 1), .int mfw, .int mrd, .ref m17, .ref m18, .ref m19, .ref m20, .ref m21, .ref m22, .ref m23, .int mtr])), (m2, .inl (cI, 6, .inl K)), (m3, .inl (cI, 6, .inl L_113)), (m4, .inl (cI, 6, .inl C_113)), (m12, .inl (cI, 6, .inl (upd PY (p5_payerOf K L C i1 i2 i3).toNatClampNeg ((PY (p5_payerOf K L C i1 i2 i3).toNatClampNeg) + 1))))]) := hD
        refine lv_iload hx hb dX5_goPair_127 (lv_at hl 2 rfl) ?_
        have hE9 : p5_goPair mho mch mfr K L C PY i1 i2 i3 = ((p5_payerOf K L C i1 i2 i3), (mch + 1), (mfr + 1), L_113, C_113, (upd PY (p5_payerOf K L C i1 i2 i3).toNatClampNeg ((PY (p5_payerOf K L C i1 i2 i3).toNatClampNeg) + 1))) := by unfold p5_goPair; simp only [eL_113, eC_113]; rw [if_pos c_20, if_neg c_34, if_pos c_40]
        exact W.iret (v := (p5_payerOf K L C i1 i2 i3)) hx hb hr (fun t ht hW => ⟨⟨_, (), rfl, by rw [hE9], by show va_P (dC, dI) vwCl _ t.heap; rw [ht, hE9]; exact hP⟩, hS.F ht⟩) hS.2.2 dX5_goPair_129

def p5_ofHouse (mho : Int32) (K : Nat → Int32) (L : Nat → Int32) (C : Nat → Int32) (i1 : Int32) (i2 : Int32) : Int32 :=
  if (p5_noHouse mho i1) = 0 then
    if i2 = 0 then
      (K i1.toNatClampNeg)
    else
      if i2 = 1 then
        (L i1.toNatClampNeg)
      else
        if i2 = 2 then
          (C i1.toNatClampNeg)
        else
          if i2 = 3 then
            (p5_worthOf K L C i1)
          else
            (-2)
  else
    (-1)
abbrev rmX5_ofHouse : Room := { frames := 2, cells := 0, slots := 0, locals := 46 }
abbrev QX5_ofHouse (dC : Nat → ClassId) (dI : Nat → Nat → Nat) (A : Nat → Prop) (cI : ClassId) (m0 : Nat) (m2 : Nat) (m3 : Nat) (m4 : Nat) (m7 : Nat) (m8 : Nat) (m9 : Nat) (m10 : Nat) (m11 : Nat) (m12 : Nat) (m17 : Nat) (m18 : Nat) (m19 : Nat) (m20 : Nat) (m21 : Nat) (m22 : Nat) (m23 : Nat) (mfa : Int32) (mho : Int32) (mra : Int32) (mrh : Int32) (mch : Int32) (mfr : Int32) (mfw : Int32) (mrd : Int32) (mtr : Int32) (K : Nat → Int32) (L : Nat → Int32) (C : Nat → Int32) (i1 : Int32) (i2 : Int32) : Array Value → State → Outcome → State → Prop := va_Qi (fun (r : Int32) (_ : Unit) => r = p5_ofHouse mho K L C i1 i2) (fun (_ : Unit) (t : State) => va_P (dC, dI) vwCl ([(m0, .inr (5, [.int mfa, .int mho, .ref m2, .ref m3, .ref m4, .int mra, .int mrh, .ref m7, .ref m8, .ref m9, .ref m10, .ref m11, .ref m12, .int mch, .int mfr, .int mfw, .int mrd, .ref m17, .ref m18, .ref m19, .ref m20, .ref m21, .ref m22, .ref m23, .int mtr])), (m2, .inl (cI, 6, .inl K)), (m3, .inl (cI, 6, .inl L)), (m4, .inl (cI, 6, .inl C))]) t.heap) A
set_option maxHeartbeats 4000000 in
set_option maxRecDepth 100000 in
theorem ctX5_ofHouse (l : Launch) (dC : Nat → ClassId) (dI : Nat → Nat → Nat) (cI : ClassId) (m0 : Nat) (m2 : Nat) (m3 : Nat) (m4 : Nat) (m7 : Nat) (m8 : Nat) (m9 : Nat) (m10 : Nat) (m11 : Nat) (m12 : Nat) (m17 : Nat) (m18 : Nat) (m19 : Nat) (m20 : Nat) (m21 : Nat) (m22 : Nat) (m23 : Nat) (sz : Nat) (mfa : Int32) (mho : Int32) (mra : Int32) (mrh : Int32) (mch : Int32) (mfr : Int32) (mfw : Int32) (mrd : Int32) (mtr : Int32) (K : Nat → Int32) (L : Nat → Int32) (C : Nat → Int32) (i1 : Int32) (i2 : Int32) (hNb : mho.toInt ≤ 6) : Met l yX5_ofHouse wsX5_ofHouse rmX5_ofHouse (va_Pc [.ref m0, .int i1, .int i2] (cP dC dI [(cI, .int)] ([(m0, .inr (5, [.int mfa, .int mho, .ref m2, .ref m3, .ref m4, .int mra, .int mrh, .ref m7, .ref m8, .ref m9, .ref m10, .ref m11, .ref m12, .int mch, .int mfr, .int mfw, .int mrd, .ref m17, .ref m18, .ref m19, .ref m20, .ref m21, .ref m22, .ref m23, .int mtr])), (m2, .inl (cI, 6, .inl K)), (m3, .inl (cI, 6, .inl L)), (m4, .inl (cI, 6, .inl C))]) sz)) (QX5_ofHouse dC dI (va_A ([(m0, .inr (5, [.int mfa, .int mho, .ref m2, .ref m3, .ref m4, .int mra, .int mrh, .ref m7, .ref m8, .ref m9, .ref m10, .ref m11, .ref m12, .int mch, .int mfr, .int mfw, .int mrd, .ref m17, .ref m18, .ref m19, .ref m20, .ref m21, .ref m22, .ref m23, .int mtr])), (m2, .inl (cI, 6, .inl K)), (m3, .inl (cI, 6, .inl L)), (m4, .inl (cI, 6, .inl C))]) sz) cI m0 m2 m3 m4 m7 m8 m9 m10 m11 m12 m17 m18 m19 m20 m21 m22 m23 mfa mho mra mrh mch mfr mfw mrd mtr K L C i1 i2) 0 0 (va_A ([(m0, .inr (5, [.int mfa, .int mho, .ref m2, .ref m3, .ref m4, .int mra, .int mrh, .ref m7, .ref m8, .ref m9, .ref m10, .ref m11, .ref m12, .int mch, .int mfr, .int mfw, .int mrd, .ref m17, .ref m18, .ref m19, .ref m20, .ref m21, .ref m22, .ref m23, .int mtr])), (m2, .inl (cI, 6, .inl K)), (m3, .inl (cI, 6, .inl L)), (m4, .inl (cI, 6, .inl C))]) sz) := by
  refine Met.ofW (cc := cX5_ofHouse) (maxL := 3) (ret := (some .int)) (by decide) rfl ?_
  intro p e s m args below meth c s₁ B hml hv
  obtain ⟨rfl, hsz, hP, hK, hD0, hN⟩ := hv
  have hx := B.exec
  have hb := B.bytes
  have hr := B.returns
  have hts := atoms_spec (ws := wsX5_ofHouse) B.pre
  have hown : s.vm.findClass RX5 = some m.cls := findClass_of_methodNamed B.named
  have hlocks := B.notSynchronized
  subst hsz
  have hD := hD0.self (sz := s.heap.size)
  generalize hAe : va_A ([(m0, .inr (5, [.int mfa, .int mho, .ref m2, .ref m3, .ref m4, .int mra, .int mrh, .ref m7, .ref m8, .ref m9, .ref m10, .ref m11, .ref m12, .int mch, .int mfr, .int mfw, .int mrd, .ref m17, .ref m18, .ref m19, .ref m20, .ref m21, .ref m22, .ref m23, .int mtr])), (m2, .inl (cI, 6, .inl K)), (m3, .inl (cI, 6, .inl L)), (m4, .inl (cI, 6, .inl C))]) s.heap.size = A at hD ⊢
  have hA : ∀ q : Nat, s.heap.size ≤ q → A q := fun q h => by rw [← hAe]; exact Or.inr h
  have hS : va_S A s.heap s.heap [] := va_S.rf
  have hP : va_P (dC, dI) vwCl ([(m0, .inr (5, [.int mfa, .int mho, .ref m2, .ref m3, .ref m4, .int mra, .int mrh, .ref m7, .ref m8, .ref m9, .ref m10, .ref m11, .ref m12, .int mch, .int mfr, .int mfw, .int mrd, .ref m17, .ref m18, .ref m19, .ref m20, .ref m21, .ref m22, .ref m23, .int mtr])), (m2, .inl (cI, 6, .inl K)), (m3, .inl (cI, 6, .inl L)), (m4, .inl (cI, 6, .inl C))]) s.heap := hP
  have hin5 : ∀ w ∈ wsX50, w ∈ wsX5_ofHouse := by decide +kernel
  have kf_13 := hts (.fieldLink RX5 13 "RicherChangeModel" "landOf" "[I") (by decide +kernel)
  have kf_16 := hts (.fieldLink RX5 16 "RicherChangeModel" "coinOf" "[I") (by decide +kernel)
  have kf_7 := hts (.fieldLink RX5 7 "RicherChangeModel" "kindOf" "[I") (by decide +kernel)
  have hl := lv_entry ([.ref m0, .int i1, .int i2]) (n := 3) (Nat.le_of_ble_eq_true rfl)
  rw [lg_entry_eq]
  generalize (lg_sl ([.ref m0, .int i1, .int i2]) ++ List.replicate (3 - (lg_sl ([.ref m0, .int i1, .int i2])).length) Slot.unset).toArray = ls at hl ⊢
  have hl : lv_has ls 3 [(0, .ref m0), (1, .int i1), (2, .int i2)] := hl
  refine lv_aload_n hx hb dX5_ofHouse_0 rfl (lv_at hl 0 rfl) ?_
  refine lv_iload_n hx hb dX5_ofHouse_1 rfl (lv_at hl 1 rfl) ?_
  have hPc := hP.sub (ws' := [(m0, .inr (5, [.int mfa, .int mho, .ref m2, .ref m3, .ref m4, .int mra, .int mrh, .ref m7, .ref m8, .ref m9, .ref m10, .ref m11, .ref m12, .int mch, .int mfr, .int mfw, .int mrd, .ref m17, .ref m18, .ref m19, .ref m20, .ref m21, .ref m22, .ref m23, .int mtr]))]) [0] rfl
  have hDc := hD.sub (ws' := [(m0, .inr (5, [.int mfa, .int mho, .ref m2, .ref m3, .ref m4, .int mra, .int mrh, .ref m7, .ref m8, .ref m9, .ref m10, .ref m11, .ref m12, .int mch, .int mfr, .int mfw, .int mrd, .ref m17, .ref m18, .ref m19, .ref m20, .ref m21, .ref m22, .ref m23, .int mtr]))]) [0] (by decide) rfl
  have hKc := hK.sub (tys' := [(cI, .int)]) [0] rfl
  have hFc := va_free (wc := [(m0, .inr (5, [.int mfa, .int mho, .ref m2, .ref m3, .ref m4, .int mra, .int mrh, .ref m7, .ref m8, .ref m9, .ref m10, .ref m11, .ref m12, .int mch, .int mfr, .int mfw, .int mrd, .ref m17, .ref m18, .ref m19, .ref m20, .ref m21, .ref m22, .ref m23, .int mtr]))]) hD hS hA [0] rfl
  refine va_calli (va_runV (As := [.int i1]) (rest := []) ⟨hx, hb, hml, hown, hts⟩ (ctX5_noHouse l dC dI cI m0 m2 m3 m4 m7 m8 m9 m10 m11 m12 m17 m18 m19 m20 m21 m22 m23 s.heap.size mfa mho mra mrh mch mfr mfw mrd mtr i1) (cwV 1 hts gX5_ofHouse_X5_noHouse rfl rfl rfl (by decide +kernel) ⟨Nat.le_of_ble_eq_true rfl, Nat.le_of_ble_eq_true rfl⟩) (pre_V hKc hN hPc hDc (RX5, TX5, 25) 5 0 rfl rfl) rfl rfl hl.1 rfl (lv_room (Nat.le_of_ble_eq_true rfl)) dX5_ofHouse_2 ⟨Nat.le_of_ble_eq_true rfl, Nat.le_of_ble_eq_true rfl⟩) hS (fun q _ h => hFc q h) hFc (fun r _ t H locs ht hvm hw hB hz1 hk1 hS => ?_)
  try dsimp only at hw
  subst hw
  rw [ht] at hB
  obtain ⟨hP, hD⟩ := rw_join ([(m0, .inr (5, [.int mfa, .int mho, .ref m2, .ref m3, .ref m4, .int mra, .int mrh, .ref m7, .ref m8, .ref m9, .ref m10, .ref m11, .ref m12, .int mch, .int mfr, .int mfw, .int mrd, .ref m17, .ref m18, .ref m19, .ref m20, .ref m21, .ref m22, .ref m23, .int mtr])), (m2, .inl (cI, 6, .inl K)), (m3, .inl (cI, 6, .inl L)), (m4, .inl (cI, 6, .inl C))]) ([(m0, .inr (5, [.int mfa, .int mho, .ref m2, .ref m3, .ref m4, .int mra, .int mrh, .ref m7, .ref m8, .ref m9, .ref m10, .ref m11, .ref m12, .int mch, .int mfr, .int mfw, .int mrd, .ref m17, .ref m18, .ref m19, .ref m20, .ref m21, .ref m22, .ref m23, .int mtr])), (m2, .inl (cI, 6, .inl K)), (m3, .inl (cI, 6, .inl L)), (m4, .inl (cI, 6, .inl C))]) ([(m0, .inr (5, [.int mfa, .int mho, .ref m2, .ref m3, .ref m4, .int mra, .int mrh, .ref m7, .ref m8, .ref m9, .ref m10, .ref m11, .ref m12, .int mch, .int mfr, .int mfw, .int mrd, .ref m17, .ref m18, .ref m19, .ref m20, .ref m21, .ref m22, .ref m23, .int mtr]))]) ([(m0, .inr (5, [.int mfa, .int mho, .ref m2, .ref m3, .ref m4, .int mra, .int mrh, .ref m7, .ref m8, .ref m9, .ref m10, .ref m11, .ref m12, .int mch, .int mfr, .int mfw, .int mrd, .ref m17, .ref m18, .ref m19, .ref m20, .ref m21, .ref m22, .ref m23, .int mtr]))]) ([(m2, .inl (cI, 6, .inl K)), (m3, .inl (cI, 6, .inl L)), (m4, .inl (cI, 6, .inl C))]) hP hD [0] [1, 2, 3] [m0, m2, m3, m4] 4 rfl rfl rfl rfl rfl (by decide) rfl rfl hk1 hB
  refine lv_if_eq (tgt := 10) hx hb dX5_ofHouse_5 (by decide) (fun c_5 => ?_) (fun c_5 => ?_)
  · skip
    have j1 : vp_in i1 6 := noHouse_in hNb c_5
    refine lv_iload_n hx hb dX5_ofHouse_10 rfl (lv_at hl 2 rfl) ?_
    by_cases c_11_0 : i2 = 0
    · skip
      refine lv_tableIn (off := 29) (tgt := 40) hx hb dX5_ofHouse_11 (by rw [c_11_0]; decide) (by rw [c_11_0]; decide) (by rw [c_11_0]; decide) (by decide) ?_
      refine lv_aload_n hx hb dX5_ofHouse_40 rfl (lv_at hl 0 rfl) ?_
      refine va_get (D := (dC, dI)) (ci := 5) (v := .ref m2) (C := RX5) (T := TX5) (N := 25) hx hb hts hin5 hown hK hP 0 rfl rfl 2 (by decide) kf_7 (fun _ h9 => h9) rfl dX5_ofHouse_41 ?_
      refine lv_iload_n hx hb dX5_ofHouse_44 rfl (lv_at hl 1 rfl) ?_
      refine va_iald hx hb hK hP 1 0 rfl rfl (by assumption) dX5_ofHouse_45 ?_
      have hE9 : p5_ofHouse mho K L C i1 i2 = (K i1.toNatClampNeg) := by unfold p5_ofHouse; rw [if_pos c_5, if_pos c_11_0]
      exact W.iret (v := (K i1.toNatClampNeg)) hx hb hr (fun t ht hW => ⟨⟨_, (), rfl, by rw [hE9], by show va_P (dC, dI) vwCl _ t.heap; rw [ht]; exact hP⟩, hS.F ht⟩) hS.2.2 dX5_ofHouse_46
    · skip
      by_cases c_11_1 : i2 = 1
      · skip
        refine lv_tableIn (off := 36) (tgt := 47) hx hb dX5_ofHouse_11 (by rw [c_11_1]; decide) (by rw [c_11_1]; decide) (by rw [c_11_1]; decide) (by decide) ?_
        refine lv_aload_n hx hb dX5_ofHouse_47 rfl (lv_at hl 0 rfl) ?_
        refine va_get (D := (dC, dI)) (ci := 5) (v := .ref m3) (C := RX5) (T := TX5) (N := 25) hx hb hts hin5 hown hK hP 0 rfl rfl 3 (by decide) kf_13 (fun _ h9 => h9) rfl dX5_ofHouse_48 ?_
        refine lv_iload_n hx hb dX5_ofHouse_51 rfl (lv_at hl 1 rfl) ?_
        refine va_iald hx hb hK hP 2 0 rfl rfl (by assumption) dX5_ofHouse_52 ?_
        have hE9 : p5_ofHouse mho K L C i1 i2 = (L i1.toNatClampNeg) := by unfold p5_ofHouse; rw [if_pos c_5, if_neg c_11_0, if_pos c_11_1]
        exact W.iret (v := (L i1.toNatClampNeg)) hx hb hr (fun t ht hW => ⟨⟨_, (), rfl, by rw [hE9], by show va_P (dC, dI) vwCl _ t.heap; rw [ht]; exact hP⟩, hS.F ht⟩) hS.2.2 dX5_ofHouse_53
      · skip
        by_cases c_11_2 : i2 = 2
        · skip
          refine lv_tableIn (off := 43) (tgt := 54) hx hb dX5_ofHouse_11 (by rw [c_11_2]; decide) (by rw [c_11_2]; decide) (by rw [c_11_2]; decide) (by decide) ?_
          refine lv_aload_n hx hb dX5_ofHouse_54 rfl (lv_at hl 0 rfl) ?_
          refine va_get (D := (dC, dI)) (ci := 5) (v := .ref m4) (C := RX5) (T := TX5) (N := 25) hx hb hts hin5 hown hK hP 0 rfl rfl 4 (by decide) kf_16 (fun _ h9 => h9) rfl dX5_ofHouse_55 ?_
          refine lv_iload_n hx hb dX5_ofHouse_58 rfl (lv_at hl 1 rfl) ?_
          refine va_iald hx hb hK hP 3 0 rfl rfl (by assumption) dX5_ofHouse_59 ?_
          have hE9 : p5_ofHouse mho K L C i1 i2 = (C i1.toNatClampNeg) := by unfold p5_ofHouse; rw [if_pos c_5, if_neg c_11_0, if_neg c_11_1, if_pos c_11_2]
          exact W.iret (v := (C i1.toNatClampNeg)) hx hb hr (fun t ht hW => ⟨⟨_, (), rfl, by rw [hE9], by show va_P (dC, dI) vwCl _ t.heap; rw [ht]; exact hP⟩, hS.F ht⟩) hS.2.2 dX5_ofHouse_60
        · skip
          by_cases c_11_3 : i2 = 3
          · skip
            refine lv_tableIn (off := 50) (tgt := 61) hx hb dX5_ofHouse_11 (by rw [c_11_3]; decide) (by rw [c_11_3]; decide) (by rw [c_11_3]; decide) (by decide) ?_
            refine lv_aload_n hx hb dX5_ofHouse_61 rfl (lv_at hl 0 rfl) ?_
            refine lv_iload_n hx hb dX5_ofHouse_62 rfl (lv_at hl 1 rfl) ?_
            have hPc := hP.sub (ws' := [(m0, .inr (5, [.int mfa, .int mho, .ref m2, .ref m3, .ref m4, .int mra, .int mrh, .ref m7, .ref m8, .ref m9, .ref m10, .ref m11, .ref m12, .int mch, .int mfr, .int mfw, .int mrd, .ref m17, .ref m18, .ref m19, .ref m20, .ref m21, .ref m22, .ref m23, .int mtr])), (m2, .inl (cI, 6, .inl K)), (m3, .inl (cI, 6, .inl L)), (m4, .inl (cI, 6, .inl C))]) [0, 1, 2, 3] rfl
            have hDc := hD.sub (ws' := [(m0, .inr (5, [.int mfa, .int mho, .ref m2, .ref m3, .ref m4, .int mra, .int mrh, .ref m7, .ref m8, .ref m9, .ref m10, .ref m11, .ref m12, .int mch, .int mfr, .int mfw, .int mrd, .ref m17, .ref m18, .ref m19, .ref m20, .ref m21, .ref m22, .ref m23, .int mtr])), (m2, .inl (cI, 6, .inl K)), (m3, .inl (cI, 6, .inl L)), (m4, .inl (cI, 6, .inl C))]) [0, 1, 2, 3] (by decide) rfl
            have hKc := hK.sub (tys' := [(cI, .int)]) [0] rfl
            have hFc := va_free (wc := [(m0, .inr (5, [.int mfa, .int mho, .ref m2, .ref m3, .ref m4, .int mra, .int mrh, .ref m7, .ref m8, .ref m9, .ref m10, .ref m11, .ref m12, .int mch, .int mfr, .int mfw, .int mrd, .ref m17, .ref m18, .ref m19, .ref m20, .ref m21, .ref m22, .ref m23, .int mtr])), (m2, .inl (cI, 6, .inl K)), (m3, .inl (cI, 6, .inl L)), (m4, .inl (cI, 6, .inl C))]) hD hS hA [0, 1, 2, 3] rfl
            refine va_calli (va_runV (As := [.int i1]) (rest := []) ⟨hx, hb, hml, hown, hts⟩ (ctX5_worthOf l dC dI cI m0 m2 m3 m4 m7 m8 m9 m10 m11 m12 m17 m18 m19 m20 m21 m22 m23 H.size mfa mho mra mrh mch mfr mfw mrd mtr K L C i1 (by assumption)) (cwV 1 hts gX5_ofHouse_X5_worthOf rfl rfl rfl (by decide +kernel) ⟨Nat.le_of_ble_eq_true rfl, Nat.le_of_ble_eq_true rfl⟩) (pre_V hKc hN hPc hDc (RX5, TX5, 25) 5 0 rfl rfl) rfl rfl hl.1 rfl (lv_room (Nat.le_of_ble_eq_true rfl)) dX5_ofHouse_63 ⟨Nat.le_of_ble_eq_true rfl, Nat.le_of_ble_eq_true rfl⟩) hS (fun q _ h => hFc q h) hFc (fun r _ t H locs ht hvm hw hB hz1 hk1 hS => ?_)
            try dsimp only at hw
            subst hw
            rw [ht] at hB
            obtain ⟨hP, hD⟩ := rw_join ([(m0, .inr (5, [.int mfa, .int mho, .ref m2, .ref m3, .ref m4, .int mra, .int mrh, .ref m7, .ref m8, .ref m9, .ref m10, .ref m11, .ref m12, .int mch, .int mfr, .int mfw, .int mrd, .ref m17, .ref m18, .ref m19, .ref m20, .ref m21, .ref m22, .ref m23, .int mtr])), (m2, .inl (cI, 6, .inl K)), (m3, .inl (cI, 6, .inl L)), (m4, .inl (cI, 6, .inl C))]) ([(m0, .inr (5, [.int mfa, .int mho, .ref m2, .ref m3, .ref m4, .int mra, .int mrh, .ref m7, .ref m8, .ref m9, .ref m10, .ref m11, .ref m12, .int mch, .int mfr, .int mfw, .int mrd, .ref m17, .ref m18, .ref m19, .ref m20, .ref m21, .ref m22, .ref m23, .int mtr])), (m2, .inl (cI, 6, .inl K)), (m3, .inl (cI, 6, .inl L)), (m4, .inl (cI, 6, .inl C))]) ([(m0, .inr (5, [.int mfa, .int mho, .ref m2, .ref m3, .ref m4, .int mra, .int mrh, .ref m7, .ref m8, .ref m9, .ref m10, .ref m11, .ref m12, .int mch, .int mfr, .int mfw, .int mrd, .ref m17, .ref m18, .ref m19, .ref m20, .ref m21, .ref m22, .ref m23, .int mtr])), (m2, .inl (cI, 6, .inl K)), (m3, .inl (cI, 6, .inl L)), (m4, .inl (cI, 6, .inl C))]) ([(m0, .inr (5, [.int mfa, .int mho, .ref m2, .ref m3, .ref m4, .int mra, .int mrh, .ref m7, .ref m8, .ref m9, .ref m10, .ref m11, .ref m12, .int mch, .int mfr, .int mfw, .int mrd, .ref m17, .ref m18, .ref m19, .ref m20, .ref m21, .ref m22, .ref m23, .int mtr])), (m2, .inl (cI, 6, .inl K)), (m3, .inl (cI, 6, .inl L)), (m4, .inl (cI, 6, .inl C))]) ([]) hP hD [0, 1, 2, 3] [] [m0, m2, m3, m4] 4 rfl rfl rfl rfl rfl (by decide) rfl rfl hk1 hB
            have hE9 : p5_ofHouse mho K L C i1 i2 = (p5_worthOf K L C i1) := by unfold p5_ofHouse; rw [if_pos c_5, if_neg c_11_0, if_neg c_11_1, if_neg c_11_2, if_pos c_11_3]
            exact W.iret (v := (p5_worthOf K L C i1)) hx hb hr (fun t ht hW => ⟨⟨_, (), rfl, by rw [hE9], by show va_P (dC, dI) vwCl _ t.heap; rw [ht]; exact hP⟩, hS.F ht⟩) hS.2.2 dX5_ofHouse_66
          · skip
            refine lv_tableOut (tgt := 67) hx hb dX5_ofHouse_11 (sw_out4 c_11_0 c_11_1 c_11_2 c_11_3) (by decide) ?_
            refine lv_bipush (v := (-2)) hx hb dX5_ofHouse_67 (by decide) ?_
            have hE9 : p5_ofHouse mho K L C i1 i2 = (-2) := by unfold p5_ofHouse; rw [if_pos c_5, if_neg c_11_0, if_neg c_11_1, if_neg c_11_2, if_neg c_11_3]
            exact W.iret (v := (-2)) hx hb hr (fun t ht hW => ⟨⟨_, (), rfl, by rw [hE9], by show va_P (dC, dI) vwCl _ t.heap; rw [ht]; exact hP⟩, hS.F ht⟩) hS.2.2 dX5_ofHouse_69
  · skip
    refine lv_iconst (v := (-1)) hx hb dX5_ofHouse_8 (by decide) ?_
    have hE9 : p5_ofHouse mho K L C i1 i2 = (-1) := by unfold p5_ofHouse; rw [if_neg c_5]
    exact W.iret (v := (-1)) hx hb hr (fun t ht hW => ⟨⟨_, (), rfl, by rw [hE9], by show va_P (dC, dI) vwCl _ t.heap; rw [ht]; exact hP⟩, hS.F ht⟩) hS.2.2 dX5_ofHouse_9

def p5_endow (mho : Int32) (L : Nat → Int32) (C : Nat → Int32) (i1 : Int32) (i2 : Int32) (i3 : Int32) : Int32 × (Nat → Int32) × (Nat → Int32) :=
  if (p5_noHouse mho i1) = 0 then
    if (p5_in i2.toInt64 1 2) = 0 then
      ((-2), L, C)
    else
      if (p5_in i3.toInt64 0 18) = 0 then
        ((-2), L, C)
      else
        if i2 = 1 then
          if i2 = 2 then
            ((L i1.toNatClampNeg), (upd L i1.toNatClampNeg i3), (upd C i1.toNatClampNeg i3))
          else
            ((L i1.toNatClampNeg), (upd L i1.toNatClampNeg i3), (upd C i1.toNatClampNeg (C i1.toNatClampNeg)))
        else
          if i2 = 2 then
            ((C i1.toNatClampNeg), (upd L i1.toNatClampNeg (L i1.toNatClampNeg)), (upd C i1.toNatClampNeg i3))
          else
            ((C i1.toNatClampNeg), (upd L i1.toNatClampNeg (L i1.toNatClampNeg)), (upd C i1.toNatClampNeg (C i1.toNatClampNeg)))
  else
    ((-1), L, C)
abbrev rmX5_endow : Room := { frames := 2, cells := 0, slots := 0, locals := 46 }
abbrev QX5_endow (dC : Nat → ClassId) (dI : Nat → Nat → Nat) (A : Nat → Prop) (cI : ClassId) (m0 : Nat) (m2 : Nat) (m3 : Nat) (m4 : Nat) (m7 : Nat) (m8 : Nat) (m9 : Nat) (m10 : Nat) (m11 : Nat) (m12 : Nat) (m17 : Nat) (m18 : Nat) (m19 : Nat) (m20 : Nat) (m21 : Nat) (m22 : Nat) (m23 : Nat) (mfa : Int32) (mho : Int32) (mra : Int32) (mrh : Int32) (mch : Int32) (mfr : Int32) (mfw : Int32) (mrd : Int32) (mtr : Int32) (L : Nat → Int32) (C : Nat → Int32) (i1 : Int32) (i2 : Int32) (i3 : Int32) : Array Value → State → Outcome → State → Prop := va_Qi (fun (r : Int32) (_ : Unit) => r = (p5_endow mho L C i1 i2 i3).1) (fun (_ : Unit) (t : State) => va_P (dC, dI) vwCl ([(m0, .inr (5, [.int mfa, .int mho, .ref m2, .ref m3, .ref m4, .int mra, .int mrh, .ref m7, .ref m8, .ref m9, .ref m10, .ref m11, .ref m12, .int mch, .int mfr, .int mfw, .int mrd, .ref m17, .ref m18, .ref m19, .ref m20, .ref m21, .ref m22, .ref m23, .int mtr])), (m3, .inl (cI, 6, .inl ((p5_endow mho L C i1 i2 i3).2.1))), (m4, .inl (cI, 6, .inl ((p5_endow mho L C i1 i2 i3).2.2)))]) t.heap) A
set_option maxHeartbeats 4000000 in
set_option maxRecDepth 100000 in
theorem ctX5_endow (l : Launch) (dC : Nat → ClassId) (dI : Nat → Nat → Nat) (cI : ClassId) (m0 : Nat) (m2 : Nat) (m3 : Nat) (m4 : Nat) (m7 : Nat) (m8 : Nat) (m9 : Nat) (m10 : Nat) (m11 : Nat) (m12 : Nat) (m17 : Nat) (m18 : Nat) (m19 : Nat) (m20 : Nat) (m21 : Nat) (m22 : Nat) (m23 : Nat) (sz : Nat) (mfa : Int32) (mho : Int32) (mra : Int32) (mrh : Int32) (mch : Int32) (mfr : Int32) (mfw : Int32) (mrd : Int32) (mtr : Int32) (L : Nat → Int32) (C : Nat → Int32) (i1 : Int32) (i2 : Int32) (i3 : Int32) (hNb : mho.toInt ≤ 6) : Met l yX5_endow wsX5_endow rmX5_endow (va_Pc [.ref m0, .int i1, .int i2, .int i3] (cP dC dI [(cI, .int)] ([(m0, .inr (5, [.int mfa, .int mho, .ref m2, .ref m3, .ref m4, .int mra, .int mrh, .ref m7, .ref m8, .ref m9, .ref m10, .ref m11, .ref m12, .int mch, .int mfr, .int mfw, .int mrd, .ref m17, .ref m18, .ref m19, .ref m20, .ref m21, .ref m22, .ref m23, .int mtr])), (m3, .inl (cI, 6, .inl L)), (m4, .inl (cI, 6, .inl C))]) sz)) (QX5_endow dC dI (va_A ([(m0, .inr (5, [.int mfa, .int mho, .ref m2, .ref m3, .ref m4, .int mra, .int mrh, .ref m7, .ref m8, .ref m9, .ref m10, .ref m11, .ref m12, .int mch, .int mfr, .int mfw, .int mrd, .ref m17, .ref m18, .ref m19, .ref m20, .ref m21, .ref m22, .ref m23, .int mtr])), (m3, .inl (cI, 6, .inl L)), (m4, .inl (cI, 6, .inl C))]) sz) cI m0 m2 m3 m4 m7 m8 m9 m10 m11 m12 m17 m18 m19 m20 m21 m22 m23 mfa mho mra mrh mch mfr mfw mrd mtr L C i1 i2 i3) 0 0 (va_A ([(m0, .inr (5, [.int mfa, .int mho, .ref m2, .ref m3, .ref m4, .int mra, .int mrh, .ref m7, .ref m8, .ref m9, .ref m10, .ref m11, .ref m12, .int mch, .int mfr, .int mfw, .int mrd, .ref m17, .ref m18, .ref m19, .ref m20, .ref m21, .ref m22, .ref m23, .int mtr])), (m3, .inl (cI, 6, .inl L)), (m4, .inl (cI, 6, .inl C))]) sz) := by
  refine Met.ofW (cc := cX5_endow) (maxL := 5) (ret := (some .int)) (by decide) rfl ?_
  intro p e s m args below meth c s₁ B hml hv
  obtain ⟨rfl, hsz, hP, hK, hD0, hN⟩ := hv
  have hx := B.exec
  have hb := B.bytes
  have hr := B.returns
  have hts := atoms_spec (ws := wsX5_endow) B.pre
  have hown : s.vm.findClass RX5 = some m.cls := findClass_of_methodNamed B.named
  have hlocks := B.notSynchronized
  subst hsz
  have hD := hD0.self (sz := s.heap.size)
  generalize hAe : va_A ([(m0, .inr (5, [.int mfa, .int mho, .ref m2, .ref m3, .ref m4, .int mra, .int mrh, .ref m7, .ref m8, .ref m9, .ref m10, .ref m11, .ref m12, .int mch, .int mfr, .int mfw, .int mrd, .ref m17, .ref m18, .ref m19, .ref m20, .ref m21, .ref m22, .ref m23, .int mtr])), (m3, .inl (cI, 6, .inl L)), (m4, .inl (cI, 6, .inl C))]) s.heap.size = A at hD ⊢
  have hA : ∀ q : Nat, s.heap.size ≤ q → A q := fun q h => by rw [← hAe]; exact Or.inr h
  have hS : va_S A s.heap s.heap [] := va_S.rf
  have hP : va_P (dC, dI) vwCl ([(m0, .inr (5, [.int mfa, .int mho, .ref m2, .ref m3, .ref m4, .int mra, .int mrh, .ref m7, .ref m8, .ref m9, .ref m10, .ref m11, .ref m12, .int mch, .int mfr, .int mfw, .int mrd, .ref m17, .ref m18, .ref m19, .ref m20, .ref m21, .ref m22, .ref m23, .int mtr])), (m3, .inl (cI, 6, .inl L)), (m4, .inl (cI, 6, .inl C))]) s.heap := hP
  have hin5 : ∀ w ∈ wsX50, w ∈ wsX5_endow := by decide +kernel
  have kl_109 := hts (.constantLong RX5 109 2) (by decide +kernel)
  have kl_131 := hts (.constantLong RX5 131 18) (by decide +kernel)
  have kf_13 := hts (.fieldLink RX5 13 "RicherChangeModel" "landOf" "[I") (by decide +kernel)
  have kf_16 := hts (.fieldLink RX5 16 "RicherChangeModel" "coinOf" "[I") (by decide +kernel)
  have hl := lv_entry ([.ref m0, .int i1, .int i2, .int i3]) (n := 5) (Nat.le_of_ble_eq_true rfl)
  rw [lg_entry_eq]
  generalize (lg_sl ([.ref m0, .int i1, .int i2, .int i3]) ++ List.replicate (5 - (lg_sl ([.ref m0, .int i1, .int i2, .int i3])).length) Slot.unset).toArray = ls at hl ⊢
  have hl : lv_has ls 5 [(0, .ref m0), (1, .int i1), (2, .int i2), (3, .int i3)] := hl
  refine lv_aload_n hx hb dX5_endow_0 rfl (lv_at hl 0 rfl) ?_
  refine lv_iload_n hx hb dX5_endow_1 rfl (lv_at hl 1 rfl) ?_
  have hPc := hP.sub (ws' := [(m0, .inr (5, [.int mfa, .int mho, .ref m2, .ref m3, .ref m4, .int mra, .int mrh, .ref m7, .ref m8, .ref m9, .ref m10, .ref m11, .ref m12, .int mch, .int mfr, .int mfw, .int mrd, .ref m17, .ref m18, .ref m19, .ref m20, .ref m21, .ref m22, .ref m23, .int mtr]))]) [0] rfl
  have hDc := hD.sub (ws' := [(m0, .inr (5, [.int mfa, .int mho, .ref m2, .ref m3, .ref m4, .int mra, .int mrh, .ref m7, .ref m8, .ref m9, .ref m10, .ref m11, .ref m12, .int mch, .int mfr, .int mfw, .int mrd, .ref m17, .ref m18, .ref m19, .ref m20, .ref m21, .ref m22, .ref m23, .int mtr]))]) [0] (by decide) rfl
  have hKc := hK.sub (tys' := [(cI, .int)]) [0] rfl
  have hFc := va_free (wc := [(m0, .inr (5, [.int mfa, .int mho, .ref m2, .ref m3, .ref m4, .int mra, .int mrh, .ref m7, .ref m8, .ref m9, .ref m10, .ref m11, .ref m12, .int mch, .int mfr, .int mfw, .int mrd, .ref m17, .ref m18, .ref m19, .ref m20, .ref m21, .ref m22, .ref m23, .int mtr]))]) hD hS hA [0] rfl
  refine va_calli (va_runV (As := [.int i1]) (rest := []) ⟨hx, hb, hml, hown, hts⟩ (ctX5_noHouse l dC dI cI m0 m2 m3 m4 m7 m8 m9 m10 m11 m12 m17 m18 m19 m20 m21 m22 m23 s.heap.size mfa mho mra mrh mch mfr mfw mrd mtr i1) (cwV 1 hts gX5_endow_X5_noHouse rfl rfl rfl (by decide +kernel) ⟨Nat.le_of_ble_eq_true rfl, Nat.le_of_ble_eq_true rfl⟩) (pre_V hKc hN hPc hDc (RX5, TX5, 25) 5 0 rfl rfl) rfl rfl hl.1 rfl (lv_room (Nat.le_of_ble_eq_true rfl)) dX5_endow_2 ⟨Nat.le_of_ble_eq_true rfl, Nat.le_of_ble_eq_true rfl⟩) hS (fun q _ h => hFc q h) hFc (fun r _ t H locs ht hvm hw hB hz1 hk1 hS => ?_)
  try dsimp only at hw
  subst hw
  rw [ht] at hB
  obtain ⟨hP, hD⟩ := rw_join ([(m0, .inr (5, [.int mfa, .int mho, .ref m2, .ref m3, .ref m4, .int mra, .int mrh, .ref m7, .ref m8, .ref m9, .ref m10, .ref m11, .ref m12, .int mch, .int mfr, .int mfw, .int mrd, .ref m17, .ref m18, .ref m19, .ref m20, .ref m21, .ref m22, .ref m23, .int mtr])), (m3, .inl (cI, 6, .inl L)), (m4, .inl (cI, 6, .inl C))]) ([(m0, .inr (5, [.int mfa, .int mho, .ref m2, .ref m3, .ref m4, .int mra, .int mrh, .ref m7, .ref m8, .ref m9, .ref m10, .ref m11, .ref m12, .int mch, .int mfr, .int mfw, .int mrd, .ref m17, .ref m18, .ref m19, .ref m20, .ref m21, .ref m22, .ref m23, .int mtr])), (m3, .inl (cI, 6, .inl L)), (m4, .inl (cI, 6, .inl C))]) ([(m0, .inr (5, [.int mfa, .int mho, .ref m2, .ref m3, .ref m4, .int mra, .int mrh, .ref m7, .ref m8, .ref m9, .ref m10, .ref m11, .ref m12, .int mch, .int mfr, .int mfw, .int mrd, .ref m17, .ref m18, .ref m19, .ref m20, .ref m21, .ref m22, .ref m23, .int mtr]))]) ([(m0, .inr (5, [.int mfa, .int mho, .ref m2, .ref m3, .ref m4, .int mra, .int mrh, .ref m7, .ref m8, .ref m9, .ref m10, .ref m11, .ref m12, .int mch, .int mfr, .int mfw, .int mrd, .ref m17, .ref m18, .ref m19, .ref m20, .ref m21, .ref m22, .ref m23, .int mtr]))]) ([(m3, .inl (cI, 6, .inl L)), (m4, .inl (cI, 6, .inl C))]) hP hD [0] [1, 2] [m0, m3, m4] 3 rfl rfl rfl rfl rfl (by decide) rfl rfl hk1 hB
  refine lv_if_eq (tgt := 10) hx hb dX5_endow_5 (by decide) (fun c_5 => ?_) (fun c_5 => ?_)
  · skip
    have j1 : vp_in i1 6 := noHouse_in hNb c_5
    refine lv_iload_n hx hb dX5_endow_10 rfl (lv_at hl 2 rfl) ?_
    refine lv_i2l (v := i2.toInt64) hx hb dX5_endow_11 rfl ?_
    refine lv_lconst (v := 1) hx hb dX5_endow_12 (by decide) ?_
    refine lv_ldc2 (v := 2) hx hb hown kl_109 dX5_endow_13 ?_
    have hPc : va_P (dC, dI) vwCl [] H := hP.sub (ws' := []) [] rfl
    have hDc : va_D A [] := hD.sub (ws' := []) [] (by decide) rfl
    have hKc := hK.sub (tys' := [(cI, .int)]) [0] rfl
    have hFc := va_free (wc := []) hD hS hA [] rfl
    refine va_calli (va_runS (As := [.long i2.toInt64, .long 1, .long 2]) (rest := []) ⟨hx, hb, hml, hown, hts⟩ (ctX5_in l dC dI cI H.size i2.toInt64 1 2) (va_cwS 3 hts gX5_endow_X5_in rfl rfl rfl (by decide +kernel) ⟨Nat.le_of_ble_eq_true rfl, Nat.le_of_ble_eq_true rfl⟩) (pre_S hKc hN hPc hDc) rfl rfl hl.1 rfl (lv_room (Nat.le_of_ble_eq_true rfl)) dX5_endow_16 ⟨Nat.le_of_ble_eq_true rfl, Nat.le_of_ble_eq_true rfl⟩) hS (fun q _ h => hFc q h) hFc (fun r _ t H locs ht hvm hw hB hz1 hk1 hS => ?_)
    try dsimp only at hw
    subst hw
    rw [ht] at hB
    obtain ⟨hP, hD⟩ := rw_join ([(m0, .inr (5, [.int mfa, .int mho, .ref m2, .ref m3, .ref m4, .int mra, .int mrh, .ref m7, .ref m8, .ref m9, .ref m10, .ref m11, .ref m12, .int mch, .int mfr, .int mfw, .int mrd, .ref m17, .ref m18, .ref m19, .ref m20, .ref m21, .ref m22, .ref m23, .int mtr])), (m3, .inl (cI, 6, .inl L)), (m4, .inl (cI, 6, .inl C))]) ([(m0, .inr (5, [.int mfa, .int mho, .ref m2, .ref m3, .ref m4, .int mra, .int mrh, .ref m7, .ref m8, .ref m9, .ref m10, .ref m11, .ref m12, .int mch, .int mfr, .int mfw, .int mrd, .ref m17, .ref m18, .ref m19, .ref m20, .ref m21, .ref m22, .ref m23, .int mtr])), (m3, .inl (cI, 6, .inl L)), (m4, .inl (cI, 6, .inl C))]) ([]) ([]) ([(m0, .inr (5, [.int mfa, .int mho, .ref m2, .ref m3, .ref m4, .int mra, .int mrh, .ref m7, .ref m8, .ref m9, .ref m10, .ref m11, .ref m12, .int mch, .int mfr, .int mfw, .int mrd, .ref m17, .ref m18, .ref m19, .ref m20, .ref m21, .ref m22, .ref m23, .int mtr])), (m3, .inl (cI, 6, .inl L)), (m4, .inl (cI, 6, .inl C))]) hP hD [] [0, 1, 2] [m0, m3, m4] 3 rfl rfl rfl rfl rfl (by decide) rfl rfl hk1 hB
    refine lv_if_eq (tgt := 34) hx hb dX5_endow_19 (by decide) (fun c_19 => ?_) (fun c_19 => ?_)
    · skip
      refine lv_bipush (v := (-2)) hx hb dX5_endow_34 (by decide) ?_
      have hE9 : p5_endow mho L C i1 i2 i3 = ((-2), L, C) := by unfold p5_endow; rw [if_pos c_5, if_pos c_19]
      exact W.iret (v := (-2)) hx hb hr (fun t ht hW => ⟨⟨_, (), rfl, by rw [hE9], by show va_P (dC, dI) vwCl _ t.heap; rw [ht, hE9]; exact hP⟩, hS.F ht⟩) hS.2.2 dX5_endow_36
    · skip
      refine lv_iload_n hx hb dX5_endow_22 rfl (lv_at hl 3 rfl) ?_
      refine lv_i2l (v := i3.toInt64) hx hb dX5_endow_23 rfl ?_
      refine lv_lconst (v := 0) hx hb dX5_endow_24 (by decide) ?_
      refine lv_ldc2 (v := 18) hx hb hown kl_131 dX5_endow_25 ?_
      have hPc : va_P (dC, dI) vwCl [] H := hP.sub (ws' := []) [] rfl
      have hDc : va_D A [] := hD.sub (ws' := []) [] (by decide) rfl
      have hKc := hK.sub (tys' := [(cI, .int)]) [0] rfl
      have hFc := va_free (wc := []) hD hS hA [] rfl
      refine va_calli (va_runS (As := [.long i3.toInt64, .long 0, .long 18]) (rest := []) ⟨hx, hb, hml, hown, hts⟩ (ctX5_in l dC dI cI H.size i3.toInt64 0 18) (va_cwS 3 hts gX5_endow_X5_in rfl rfl rfl (by decide +kernel) ⟨Nat.le_of_ble_eq_true rfl, Nat.le_of_ble_eq_true rfl⟩) (pre_S hKc hN hPc hDc) rfl rfl hl.1 rfl (lv_room (Nat.le_of_ble_eq_true rfl)) dX5_endow_28 ⟨Nat.le_of_ble_eq_true rfl, Nat.le_of_ble_eq_true rfl⟩) hS (fun q _ h => hFc q h) hFc (fun r _ t H locs ht hvm hw hB hz1 hk1 hS => ?_)
      try dsimp only at hw
      subst hw
      rw [ht] at hB
      obtain ⟨hP, hD⟩ := rw_join ([(m0, .inr (5, [.int mfa, .int mho, .ref m2, .ref m3, .ref m4, .int mra, .int mrh, .ref m7, .ref m8, .ref m9, .ref m10, .ref m11, .ref m12, .int mch, .int mfr, .int mfw, .int mrd, .ref m17, .ref m18, .ref m19, .ref m20, .ref m21, .ref m22, .ref m23, .int mtr])), (m3, .inl (cI, 6, .inl L)), (m4, .inl (cI, 6, .inl C))]) ([(m0, .inr (5, [.int mfa, .int mho, .ref m2, .ref m3, .ref m4, .int mra, .int mrh, .ref m7, .ref m8, .ref m9, .ref m10, .ref m11, .ref m12, .int mch, .int mfr, .int mfw, .int mrd, .ref m17, .ref m18, .ref m19, .ref m20, .ref m21, .ref m22, .ref m23, .int mtr])), (m3, .inl (cI, 6, .inl L)), (m4, .inl (cI, 6, .inl C))]) ([]) ([]) ([(m0, .inr (5, [.int mfa, .int mho, .ref m2, .ref m3, .ref m4, .int mra, .int mrh, .ref m7, .ref m8, .ref m9, .ref m10, .ref m11, .ref m12, .int mch, .int mfr, .int mfw, .int mrd, .ref m17, .ref m18, .ref m19, .ref m20, .ref m21, .ref m22, .ref m23, .int mtr])), (m3, .inl (cI, 6, .inl L)), (m4, .inl (cI, 6, .inl C))]) hP hD [] [0, 1, 2] [m0, m3, m4] 3 rfl rfl rfl rfl rfl (by decide) rfl rfl hk1 hB
      refine lv_if_ne (tgt := 37) hx hb dX5_endow_31 (by decide) (fun c_31 => ?_) (fun c_31 => ?_)
      · skip
        refine lv_iload_n hx hb dX5_endow_37 rfl (lv_at hl 2 rfl) ?_
        refine lv_iconst (v := 1) hx hb dX5_endow_38 (by decide) ?_
        refine lv_icmp_ne (tgt := 51) hx hb dX5_endow_39 (by decide) (fun c_39 => ?_) (fun c_39 => ?_)
        · skip
          refine lv_aload_n hx hb dX5_endow_51 rfl (lv_at hl 0 rfl) ?_
          refine va_get (D := (dC, dI)) (ci := 5) (v := .ref m4) (C := RX5) (T := TX5) (N := 25) hx hb hts hin5 hown hK hP 0 rfl rfl 4 (by decide) kf_16 (fun _ h9 => h9) rfl dX5_endow_52 ?_
          refine lv_iload_n hx hb dX5_endow_55 rfl (lv_at hl 1 rfl) ?_
          refine va_iald hx hb hK hP 2 0 rfl rfl (by assumption) dX5_endow_56 ?_
          refine lv_istore (lv' := [(4, .int (C i1.toNatClampNeg)), (0, .ref m0), (1, .int i1), (2, .int i2), (3, .int i3)]) hx hb dX5_endow_57 hl (by decide) rfl (fun ls hl => ?_)
          refine lv_aload_n hx hb dX5_endow_59 rfl (lv_at hl 1 rfl) ?_
          refine va_get (D := (dC, dI)) (ci := 5) (v := .ref m3) (C := RX5) (T := TX5) (N := 25) hx hb hts hin5 hown hK hP 0 rfl rfl 3 (by decide) kf_13 (fun _ h9 => h9) rfl dX5_endow_60 ?_
          refine lv_iload_n hx hb dX5_endow_63 rfl (lv_at hl 2 rfl) ?_
          refine lv_iload_n hx hb dX5_endow_64 rfl (lv_at hl 3 rfl) ?_
          refine lv_iconst (v := 1) hx hb dX5_endow_65 (by decide) ?_
          refine lv_icmp_ne (tgt := 73) hx hb dX5_endow_66 (by decide) (fun c_66 => ?_) (fun c_66 => ?_)
          · skip
            refine lv_aload_n hx hb dX5_endow_73 rfl (lv_at hl 1 rfl) ?_
            refine va_get (D := (dC, dI)) (ci := 5) (v := .ref m3) (C := RX5) (T := TX5) (N := 25) hx hb hts hin5 hown hK hP 0 rfl rfl 3 (by decide) kf_13 (fun _ h9 => h9) rfl dX5_endow_74 ?_
            refine lv_iload_n hx hb dX5_endow_77 rfl (lv_at hl 2 rfl) ?_
            refine va_iald hx hb hK hP 1 0 rfl rfl (by assumption) dX5_endow_78 ?_
            refine va_iast hx hb hK hP hD hS 1 0 rfl rfl (by assumption) dX5_endow_79 (fun H locs hP hD hS => ?_)
            have hP : va_P (dC, dI) vwCl ([(m0, .inr (5, [.int mfa, .int mho, .ref m2, .ref m3, .ref m4, .int mra, .int mrh, .ref m7, .ref m8, .ref m9, .ref m10, .ref m11, .ref m12, .int mch, .int mfr, .int mfw, .int mrd, .ref m17, .ref m18, .ref m19, .ref m20, .ref m21, .ref m22, .ref m23, .int mtr])), (m3, .inl (cI, 6, .inl (upd L i1.toNatClampNeg (L i1.toNatClampNeg)))), (m4, .inl (cI, 6, .inl C))]) H := hP
            have hD : va_D A ([(m0, .inr (5, [.int mfa, .int mho, .ref m2, .ref m3, .ref m4, .int mra, .int mrh, .ref m7, .ref m8, .ref m9, .ref m10, .ref m11, .ref m12, .int mch, .int mfr, .int mfw, .int mrd, .ref m17, .ref m18, .ref m19, .ref m20, .ref m21, .ref m22, .ref m23, .int mtr])), (m3, .inl (cI, 6, .inl (upd L i1.toNatClampNeg (L i1.toNatClampNeg)))), (m4, .inl (cI, 6, .inl C))]) := hD
            refine lv_aload_n hx hb dX5_endow_80 rfl (lv_at hl 1 rfl) ?_
            refine va_get (D := (dC, dI)) (ci := 5) (v := .ref m4) (C := RX5) (T := TX5) (N := 25) hx hb hts hin5 hown hK hP 0 rfl rfl 4 (by decide) kf_16 (fun _ h9 => h9) rfl dX5_endow_81 ?_
            refine lv_iload_n hx hb dX5_endow_84 rfl (lv_at hl 2 rfl) ?_
            refine lv_iload_n hx hb dX5_endow_85 rfl (lv_at hl 3 rfl) ?_
            refine lv_iconst (v := 2) hx hb dX5_endow_86 (by decide) ?_
            refine lv_icmp_ne (tgt := 94) hx hb dX5_endow_87 (by decide) (fun c_87 => ?_) (fun c_87 => ?_)
            · skip
              refine lv_aload_n hx hb dX5_endow_94 rfl (lv_at hl 1 rfl) ?_
              refine va_get (D := (dC, dI)) (ci := 5) (v := .ref m4) (C := RX5) (T := TX5) (N := 25) hx hb hts hin5 hown hK hP 0 rfl rfl 4 (by decide) kf_16 (fun _ h9 => h9) rfl dX5_endow_95 ?_
              refine lv_iload_n hx hb dX5_endow_98 rfl (lv_at hl 2 rfl) ?_
              refine va_iald hx hb hK hP 2 0 rfl rfl (by assumption) dX5_endow_99 ?_
              refine va_iast hx hb hK hP hD hS 2 0 rfl rfl (by assumption) dX5_endow_100 (fun H locs hP hD hS => ?_)
              have hP : va_P (dC, dI) vwCl ([(m0, .inr (5, [.int mfa, .int mho, .ref m2, .ref m3, .ref m4, .int mra, .int mrh, .ref m7, .ref m8, .ref m9, .ref m10, .ref m11, .ref m12, .int mch, .int mfr, .int mfw, .int mrd, .ref m17, .ref m18, .ref m19, .ref m20, .ref m21, .ref m22, .ref m23, .int mtr])), (m3, .inl (cI, 6, .inl (upd L i1.toNatClampNeg (L i1.toNatClampNeg)))), (m4, .inl (cI, 6, .inl (upd C i1.toNatClampNeg (C i1.toNatClampNeg))))]) H := hP
              have hD : va_D A ([(m0, .inr (5, [.int mfa, .int mho, .ref m2, .ref m3, .ref m4, .int mra, .int mrh, .ref m7, .ref m8, .ref m9, .ref m10, .ref m11, .ref m12, .int mch, .int mfr, .int mfw, .int mrd, .ref m17, .ref m18, .ref m19, .ref m20, .ref m21, .ref m22, .ref m23, .int mtr])), (m3, .inl (cI, 6, .inl (upd L i1.toNatClampNeg (L i1.toNatClampNeg)))), (m4, .inl (cI, 6, .inl (upd C i1.toNatClampNeg (C i1.toNatClampNeg))))]) := hD
              refine lv_iload hx hb dX5_endow_101 (lv_at hl 0 rfl) ?_
              have hE9 : p5_endow mho L C i1 i2 i3 = ((C i1.toNatClampNeg), (upd L i1.toNatClampNeg (L i1.toNatClampNeg)), (upd C i1.toNatClampNeg (C i1.toNatClampNeg))) := by unfold p5_endow; rw [if_pos c_5, if_neg c_19, if_neg c_31, if_neg c_39, if_neg c_87]
              exact W.iret (v := (C i1.toNatClampNeg)) hx hb hr (fun t ht hW => ⟨⟨_, (), rfl, by rw [hE9], by show va_P (dC, dI) vwCl _ t.heap; rw [ht, hE9]; exact hP⟩, hS.F ht⟩) hS.2.2 dX5_endow_103
            · skip
              refine lv_iload_n hx hb dX5_endow_90 rfl (lv_at hl 4 rfl) ?_
              refine lv_goto (tgt := 100) hx hb dX5_endow_91 (by decide) ?_
              refine va_iast hx hb hK hP hD hS 2 0 rfl rfl (by assumption) dX5_endow_100 (fun H locs hP hD hS => ?_)
              have hP : va_P (dC, dI) vwCl ([(m0, .inr (5, [.int mfa, .int mho, .ref m2, .ref m3, .ref m4, .int mra, .int mrh, .ref m7, .ref m8, .ref m9, .ref m10, .ref m11, .ref m12, .int mch, .int mfr, .int mfw, .int mrd, .ref m17, .ref m18, .ref m19, .ref m20, .ref m21, .ref m22, .ref m23, .int mtr])), (m3, .inl (cI, 6, .inl (upd L i1.toNatClampNeg (L i1.toNatClampNeg)))), (m4, .inl (cI, 6, .inl (upd C i1.toNatClampNeg i3)))]) H := hP
              have hD : va_D A ([(m0, .inr (5, [.int mfa, .int mho, .ref m2, .ref m3, .ref m4, .int mra, .int mrh, .ref m7, .ref m8, .ref m9, .ref m10, .ref m11, .ref m12, .int mch, .int mfr, .int mfw, .int mrd, .ref m17, .ref m18, .ref m19, .ref m20, .ref m21, .ref m22, .ref m23, .int mtr])), (m3, .inl (cI, 6, .inl (upd L i1.toNatClampNeg (L i1.toNatClampNeg)))), (m4, .inl (cI, 6, .inl (upd C i1.toNatClampNeg i3)))]) := hD
              refine lv_iload hx hb dX5_endow_101 (lv_at hl 0 rfl) ?_
              have hE9 : p5_endow mho L C i1 i2 i3 = ((C i1.toNatClampNeg), (upd L i1.toNatClampNeg (L i1.toNatClampNeg)), (upd C i1.toNatClampNeg i3)) := by unfold p5_endow; rw [if_pos c_5, if_neg c_19, if_neg c_31, if_neg c_39, if_pos c_87]
              exact W.iret (v := (C i1.toNatClampNeg)) hx hb hr (fun t ht hW => ⟨⟨_, (), rfl, by rw [hE9], by show va_P (dC, dI) vwCl _ t.heap; rw [ht, hE9]; exact hP⟩, hS.F ht⟩) hS.2.2 dX5_endow_103
          · exact absurd c_66 c_39
        · skip
          refine lv_aload_n hx hb dX5_endow_42 rfl (lv_at hl 0 rfl) ?_
          refine va_get (D := (dC, dI)) (ci := 5) (v := .ref m3) (C := RX5) (T := TX5) (N := 25) hx hb hts hin5 hown hK hP 0 rfl rfl 3 (by decide) kf_13 (fun _ h9 => h9) rfl dX5_endow_43 ?_
          refine lv_iload_n hx hb dX5_endow_46 rfl (lv_at hl 1 rfl) ?_
          refine va_iald hx hb hK hP 1 0 rfl rfl (by assumption) dX5_endow_47 ?_
          refine lv_goto (tgt := 57) hx hb dX5_endow_48 (by decide) ?_
          refine lv_istore (lv' := [(4, .int (L i1.toNatClampNeg)), (0, .ref m0), (1, .int i1), (2, .int i2), (3, .int i3)]) hx hb dX5_endow_57 hl (by decide) rfl (fun ls hl => ?_)
          refine lv_aload_n hx hb dX5_endow_59 rfl (lv_at hl 1 rfl) ?_
          refine va_get (D := (dC, dI)) (ci := 5) (v := .ref m3) (C := RX5) (T := TX5) (N := 25) hx hb hts hin5 hown hK hP 0 rfl rfl 3 (by decide) kf_13 (fun _ h9 => h9) rfl dX5_endow_60 ?_
          refine lv_iload_n hx hb dX5_endow_63 rfl (lv_at hl 2 rfl) ?_
          refine lv_iload_n hx hb dX5_endow_64 rfl (lv_at hl 3 rfl) ?_
          refine lv_iconst (v := 1) hx hb dX5_endow_65 (by decide) ?_
          refine lv_icmp_ne (tgt := 73) hx hb dX5_endow_66 (by decide) (fun c_66 => ?_) (fun c_66 => ?_)
          · exact absurd c_39 c_66
          · skip
            refine lv_iload_n hx hb dX5_endow_69 rfl (lv_at hl 4 rfl) ?_
            refine lv_goto (tgt := 79) hx hb dX5_endow_70 (by decide) ?_
            refine va_iast hx hb hK hP hD hS 1 0 rfl rfl (by assumption) dX5_endow_79 (fun H locs hP hD hS => ?_)
            have hP : va_P (dC, dI) vwCl ([(m0, .inr (5, [.int mfa, .int mho, .ref m2, .ref m3, .ref m4, .int mra, .int mrh, .ref m7, .ref m8, .ref m9, .ref m10, .ref m11, .ref m12, .int mch, .int mfr, .int mfw, .int mrd, .ref m17, .ref m18, .ref m19, .ref m20, .ref m21, .ref m22, .ref m23, .int mtr])), (m3, .inl (cI, 6, .inl (upd L i1.toNatClampNeg i3))), (m4, .inl (cI, 6, .inl C))]) H := hP
            have hD : va_D A ([(m0, .inr (5, [.int mfa, .int mho, .ref m2, .ref m3, .ref m4, .int mra, .int mrh, .ref m7, .ref m8, .ref m9, .ref m10, .ref m11, .ref m12, .int mch, .int mfr, .int mfw, .int mrd, .ref m17, .ref m18, .ref m19, .ref m20, .ref m21, .ref m22, .ref m23, .int mtr])), (m3, .inl (cI, 6, .inl (upd L i1.toNatClampNeg i3))), (m4, .inl (cI, 6, .inl C))]) := hD
            refine lv_aload_n hx hb dX5_endow_80 rfl (lv_at hl 1 rfl) ?_
            refine va_get (D := (dC, dI)) (ci := 5) (v := .ref m4) (C := RX5) (T := TX5) (N := 25) hx hb hts hin5 hown hK hP 0 rfl rfl 4 (by decide) kf_16 (fun _ h9 => h9) rfl dX5_endow_81 ?_
            refine lv_iload_n hx hb dX5_endow_84 rfl (lv_at hl 2 rfl) ?_
            refine lv_iload_n hx hb dX5_endow_85 rfl (lv_at hl 3 rfl) ?_
            refine lv_iconst (v := 2) hx hb dX5_endow_86 (by decide) ?_
            refine lv_icmp_ne (tgt := 94) hx hb dX5_endow_87 (by decide) (fun c_87 => ?_) (fun c_87 => ?_)
            · skip
              refine lv_aload_n hx hb dX5_endow_94 rfl (lv_at hl 1 rfl) ?_
              refine va_get (D := (dC, dI)) (ci := 5) (v := .ref m4) (C := RX5) (T := TX5) (N := 25) hx hb hts hin5 hown hK hP 0 rfl rfl 4 (by decide) kf_16 (fun _ h9 => h9) rfl dX5_endow_95 ?_
              refine lv_iload_n hx hb dX5_endow_98 rfl (lv_at hl 2 rfl) ?_
              refine va_iald hx hb hK hP 2 0 rfl rfl (by assumption) dX5_endow_99 ?_
              refine va_iast hx hb hK hP hD hS 2 0 rfl rfl (by assumption) dX5_endow_100 (fun H locs hP hD hS => ?_)
              have hP : va_P (dC, dI) vwCl ([(m0, .inr (5, [.int mfa, .int mho, .ref m2, .ref m3, .ref m4, .int mra, .int mrh, .ref m7, .ref m8, .ref m9, .ref m10, .ref m11, .ref m12, .int mch, .int mfr, .int mfw, .int mrd, .ref m17, .ref m18, .ref m19, .ref m20, .ref m21, .ref m22, .ref m23, .int mtr])), (m3, .inl (cI, 6, .inl (upd L i1.toNatClampNeg i3))), (m4, .inl (cI, 6, .inl (upd C i1.toNatClampNeg (C i1.toNatClampNeg))))]) H := hP
              have hD : va_D A ([(m0, .inr (5, [.int mfa, .int mho, .ref m2, .ref m3, .ref m4, .int mra, .int mrh, .ref m7, .ref m8, .ref m9, .ref m10, .ref m11, .ref m12, .int mch, .int mfr, .int mfw, .int mrd, .ref m17, .ref m18, .ref m19, .ref m20, .ref m21, .ref m22, .ref m23, .int mtr])), (m3, .inl (cI, 6, .inl (upd L i1.toNatClampNeg i3))), (m4, .inl (cI, 6, .inl (upd C i1.toNatClampNeg (C i1.toNatClampNeg))))]) := hD
              refine lv_iload hx hb dX5_endow_101 (lv_at hl 0 rfl) ?_
              have hE9 : p5_endow mho L C i1 i2 i3 = ((L i1.toNatClampNeg), (upd L i1.toNatClampNeg i3), (upd C i1.toNatClampNeg (C i1.toNatClampNeg))) := by unfold p5_endow; rw [if_pos c_5, if_neg c_19, if_neg c_31, if_pos c_39, if_neg c_87]
              exact W.iret (v := (L i1.toNatClampNeg)) hx hb hr (fun t ht hW => ⟨⟨_, (), rfl, by rw [hE9], by show va_P (dC, dI) vwCl _ t.heap; rw [ht, hE9]; exact hP⟩, hS.F ht⟩) hS.2.2 dX5_endow_103
            · skip
              refine lv_iload_n hx hb dX5_endow_90 rfl (lv_at hl 4 rfl) ?_
              refine lv_goto (tgt := 100) hx hb dX5_endow_91 (by decide) ?_
              refine va_iast hx hb hK hP hD hS 2 0 rfl rfl (by assumption) dX5_endow_100 (fun H locs hP hD hS => ?_)
              have hP : va_P (dC, dI) vwCl ([(m0, .inr (5, [.int mfa, .int mho, .ref m2, .ref m3, .ref m4, .int mra, .int mrh, .ref m7, .ref m8, .ref m9, .ref m10, .ref m11, .ref m12, .int mch, .int mfr, .int mfw, .int mrd, .ref m17, .ref m18, .ref m19, .ref m20, .ref m21, .ref m22, .ref m23, .int mtr])), (m3, .inl (cI, 6, .inl (upd L i1.toNatClampNeg i3))), (m4, .inl (cI, 6, .inl (upd C i1.toNatClampNeg i3)))]) H := hP
              have hD : va_D A ([(m0, .inr (5, [.int mfa, .int mho, .ref m2, .ref m3, .ref m4, .int mra, .int mrh, .ref m7, .ref m8, .ref m9, .ref m10, .ref m11, .ref m12, .int mch, .int mfr, .int mfw, .int mrd, .ref m17, .ref m18, .ref m19, .ref m20, .ref m21, .ref m22, .ref m23, .int mtr])), (m3, .inl (cI, 6, .inl (upd L i1.toNatClampNeg i3))), (m4, .inl (cI, 6, .inl (upd C i1.toNatClampNeg i3)))]) := hD
              refine lv_iload hx hb dX5_endow_101 (lv_at hl 0 rfl) ?_
              have hE9 : p5_endow mho L C i1 i2 i3 = ((L i1.toNatClampNeg), (upd L i1.toNatClampNeg i3), (upd C i1.toNatClampNeg i3)) := by unfold p5_endow; rw [if_pos c_5, if_neg c_19, if_neg c_31, if_pos c_39, if_pos c_87]
              exact W.iret (v := (L i1.toNatClampNeg)) hx hb hr (fun t ht hW => ⟨⟨_, (), rfl, by rw [hE9], by show va_P (dC, dI) vwCl _ t.heap; rw [ht, hE9]; exact hP⟩, hS.F ht⟩) hS.2.2 dX5_endow_103
      · skip
        refine lv_bipush (v := (-2)) hx hb dX5_endow_34 (by decide) ?_
        have hE9 : p5_endow mho L C i1 i2 i3 = ((-2), L, C) := by unfold p5_endow; rw [if_pos c_5, if_neg c_19, if_pos c_31]
        exact W.iret (v := (-2)) hx hb hr (fun t ht hW => ⟨⟨_, (), rfl, by rw [hE9], by show va_P (dC, dI) vwCl _ t.heap; rw [ht, hE9]; exact hP⟩, hS.F ht⟩) hS.2.2 dX5_endow_36
  · skip
    refine lv_iconst (v := (-1)) hx hb dX5_endow_8 (by decide) ?_
    have hE9 : p5_endow mho L C i1 i2 i3 = ((-1), L, C) := by unfold p5_endow; rw [if_neg c_5]
    exact W.iret (v := (-1)) hx hb hr (fun t ht hW => ⟨⟨_, (), rfl, by rw [hE9], by show va_P (dC, dI) vwCl _ t.heap; rw [ht, hE9]; exact hP⟩, hS.F ht⟩) hS.2.2 dX5_endow_9

def p5_hide (mho : Int32) (L : Nat → Int32) (C : Nat → Int32) (i1 : Int32) (i2 : Int32) : Int32 × (Nat → Int32) × (Nat → Int32) :=
  if (p5_noHouse mho i1) = 0 then
    if (p5_in i2.toInt64 0 ((L i1.toNatClampNeg).toInt64)) = 0 then
      ((-2), L, C)
    else
      (((upd L i1.toNatClampNeg ((L i1.toNatClampNeg) - i2)) i1.toNatClampNeg), (upd L i1.toNatClampNeg ((L i1.toNatClampNeg) - i2)), (upd C i1.toNatClampNeg ((C i1.toNatClampNeg) + i2)))
  else
    ((-1), L, C)
abbrev rmX5_hide : Room := { frames := 2, cells := 0, slots := 0, locals := 46 }
abbrev QX5_hide (dC : Nat → ClassId) (dI : Nat → Nat → Nat) (A : Nat → Prop) (cI : ClassId) (m0 : Nat) (m2 : Nat) (m3 : Nat) (m4 : Nat) (m7 : Nat) (m8 : Nat) (m9 : Nat) (m10 : Nat) (m11 : Nat) (m12 : Nat) (m17 : Nat) (m18 : Nat) (m19 : Nat) (m20 : Nat) (m21 : Nat) (m22 : Nat) (m23 : Nat) (mfa : Int32) (mho : Int32) (mra : Int32) (mrh : Int32) (mch : Int32) (mfr : Int32) (mfw : Int32) (mrd : Int32) (mtr : Int32) (L : Nat → Int32) (C : Nat → Int32) (i1 : Int32) (i2 : Int32) : Array Value → State → Outcome → State → Prop := va_Qi (fun (r : Int32) (_ : Unit) => r = (p5_hide mho L C i1 i2).1) (fun (_ : Unit) (t : State) => va_P (dC, dI) vwCl ([(m0, .inr (5, [.int mfa, .int mho, .ref m2, .ref m3, .ref m4, .int mra, .int mrh, .ref m7, .ref m8, .ref m9, .ref m10, .ref m11, .ref m12, .int mch, .int mfr, .int mfw, .int mrd, .ref m17, .ref m18, .ref m19, .ref m20, .ref m21, .ref m22, .ref m23, .int mtr])), (m3, .inl (cI, 6, .inl ((p5_hide mho L C i1 i2).2.1))), (m4, .inl (cI, 6, .inl ((p5_hide mho L C i1 i2).2.2)))]) t.heap) A
set_option maxHeartbeats 4000000 in
set_option maxRecDepth 100000 in
theorem ctX5_hide (l : Launch) (dC : Nat → ClassId) (dI : Nat → Nat → Nat) (cI : ClassId) (m0 : Nat) (m2 : Nat) (m3 : Nat) (m4 : Nat) (m7 : Nat) (m8 : Nat) (m9 : Nat) (m10 : Nat) (m11 : Nat) (m12 : Nat) (m17 : Nat) (m18 : Nat) (m19 : Nat) (m20 : Nat) (m21 : Nat) (m22 : Nat) (m23 : Nat) (sz : Nat) (mfa : Int32) (mho : Int32) (mra : Int32) (mrh : Int32) (mch : Int32) (mfr : Int32) (mfw : Int32) (mrd : Int32) (mtr : Int32) (L : Nat → Int32) (C : Nat → Int32) (i1 : Int32) (i2 : Int32) (hNb : mho.toInt ≤ 6) : Met l yX5_hide wsX5_hide rmX5_hide (va_Pc [.ref m0, .int i1, .int i2] (cP dC dI [(cI, .int)] ([(m0, .inr (5, [.int mfa, .int mho, .ref m2, .ref m3, .ref m4, .int mra, .int mrh, .ref m7, .ref m8, .ref m9, .ref m10, .ref m11, .ref m12, .int mch, .int mfr, .int mfw, .int mrd, .ref m17, .ref m18, .ref m19, .ref m20, .ref m21, .ref m22, .ref m23, .int mtr])), (m3, .inl (cI, 6, .inl L)), (m4, .inl (cI, 6, .inl C))]) sz)) (QX5_hide dC dI (va_A ([(m0, .inr (5, [.int mfa, .int mho, .ref m2, .ref m3, .ref m4, .int mra, .int mrh, .ref m7, .ref m8, .ref m9, .ref m10, .ref m11, .ref m12, .int mch, .int mfr, .int mfw, .int mrd, .ref m17, .ref m18, .ref m19, .ref m20, .ref m21, .ref m22, .ref m23, .int mtr])), (m3, .inl (cI, 6, .inl L)), (m4, .inl (cI, 6, .inl C))]) sz) cI m0 m2 m3 m4 m7 m8 m9 m10 m11 m12 m17 m18 m19 m20 m21 m22 m23 mfa mho mra mrh mch mfr mfw mrd mtr L C i1 i2) 0 0 (va_A ([(m0, .inr (5, [.int mfa, .int mho, .ref m2, .ref m3, .ref m4, .int mra, .int mrh, .ref m7, .ref m8, .ref m9, .ref m10, .ref m11, .ref m12, .int mch, .int mfr, .int mfw, .int mrd, .ref m17, .ref m18, .ref m19, .ref m20, .ref m21, .ref m22, .ref m23, .int mtr])), (m3, .inl (cI, 6, .inl L)), (m4, .inl (cI, 6, .inl C))]) sz) := by
  refine Met.ofW (cc := cX5_hide) (maxL := 3) (ret := (some .int)) (by decide) rfl ?_
  intro p e s m args below meth c s₁ B hml hv
  obtain ⟨rfl, hsz, hP, hK, hD0, hN⟩ := hv
  have hx := B.exec
  have hb := B.bytes
  have hr := B.returns
  have hts := atoms_spec (ws := wsX5_hide) B.pre
  have hown : s.vm.findClass RX5 = some m.cls := findClass_of_methodNamed B.named
  have hlocks := B.notSynchronized
  subst hsz
  have hD := hD0.self (sz := s.heap.size)
  generalize hAe : va_A ([(m0, .inr (5, [.int mfa, .int mho, .ref m2, .ref m3, .ref m4, .int mra, .int mrh, .ref m7, .ref m8, .ref m9, .ref m10, .ref m11, .ref m12, .int mch, .int mfr, .int mfw, .int mrd, .ref m17, .ref m18, .ref m19, .ref m20, .ref m21, .ref m22, .ref m23, .int mtr])), (m3, .inl (cI, 6, .inl L)), (m4, .inl (cI, 6, .inl C))]) s.heap.size = A at hD ⊢
  have hA : ∀ q : Nat, s.heap.size ≤ q → A q := fun q h => by rw [← hAe]; exact Or.inr h
  have hS : va_S A s.heap s.heap [] := va_S.rf
  have hP : va_P (dC, dI) vwCl ([(m0, .inr (5, [.int mfa, .int mho, .ref m2, .ref m3, .ref m4, .int mra, .int mrh, .ref m7, .ref m8, .ref m9, .ref m10, .ref m11, .ref m12, .int mch, .int mfr, .int mfw, .int mrd, .ref m17, .ref m18, .ref m19, .ref m20, .ref m21, .ref m22, .ref m23, .int mtr])), (m3, .inl (cI, 6, .inl L)), (m4, .inl (cI, 6, .inl C))]) s.heap := hP
  have hin5 : ∀ w ∈ wsX50, w ∈ wsX5_hide := by decide +kernel
  have kf_13 := hts (.fieldLink RX5 13 "RicherChangeModel" "landOf" "[I") (by decide +kernel)
  have kf_16 := hts (.fieldLink RX5 16 "RicherChangeModel" "coinOf" "[I") (by decide +kernel)
  have hl := lv_entry ([.ref m0, .int i1, .int i2]) (n := 3) (Nat.le_of_ble_eq_true rfl)
  rw [lg_entry_eq]
  generalize (lg_sl ([.ref m0, .int i1, .int i2]) ++ List.replicate (3 - (lg_sl ([.ref m0, .int i1, .int i2])).length) Slot.unset).toArray = ls at hl ⊢
  have hl : lv_has ls 3 [(0, .ref m0), (1, .int i1), (2, .int i2)] := hl
  refine lv_aload_n hx hb dX5_hide_0 rfl (lv_at hl 0 rfl) ?_
  refine lv_iload_n hx hb dX5_hide_1 rfl (lv_at hl 1 rfl) ?_
  have hPc := hP.sub (ws' := [(m0, .inr (5, [.int mfa, .int mho, .ref m2, .ref m3, .ref m4, .int mra, .int mrh, .ref m7, .ref m8, .ref m9, .ref m10, .ref m11, .ref m12, .int mch, .int mfr, .int mfw, .int mrd, .ref m17, .ref m18, .ref m19, .ref m20, .ref m21, .ref m22, .ref m23, .int mtr]))]) [0] rfl
  have hDc := hD.sub (ws' := [(m0, .inr (5, [.int mfa, .int mho, .ref m2, .ref m3, .ref m4, .int mra, .int mrh, .ref m7, .ref m8, .ref m9, .ref m10, .ref m11, .ref m12, .int mch, .int mfr, .int mfw, .int mrd, .ref m17, .ref m18, .ref m19, .ref m20, .ref m21, .ref m22, .ref m23, .int mtr]))]) [0] (by decide) rfl
  have hKc := hK.sub (tys' := [(cI, .int)]) [0] rfl
  have hFc := va_free (wc := [(m0, .inr (5, [.int mfa, .int mho, .ref m2, .ref m3, .ref m4, .int mra, .int mrh, .ref m7, .ref m8, .ref m9, .ref m10, .ref m11, .ref m12, .int mch, .int mfr, .int mfw, .int mrd, .ref m17, .ref m18, .ref m19, .ref m20, .ref m21, .ref m22, .ref m23, .int mtr]))]) hD hS hA [0] rfl
  refine va_calli (va_runV (As := [.int i1]) (rest := []) ⟨hx, hb, hml, hown, hts⟩ (ctX5_noHouse l dC dI cI m0 m2 m3 m4 m7 m8 m9 m10 m11 m12 m17 m18 m19 m20 m21 m22 m23 s.heap.size mfa mho mra mrh mch mfr mfw mrd mtr i1) (cwV 1 hts gX5_hide_X5_noHouse rfl rfl rfl (by decide +kernel) ⟨Nat.le_of_ble_eq_true rfl, Nat.le_of_ble_eq_true rfl⟩) (pre_V hKc hN hPc hDc (RX5, TX5, 25) 5 0 rfl rfl) rfl rfl hl.1 rfl (lv_room (Nat.le_of_ble_eq_true rfl)) dX5_hide_2 ⟨Nat.le_of_ble_eq_true rfl, Nat.le_of_ble_eq_true rfl⟩) hS (fun q _ h => hFc q h) hFc (fun r _ t H locs ht hvm hw hB hz1 hk1 hS => ?_)
  try dsimp only at hw
  subst hw
  rw [ht] at hB
  obtain ⟨hP, hD⟩ := rw_join ([(m0, .inr (5, [.int mfa, .int mho, .ref m2, .ref m3, .ref m4, .int mra, .int mrh, .ref m7, .ref m8, .ref m9, .ref m10, .ref m11, .ref m12, .int mch, .int mfr, .int mfw, .int mrd, .ref m17, .ref m18, .ref m19, .ref m20, .ref m21, .ref m22, .ref m23, .int mtr])), (m3, .inl (cI, 6, .inl L)), (m4, .inl (cI, 6, .inl C))]) ([(m0, .inr (5, [.int mfa, .int mho, .ref m2, .ref m3, .ref m4, .int mra, .int mrh, .ref m7, .ref m8, .ref m9, .ref m10, .ref m11, .ref m12, .int mch, .int mfr, .int mfw, .int mrd, .ref m17, .ref m18, .ref m19, .ref m20, .ref m21, .ref m22, .ref m23, .int mtr])), (m3, .inl (cI, 6, .inl L)), (m4, .inl (cI, 6, .inl C))]) ([(m0, .inr (5, [.int mfa, .int mho, .ref m2, .ref m3, .ref m4, .int mra, .int mrh, .ref m7, .ref m8, .ref m9, .ref m10, .ref m11, .ref m12, .int mch, .int mfr, .int mfw, .int mrd, .ref m17, .ref m18, .ref m19, .ref m20, .ref m21, .ref m22, .ref m23, .int mtr]))]) ([(m0, .inr (5, [.int mfa, .int mho, .ref m2, .ref m3, .ref m4, .int mra, .int mrh, .ref m7, .ref m8, .ref m9, .ref m10, .ref m11, .ref m12, .int mch, .int mfr, .int mfw, .int mrd, .ref m17, .ref m18, .ref m19, .ref m20, .ref m21, .ref m22, .ref m23, .int mtr]))]) ([(m3, .inl (cI, 6, .inl L)), (m4, .inl (cI, 6, .inl C))]) hP hD [0] [1, 2] [m0, m3, m4] 3 rfl rfl rfl rfl rfl (by decide) rfl rfl hk1 hB
  refine lv_if_eq (tgt := 10) hx hb dX5_hide_5 (by decide) (fun c_5 => ?_) (fun c_5 => ?_)
  · skip
    have j1 : vp_in i1 6 := noHouse_in hNb c_5
    refine lv_iload_n hx hb dX5_hide_10 rfl (lv_at hl 2 rfl) ?_
    refine lv_i2l (v := i2.toInt64) hx hb dX5_hide_11 rfl ?_
    refine lv_lconst (v := 0) hx hb dX5_hide_12 (by decide) ?_
    refine lv_aload_n hx hb dX5_hide_13 rfl (lv_at hl 0 rfl) ?_
    refine va_get (D := (dC, dI)) (ci := 5) (v := .ref m3) (C := RX5) (T := TX5) (N := 25) hx hb hts hin5 hown hK hP 0 rfl rfl 3 (by decide) kf_13 (fun _ h9 => h9) rfl dX5_hide_14 ?_
    refine lv_iload_n hx hb dX5_hide_17 rfl (lv_at hl 1 rfl) ?_
    refine va_iald hx hb hK hP 1 0 rfl rfl (by assumption) dX5_hide_18 ?_
    refine lv_i2l (v := (L i1.toNatClampNeg).toInt64) hx hb dX5_hide_19 rfl ?_
    have hPc : va_P (dC, dI) vwCl [] H := hP.sub (ws' := []) [] rfl
    have hDc : va_D A [] := hD.sub (ws' := []) [] (by decide) rfl
    have hKc := hK.sub (tys' := [(cI, .int)]) [0] rfl
    have hFc := va_free (wc := []) hD hS hA [] rfl
    refine va_calli (va_runS (As := [.long i2.toInt64, .long 0, .long ((L i1.toNatClampNeg).toInt64)]) (rest := []) ⟨hx, hb, hml, hown, hts⟩ (ctX5_in l dC dI cI H.size i2.toInt64 0 ((L i1.toNatClampNeg).toInt64)) (va_cwS 3 hts gX5_hide_X5_in rfl rfl rfl (by decide +kernel) ⟨Nat.le_of_ble_eq_true rfl, Nat.le_of_ble_eq_true rfl⟩) (pre_S hKc hN hPc hDc) rfl rfl hl.1 rfl (lv_room (Nat.le_of_ble_eq_true rfl)) dX5_hide_20 ⟨Nat.le_of_ble_eq_true rfl, Nat.le_of_ble_eq_true rfl⟩) hS (fun q _ h => hFc q h) hFc (fun r _ t H locs ht hvm hw hB hz1 hk1 hS => ?_)
    try dsimp only at hw
    subst hw
    rw [ht] at hB
    obtain ⟨hP, hD⟩ := rw_join ([(m0, .inr (5, [.int mfa, .int mho, .ref m2, .ref m3, .ref m4, .int mra, .int mrh, .ref m7, .ref m8, .ref m9, .ref m10, .ref m11, .ref m12, .int mch, .int mfr, .int mfw, .int mrd, .ref m17, .ref m18, .ref m19, .ref m20, .ref m21, .ref m22, .ref m23, .int mtr])), (m3, .inl (cI, 6, .inl L)), (m4, .inl (cI, 6, .inl C))]) ([(m0, .inr (5, [.int mfa, .int mho, .ref m2, .ref m3, .ref m4, .int mra, .int mrh, .ref m7, .ref m8, .ref m9, .ref m10, .ref m11, .ref m12, .int mch, .int mfr, .int mfw, .int mrd, .ref m17, .ref m18, .ref m19, .ref m20, .ref m21, .ref m22, .ref m23, .int mtr])), (m3, .inl (cI, 6, .inl L)), (m4, .inl (cI, 6, .inl C))]) ([]) ([]) ([(m0, .inr (5, [.int mfa, .int mho, .ref m2, .ref m3, .ref m4, .int mra, .int mrh, .ref m7, .ref m8, .ref m9, .ref m10, .ref m11, .ref m12, .int mch, .int mfr, .int mfw, .int mrd, .ref m17, .ref m18, .ref m19, .ref m20, .ref m21, .ref m22, .ref m23, .int mtr])), (m3, .inl (cI, 6, .inl L)), (m4, .inl (cI, 6, .inl C))]) hP hD [] [0, 1, 2] [m0, m3, m4] 3 rfl rfl rfl rfl rfl (by decide) rfl rfl hk1 hB
    refine lv_if_ne (tgt := 29) hx hb dX5_hide_23 (by decide) (fun c_23 => ?_) (fun c_23 => ?_)
    · skip
      refine lv_aload_n hx hb dX5_hide_29 rfl (lv_at hl 0 rfl) ?_
      refine va_get (D := (dC, dI)) (ci := 5) (v := .ref m3) (C := RX5) (T := TX5) (N := 25) hx hb hts hin5 hown hK hP 0 rfl rfl 3 (by decide) kf_13 (fun _ h9 => h9) rfl dX5_hide_30 ?_
      refine lv_iload_n hx hb dX5_hide_33 rfl (lv_at hl 1 rfl) ?_
      refine lv_dup2_11 hx hb dX5_hide_34 rfl rfl ?_
      refine va_iald hx hb hK hP 1 0 rfl rfl (by assumption) dX5_hide_35 ?_
      refine lv_iload_n hx hb dX5_hide_36 rfl (lv_at hl 2 rfl) ?_
      refine lv_isub hx hb dX5_hide_37 ?_
      refine va_iast hx hb hK hP hD hS 1 0 rfl rfl (by assumption) dX5_hide_38 (fun H locs hP hD hS => ?_)
      have hP : va_P (dC, dI) vwCl ([(m0, .inr (5, [.int mfa, .int mho, .ref m2, .ref m3, .ref m4, .int mra, .int mrh, .ref m7, .ref m8, .ref m9, .ref m10, .ref m11, .ref m12, .int mch, .int mfr, .int mfw, .int mrd, .ref m17, .ref m18, .ref m19, .ref m20, .ref m21, .ref m22, .ref m23, .int mtr])), (m3, .inl (cI, 6, .inl (upd L i1.toNatClampNeg ((L i1.toNatClampNeg) - i2)))), (m4, .inl (cI, 6, .inl C))]) H := hP
      have hD : va_D A ([(m0, .inr (5, [.int mfa, .int mho, .ref m2, .ref m3, .ref m4, .int mra, .int mrh, .ref m7, .ref m8, .ref m9, .ref m10, .ref m11, .ref m12, .int mch, .int mfr, .int mfw, .int mrd, .ref m17, .ref m18, .ref m19, .ref m20, .ref m21, .ref m22, .ref m23, .int mtr])), (m3, .inl (cI, 6, .inl (upd L i1.toNatClampNeg ((L i1.toNatClampNeg) - i2)))), (m4, .inl (cI, 6, .inl C))]) := hD
      refine lv_aload_n hx hb dX5_hide_39 rfl (lv_at hl 0 rfl) ?_
      refine va_get (D := (dC, dI)) (ci := 5) (v := .ref m4) (C := RX5) (T := TX5) (N := 25) hx hb hts hin5 hown hK hP 0 rfl rfl 4 (by decide) kf_16 (fun _ h9 => h9) rfl dX5_hide_40 ?_
      refine lv_iload_n hx hb dX5_hide_43 rfl (lv_at hl 1 rfl) ?_
      refine lv_dup2_11 hx hb dX5_hide_44 rfl rfl ?_
      refine va_iald hx hb hK hP 2 0 rfl rfl (by assumption) dX5_hide_45 ?_
      refine lv_iload_n hx hb dX5_hide_46 rfl (lv_at hl 2 rfl) ?_
      refine lv_iadd hx hb dX5_hide_47 ?_
      refine va_iast hx hb hK hP hD hS 2 0 rfl rfl (by assumption) dX5_hide_48 (fun H locs hP hD hS => ?_)
      have hP : va_P (dC, dI) vwCl ([(m0, .inr (5, [.int mfa, .int mho, .ref m2, .ref m3, .ref m4, .int mra, .int mrh, .ref m7, .ref m8, .ref m9, .ref m10, .ref m11, .ref m12, .int mch, .int mfr, .int mfw, .int mrd, .ref m17, .ref m18, .ref m19, .ref m20, .ref m21, .ref m22, .ref m23, .int mtr])), (m3, .inl (cI, 6, .inl (upd L i1.toNatClampNeg ((L i1.toNatClampNeg) - i2)))), (m4, .inl (cI, 6, .inl (upd C i1.toNatClampNeg ((C i1.toNatClampNeg) + i2))))]) H := hP
      have hD : va_D A ([(m0, .inr (5, [.int mfa, .int mho, .ref m2, .ref m3, .ref m4, .int mra, .int mrh, .ref m7, .ref m8, .ref m9, .ref m10, .ref m11, .ref m12, .int mch, .int mfr, .int mfw, .int mrd, .ref m17, .ref m18, .ref m19, .ref m20, .ref m21, .ref m22, .ref m23, .int mtr])), (m3, .inl (cI, 6, .inl (upd L i1.toNatClampNeg ((L i1.toNatClampNeg) - i2)))), (m4, .inl (cI, 6, .inl (upd C i1.toNatClampNeg ((C i1.toNatClampNeg) + i2))))]) := hD
      refine lv_aload_n hx hb dX5_hide_49 rfl (lv_at hl 0 rfl) ?_
      refine va_get (D := (dC, dI)) (ci := 5) (v := .ref m3) (C := RX5) (T := TX5) (N := 25) hx hb hts hin5 hown hK hP 0 rfl rfl 3 (by decide) kf_13 (fun _ h9 => h9) rfl dX5_hide_50 ?_
      refine lv_iload_n hx hb dX5_hide_53 rfl (lv_at hl 1 rfl) ?_
      refine va_iald hx hb hK hP 1 0 rfl rfl (by assumption) dX5_hide_54 ?_
      have hE9 : p5_hide mho L C i1 i2 = (((upd L i1.toNatClampNeg ((L i1.toNatClampNeg) - i2)) i1.toNatClampNeg), (upd L i1.toNatClampNeg ((L i1.toNatClampNeg) - i2)), (upd C i1.toNatClampNeg ((C i1.toNatClampNeg) + i2))) := by unfold p5_hide; rw [if_pos c_5, if_neg c_23]
      exact W.iret (v := ((upd L i1.toNatClampNeg ((L i1.toNatClampNeg) - i2)) i1.toNatClampNeg)) hx hb hr (fun t ht hW => ⟨⟨_, (), rfl, by rw [hE9], by show va_P (dC, dI) vwCl _ t.heap; rw [ht, hE9]; exact hP⟩, hS.F ht⟩) hS.2.2 dX5_hide_55
    · skip
      refine lv_bipush (v := (-2)) hx hb dX5_hide_26 (by decide) ?_
      have hE9 : p5_hide mho L C i1 i2 = ((-2), L, C) := by unfold p5_hide; rw [if_pos c_5, if_pos c_23]
      exact W.iret (v := (-2)) hx hb hr (fun t ht hW => ⟨⟨_, (), rfl, by rw [hE9], by show va_P (dC, dI) vwCl _ t.heap; rw [ht, hE9]; exact hP⟩, hS.F ht⟩) hS.2.2 dX5_hide_28
  · skip
    refine lv_iconst (v := (-1)) hx hb dX5_hide_8 (by decide) ?_
    have hE9 : p5_hide mho L C i1 i2 = ((-1), L, C) := by unfold p5_hide; rw [if_neg c_5]
    exact W.iret (v := (-1)) hx hb hr (fun t ht hW => ⟨⟨_, (), rfl, by rw [hE9], by show va_P (dC, dI) vwCl _ t.heap; rw [ht, hE9]; exact hP⟩, hS.F ht⟩) hS.2.2 dX5_hide_9

def p5_answer (mho : Int32) (K : Nat → Int32) (L : Nat → Int32) (C : Nat → Int32) (i1 : Int32) (i2 : Int32) (i3 : Int32) : Int32 :=
  if (p5_noHouse mho i1) = 0 then
    if (p5_noHouse mho i2) = 0 then
      if i1 = i2 then
        (-1)
      else
        if (p5_mayPoint L i1 i2) = 0 then
          (-3)
        else
          if (p5_noCost i3) = 0 then
            if (p5_doesChange K L C i1 i2 i3) = 0 then
              0
            else
              1
          else
            (-2)
    else
      (-1)
  else
    (-1)
abbrev rmX5_answer : Room := { frames := 3, cells := 0, slots := 0, locals := 70 }
abbrev QX5_answer (dC : Nat → ClassId) (dI : Nat → Nat → Nat) (A : Nat → Prop) (cI : ClassId) (m0 : Nat) (m2 : Nat) (m3 : Nat) (m4 : Nat) (m7 : Nat) (m8 : Nat) (m9 : Nat) (m10 : Nat) (m11 : Nat) (m12 : Nat) (m17 : Nat) (m18 : Nat) (m19 : Nat) (m20 : Nat) (m21 : Nat) (m22 : Nat) (m23 : Nat) (mfa : Int32) (mho : Int32) (mra : Int32) (mrh : Int32) (mch : Int32) (mfr : Int32) (mfw : Int32) (mrd : Int32) (mtr : Int32) (K : Nat → Int32) (L : Nat → Int32) (C : Nat → Int32) (i1 : Int32) (i2 : Int32) (i3 : Int32) : Array Value → State → Outcome → State → Prop := va_Qi (fun (r : Int32) (_ : Unit) => r = p5_answer mho K L C i1 i2 i3) (fun (_ : Unit) (t : State) => va_P (dC, dI) vwCl ([(m0, .inr (5, [.int mfa, .int mho, .ref m2, .ref m3, .ref m4, .int mra, .int mrh, .ref m7, .ref m8, .ref m9, .ref m10, .ref m11, .ref m12, .int mch, .int mfr, .int mfw, .int mrd, .ref m17, .ref m18, .ref m19, .ref m20, .ref m21, .ref m22, .ref m23, .int mtr])), (m2, .inl (cI, 6, .inl K)), (m3, .inl (cI, 6, .inl L)), (m4, .inl (cI, 6, .inl C))]) t.heap) A
set_option maxHeartbeats 4000000 in
set_option maxRecDepth 100000 in
theorem ctX5_answer (l : Launch) (dC : Nat → ClassId) (dI : Nat → Nat → Nat) (cI : ClassId) (m0 : Nat) (m2 : Nat) (m3 : Nat) (m4 : Nat) (m7 : Nat) (m8 : Nat) (m9 : Nat) (m10 : Nat) (m11 : Nat) (m12 : Nat) (m17 : Nat) (m18 : Nat) (m19 : Nat) (m20 : Nat) (m21 : Nat) (m22 : Nat) (m23 : Nat) (sz : Nat) (mfa : Int32) (mho : Int32) (mra : Int32) (mrh : Int32) (mch : Int32) (mfr : Int32) (mfw : Int32) (mrd : Int32) (mtr : Int32) (K : Nat → Int32) (L : Nat → Int32) (C : Nat → Int32) (i1 : Int32) (i2 : Int32) (i3 : Int32) (hNb : mho.toInt ≤ 6) : Met l yX5_answer wsX5_answer rmX5_answer (va_Pc [.ref m0, .int i1, .int i2, .int i3] (cP dC dI [(cI, .int)] ([(m0, .inr (5, [.int mfa, .int mho, .ref m2, .ref m3, .ref m4, .int mra, .int mrh, .ref m7, .ref m8, .ref m9, .ref m10, .ref m11, .ref m12, .int mch, .int mfr, .int mfw, .int mrd, .ref m17, .ref m18, .ref m19, .ref m20, .ref m21, .ref m22, .ref m23, .int mtr])), (m2, .inl (cI, 6, .inl K)), (m3, .inl (cI, 6, .inl L)), (m4, .inl (cI, 6, .inl C))]) sz)) (QX5_answer dC dI (va_A ([(m0, .inr (5, [.int mfa, .int mho, .ref m2, .ref m3, .ref m4, .int mra, .int mrh, .ref m7, .ref m8, .ref m9, .ref m10, .ref m11, .ref m12, .int mch, .int mfr, .int mfw, .int mrd, .ref m17, .ref m18, .ref m19, .ref m20, .ref m21, .ref m22, .ref m23, .int mtr])), (m2, .inl (cI, 6, .inl K)), (m3, .inl (cI, 6, .inl L)), (m4, .inl (cI, 6, .inl C))]) sz) cI m0 m2 m3 m4 m7 m8 m9 m10 m11 m12 m17 m18 m19 m20 m21 m22 m23 mfa mho mra mrh mch mfr mfw mrd mtr K L C i1 i2 i3) 0 0 (va_A ([(m0, .inr (5, [.int mfa, .int mho, .ref m2, .ref m3, .ref m4, .int mra, .int mrh, .ref m7, .ref m8, .ref m9, .ref m10, .ref m11, .ref m12, .int mch, .int mfr, .int mfw, .int mrd, .ref m17, .ref m18, .ref m19, .ref m20, .ref m21, .ref m22, .ref m23, .int mtr])), (m2, .inl (cI, 6, .inl K)), (m3, .inl (cI, 6, .inl L)), (m4, .inl (cI, 6, .inl C))]) sz) := by
  refine Met.ofW (cc := cX5_answer) (maxL := 4) (ret := (some .int)) (by decide) rfl ?_
  intro p e s m args below meth c s₁ B hml hv
  obtain ⟨rfl, hsz, hP, hK, hD0, hN⟩ := hv
  have hx := B.exec
  have hb := B.bytes
  have hr := B.returns
  have hts := atoms_spec (ws := wsX5_answer) B.pre
  have hown : s.vm.findClass RX5 = some m.cls := findClass_of_methodNamed B.named
  have hlocks := B.notSynchronized
  subst hsz
  have hD := hD0.self (sz := s.heap.size)
  generalize hAe : va_A ([(m0, .inr (5, [.int mfa, .int mho, .ref m2, .ref m3, .ref m4, .int mra, .int mrh, .ref m7, .ref m8, .ref m9, .ref m10, .ref m11, .ref m12, .int mch, .int mfr, .int mfw, .int mrd, .ref m17, .ref m18, .ref m19, .ref m20, .ref m21, .ref m22, .ref m23, .int mtr])), (m2, .inl (cI, 6, .inl K)), (m3, .inl (cI, 6, .inl L)), (m4, .inl (cI, 6, .inl C))]) s.heap.size = A at hD ⊢
  have hA : ∀ q : Nat, s.heap.size ≤ q → A q := fun q h => by rw [← hAe]; exact Or.inr h
  have hS : va_S A s.heap s.heap [] := va_S.rf
  have hP : va_P (dC, dI) vwCl ([(m0, .inr (5, [.int mfa, .int mho, .ref m2, .ref m3, .ref m4, .int mra, .int mrh, .ref m7, .ref m8, .ref m9, .ref m10, .ref m11, .ref m12, .int mch, .int mfr, .int mfw, .int mrd, .ref m17, .ref m18, .ref m19, .ref m20, .ref m21, .ref m22, .ref m23, .int mtr])), (m2, .inl (cI, 6, .inl K)), (m3, .inl (cI, 6, .inl L)), (m4, .inl (cI, 6, .inl C))]) s.heap := hP
  have hl := lv_entry ([.ref m0, .int i1, .int i2, .int i3]) (n := 4) (Nat.le_of_ble_eq_true rfl)
  rw [lg_entry_eq]
  generalize (lg_sl ([.ref m0, .int i1, .int i2, .int i3]) ++ List.replicate (4 - (lg_sl ([.ref m0, .int i1, .int i2, .int i3])).length) Slot.unset).toArray = ls at hl ⊢
  have hl : lv_has ls 4 [(0, .ref m0), (1, .int i1), (2, .int i2), (3, .int i3)] := hl
  refine lv_aload_n hx hb dX5_answer_0 rfl (lv_at hl 0 rfl) ?_
  refine lv_iload_n hx hb dX5_answer_1 rfl (lv_at hl 1 rfl) ?_
  have hPc := hP.sub (ws' := [(m0, .inr (5, [.int mfa, .int mho, .ref m2, .ref m3, .ref m4, .int mra, .int mrh, .ref m7, .ref m8, .ref m9, .ref m10, .ref m11, .ref m12, .int mch, .int mfr, .int mfw, .int mrd, .ref m17, .ref m18, .ref m19, .ref m20, .ref m21, .ref m22, .ref m23, .int mtr]))]) [0] rfl
  have hDc := hD.sub (ws' := [(m0, .inr (5, [.int mfa, .int mho, .ref m2, .ref m3, .ref m4, .int mra, .int mrh, .ref m7, .ref m8, .ref m9, .ref m10, .ref m11, .ref m12, .int mch, .int mfr, .int mfw, .int mrd, .ref m17, .ref m18, .ref m19, .ref m20, .ref m21, .ref m22, .ref m23, .int mtr]))]) [0] (by decide) rfl
  have hKc := hK.sub (tys' := [(cI, .int)]) [0] rfl
  have hFc := va_free (wc := [(m0, .inr (5, [.int mfa, .int mho, .ref m2, .ref m3, .ref m4, .int mra, .int mrh, .ref m7, .ref m8, .ref m9, .ref m10, .ref m11, .ref m12, .int mch, .int mfr, .int mfw, .int mrd, .ref m17, .ref m18, .ref m19, .ref m20, .ref m21, .ref m22, .ref m23, .int mtr]))]) hD hS hA [0] rfl
  refine va_calli (va_runV (As := [.int i1]) (rest := []) ⟨hx, hb, hml, hown, hts⟩ (ctX5_noHouse l dC dI cI m0 m2 m3 m4 m7 m8 m9 m10 m11 m12 m17 m18 m19 m20 m21 m22 m23 s.heap.size mfa mho mra mrh mch mfr mfw mrd mtr i1) (cwV 1 hts gX5_answer_X5_noHouse rfl rfl rfl (by decide +kernel) ⟨Nat.le_of_ble_eq_true rfl, Nat.le_of_ble_eq_true rfl⟩) (pre_V hKc hN hPc hDc (RX5, TX5, 25) 5 0 rfl rfl) rfl rfl hl.1 rfl (lv_room (Nat.le_of_ble_eq_true rfl)) dX5_answer_2 ⟨Nat.le_of_ble_eq_true rfl, Nat.le_of_ble_eq_true rfl⟩) hS (fun q _ h => hFc q h) hFc (fun r _ t H locs ht hvm hw hB hz1 hk1 hS => ?_)
  try dsimp only at hw
  subst hw
  rw [ht] at hB
  obtain ⟨hP, hD⟩ := rw_join ([(m0, .inr (5, [.int mfa, .int mho, .ref m2, .ref m3, .ref m4, .int mra, .int mrh, .ref m7, .ref m8, .ref m9, .ref m10, .ref m11, .ref m12, .int mch, .int mfr, .int mfw, .int mrd, .ref m17, .ref m18, .ref m19, .ref m20, .ref m21, .ref m22, .ref m23, .int mtr])), (m2, .inl (cI, 6, .inl K)), (m3, .inl (cI, 6, .inl L)), (m4, .inl (cI, 6, .inl C))]) ([(m0, .inr (5, [.int mfa, .int mho, .ref m2, .ref m3, .ref m4, .int mra, .int mrh, .ref m7, .ref m8, .ref m9, .ref m10, .ref m11, .ref m12, .int mch, .int mfr, .int mfw, .int mrd, .ref m17, .ref m18, .ref m19, .ref m20, .ref m21, .ref m22, .ref m23, .int mtr])), (m2, .inl (cI, 6, .inl K)), (m3, .inl (cI, 6, .inl L)), (m4, .inl (cI, 6, .inl C))]) ([(m0, .inr (5, [.int mfa, .int mho, .ref m2, .ref m3, .ref m4, .int mra, .int mrh, .ref m7, .ref m8, .ref m9, .ref m10, .ref m11, .ref m12, .int mch, .int mfr, .int mfw, .int mrd, .ref m17, .ref m18, .ref m19, .ref m20, .ref m21, .ref m22, .ref m23, .int mtr]))]) ([(m0, .inr (5, [.int mfa, .int mho, .ref m2, .ref m3, .ref m4, .int mra, .int mrh, .ref m7, .ref m8, .ref m9, .ref m10, .ref m11, .ref m12, .int mch, .int mfr, .int mfw, .int mrd, .ref m17, .ref m18, .ref m19, .ref m20, .ref m21, .ref m22, .ref m23, .int mtr]))]) ([(m2, .inl (cI, 6, .inl K)), (m3, .inl (cI, 6, .inl L)), (m4, .inl (cI, 6, .inl C))]) hP hD [0] [1, 2, 3] [m0, m2, m3, m4] 4 rfl rfl rfl rfl rfl (by decide) rfl rfl hk1 hB
  refine lv_if_ne (tgt := 21) hx hb dX5_answer_5 (by decide) (fun c_5 => ?_) (fun c_5 => ?_)
  · skip
    refine lv_iconst (v := (-1)) hx hb dX5_answer_21 (by decide) ?_
    have hE9 : p5_answer mho K L C i1 i2 i3 = (-1) := by unfold p5_answer; rw [if_neg c_5]
    exact W.iret (v := (-1)) hx hb hr (fun t ht hW => ⟨⟨_, (), rfl, by rw [hE9], by show va_P (dC, dI) vwCl _ t.heap; rw [ht]; exact hP⟩, hS.F ht⟩) hS.2.2 dX5_answer_22
  · skip
    have j1 : vp_in i1 6 := noHouse_in hNb c_5
    refine lv_aload_n hx hb dX5_answer_8 rfl (lv_at hl 0 rfl) ?_
    refine lv_iload_n hx hb dX5_answer_9 rfl (lv_at hl 2 rfl) ?_
    have hPc := hP.sub (ws' := [(m0, .inr (5, [.int mfa, .int mho, .ref m2, .ref m3, .ref m4, .int mra, .int mrh, .ref m7, .ref m8, .ref m9, .ref m10, .ref m11, .ref m12, .int mch, .int mfr, .int mfw, .int mrd, .ref m17, .ref m18, .ref m19, .ref m20, .ref m21, .ref m22, .ref m23, .int mtr]))]) [0] rfl
    have hDc := hD.sub (ws' := [(m0, .inr (5, [.int mfa, .int mho, .ref m2, .ref m3, .ref m4, .int mra, .int mrh, .ref m7, .ref m8, .ref m9, .ref m10, .ref m11, .ref m12, .int mch, .int mfr, .int mfw, .int mrd, .ref m17, .ref m18, .ref m19, .ref m20, .ref m21, .ref m22, .ref m23, .int mtr]))]) [0] (by decide) rfl
    have hKc := hK.sub (tys' := [(cI, .int)]) [0] rfl
    have hFc := va_free (wc := [(m0, .inr (5, [.int mfa, .int mho, .ref m2, .ref m3, .ref m4, .int mra, .int mrh, .ref m7, .ref m8, .ref m9, .ref m10, .ref m11, .ref m12, .int mch, .int mfr, .int mfw, .int mrd, .ref m17, .ref m18, .ref m19, .ref m20, .ref m21, .ref m22, .ref m23, .int mtr]))]) hD hS hA [0] rfl
    refine va_calli (va_runV (As := [.int i2]) (rest := []) ⟨hx, hb, hml, hown, hts⟩ (ctX5_noHouse l dC dI cI m0 m2 m3 m4 m7 m8 m9 m10 m11 m12 m17 m18 m19 m20 m21 m22 m23 H.size mfa mho mra mrh mch mfr mfw mrd mtr i2) (cwV 1 hts gX5_answer_X5_noHouse rfl rfl rfl (by decide +kernel) ⟨Nat.le_of_ble_eq_true rfl, Nat.le_of_ble_eq_true rfl⟩) (pre_V hKc hN hPc hDc (RX5, TX5, 25) 5 0 rfl rfl) rfl rfl hl.1 rfl (lv_room (Nat.le_of_ble_eq_true rfl)) dX5_answer_10 ⟨Nat.le_of_ble_eq_true rfl, Nat.le_of_ble_eq_true rfl⟩) hS (fun q _ h => hFc q h) hFc (fun r _ t H locs ht hvm hw hB hz1 hk1 hS => ?_)
    try dsimp only at hw
    subst hw
    rw [ht] at hB
    obtain ⟨hP, hD⟩ := rw_join ([(m0, .inr (5, [.int mfa, .int mho, .ref m2, .ref m3, .ref m4, .int mra, .int mrh, .ref m7, .ref m8, .ref m9, .ref m10, .ref m11, .ref m12, .int mch, .int mfr, .int mfw, .int mrd, .ref m17, .ref m18, .ref m19, .ref m20, .ref m21, .ref m22, .ref m23, .int mtr])), (m2, .inl (cI, 6, .inl K)), (m3, .inl (cI, 6, .inl L)), (m4, .inl (cI, 6, .inl C))]) ([(m0, .inr (5, [.int mfa, .int mho, .ref m2, .ref m3, .ref m4, .int mra, .int mrh, .ref m7, .ref m8, .ref m9, .ref m10, .ref m11, .ref m12, .int mch, .int mfr, .int mfw, .int mrd, .ref m17, .ref m18, .ref m19, .ref m20, .ref m21, .ref m22, .ref m23, .int mtr])), (m2, .inl (cI, 6, .inl K)), (m3, .inl (cI, 6, .inl L)), (m4, .inl (cI, 6, .inl C))]) ([(m0, .inr (5, [.int mfa, .int mho, .ref m2, .ref m3, .ref m4, .int mra, .int mrh, .ref m7, .ref m8, .ref m9, .ref m10, .ref m11, .ref m12, .int mch, .int mfr, .int mfw, .int mrd, .ref m17, .ref m18, .ref m19, .ref m20, .ref m21, .ref m22, .ref m23, .int mtr]))]) ([(m0, .inr (5, [.int mfa, .int mho, .ref m2, .ref m3, .ref m4, .int mra, .int mrh, .ref m7, .ref m8, .ref m9, .ref m10, .ref m11, .ref m12, .int mch, .int mfr, .int mfw, .int mrd, .ref m17, .ref m18, .ref m19, .ref m20, .ref m21, .ref m22, .ref m23, .int mtr]))]) ([(m2, .inl (cI, 6, .inl K)), (m3, .inl (cI, 6, .inl L)), (m4, .inl (cI, 6, .inl C))]) hP hD [0] [1, 2, 3] [m0, m2, m3, m4] 4 rfl rfl rfl rfl rfl (by decide) rfl rfl hk1 hB
    refine lv_if_ne (tgt := 21) hx hb dX5_answer_13 (by decide) (fun c_13 => ?_) (fun c_13 => ?_)
    · skip
      refine lv_iconst (v := (-1)) hx hb dX5_answer_21 (by decide) ?_
      have hE9 : p5_answer mho K L C i1 i2 i3 = (-1) := by unfold p5_answer; rw [if_pos c_5, if_neg c_13]
      exact W.iret (v := (-1)) hx hb hr (fun t ht hW => ⟨⟨_, (), rfl, by rw [hE9], by show va_P (dC, dI) vwCl _ t.heap; rw [ht]; exact hP⟩, hS.F ht⟩) hS.2.2 dX5_answer_22
    · skip
      have j2 : vp_in i2 6 := noHouse_in hNb c_13
      refine lv_iload_n hx hb dX5_answer_16 rfl (lv_at hl 1 rfl) ?_
      refine lv_iload_n hx hb dX5_answer_17 rfl (lv_at hl 2 rfl) ?_
      refine lv_icmp_ne (tgt := 23) hx hb dX5_answer_18 (by decide) (fun c_18 => ?_) (fun c_18 => ?_)
      · skip
        refine lv_aload_n hx hb dX5_answer_23 rfl (lv_at hl 0 rfl) ?_
        refine lv_iload_n hx hb dX5_answer_24 rfl (lv_at hl 1 rfl) ?_
        refine lv_iload_n hx hb dX5_answer_25 rfl (lv_at hl 2 rfl) ?_
        have hPc := hP.sub (ws' := [(m0, .inr (5, [.int mfa, .int mho, .ref m2, .ref m3, .ref m4, .int mra, .int mrh, .ref m7, .ref m8, .ref m9, .ref m10, .ref m11, .ref m12, .int mch, .int mfr, .int mfw, .int mrd, .ref m17, .ref m18, .ref m19, .ref m20, .ref m21, .ref m22, .ref m23, .int mtr])), (m3, .inl (cI, 6, .inl L))]) [0, 2] rfl
        have hDc := hD.sub (ws' := [(m0, .inr (5, [.int mfa, .int mho, .ref m2, .ref m3, .ref m4, .int mra, .int mrh, .ref m7, .ref m8, .ref m9, .ref m10, .ref m11, .ref m12, .int mch, .int mfr, .int mfw, .int mrd, .ref m17, .ref m18, .ref m19, .ref m20, .ref m21, .ref m22, .ref m23, .int mtr])), (m3, .inl (cI, 6, .inl L))]) [0, 2] (by decide) rfl
        have hKc := hK.sub (tys' := [(cI, .int)]) [0] rfl
        have hFc := va_free (wc := [(m0, .inr (5, [.int mfa, .int mho, .ref m2, .ref m3, .ref m4, .int mra, .int mrh, .ref m7, .ref m8, .ref m9, .ref m10, .ref m11, .ref m12, .int mch, .int mfr, .int mfw, .int mrd, .ref m17, .ref m18, .ref m19, .ref m20, .ref m21, .ref m22, .ref m23, .int mtr])), (m3, .inl (cI, 6, .inl L))]) hD hS hA [0, 2] rfl
        refine va_calli (va_runV (As := [.int i1, .int i2]) (rest := []) ⟨hx, hb, hml, hown, hts⟩ (ctX5_mayPoint l dC dI cI m0 m2 m3 m4 m7 m8 m9 m10 m11 m12 m17 m18 m19 m20 m21 m22 m23 H.size mfa mho mra mrh mch mfr mfw mrd mtr L i1 i2 (by assumption) (by assumption)) (cwV 2 hts gX5_answer_X5_mayPoint rfl rfl rfl (by decide +kernel) ⟨Nat.le_of_ble_eq_true rfl, Nat.le_of_ble_eq_true rfl⟩) (pre_V hKc hN hPc hDc (RX5, TX5, 25) 5 0 rfl rfl) rfl rfl hl.1 rfl (lv_room (Nat.le_of_ble_eq_true rfl)) dX5_answer_26 ⟨Nat.le_of_ble_eq_true rfl, Nat.le_of_ble_eq_true rfl⟩) hS (fun q _ h => hFc q h) hFc (fun r _ t H locs ht hvm hw hB hz1 hk1 hS => ?_)
        try dsimp only at hw
        subst hw
        rw [ht] at hB
        obtain ⟨hP, hD⟩ := rw_join ([(m0, .inr (5, [.int mfa, .int mho, .ref m2, .ref m3, .ref m4, .int mra, .int mrh, .ref m7, .ref m8, .ref m9, .ref m10, .ref m11, .ref m12, .int mch, .int mfr, .int mfw, .int mrd, .ref m17, .ref m18, .ref m19, .ref m20, .ref m21, .ref m22, .ref m23, .int mtr])), (m2, .inl (cI, 6, .inl K)), (m3, .inl (cI, 6, .inl L)), (m4, .inl (cI, 6, .inl C))]) ([(m0, .inr (5, [.int mfa, .int mho, .ref m2, .ref m3, .ref m4, .int mra, .int mrh, .ref m7, .ref m8, .ref m9, .ref m10, .ref m11, .ref m12, .int mch, .int mfr, .int mfw, .int mrd, .ref m17, .ref m18, .ref m19, .ref m20, .ref m21, .ref m22, .ref m23, .int mtr])), (m2, .inl (cI, 6, .inl K)), (m3, .inl (cI, 6, .inl L)), (m4, .inl (cI, 6, .inl C))]) ([(m0, .inr (5, [.int mfa, .int mho, .ref m2, .ref m3, .ref m4, .int mra, .int mrh, .ref m7, .ref m8, .ref m9, .ref m10, .ref m11, .ref m12, .int mch, .int mfr, .int mfw, .int mrd, .ref m17, .ref m18, .ref m19, .ref m20, .ref m21, .ref m22, .ref m23, .int mtr])), (m3, .inl (cI, 6, .inl L))]) ([(m0, .inr (5, [.int mfa, .int mho, .ref m2, .ref m3, .ref m4, .int mra, .int mrh, .ref m7, .ref m8, .ref m9, .ref m10, .ref m11, .ref m12, .int mch, .int mfr, .int mfw, .int mrd, .ref m17, .ref m18, .ref m19, .ref m20, .ref m21, .ref m22, .ref m23, .int mtr])), (m3, .inl (cI, 6, .inl L))]) ([(m2, .inl (cI, 6, .inl K)), (m4, .inl (cI, 6, .inl C))]) hP hD [0, 2] [1, 3] [m0, m2, m3, m4] 4 rfl rfl rfl rfl rfl (by decide) rfl rfl hk1 hB
        refine lv_if_ne (tgt := 35) hx hb dX5_answer_29 (by decide) (fun c_29 => ?_) (fun c_29 => ?_)
        · skip
          refine lv_iload_n hx hb dX5_answer_35 rfl (lv_at hl 3 rfl) ?_
          have hPc : va_P (dC, dI) vwCl [] H := hP.sub (ws' := []) [] rfl
          have hDc : va_D A [] := hD.sub (ws' := []) [] (by decide) rfl
          have hKc := hK.sub (tys' := [(cI, .int)]) [0] rfl
          have hFc := va_free (wc := []) hD hS hA [] rfl
          refine va_calli (va_runS (As := [.int i3]) (rest := []) ⟨hx, hb, hml, hown, hts⟩ (ctX5_noCost l dC dI cI H.size i3) (va_cwS 1 hts gX5_answer_X5_noCost rfl rfl rfl (by decide +kernel) ⟨Nat.le_of_ble_eq_true rfl, Nat.le_of_ble_eq_true rfl⟩) (pre_S hKc hN hPc hDc) rfl rfl hl.1 rfl (lv_room (Nat.le_of_ble_eq_true rfl)) dX5_answer_36 ⟨Nat.le_of_ble_eq_true rfl, Nat.le_of_ble_eq_true rfl⟩) hS (fun q _ h => hFc q h) hFc (fun r _ t H locs ht hvm hw hB hz1 hk1 hS => ?_)
          try dsimp only at hw
          subst hw
          rw [ht] at hB
          obtain ⟨hP, hD⟩ := rw_join ([(m0, .inr (5, [.int mfa, .int mho, .ref m2, .ref m3, .ref m4, .int mra, .int mrh, .ref m7, .ref m8, .ref m9, .ref m10, .ref m11, .ref m12, .int mch, .int mfr, .int mfw, .int mrd, .ref m17, .ref m18, .ref m19, .ref m20, .ref m21, .ref m22, .ref m23, .int mtr])), (m2, .inl (cI, 6, .inl K)), (m3, .inl (cI, 6, .inl L)), (m4, .inl (cI, 6, .inl C))]) ([(m0, .inr (5, [.int mfa, .int mho, .ref m2, .ref m3, .ref m4, .int mra, .int mrh, .ref m7, .ref m8, .ref m9, .ref m10, .ref m11, .ref m12, .int mch, .int mfr, .int mfw, .int mrd, .ref m17, .ref m18, .ref m19, .ref m20, .ref m21, .ref m22, .ref m23, .int mtr])), (m2, .inl (cI, 6, .inl K)), (m3, .inl (cI, 6, .inl L)), (m4, .inl (cI, 6, .inl C))]) ([]) ([]) ([(m0, .inr (5, [.int mfa, .int mho, .ref m2, .ref m3, .ref m4, .int mra, .int mrh, .ref m7, .ref m8, .ref m9, .ref m10, .ref m11, .ref m12, .int mch, .int mfr, .int mfw, .int mrd, .ref m17, .ref m18, .ref m19, .ref m20, .ref m21, .ref m22, .ref m23, .int mtr])), (m2, .inl (cI, 6, .inl K)), (m3, .inl (cI, 6, .inl L)), (m4, .inl (cI, 6, .inl C))]) hP hD [] [0, 1, 2, 3] [m0, m2, m3, m4] 4 rfl rfl rfl rfl rfl (by decide) rfl rfl hk1 hB
          refine lv_if_eq (tgt := 45) hx hb dX5_answer_39 (by decide) (fun c_39 => ?_) (fun c_39 => ?_)
          · skip
            refine lv_aload_n hx hb dX5_answer_45 rfl (lv_at hl 0 rfl) ?_
            refine lv_iload_n hx hb dX5_answer_46 rfl (lv_at hl 1 rfl) ?_
            refine lv_iload_n hx hb dX5_answer_47 rfl (lv_at hl 2 rfl) ?_
            refine lv_iload_n hx hb dX5_answer_48 rfl (lv_at hl 3 rfl) ?_
            have hPc := hP.sub (ws' := [(m0, .inr (5, [.int mfa, .int mho, .ref m2, .ref m3, .ref m4, .int mra, .int mrh, .ref m7, .ref m8, .ref m9, .ref m10, .ref m11, .ref m12, .int mch, .int mfr, .int mfw, .int mrd, .ref m17, .ref m18, .ref m19, .ref m20, .ref m21, .ref m22, .ref m23, .int mtr])), (m2, .inl (cI, 6, .inl K)), (m3, .inl (cI, 6, .inl L)), (m4, .inl (cI, 6, .inl C))]) [0, 1, 2, 3] rfl
            have hDc := hD.sub (ws' := [(m0, .inr (5, [.int mfa, .int mho, .ref m2, .ref m3, .ref m4, .int mra, .int mrh, .ref m7, .ref m8, .ref m9, .ref m10, .ref m11, .ref m12, .int mch, .int mfr, .int mfw, .int mrd, .ref m17, .ref m18, .ref m19, .ref m20, .ref m21, .ref m22, .ref m23, .int mtr])), (m2, .inl (cI, 6, .inl K)), (m3, .inl (cI, 6, .inl L)), (m4, .inl (cI, 6, .inl C))]) [0, 1, 2, 3] (by decide) rfl
            have hKc := hK.sub (tys' := [(cI, .int)]) [0] rfl
            have hFc := va_free (wc := [(m0, .inr (5, [.int mfa, .int mho, .ref m2, .ref m3, .ref m4, .int mra, .int mrh, .ref m7, .ref m8, .ref m9, .ref m10, .ref m11, .ref m12, .int mch, .int mfr, .int mfw, .int mrd, .ref m17, .ref m18, .ref m19, .ref m20, .ref m21, .ref m22, .ref m23, .int mtr])), (m2, .inl (cI, 6, .inl K)), (m3, .inl (cI, 6, .inl L)), (m4, .inl (cI, 6, .inl C))]) hD hS hA [0, 1, 2, 3] rfl
            refine va_calli (va_runV (As := [.int i1, .int i2, .int i3]) (rest := []) ⟨hx, hb, hml, hown, hts⟩ (ctX5_doesChange l dC dI cI m0 m2 m3 m4 m7 m8 m9 m10 m11 m12 m17 m18 m19 m20 m21 m22 m23 H.size mfa mho mra mrh mch mfr mfw mrd mtr K L C i1 i2 i3 (by assumption) (by assumption)) (cwV 3 hts gX5_answer_X5_doesChange rfl rfl rfl (by decide +kernel) ⟨Nat.le_of_ble_eq_true rfl, Nat.le_of_ble_eq_true rfl⟩) (pre_V hKc hN hPc hDc (RX5, TX5, 25) 5 0 rfl rfl) rfl rfl hl.1 rfl (lv_room (Nat.le_of_ble_eq_true rfl)) dX5_answer_49 ⟨Nat.le_of_ble_eq_true rfl, Nat.le_of_ble_eq_true rfl⟩) hS (fun q _ h => hFc q h) hFc (fun r _ t H locs ht hvm hw hB hz1 hk1 hS => ?_)
            try dsimp only at hw
            subst hw
            rw [ht] at hB
            obtain ⟨hP, hD⟩ := rw_join ([(m0, .inr (5, [.int mfa, .int mho, .ref m2, .ref m3, .ref m4, .int mra, .int mrh, .ref m7, .ref m8, .ref m9, .ref m10, .ref m11, .ref m12, .int mch, .int mfr, .int mfw, .int mrd, .ref m17, .ref m18, .ref m19, .ref m20, .ref m21, .ref m22, .ref m23, .int mtr])), (m2, .inl (cI, 6, .inl K)), (m3, .inl (cI, 6, .inl L)), (m4, .inl (cI, 6, .inl C))]) ([(m0, .inr (5, [.int mfa, .int mho, .ref m2, .ref m3, .ref m4, .int mra, .int mrh, .ref m7, .ref m8, .ref m9, .ref m10, .ref m11, .ref m12, .int mch, .int mfr, .int mfw, .int mrd, .ref m17, .ref m18, .ref m19, .ref m20, .ref m21, .ref m22, .ref m23, .int mtr])), (m2, .inl (cI, 6, .inl K)), (m3, .inl (cI, 6, .inl L)), (m4, .inl (cI, 6, .inl C))]) ([(m0, .inr (5, [.int mfa, .int mho, .ref m2, .ref m3, .ref m4, .int mra, .int mrh, .ref m7, .ref m8, .ref m9, .ref m10, .ref m11, .ref m12, .int mch, .int mfr, .int mfw, .int mrd, .ref m17, .ref m18, .ref m19, .ref m20, .ref m21, .ref m22, .ref m23, .int mtr])), (m2, .inl (cI, 6, .inl K)), (m3, .inl (cI, 6, .inl L)), (m4, .inl (cI, 6, .inl C))]) ([(m0, .inr (5, [.int mfa, .int mho, .ref m2, .ref m3, .ref m4, .int mra, .int mrh, .ref m7, .ref m8, .ref m9, .ref m10, .ref m11, .ref m12, .int mch, .int mfr, .int mfw, .int mrd, .ref m17, .ref m18, .ref m19, .ref m20, .ref m21, .ref m22, .ref m23, .int mtr])), (m2, .inl (cI, 6, .inl K)), (m3, .inl (cI, 6, .inl L)), (m4, .inl (cI, 6, .inl C))]) ([]) hP hD [0, 1, 2, 3] [] [m0, m2, m3, m4] 4 rfl rfl rfl rfl rfl (by decide) rfl rfl hk1 hB
            refine lv_if_eq (tgt := 59) hx hb dX5_answer_52 (by decide) (fun c_52 => ?_) (fun c_52 => ?_)
            · skip
              refine lv_iconst (v := 0) hx hb dX5_answer_59 (by decide) ?_
              have hE9 : p5_answer mho K L C i1 i2 i3 = 0 := by unfold p5_answer; rw [if_pos c_5, if_pos c_13, if_neg c_18, if_neg c_29, if_pos c_39, if_pos c_52]
              exact W.iret (v := 0) hx hb hr (fun t ht hW => ⟨⟨_, (), rfl, by rw [hE9], by show va_P (dC, dI) vwCl _ t.heap; rw [ht]; exact hP⟩, hS.F ht⟩) hS.2.2 dX5_answer_60
            · skip
              refine lv_iconst (v := 1) hx hb dX5_answer_55 (by decide) ?_
              refine lv_goto (tgt := 60) hx hb dX5_answer_56 (by decide) ?_
              have hE9 : p5_answer mho K L C i1 i2 i3 = 1 := by unfold p5_answer; rw [if_pos c_5, if_pos c_13, if_neg c_18, if_neg c_29, if_pos c_39, if_neg c_52]
              exact W.iret (v := 1) hx hb hr (fun t ht hW => ⟨⟨_, (), rfl, by rw [hE9], by show va_P (dC, dI) vwCl _ t.heap; rw [ht]; exact hP⟩, hS.F ht⟩) hS.2.2 dX5_answer_60
          · skip
            refine lv_bipush (v := (-2)) hx hb dX5_answer_42 (by decide) ?_
            have hE9 : p5_answer mho K L C i1 i2 i3 = (-2) := by unfold p5_answer; rw [if_pos c_5, if_pos c_13, if_neg c_18, if_neg c_29, if_neg c_39]
            exact W.iret (v := (-2)) hx hb hr (fun t ht hW => ⟨⟨_, (), rfl, by rw [hE9], by show va_P (dC, dI) vwCl _ t.heap; rw [ht]; exact hP⟩, hS.F ht⟩) hS.2.2 dX5_answer_44
        · skip
          refine lv_bipush (v := (-3)) hx hb dX5_answer_32 (by decide) ?_
          have hE9 : p5_answer mho K L C i1 i2 i3 = (-3) := by unfold p5_answer; rw [if_pos c_5, if_pos c_13, if_neg c_18, if_pos c_29]
          exact W.iret (v := (-3)) hx hb hr (fun t ht hW => ⟨⟨_, (), rfl, by rw [hE9], by show va_P (dC, dI) vwCl _ t.heap; rw [ht]; exact hP⟩, hS.F ht⟩) hS.2.2 dX5_answer_34
      · skip
        refine lv_iconst (v := (-1)) hx hb dX5_answer_21 (by decide) ?_
        have hE9 : p5_answer mho K L C i1 i2 i3 = (-1) := by unfold p5_answer; rw [if_pos c_5, if_pos c_13, if_pos c_18]
        exact W.iret (v := (-1)) hx hb hr (fun t ht hW => ⟨⟨_, (), rfl, by rw [hE9], by show va_P (dC, dI) vwCl _ t.heap; rw [ht]; exact hP⟩, hS.F ht⟩) hS.2.2 dX5_answer_22

def p5_choice (mho : Int32) (K : Nat → Int32) (L : Nat → Int32) (C : Nat → Int32) (i1 : Int32) (i2 : Int32) (i3 : Int32) : Int32 :=
  if (p5_noHouse mho i1) = 0 then
    if (p5_noCost i2) = 0 then
      if i3 = 0 then
        (p5_choiceOf mho K L C i1 i2)
      else
        if i3 = 1 then
          (p5_worthBy K L C i1 (p5_choiceOf mho K L C i1 i2) i2)
        else
          if i3 = 2 then
            (p5_payerOf K L C i1 (p5_choiceOf mho K L C i1 i2) i2)
          else
            if i3 = 3 then
              if (p5_isFair mho K L C i1 (p5_choiceOf mho K L C i1 i2) i2) = 0 then
                0
              else
                1
            else
              (-2)
    else
      (-2)
  else
    (-1)
abbrev rmX5_choice : Room := { frames := 5, cells := 0, slots := 0, locals := 118 }
abbrev QX5_choice (dC : Nat → ClassId) (dI : Nat → Nat → Nat) (A : Nat → Prop) (cI : ClassId) (m0 : Nat) (m2 : Nat) (m3 : Nat) (m4 : Nat) (m7 : Nat) (m8 : Nat) (m9 : Nat) (m10 : Nat) (m11 : Nat) (m12 : Nat) (m17 : Nat) (m18 : Nat) (m19 : Nat) (m20 : Nat) (m21 : Nat) (m22 : Nat) (m23 : Nat) (mfa : Int32) (mho : Int32) (mra : Int32) (mrh : Int32) (mch : Int32) (mfr : Int32) (mfw : Int32) (mrd : Int32) (mtr : Int32) (K : Nat → Int32) (L : Nat → Int32) (C : Nat → Int32) (i1 : Int32) (i2 : Int32) (i3 : Int32) : Array Value → State → Outcome → State → Prop := va_Qi (fun (r : Int32) (_ : Unit) => r = p5_choice mho K L C i1 i2 i3) (fun (_ : Unit) (t : State) => va_P (dC, dI) vwCl ([(m0, .inr (5, [.int mfa, .int mho, .ref m2, .ref m3, .ref m4, .int mra, .int mrh, .ref m7, .ref m8, .ref m9, .ref m10, .ref m11, .ref m12, .int mch, .int mfr, .int mfw, .int mrd, .ref m17, .ref m18, .ref m19, .ref m20, .ref m21, .ref m22, .ref m23, .int mtr])), (m2, .inl (cI, 6, .inl K)), (m3, .inl (cI, 6, .inl L)), (m4, .inl (cI, 6, .inl C))]) t.heap) A
set_option maxHeartbeats 4000000 in
set_option maxRecDepth 100000 in
theorem ctX5_choice (l : Launch) (dC : Nat → ClassId) (dI : Nat → Nat → Nat) (cI : ClassId) (m0 : Nat) (m2 : Nat) (m3 : Nat) (m4 : Nat) (m7 : Nat) (m8 : Nat) (m9 : Nat) (m10 : Nat) (m11 : Nat) (m12 : Nat) (m17 : Nat) (m18 : Nat) (m19 : Nat) (m20 : Nat) (m21 : Nat) (m22 : Nat) (m23 : Nat) (sz : Nat) (mfa : Int32) (mho : Int32) (mra : Int32) (mrh : Int32) (mch : Int32) (mfr : Int32) (mfw : Int32) (mrd : Int32) (mtr : Int32) (K : Nat → Int32) (L : Nat → Int32) (C : Nat → Int32) (i1 : Int32) (i2 : Int32) (i3 : Int32) (hNb : mho.toInt ≤ 6) : Met l yX5_choice wsX5_choice rmX5_choice (va_Pc [.ref m0, .int i1, .int i2, .int i3] (cP dC dI [(cI, .int)] ([(m0, .inr (5, [.int mfa, .int mho, .ref m2, .ref m3, .ref m4, .int mra, .int mrh, .ref m7, .ref m8, .ref m9, .ref m10, .ref m11, .ref m12, .int mch, .int mfr, .int mfw, .int mrd, .ref m17, .ref m18, .ref m19, .ref m20, .ref m21, .ref m22, .ref m23, .int mtr])), (m2, .inl (cI, 6, .inl K)), (m3, .inl (cI, 6, .inl L)), (m4, .inl (cI, 6, .inl C))]) sz)) (QX5_choice dC dI (va_A ([(m0, .inr (5, [.int mfa, .int mho, .ref m2, .ref m3, .ref m4, .int mra, .int mrh, .ref m7, .ref m8, .ref m9, .ref m10, .ref m11, .ref m12, .int mch, .int mfr, .int mfw, .int mrd, .ref m17, .ref m18, .ref m19, .ref m20, .ref m21, .ref m22, .ref m23, .int mtr])), (m2, .inl (cI, 6, .inl K)), (m3, .inl (cI, 6, .inl L)), (m4, .inl (cI, 6, .inl C))]) sz) cI m0 m2 m3 m4 m7 m8 m9 m10 m11 m12 m17 m18 m19 m20 m21 m22 m23 mfa mho mra mrh mch mfr mfw mrd mtr K L C i1 i2 i3) 0 0 (va_A ([(m0, .inr (5, [.int mfa, .int mho, .ref m2, .ref m3, .ref m4, .int mra, .int mrh, .ref m7, .ref m8, .ref m9, .ref m10, .ref m11, .ref m12, .int mch, .int mfr, .int mfw, .int mrd, .ref m17, .ref m18, .ref m19, .ref m20, .ref m21, .ref m22, .ref m23, .int mtr])), (m2, .inl (cI, 6, .inl K)), (m3, .inl (cI, 6, .inl L)), (m4, .inl (cI, 6, .inl C))]) sz) := by
  refine Met.ofW (cc := cX5_choice) (maxL := 5) (ret := (some .int)) (by decide) rfl ?_
  intro p e s m args below meth c s₁ B hml hv
  obtain ⟨rfl, hsz, hP, hK, hD0, hN⟩ := hv
  have hx := B.exec
  have hb := B.bytes
  have hr := B.returns
  have hts := atoms_spec (ws := wsX5_choice) B.pre
  have hown : s.vm.findClass RX5 = some m.cls := findClass_of_methodNamed B.named
  have hlocks := B.notSynchronized
  subst hsz
  have hD := hD0.self (sz := s.heap.size)
  generalize hAe : va_A ([(m0, .inr (5, [.int mfa, .int mho, .ref m2, .ref m3, .ref m4, .int mra, .int mrh, .ref m7, .ref m8, .ref m9, .ref m10, .ref m11, .ref m12, .int mch, .int mfr, .int mfw, .int mrd, .ref m17, .ref m18, .ref m19, .ref m20, .ref m21, .ref m22, .ref m23, .int mtr])), (m2, .inl (cI, 6, .inl K)), (m3, .inl (cI, 6, .inl L)), (m4, .inl (cI, 6, .inl C))]) s.heap.size = A at hD ⊢
  have hA : ∀ q : Nat, s.heap.size ≤ q → A q := fun q h => by rw [← hAe]; exact Or.inr h
  have hS : va_S A s.heap s.heap [] := va_S.rf
  have hP : va_P (dC, dI) vwCl ([(m0, .inr (5, [.int mfa, .int mho, .ref m2, .ref m3, .ref m4, .int mra, .int mrh, .ref m7, .ref m8, .ref m9, .ref m10, .ref m11, .ref m12, .int mch, .int mfr, .int mfw, .int mrd, .ref m17, .ref m18, .ref m19, .ref m20, .ref m21, .ref m22, .ref m23, .int mtr])), (m2, .inl (cI, 6, .inl K)), (m3, .inl (cI, 6, .inl L)), (m4, .inl (cI, 6, .inl C))]) s.heap := hP
  have hl := lv_entry ([.ref m0, .int i1, .int i2, .int i3]) (n := 5) (Nat.le_of_ble_eq_true rfl)
  rw [lg_entry_eq]
  generalize (lg_sl ([.ref m0, .int i1, .int i2, .int i3]) ++ List.replicate (5 - (lg_sl ([.ref m0, .int i1, .int i2, .int i3])).length) Slot.unset).toArray = ls at hl ⊢
  have hl : lv_has ls 5 [(0, .ref m0), (1, .int i1), (2, .int i2), (3, .int i3)] := hl
  refine lv_aload_n hx hb dX5_choice_0 rfl (lv_at hl 0 rfl) ?_
  refine lv_iload_n hx hb dX5_choice_1 rfl (lv_at hl 1 rfl) ?_
  have hPc := hP.sub (ws' := [(m0, .inr (5, [.int mfa, .int mho, .ref m2, .ref m3, .ref m4, .int mra, .int mrh, .ref m7, .ref m8, .ref m9, .ref m10, .ref m11, .ref m12, .int mch, .int mfr, .int mfw, .int mrd, .ref m17, .ref m18, .ref m19, .ref m20, .ref m21, .ref m22, .ref m23, .int mtr]))]) [0] rfl
  have hDc := hD.sub (ws' := [(m0, .inr (5, [.int mfa, .int mho, .ref m2, .ref m3, .ref m4, .int mra, .int mrh, .ref m7, .ref m8, .ref m9, .ref m10, .ref m11, .ref m12, .int mch, .int mfr, .int mfw, .int mrd, .ref m17, .ref m18, .ref m19, .ref m20, .ref m21, .ref m22, .ref m23, .int mtr]))]) [0] (by decide) rfl
  have hKc := hK.sub (tys' := [(cI, .int)]) [0] rfl
  have hFc := va_free (wc := [(m0, .inr (5, [.int mfa, .int mho, .ref m2, .ref m3, .ref m4, .int mra, .int mrh, .ref m7, .ref m8, .ref m9, .ref m10, .ref m11, .ref m12, .int mch, .int mfr, .int mfw, .int mrd, .ref m17, .ref m18, .ref m19, .ref m20, .ref m21, .ref m22, .ref m23, .int mtr]))]) hD hS hA [0] rfl
  refine va_calli (va_runV (As := [.int i1]) (rest := []) ⟨hx, hb, hml, hown, hts⟩ (ctX5_noHouse l dC dI cI m0 m2 m3 m4 m7 m8 m9 m10 m11 m12 m17 m18 m19 m20 m21 m22 m23 s.heap.size mfa mho mra mrh mch mfr mfw mrd mtr i1) (cwV 1 hts gX5_choice_X5_noHouse rfl rfl rfl (by decide +kernel) ⟨Nat.le_of_ble_eq_true rfl, Nat.le_of_ble_eq_true rfl⟩) (pre_V hKc hN hPc hDc (RX5, TX5, 25) 5 0 rfl rfl) rfl rfl hl.1 rfl (lv_room (Nat.le_of_ble_eq_true rfl)) dX5_choice_2 ⟨Nat.le_of_ble_eq_true rfl, Nat.le_of_ble_eq_true rfl⟩) hS (fun q _ h => hFc q h) hFc (fun r _ t H locs ht hvm hw hB hz1 hk1 hS => ?_)
  try dsimp only at hw
  subst hw
  rw [ht] at hB
  obtain ⟨hP, hD⟩ := rw_join ([(m0, .inr (5, [.int mfa, .int mho, .ref m2, .ref m3, .ref m4, .int mra, .int mrh, .ref m7, .ref m8, .ref m9, .ref m10, .ref m11, .ref m12, .int mch, .int mfr, .int mfw, .int mrd, .ref m17, .ref m18, .ref m19, .ref m20, .ref m21, .ref m22, .ref m23, .int mtr])), (m2, .inl (cI, 6, .inl K)), (m3, .inl (cI, 6, .inl L)), (m4, .inl (cI, 6, .inl C))]) ([(m0, .inr (5, [.int mfa, .int mho, .ref m2, .ref m3, .ref m4, .int mra, .int mrh, .ref m7, .ref m8, .ref m9, .ref m10, .ref m11, .ref m12, .int mch, .int mfr, .int mfw, .int mrd, .ref m17, .ref m18, .ref m19, .ref m20, .ref m21, .ref m22, .ref m23, .int mtr])), (m2, .inl (cI, 6, .inl K)), (m3, .inl (cI, 6, .inl L)), (m4, .inl (cI, 6, .inl C))]) ([(m0, .inr (5, [.int mfa, .int mho, .ref m2, .ref m3, .ref m4, .int mra, .int mrh, .ref m7, .ref m8, .ref m9, .ref m10, .ref m11, .ref m12, .int mch, .int mfr, .int mfw, .int mrd, .ref m17, .ref m18, .ref m19, .ref m20, .ref m21, .ref m22, .ref m23, .int mtr]))]) ([(m0, .inr (5, [.int mfa, .int mho, .ref m2, .ref m3, .ref m4, .int mra, .int mrh, .ref m7, .ref m8, .ref m9, .ref m10, .ref m11, .ref m12, .int mch, .int mfr, .int mfw, .int mrd, .ref m17, .ref m18, .ref m19, .ref m20, .ref m21, .ref m22, .ref m23, .int mtr]))]) ([(m2, .inl (cI, 6, .inl K)), (m3, .inl (cI, 6, .inl L)), (m4, .inl (cI, 6, .inl C))]) hP hD [0] [1, 2, 3] [m0, m2, m3, m4] 4 rfl rfl rfl rfl rfl (by decide) rfl rfl hk1 hB
  refine lv_if_eq (tgt := 10) hx hb dX5_choice_5 (by decide) (fun c_5 => ?_) (fun c_5 => ?_)
  · skip
    have j1 : vp_in i1 6 := noHouse_in hNb c_5
    refine lv_iload_n hx hb dX5_choice_10 rfl (lv_at hl 2 rfl) ?_
    have hPc : va_P (dC, dI) vwCl [] H := hP.sub (ws' := []) [] rfl
    have hDc : va_D A [] := hD.sub (ws' := []) [] (by decide) rfl
    have hKc := hK.sub (tys' := [(cI, .int)]) [0] rfl
    have hFc := va_free (wc := []) hD hS hA [] rfl
    refine va_calli (va_runS (As := [.int i2]) (rest := []) ⟨hx, hb, hml, hown, hts⟩ (ctX5_noCost l dC dI cI H.size i2) (va_cwS 1 hts gX5_choice_X5_noCost rfl rfl rfl (by decide +kernel) ⟨Nat.le_of_ble_eq_true rfl, Nat.le_of_ble_eq_true rfl⟩) (pre_S hKc hN hPc hDc) rfl rfl hl.1 rfl (lv_room (Nat.le_of_ble_eq_true rfl)) dX5_choice_11 ⟨Nat.le_of_ble_eq_true rfl, Nat.le_of_ble_eq_true rfl⟩) hS (fun q _ h => hFc q h) hFc (fun r _ t H locs ht hvm hw hB hz1 hk1 hS => ?_)
    try dsimp only at hw
    subst hw
    rw [ht] at hB
    obtain ⟨hP, hD⟩ := rw_join ([(m0, .inr (5, [.int mfa, .int mho, .ref m2, .ref m3, .ref m4, .int mra, .int mrh, .ref m7, .ref m8, .ref m9, .ref m10, .ref m11, .ref m12, .int mch, .int mfr, .int mfw, .int mrd, .ref m17, .ref m18, .ref m19, .ref m20, .ref m21, .ref m22, .ref m23, .int mtr])), (m2, .inl (cI, 6, .inl K)), (m3, .inl (cI, 6, .inl L)), (m4, .inl (cI, 6, .inl C))]) ([(m0, .inr (5, [.int mfa, .int mho, .ref m2, .ref m3, .ref m4, .int mra, .int mrh, .ref m7, .ref m8, .ref m9, .ref m10, .ref m11, .ref m12, .int mch, .int mfr, .int mfw, .int mrd, .ref m17, .ref m18, .ref m19, .ref m20, .ref m21, .ref m22, .ref m23, .int mtr])), (m2, .inl (cI, 6, .inl K)), (m3, .inl (cI, 6, .inl L)), (m4, .inl (cI, 6, .inl C))]) ([]) ([]) ([(m0, .inr (5, [.int mfa, .int mho, .ref m2, .ref m3, .ref m4, .int mra, .int mrh, .ref m7, .ref m8, .ref m9, .ref m10, .ref m11, .ref m12, .int mch, .int mfr, .int mfw, .int mrd, .ref m17, .ref m18, .ref m19, .ref m20, .ref m21, .ref m22, .ref m23, .int mtr])), (m2, .inl (cI, 6, .inl K)), (m3, .inl (cI, 6, .inl L)), (m4, .inl (cI, 6, .inl C))]) hP hD [] [0, 1, 2, 3] [m0, m2, m3, m4] 4 rfl rfl rfl rfl rfl (by decide) rfl rfl hk1 hB
    refine lv_if_eq (tgt := 20) hx hb dX5_choice_14 (by decide) (fun c_14 => ?_) (fun c_14 => ?_)
    · skip
      refine lv_aload_n hx hb dX5_choice_20 rfl (lv_at hl 0 rfl) ?_
      refine lv_iload_n hx hb dX5_choice_21 rfl (lv_at hl 1 rfl) ?_
      refine lv_iload_n hx hb dX5_choice_22 rfl (lv_at hl 2 rfl) ?_
      have hPc := hP.sub (ws' := [(m0, .inr (5, [.int mfa, .int mho, .ref m2, .ref m3, .ref m4, .int mra, .int mrh, .ref m7, .ref m8, .ref m9, .ref m10, .ref m11, .ref m12, .int mch, .int mfr, .int mfw, .int mrd, .ref m17, .ref m18, .ref m19, .ref m20, .ref m21, .ref m22, .ref m23, .int mtr])), (m2, .inl (cI, 6, .inl K)), (m3, .inl (cI, 6, .inl L)), (m4, .inl (cI, 6, .inl C))]) [0, 1, 2, 3] rfl
      have hDc := hD.sub (ws' := [(m0, .inr (5, [.int mfa, .int mho, .ref m2, .ref m3, .ref m4, .int mra, .int mrh, .ref m7, .ref m8, .ref m9, .ref m10, .ref m11, .ref m12, .int mch, .int mfr, .int mfw, .int mrd, .ref m17, .ref m18, .ref m19, .ref m20, .ref m21, .ref m22, .ref m23, .int mtr])), (m2, .inl (cI, 6, .inl K)), (m3, .inl (cI, 6, .inl L)), (m4, .inl (cI, 6, .inl C))]) [0, 1, 2, 3] (by decide) rfl
      have hKc := hK.sub (tys' := [(cI, .int)]) [0] rfl
      have hFc := va_free (wc := [(m0, .inr (5, [.int mfa, .int mho, .ref m2, .ref m3, .ref m4, .int mra, .int mrh, .ref m7, .ref m8, .ref m9, .ref m10, .ref m11, .ref m12, .int mch, .int mfr, .int mfw, .int mrd, .ref m17, .ref m18, .ref m19, .ref m20, .ref m21, .ref m22, .ref m23, .int mtr])), (m2, .inl (cI, 6, .inl K)), (m3, .inl (cI, 6, .inl L)), (m4, .inl (cI, 6, .inl C))]) hD hS hA [0, 1, 2, 3] rfl
      refine va_calli (va_runV (As := [.int i1, .int i2]) (rest := []) ⟨hx, hb, hml, hown, hts⟩ (ctX5_choiceOf l dC dI cI m0 m2 m3 m4 m7 m8 m9 m10 m11 m12 m17 m18 m19 m20 m21 m22 m23 H.size mfa mho mra mrh mch mfr mfw mrd mtr K L C i1 i2 (by assumption) (by assumption)) (cwV 2 hts gX5_choice_X5_choiceOf rfl rfl rfl (by decide +kernel) ⟨Nat.le_of_ble_eq_true rfl, Nat.le_of_ble_eq_true rfl⟩) (pre_V hKc hN hPc hDc (RX5, TX5, 25) 5 0 rfl rfl) rfl rfl hl.1 rfl (lv_room (Nat.le_of_ble_eq_true rfl)) dX5_choice_23 ⟨Nat.le_of_ble_eq_true rfl, Nat.le_of_ble_eq_true rfl⟩) hS (fun q _ h => hFc q h) hFc (fun r _ t H locs ht hvm hw hB hz1 hk1 hS => ?_)
      try dsimp only at hw
      subst hw
      rw [ht] at hB
      obtain ⟨hP, hD⟩ := rw_join ([(m0, .inr (5, [.int mfa, .int mho, .ref m2, .ref m3, .ref m4, .int mra, .int mrh, .ref m7, .ref m8, .ref m9, .ref m10, .ref m11, .ref m12, .int mch, .int mfr, .int mfw, .int mrd, .ref m17, .ref m18, .ref m19, .ref m20, .ref m21, .ref m22, .ref m23, .int mtr])), (m2, .inl (cI, 6, .inl K)), (m3, .inl (cI, 6, .inl L)), (m4, .inl (cI, 6, .inl C))]) ([(m0, .inr (5, [.int mfa, .int mho, .ref m2, .ref m3, .ref m4, .int mra, .int mrh, .ref m7, .ref m8, .ref m9, .ref m10, .ref m11, .ref m12, .int mch, .int mfr, .int mfw, .int mrd, .ref m17, .ref m18, .ref m19, .ref m20, .ref m21, .ref m22, .ref m23, .int mtr])), (m2, .inl (cI, 6, .inl K)), (m3, .inl (cI, 6, .inl L)), (m4, .inl (cI, 6, .inl C))]) ([(m0, .inr (5, [.int mfa, .int mho, .ref m2, .ref m3, .ref m4, .int mra, .int mrh, .ref m7, .ref m8, .ref m9, .ref m10, .ref m11, .ref m12, .int mch, .int mfr, .int mfw, .int mrd, .ref m17, .ref m18, .ref m19, .ref m20, .ref m21, .ref m22, .ref m23, .int mtr])), (m2, .inl (cI, 6, .inl K)), (m3, .inl (cI, 6, .inl L)), (m4, .inl (cI, 6, .inl C))]) ([(m0, .inr (5, [.int mfa, .int mho, .ref m2, .ref m3, .ref m4, .int mra, .int mrh, .ref m7, .ref m8, .ref m9, .ref m10, .ref m11, .ref m12, .int mch, .int mfr, .int mfw, .int mrd, .ref m17, .ref m18, .ref m19, .ref m20, .ref m21, .ref m22, .ref m23, .int mtr])), (m2, .inl (cI, 6, .inl K)), (m3, .inl (cI, 6, .inl L)), (m4, .inl (cI, 6, .inl C))]) ([]) hP hD [0, 1, 2, 3] [] [m0, m2, m3, m4] 4 rfl rfl rfl rfl rfl (by decide) rfl rfl hk1 hB
      refine lv_istore (lv' := [(4, .int (p5_choiceOf mho K L C i1 i2)), (0, .ref m0), (1, .int i1), (2, .int i2), (3, .int i3)]) hx hb dX5_choice_26 hl (by decide) rfl (fun ls hl => ?_)
      have j4 : vp_in (p5_choiceOf mho K L C i1 i2) 6 := choiceOf_in j1 hNb
      refine lv_iload_n hx hb dX5_choice_28 rfl (lv_at hl 4 rfl) ?_
      by_cases c_29_0 : i3 = 0
      · skip
        refine lv_tableIn (off := 31) (tgt := 60) hx hb dX5_choice_29 (by rw [c_29_0]; decide) (by rw [c_29_0]; decide) (by rw [c_29_0]; decide) (by decide) ?_
        refine lv_iload hx hb dX5_choice_60 (lv_at hl 0 rfl) ?_
        have hE9 : p5_choice mho K L C i1 i2 i3 = (p5_choiceOf mho K L C i1 i2) := by unfold p5_choice; rw [if_pos c_5, if_pos c_14, if_pos c_29_0]
        exact W.iret (v := (p5_choiceOf mho K L C i1 i2)) hx hb hr (fun t ht hW => ⟨⟨_, (), rfl, by rw [hE9], by show va_P (dC, dI) vwCl _ t.heap; rw [ht]; exact hP⟩, hS.F ht⟩) hS.2.2 dX5_choice_62
      · skip
        by_cases c_29_1 : i3 = 1
        · skip
          refine lv_tableIn (off := 34) (tgt := 63) hx hb dX5_choice_29 (by rw [c_29_1]; decide) (by rw [c_29_1]; decide) (by rw [c_29_1]; decide) (by decide) ?_
          refine lv_aload_n hx hb dX5_choice_63 rfl (lv_at hl 1 rfl) ?_
          refine lv_iload_n hx hb dX5_choice_64 rfl (lv_at hl 2 rfl) ?_
          refine lv_iload hx hb dX5_choice_65 (lv_at hl 0 rfl) ?_
          refine lv_iload_n hx hb dX5_choice_67 rfl (lv_at hl 3 rfl) ?_
          have hPc := hP.sub (ws' := [(m0, .inr (5, [.int mfa, .int mho, .ref m2, .ref m3, .ref m4, .int mra, .int mrh, .ref m7, .ref m8, .ref m9, .ref m10, .ref m11, .ref m12, .int mch, .int mfr, .int mfw, .int mrd, .ref m17, .ref m18, .ref m19, .ref m20, .ref m21, .ref m22, .ref m23, .int mtr])), (m2, .inl (cI, 6, .inl K)), (m3, .inl (cI, 6, .inl L)), (m4, .inl (cI, 6, .inl C))]) [0, 1, 2, 3] rfl
          have hDc := hD.sub (ws' := [(m0, .inr (5, [.int mfa, .int mho, .ref m2, .ref m3, .ref m4, .int mra, .int mrh, .ref m7, .ref m8, .ref m9, .ref m10, .ref m11, .ref m12, .int mch, .int mfr, .int mfw, .int mrd, .ref m17, .ref m18, .ref m19, .ref m20, .ref m21, .ref m22, .ref m23, .int mtr])), (m2, .inl (cI, 6, .inl K)), (m3, .inl (cI, 6, .inl L)), (m4, .inl (cI, 6, .inl C))]) [0, 1, 2, 3] (by decide) rfl
          have hKc := hK.sub (tys' := [(cI, .int)]) [0] rfl
          have hFc := va_free (wc := [(m0, .inr (5, [.int mfa, .int mho, .ref m2, .ref m3, .ref m4, .int mra, .int mrh, .ref m7, .ref m8, .ref m9, .ref m10, .ref m11, .ref m12, .int mch, .int mfr, .int mfw, .int mrd, .ref m17, .ref m18, .ref m19, .ref m20, .ref m21, .ref m22, .ref m23, .int mtr])), (m2, .inl (cI, 6, .inl K)), (m3, .inl (cI, 6, .inl L)), (m4, .inl (cI, 6, .inl C))]) hD hS hA [0, 1, 2, 3] rfl
          refine va_calli (va_runV (As := [.int i1, .int (p5_choiceOf mho K L C i1 i2), .int i2]) (rest := []) ⟨hx, hb, hml, hown, hts⟩ (ctX5_worthBy l dC dI cI m0 m2 m3 m4 m7 m8 m9 m10 m11 m12 m17 m18 m19 m20 m21 m22 m23 H.size mfa mho mra mrh mch mfr mfw mrd mtr K L C i1 (p5_choiceOf mho K L C i1 i2) i2 (by assumption) (by assumption)) (cwV 3 hts gX5_choice_X5_worthBy rfl rfl rfl (by decide +kernel) ⟨Nat.le_of_ble_eq_true rfl, Nat.le_of_ble_eq_true rfl⟩) (pre_V hKc hN hPc hDc (RX5, TX5, 25) 5 0 rfl rfl) rfl rfl hl.1 rfl (lv_room (Nat.le_of_ble_eq_true rfl)) dX5_choice_68 ⟨Nat.le_of_ble_eq_true rfl, Nat.le_of_ble_eq_true rfl⟩) hS (fun q _ h => hFc q h) hFc (fun r _ t H locs ht hvm hw hB hz1 hk1 hS => ?_)
          try dsimp only at hw
          subst hw
          rw [ht] at hB
          obtain ⟨hP, hD⟩ := rw_join ([(m0, .inr (5, [.int mfa, .int mho, .ref m2, .ref m3, .ref m4, .int mra, .int mrh, .ref m7, .ref m8, .ref m9, .ref m10, .ref m11, .ref m12, .int mch, .int mfr, .int mfw, .int mrd, .ref m17, .ref m18, .ref m19, .ref m20, .ref m21, .ref m22, .ref m23, .int mtr])), (m2, .inl (cI, 6, .inl K)), (m3, .inl (cI, 6, .inl L)), (m4, .inl (cI, 6, .inl C))]) ([(m0, .inr (5, [.int mfa, .int mho, .ref m2, .ref m3, .ref m4, .int mra, .int mrh, .ref m7, .ref m8, .ref m9, .ref m10, .ref m11, .ref m12, .int mch, .int mfr, .int mfw, .int mrd, .ref m17, .ref m18, .ref m19, .ref m20, .ref m21, .ref m22, .ref m23, .int mtr])), (m2, .inl (cI, 6, .inl K)), (m3, .inl (cI, 6, .inl L)), (m4, .inl (cI, 6, .inl C))]) ([(m0, .inr (5, [.int mfa, .int mho, .ref m2, .ref m3, .ref m4, .int mra, .int mrh, .ref m7, .ref m8, .ref m9, .ref m10, .ref m11, .ref m12, .int mch, .int mfr, .int mfw, .int mrd, .ref m17, .ref m18, .ref m19, .ref m20, .ref m21, .ref m22, .ref m23, .int mtr])), (m2, .inl (cI, 6, .inl K)), (m3, .inl (cI, 6, .inl L)), (m4, .inl (cI, 6, .inl C))]) ([(m0, .inr (5, [.int mfa, .int mho, .ref m2, .ref m3, .ref m4, .int mra, .int mrh, .ref m7, .ref m8, .ref m9, .ref m10, .ref m11, .ref m12, .int mch, .int mfr, .int mfw, .int mrd, .ref m17, .ref m18, .ref m19, .ref m20, .ref m21, .ref m22, .ref m23, .int mtr])), (m2, .inl (cI, 6, .inl K)), (m3, .inl (cI, 6, .inl L)), (m4, .inl (cI, 6, .inl C))]) ([]) hP hD [0, 1, 2, 3] [] [m0, m2, m3, m4] 4 rfl rfl rfl rfl rfl (by decide) rfl rfl hk1 hB
          have hE9 : p5_choice mho K L C i1 i2 i3 = (p5_worthBy K L C i1 (p5_choiceOf mho K L C i1 i2) i2) := by unfold p5_choice; rw [if_pos c_5, if_pos c_14, if_neg c_29_0, if_pos c_29_1]
          exact W.iret (v := (p5_worthBy K L C i1 (p5_choiceOf mho K L C i1 i2) i2)) hx hb hr (fun t ht hW => ⟨⟨_, (), rfl, by rw [hE9], by show va_P (dC, dI) vwCl _ t.heap; rw [ht]; exact hP⟩, hS.F ht⟩) hS.2.2 dX5_choice_71
        · skip
          by_cases c_29_2 : i3 = 2
          · skip
            refine lv_tableIn (off := 43) (tgt := 72) hx hb dX5_choice_29 (by rw [c_29_2]; decide) (by rw [c_29_2]; decide) (by rw [c_29_2]; decide) (by decide) ?_
            refine lv_aload_n hx hb dX5_choice_72 rfl (lv_at hl 1 rfl) ?_
            refine lv_iload_n hx hb dX5_choice_73 rfl (lv_at hl 2 rfl) ?_
            refine lv_iload hx hb dX5_choice_74 (lv_at hl 0 rfl) ?_
            refine lv_iload_n hx hb dX5_choice_76 rfl (lv_at hl 3 rfl) ?_
            have hPc := hP.sub (ws' := [(m0, .inr (5, [.int mfa, .int mho, .ref m2, .ref m3, .ref m4, .int mra, .int mrh, .ref m7, .ref m8, .ref m9, .ref m10, .ref m11, .ref m12, .int mch, .int mfr, .int mfw, .int mrd, .ref m17, .ref m18, .ref m19, .ref m20, .ref m21, .ref m22, .ref m23, .int mtr])), (m2, .inl (cI, 6, .inl K)), (m3, .inl (cI, 6, .inl L)), (m4, .inl (cI, 6, .inl C))]) [0, 1, 2, 3] rfl
            have hDc := hD.sub (ws' := [(m0, .inr (5, [.int mfa, .int mho, .ref m2, .ref m3, .ref m4, .int mra, .int mrh, .ref m7, .ref m8, .ref m9, .ref m10, .ref m11, .ref m12, .int mch, .int mfr, .int mfw, .int mrd, .ref m17, .ref m18, .ref m19, .ref m20, .ref m21, .ref m22, .ref m23, .int mtr])), (m2, .inl (cI, 6, .inl K)), (m3, .inl (cI, 6, .inl L)), (m4, .inl (cI, 6, .inl C))]) [0, 1, 2, 3] (by decide) rfl
            have hKc := hK.sub (tys' := [(cI, .int)]) [0] rfl
            have hFc := va_free (wc := [(m0, .inr (5, [.int mfa, .int mho, .ref m2, .ref m3, .ref m4, .int mra, .int mrh, .ref m7, .ref m8, .ref m9, .ref m10, .ref m11, .ref m12, .int mch, .int mfr, .int mfw, .int mrd, .ref m17, .ref m18, .ref m19, .ref m20, .ref m21, .ref m22, .ref m23, .int mtr])), (m2, .inl (cI, 6, .inl K)), (m3, .inl (cI, 6, .inl L)), (m4, .inl (cI, 6, .inl C))]) hD hS hA [0, 1, 2, 3] rfl
            refine va_calli (va_runV (As := [.int i1, .int (p5_choiceOf mho K L C i1 i2), .int i2]) (rest := []) ⟨hx, hb, hml, hown, hts⟩ (ctX5_payerOf l dC dI cI m0 m2 m3 m4 m7 m8 m9 m10 m11 m12 m17 m18 m19 m20 m21 m22 m23 H.size mfa mho mra mrh mch mfr mfw mrd mtr K L C i1 (p5_choiceOf mho K L C i1 i2) i2 (by assumption) (by assumption)) (cwV 3 hts gX5_choice_X5_payerOf rfl rfl rfl (by decide +kernel) ⟨Nat.le_of_ble_eq_true rfl, Nat.le_of_ble_eq_true rfl⟩) (pre_V hKc hN hPc hDc (RX5, TX5, 25) 5 0 rfl rfl) rfl rfl hl.1 rfl (lv_room (Nat.le_of_ble_eq_true rfl)) dX5_choice_77 ⟨Nat.le_of_ble_eq_true rfl, Nat.le_of_ble_eq_true rfl⟩) hS (fun q _ h => hFc q h) hFc (fun r _ t H locs ht hvm hw hB hz1 hk1 hS => ?_)
            try dsimp only at hw
            subst hw
            rw [ht] at hB
            obtain ⟨hP, hD⟩ := rw_join ([(m0, .inr (5, [.int mfa, .int mho, .ref m2, .ref m3, .ref m4, .int mra, .int mrh, .ref m7, .ref m8, .ref m9, .ref m10, .ref m11, .ref m12, .int mch, .int mfr, .int mfw, .int mrd, .ref m17, .ref m18, .ref m19, .ref m20, .ref m21, .ref m22, .ref m23, .int mtr])), (m2, .inl (cI, 6, .inl K)), (m3, .inl (cI, 6, .inl L)), (m4, .inl (cI, 6, .inl C))]) ([(m0, .inr (5, [.int mfa, .int mho, .ref m2, .ref m3, .ref m4, .int mra, .int mrh, .ref m7, .ref m8, .ref m9, .ref m10, .ref m11, .ref m12, .int mch, .int mfr, .int mfw, .int mrd, .ref m17, .ref m18, .ref m19, .ref m20, .ref m21, .ref m22, .ref m23, .int mtr])), (m2, .inl (cI, 6, .inl K)), (m3, .inl (cI, 6, .inl L)), (m4, .inl (cI, 6, .inl C))]) ([(m0, .inr (5, [.int mfa, .int mho, .ref m2, .ref m3, .ref m4, .int mra, .int mrh, .ref m7, .ref m8, .ref m9, .ref m10, .ref m11, .ref m12, .int mch, .int mfr, .int mfw, .int mrd, .ref m17, .ref m18, .ref m19, .ref m20, .ref m21, .ref m22, .ref m23, .int mtr])), (m2, .inl (cI, 6, .inl K)), (m3, .inl (cI, 6, .inl L)), (m4, .inl (cI, 6, .inl C))]) ([(m0, .inr (5, [.int mfa, .int mho, .ref m2, .ref m3, .ref m4, .int mra, .int mrh, .ref m7, .ref m8, .ref m9, .ref m10, .ref m11, .ref m12, .int mch, .int mfr, .int mfw, .int mrd, .ref m17, .ref m18, .ref m19, .ref m20, .ref m21, .ref m22, .ref m23, .int mtr])), (m2, .inl (cI, 6, .inl K)), (m3, .inl (cI, 6, .inl L)), (m4, .inl (cI, 6, .inl C))]) ([]) hP hD [0, 1, 2, 3] [] [m0, m2, m3, m4] 4 rfl rfl rfl rfl rfl (by decide) rfl rfl hk1 hB
            have hE9 : p5_choice mho K L C i1 i2 i3 = (p5_payerOf K L C i1 (p5_choiceOf mho K L C i1 i2) i2) := by unfold p5_choice; rw [if_pos c_5, if_pos c_14, if_neg c_29_0, if_neg c_29_1, if_pos c_29_2]
            exact W.iret (v := (p5_payerOf K L C i1 (p5_choiceOf mho K L C i1 i2) i2)) hx hb hr (fun t ht hW => ⟨⟨_, (), rfl, by rw [hE9], by show va_P (dC, dI) vwCl _ t.heap; rw [ht]; exact hP⟩, hS.F ht⟩) hS.2.2 dX5_choice_80
          · skip
            by_cases c_29_3 : i3 = 3
            · skip
              refine lv_tableIn (off := 52) (tgt := 81) hx hb dX5_choice_29 (by rw [c_29_3]; decide) (by rw [c_29_3]; decide) (by rw [c_29_3]; decide) (by decide) ?_
              refine lv_aload_n hx hb dX5_choice_81 rfl (lv_at hl 1 rfl) ?_
              refine lv_iload_n hx hb dX5_choice_82 rfl (lv_at hl 2 rfl) ?_
              refine lv_iload hx hb dX5_choice_83 (lv_at hl 0 rfl) ?_
              refine lv_iload_n hx hb dX5_choice_85 rfl (lv_at hl 3 rfl) ?_
              have hPc := hP.sub (ws' := [(m0, .inr (5, [.int mfa, .int mho, .ref m2, .ref m3, .ref m4, .int mra, .int mrh, .ref m7, .ref m8, .ref m9, .ref m10, .ref m11, .ref m12, .int mch, .int mfr, .int mfw, .int mrd, .ref m17, .ref m18, .ref m19, .ref m20, .ref m21, .ref m22, .ref m23, .int mtr])), (m2, .inl (cI, 6, .inl K)), (m3, .inl (cI, 6, .inl L)), (m4, .inl (cI, 6, .inl C))]) [0, 1, 2, 3] rfl
              have hDc := hD.sub (ws' := [(m0, .inr (5, [.int mfa, .int mho, .ref m2, .ref m3, .ref m4, .int mra, .int mrh, .ref m7, .ref m8, .ref m9, .ref m10, .ref m11, .ref m12, .int mch, .int mfr, .int mfw, .int mrd, .ref m17, .ref m18, .ref m19, .ref m20, .ref m21, .ref m22, .ref m23, .int mtr])), (m2, .inl (cI, 6, .inl K)), (m3, .inl (cI, 6, .inl L)), (m4, .inl (cI, 6, .inl C))]) [0, 1, 2, 3] (by decide) rfl
              have hKc := hK.sub (tys' := [(cI, .int)]) [0] rfl
              have hFc := va_free (wc := [(m0, .inr (5, [.int mfa, .int mho, .ref m2, .ref m3, .ref m4, .int mra, .int mrh, .ref m7, .ref m8, .ref m9, .ref m10, .ref m11, .ref m12, .int mch, .int mfr, .int mfw, .int mrd, .ref m17, .ref m18, .ref m19, .ref m20, .ref m21, .ref m22, .ref m23, .int mtr])), (m2, .inl (cI, 6, .inl K)), (m3, .inl (cI, 6, .inl L)), (m4, .inl (cI, 6, .inl C))]) hD hS hA [0, 1, 2, 3] rfl
              refine va_calli (va_runV (As := [.int i1, .int (p5_choiceOf mho K L C i1 i2), .int i2]) (rest := []) ⟨hx, hb, hml, hown, hts⟩ (ctX5_isFair l dC dI cI m0 m2 m3 m4 m7 m8 m9 m10 m11 m12 m17 m18 m19 m20 m21 m22 m23 H.size mfa mho mra mrh mch mfr mfw mrd mtr K L C i1 (p5_choiceOf mho K L C i1 i2) i2 (by assumption) (by assumption) (by assumption)) (cwV 3 hts gX5_choice_X5_isFair rfl rfl rfl (by decide +kernel) ⟨Nat.le_of_ble_eq_true rfl, Nat.le_of_ble_eq_true rfl⟩) (pre_V hKc hN hPc hDc (RX5, TX5, 25) 5 0 rfl rfl) rfl rfl hl.1 rfl (lv_room (Nat.le_of_ble_eq_true rfl)) dX5_choice_86 ⟨Nat.le_of_ble_eq_true rfl, Nat.le_of_ble_eq_true rfl⟩) hS (fun q _ h => hFc q h) hFc (fun r _ t H locs ht hvm hw hB hz1 hk1 hS => ?_)
              try dsimp only at hw
              subst hw
              rw [ht] at hB
              obtain ⟨hP, hD⟩ := rw_join ([(m0, .inr (5, [.int mfa, .int mho, .ref m2, .ref m3, .ref m4, .int mra, .int mrh, .ref m7, .ref m8, .ref m9, .ref m10, .ref m11, .ref m12, .int mch, .int mfr, .int mfw, .int mrd, .ref m17, .ref m18, .ref m19, .ref m20, .ref m21, .ref m22, .ref m23, .int mtr])), (m2, .inl (cI, 6, .inl K)), (m3, .inl (cI, 6, .inl L)), (m4, .inl (cI, 6, .inl C))]) ([(m0, .inr (5, [.int mfa, .int mho, .ref m2, .ref m3, .ref m4, .int mra, .int mrh, .ref m7, .ref m8, .ref m9, .ref m10, .ref m11, .ref m12, .int mch, .int mfr, .int mfw, .int mrd, .ref m17, .ref m18, .ref m19, .ref m20, .ref m21, .ref m22, .ref m23, .int mtr])), (m2, .inl (cI, 6, .inl K)), (m3, .inl (cI, 6, .inl L)), (m4, .inl (cI, 6, .inl C))]) ([(m0, .inr (5, [.int mfa, .int mho, .ref m2, .ref m3, .ref m4, .int mra, .int mrh, .ref m7, .ref m8, .ref m9, .ref m10, .ref m11, .ref m12, .int mch, .int mfr, .int mfw, .int mrd, .ref m17, .ref m18, .ref m19, .ref m20, .ref m21, .ref m22, .ref m23, .int mtr])), (m2, .inl (cI, 6, .inl K)), (m3, .inl (cI, 6, .inl L)), (m4, .inl (cI, 6, .inl C))]) ([(m0, .inr (5, [.int mfa, .int mho, .ref m2, .ref m3, .ref m4, .int mra, .int mrh, .ref m7, .ref m8, .ref m9, .ref m10, .ref m11, .ref m12, .int mch, .int mfr, .int mfw, .int mrd, .ref m17, .ref m18, .ref m19, .ref m20, .ref m21, .ref m22, .ref m23, .int mtr])), (m2, .inl (cI, 6, .inl K)), (m3, .inl (cI, 6, .inl L)), (m4, .inl (cI, 6, .inl C))]) ([]) hP hD [0, 1, 2, 3] [] [m0, m2, m3, m4] 4 rfl rfl rfl rfl rfl (by decide) rfl rfl hk1 hB
              refine lv_if_eq (tgt := 96) hx hb dX5_choice_89 (by decide) (fun c_89 => ?_) (fun c_89 => ?_)
              · skip
                refine lv_iconst (v := 0) hx hb dX5_choice_96 (by decide) ?_
                have hE9 : p5_choice mho K L C i1 i2 i3 = 0 := by unfold p5_choice; rw [if_pos c_5, if_pos c_14, if_neg c_29_0, if_neg c_29_1, if_neg c_29_2, if_pos c_29_3, if_pos c_89]
                exact W.iret (v := 0) hx hb hr (fun t ht hW => ⟨⟨_, (), rfl, by rw [hE9], by show va_P (dC, dI) vwCl _ t.heap; rw [ht]; exact hP⟩, hS.F ht⟩) hS.2.2 dX5_choice_97
              · skip
                refine lv_iconst (v := 1) hx hb dX5_choice_92 (by decide) ?_
                refine lv_goto (tgt := 97) hx hb dX5_choice_93 (by decide) ?_
                have hE9 : p5_choice mho K L C i1 i2 i3 = 1 := by unfold p5_choice; rw [if_pos c_5, if_pos c_14, if_neg c_29_0, if_neg c_29_1, if_neg c_29_2, if_pos c_29_3, if_neg c_89]
                exact W.iret (v := 1) hx hb hr (fun t ht hW => ⟨⟨_, (), rfl, by rw [hE9], by show va_P (dC, dI) vwCl _ t.heap; rw [ht]; exact hP⟩, hS.F ht⟩) hS.2.2 dX5_choice_97
            · skip
              refine lv_tableOut (tgt := 98) hx hb dX5_choice_29 (sw_out4 c_29_0 c_29_1 c_29_2 c_29_3) (by decide) ?_
              refine lv_bipush (v := (-2)) hx hb dX5_choice_98 (by decide) ?_
              have hE9 : p5_choice mho K L C i1 i2 i3 = (-2) := by unfold p5_choice; rw [if_pos c_5, if_pos c_14, if_neg c_29_0, if_neg c_29_1, if_neg c_29_2, if_neg c_29_3]
              exact W.iret (v := (-2)) hx hb hr (fun t ht hW => ⟨⟨_, (), rfl, by rw [hE9], by show va_P (dC, dI) vwCl _ t.heap; rw [ht]; exact hP⟩, hS.F ht⟩) hS.2.2 dX5_choice_100
    · skip
      refine lv_bipush (v := (-2)) hx hb dX5_choice_17 (by decide) ?_
      have hE9 : p5_choice mho K L C i1 i2 i3 = (-2) := by unfold p5_choice; rw [if_pos c_5, if_neg c_14]
      exact W.iret (v := (-2)) hx hb hr (fun t ht hW => ⟨⟨_, (), rfl, by rw [hE9], by show va_P (dC, dI) vwCl _ t.heap; rw [ht]; exact hP⟩, hS.F ht⟩) hS.2.2 dX5_choice_19
  · skip
    refine lv_iconst (v := (-1)) hx hb dX5_choice_8 (by decide) ?_
    have hE9 : p5_choice mho K L C i1 i2 i3 = (-1) := by unfold p5_choice; rw [if_neg c_5]
    exact W.iret (v := (-1)) hx hb hr (fun t ht hW => ⟨⟨_, (), rfl, by rw [hE9], by show va_P (dC, dI) vwCl _ t.heap; rw [ht]; exact hP⟩, hS.F ht⟩) hS.2.2 dX5_choice_9

def p5_name (mho : Int32) (mch : Int32) (mfr : Int32) (K : Nat → Int32) (L : Nat → Int32) (C : Nat → Int32) (PY : Nat → Int32) (i1 : Int32) (i2 : Int32) : Int32 × Int32 × Int32 × (Nat → Int32) × (Nat → Int32) × (Nat → Int32) :=
  if (p5_noHouse mho i1) = 0 then
    if (p5_noCost i2) = 0 then
      (((p5_goPair mho mch mfr K L C PY i1 (p5_choiceOf mho K L C i1 i2) i2).1), ((p5_goPair mho mch mfr K L C PY i1 (p5_choiceOf mho K L C i1 i2) i2).2.1), ((p5_goPair mho mch mfr K L C PY i1 (p5_choiceOf mho K L C i1 i2) i2).2.2.1), ((p5_goPair mho mch mfr K L C PY i1 (p5_choiceOf mho K L C i1 i2) i2).2.2.2.1), ((p5_goPair mho mch mfr K L C PY i1 (p5_choiceOf mho K L C i1 i2) i2).2.2.2.2.1), ((p5_goPair mho mch mfr K L C PY i1 (p5_choiceOf mho K L C i1 i2) i2).2.2.2.2.2))
    else
      ((-2), mch, mfr, L, C, PY)
  else
    ((-1), mch, mfr, L, C, PY)
abbrev rmX5_name : Room := { frames := 5, cells := 0, slots := 0, locals := 119 }
abbrev QX5_name (dC : Nat → ClassId) (dI : Nat → Nat → Nat) (A : Nat → Prop) (cI : ClassId) (m0 : Nat) (m2 : Nat) (m3 : Nat) (m4 : Nat) (m7 : Nat) (m8 : Nat) (m9 : Nat) (m10 : Nat) (m11 : Nat) (m12 : Nat) (m17 : Nat) (m18 : Nat) (m19 : Nat) (m20 : Nat) (m21 : Nat) (m22 : Nat) (m23 : Nat) (mfa : Int32) (mho : Int32) (mra : Int32) (mrh : Int32) (mch : Int32) (mfr : Int32) (mfw : Int32) (mrd : Int32) (mtr : Int32) (K : Nat → Int32) (L : Nat → Int32) (C : Nat → Int32) (PY : Nat → Int32) (i1 : Int32) (i2 : Int32) : Array Value → State → Outcome → State → Prop := va_Qi (fun (r : Int32) (_ : Unit) => r = (p5_name mho mch mfr K L C PY i1 i2).1) (fun (_ : Unit) (t : State) => va_P (dC, dI) vwCl ([(m0, .inr (5, [.int mfa, .int mho, .ref m2, .ref m3, .ref m4, .int mra, .int mrh, .ref m7, .ref m8, .ref m9, .ref m10, .ref m11, .ref m12, .int ((p5_name mho mch mfr K L C PY i1 i2).2.1), .int ((p5_name mho mch mfr K L C PY i1 i2).2.2.1), .int mfw, .int mrd, .ref m17, .ref m18, .ref m19, .ref m20, .ref m21, .ref m22, .ref m23, .int mtr])), (m2, .inl (cI, 6, .inl K)), (m3, .inl (cI, 6, .inl ((p5_name mho mch mfr K L C PY i1 i2).2.2.2.1))), (m4, .inl (cI, 6, .inl ((p5_name mho mch mfr K L C PY i1 i2).2.2.2.2.1))), (m12, .inl (cI, 6, .inl ((p5_name mho mch mfr K L C PY i1 i2).2.2.2.2.2)))]) t.heap) A
set_option maxHeartbeats 4000000 in
set_option maxRecDepth 100000 in
theorem ctX5_name (l : Launch) (dC : Nat → ClassId) (dI : Nat → Nat → Nat) (cI : ClassId) (m0 : Nat) (m2 : Nat) (m3 : Nat) (m4 : Nat) (m7 : Nat) (m8 : Nat) (m9 : Nat) (m10 : Nat) (m11 : Nat) (m12 : Nat) (m17 : Nat) (m18 : Nat) (m19 : Nat) (m20 : Nat) (m21 : Nat) (m22 : Nat) (m23 : Nat) (sz : Nat) (mfa : Int32) (mho : Int32) (mra : Int32) (mrh : Int32) (mch : Int32) (mfr : Int32) (mfw : Int32) (mrd : Int32) (mtr : Int32) (K : Nat → Int32) (L : Nat → Int32) (C : Nat → Int32) (PY : Nat → Int32) (i1 : Int32) (i2 : Int32) (hNb : mho.toInt ≤ 6) : Met l yX5_name wsX5_name rmX5_name (va_Pc [.ref m0, .int i1, .int i2] (cP dC dI [(cI, .int)] ([(m0, .inr (5, [.int mfa, .int mho, .ref m2, .ref m3, .ref m4, .int mra, .int mrh, .ref m7, .ref m8, .ref m9, .ref m10, .ref m11, .ref m12, .int mch, .int mfr, .int mfw, .int mrd, .ref m17, .ref m18, .ref m19, .ref m20, .ref m21, .ref m22, .ref m23, .int mtr])), (m2, .inl (cI, 6, .inl K)), (m3, .inl (cI, 6, .inl L)), (m4, .inl (cI, 6, .inl C)), (m12, .inl (cI, 6, .inl PY))]) sz)) (QX5_name dC dI (va_A ([(m0, .inr (5, [.int mfa, .int mho, .ref m2, .ref m3, .ref m4, .int mra, .int mrh, .ref m7, .ref m8, .ref m9, .ref m10, .ref m11, .ref m12, .int mch, .int mfr, .int mfw, .int mrd, .ref m17, .ref m18, .ref m19, .ref m20, .ref m21, .ref m22, .ref m23, .int mtr])), (m2, .inl (cI, 6, .inl K)), (m3, .inl (cI, 6, .inl L)), (m4, .inl (cI, 6, .inl C)), (m12, .inl (cI, 6, .inl PY))]) sz) cI m0 m2 m3 m4 m7 m8 m9 m10 m11 m12 m17 m18 m19 m20 m21 m22 m23 mfa mho mra mrh mch mfr mfw mrd mtr K L C PY i1 i2) 0 0 (va_A ([(m0, .inr (5, [.int mfa, .int mho, .ref m2, .ref m3, .ref m4, .int mra, .int mrh, .ref m7, .ref m8, .ref m9, .ref m10, .ref m11, .ref m12, .int mch, .int mfr, .int mfw, .int mrd, .ref m17, .ref m18, .ref m19, .ref m20, .ref m21, .ref m22, .ref m23, .int mtr])), (m2, .inl (cI, 6, .inl K)), (m3, .inl (cI, 6, .inl L)), (m4, .inl (cI, 6, .inl C)), (m12, .inl (cI, 6, .inl PY))]) sz) := by
  refine Met.ofW (cc := cX5_name) (maxL := 3) (ret := (some .int)) (by decide) rfl ?_
  intro p e s m args below meth c s₁ B hml hv
  obtain ⟨rfl, hsz, hP, hK, hD0, hN⟩ := hv
  have hx := B.exec
  have hb := B.bytes
  have hr := B.returns
  have hts := atoms_spec (ws := wsX5_name) B.pre
  have hown : s.vm.findClass RX5 = some m.cls := findClass_of_methodNamed B.named
  have hlocks := B.notSynchronized
  subst hsz
  have hD := hD0.self (sz := s.heap.size)
  generalize hAe : va_A ([(m0, .inr (5, [.int mfa, .int mho, .ref m2, .ref m3, .ref m4, .int mra, .int mrh, .ref m7, .ref m8, .ref m9, .ref m10, .ref m11, .ref m12, .int mch, .int mfr, .int mfw, .int mrd, .ref m17, .ref m18, .ref m19, .ref m20, .ref m21, .ref m22, .ref m23, .int mtr])), (m2, .inl (cI, 6, .inl K)), (m3, .inl (cI, 6, .inl L)), (m4, .inl (cI, 6, .inl C)), (m12, .inl (cI, 6, .inl PY))]) s.heap.size = A at hD ⊢
  have hA : ∀ q : Nat, s.heap.size ≤ q → A q := fun q h => by rw [← hAe]; exact Or.inr h
  have hS : va_S A s.heap s.heap [] := va_S.rf
  have hP : va_P (dC, dI) vwCl ([(m0, .inr (5, [.int mfa, .int mho, .ref m2, .ref m3, .ref m4, .int mra, .int mrh, .ref m7, .ref m8, .ref m9, .ref m10, .ref m11, .ref m12, .int mch, .int mfr, .int mfw, .int mrd, .ref m17, .ref m18, .ref m19, .ref m20, .ref m21, .ref m22, .ref m23, .int mtr])), (m2, .inl (cI, 6, .inl K)), (m3, .inl (cI, 6, .inl L)), (m4, .inl (cI, 6, .inl C)), (m12, .inl (cI, 6, .inl PY))]) s.heap := hP
  have hl := lv_entry ([.ref m0, .int i1, .int i2]) (n := 3) (Nat.le_of_ble_eq_true rfl)
  rw [lg_entry_eq]
  generalize (lg_sl ([.ref m0, .int i1, .int i2]) ++ List.replicate (3 - (lg_sl ([.ref m0, .int i1, .int i2])).length) Slot.unset).toArray = ls at hl ⊢
  have hl : lv_has ls 3 [(0, .ref m0), (1, .int i1), (2, .int i2)] := hl
  refine lv_aload_n hx hb dX5_name_0 rfl (lv_at hl 0 rfl) ?_
  refine lv_iload_n hx hb dX5_name_1 rfl (lv_at hl 1 rfl) ?_
  have hPc := hP.sub (ws' := [(m0, .inr (5, [.int mfa, .int mho, .ref m2, .ref m3, .ref m4, .int mra, .int mrh, .ref m7, .ref m8, .ref m9, .ref m10, .ref m11, .ref m12, .int mch, .int mfr, .int mfw, .int mrd, .ref m17, .ref m18, .ref m19, .ref m20, .ref m21, .ref m22, .ref m23, .int mtr]))]) [0] rfl
  have hDc := hD.sub (ws' := [(m0, .inr (5, [.int mfa, .int mho, .ref m2, .ref m3, .ref m4, .int mra, .int mrh, .ref m7, .ref m8, .ref m9, .ref m10, .ref m11, .ref m12, .int mch, .int mfr, .int mfw, .int mrd, .ref m17, .ref m18, .ref m19, .ref m20, .ref m21, .ref m22, .ref m23, .int mtr]))]) [0] (by decide) rfl
  have hKc := hK.sub (tys' := [(cI, .int)]) [0] rfl
  have hFc := va_free (wc := [(m0, .inr (5, [.int mfa, .int mho, .ref m2, .ref m3, .ref m4, .int mra, .int mrh, .ref m7, .ref m8, .ref m9, .ref m10, .ref m11, .ref m12, .int mch, .int mfr, .int mfw, .int mrd, .ref m17, .ref m18, .ref m19, .ref m20, .ref m21, .ref m22, .ref m23, .int mtr]))]) hD hS hA [0] rfl
  refine va_calli (va_runV (As := [.int i1]) (rest := []) ⟨hx, hb, hml, hown, hts⟩ (ctX5_noHouse l dC dI cI m0 m2 m3 m4 m7 m8 m9 m10 m11 m12 m17 m18 m19 m20 m21 m22 m23 s.heap.size mfa mho mra mrh mch mfr mfw mrd mtr i1) (cwV 1 hts gX5_name_X5_noHouse rfl rfl rfl (by decide +kernel) ⟨Nat.le_of_ble_eq_true rfl, Nat.le_of_ble_eq_true rfl⟩) (pre_V hKc hN hPc hDc (RX5, TX5, 25) 5 0 rfl rfl) rfl rfl hl.1 rfl (lv_room (Nat.le_of_ble_eq_true rfl)) dX5_name_2 ⟨Nat.le_of_ble_eq_true rfl, Nat.le_of_ble_eq_true rfl⟩) hS (fun q _ h => hFc q h) hFc (fun r _ t H locs ht hvm hw hB hz1 hk1 hS => ?_)
  try dsimp only at hw
  subst hw
  rw [ht] at hB
  obtain ⟨hP, hD⟩ := rw_join ([(m0, .inr (5, [.int mfa, .int mho, .ref m2, .ref m3, .ref m4, .int mra, .int mrh, .ref m7, .ref m8, .ref m9, .ref m10, .ref m11, .ref m12, .int mch, .int mfr, .int mfw, .int mrd, .ref m17, .ref m18, .ref m19, .ref m20, .ref m21, .ref m22, .ref m23, .int mtr])), (m2, .inl (cI, 6, .inl K)), (m3, .inl (cI, 6, .inl L)), (m4, .inl (cI, 6, .inl C)), (m12, .inl (cI, 6, .inl PY))]) ([(m0, .inr (5, [.int mfa, .int mho, .ref m2, .ref m3, .ref m4, .int mra, .int mrh, .ref m7, .ref m8, .ref m9, .ref m10, .ref m11, .ref m12, .int mch, .int mfr, .int mfw, .int mrd, .ref m17, .ref m18, .ref m19, .ref m20, .ref m21, .ref m22, .ref m23, .int mtr])), (m2, .inl (cI, 6, .inl K)), (m3, .inl (cI, 6, .inl L)), (m4, .inl (cI, 6, .inl C)), (m12, .inl (cI, 6, .inl PY))]) ([(m0, .inr (5, [.int mfa, .int mho, .ref m2, .ref m3, .ref m4, .int mra, .int mrh, .ref m7, .ref m8, .ref m9, .ref m10, .ref m11, .ref m12, .int mch, .int mfr, .int mfw, .int mrd, .ref m17, .ref m18, .ref m19, .ref m20, .ref m21, .ref m22, .ref m23, .int mtr]))]) ([(m0, .inr (5, [.int mfa, .int mho, .ref m2, .ref m3, .ref m4, .int mra, .int mrh, .ref m7, .ref m8, .ref m9, .ref m10, .ref m11, .ref m12, .int mch, .int mfr, .int mfw, .int mrd, .ref m17, .ref m18, .ref m19, .ref m20, .ref m21, .ref m22, .ref m23, .int mtr]))]) ([(m2, .inl (cI, 6, .inl K)), (m3, .inl (cI, 6, .inl L)), (m4, .inl (cI, 6, .inl C)), (m12, .inl (cI, 6, .inl PY))]) hP hD [0] [1, 2, 3, 4] [m0, m2, m3, m4, m12] 5 rfl rfl rfl rfl rfl (by decide) rfl rfl hk1 hB
  refine lv_if_eq (tgt := 10) hx hb dX5_name_5 (by decide) (fun c_5 => ?_) (fun c_5 => ?_)
  · skip
    have j1 : vp_in i1 6 := noHouse_in hNb c_5
    refine lv_iload_n hx hb dX5_name_10 rfl (lv_at hl 2 rfl) ?_
    have hPc : va_P (dC, dI) vwCl [] H := hP.sub (ws' := []) [] rfl
    have hDc : va_D A [] := hD.sub (ws' := []) [] (by decide) rfl
    have hKc := hK.sub (tys' := [(cI, .int)]) [0] rfl
    have hFc := va_free (wc := []) hD hS hA [] rfl
    refine va_calli (va_runS (As := [.int i2]) (rest := []) ⟨hx, hb, hml, hown, hts⟩ (ctX5_noCost l dC dI cI H.size i2) (va_cwS 1 hts gX5_name_X5_noCost rfl rfl rfl (by decide +kernel) ⟨Nat.le_of_ble_eq_true rfl, Nat.le_of_ble_eq_true rfl⟩) (pre_S hKc hN hPc hDc) rfl rfl hl.1 rfl (lv_room (Nat.le_of_ble_eq_true rfl)) dX5_name_11 ⟨Nat.le_of_ble_eq_true rfl, Nat.le_of_ble_eq_true rfl⟩) hS (fun q _ h => hFc q h) hFc (fun r _ t H locs ht hvm hw hB hz1 hk1 hS => ?_)
    try dsimp only at hw
    subst hw
    rw [ht] at hB
    obtain ⟨hP, hD⟩ := rw_join ([(m0, .inr (5, [.int mfa, .int mho, .ref m2, .ref m3, .ref m4, .int mra, .int mrh, .ref m7, .ref m8, .ref m9, .ref m10, .ref m11, .ref m12, .int mch, .int mfr, .int mfw, .int mrd, .ref m17, .ref m18, .ref m19, .ref m20, .ref m21, .ref m22, .ref m23, .int mtr])), (m2, .inl (cI, 6, .inl K)), (m3, .inl (cI, 6, .inl L)), (m4, .inl (cI, 6, .inl C)), (m12, .inl (cI, 6, .inl PY))]) ([(m0, .inr (5, [.int mfa, .int mho, .ref m2, .ref m3, .ref m4, .int mra, .int mrh, .ref m7, .ref m8, .ref m9, .ref m10, .ref m11, .ref m12, .int mch, .int mfr, .int mfw, .int mrd, .ref m17, .ref m18, .ref m19, .ref m20, .ref m21, .ref m22, .ref m23, .int mtr])), (m2, .inl (cI, 6, .inl K)), (m3, .inl (cI, 6, .inl L)), (m4, .inl (cI, 6, .inl C)), (m12, .inl (cI, 6, .inl PY))]) ([]) ([]) ([(m0, .inr (5, [.int mfa, .int mho, .ref m2, .ref m3, .ref m4, .int mra, .int mrh, .ref m7, .ref m8, .ref m9, .ref m10, .ref m11, .ref m12, .int mch, .int mfr, .int mfw, .int mrd, .ref m17, .ref m18, .ref m19, .ref m20, .ref m21, .ref m22, .ref m23, .int mtr])), (m2, .inl (cI, 6, .inl K)), (m3, .inl (cI, 6, .inl L)), (m4, .inl (cI, 6, .inl C)), (m12, .inl (cI, 6, .inl PY))]) hP hD [] [0, 1, 2, 3, 4] [m0, m2, m3, m4, m12] 5 rfl rfl rfl rfl rfl (by decide) rfl rfl hk1 hB
    refine lv_if_eq (tgt := 22) hx hb dX5_name_14 (by decide) (fun c_14 => ?_) (fun c_14 => ?_)
    · skip
      refine lv_aload_n hx hb dX5_name_22 rfl (lv_at hl 0 rfl) ?_
      refine lv_iload_n hx hb dX5_name_23 rfl (lv_at hl 1 rfl) ?_
      refine lv_aload_n hx hb dX5_name_24 rfl (lv_at hl 0 rfl) ?_
      refine lv_iload_n hx hb dX5_name_25 rfl (lv_at hl 1 rfl) ?_
      refine lv_iload_n hx hb dX5_name_26 rfl (lv_at hl 2 rfl) ?_
      have hPc := hP.sub (ws' := [(m0, .inr (5, [.int mfa, .int mho, .ref m2, .ref m3, .ref m4, .int mra, .int mrh, .ref m7, .ref m8, .ref m9, .ref m10, .ref m11, .ref m12, .int mch, .int mfr, .int mfw, .int mrd, .ref m17, .ref m18, .ref m19, .ref m20, .ref m21, .ref m22, .ref m23, .int mtr])), (m2, .inl (cI, 6, .inl K)), (m3, .inl (cI, 6, .inl L)), (m4, .inl (cI, 6, .inl C))]) [0, 1, 2, 3] rfl
      have hDc := hD.sub (ws' := [(m0, .inr (5, [.int mfa, .int mho, .ref m2, .ref m3, .ref m4, .int mra, .int mrh, .ref m7, .ref m8, .ref m9, .ref m10, .ref m11, .ref m12, .int mch, .int mfr, .int mfw, .int mrd, .ref m17, .ref m18, .ref m19, .ref m20, .ref m21, .ref m22, .ref m23, .int mtr])), (m2, .inl (cI, 6, .inl K)), (m3, .inl (cI, 6, .inl L)), (m4, .inl (cI, 6, .inl C))]) [0, 1, 2, 3] (by decide) rfl
      have hKc := hK.sub (tys' := [(cI, .int)]) [0] rfl
      have hFc := va_free (wc := [(m0, .inr (5, [.int mfa, .int mho, .ref m2, .ref m3, .ref m4, .int mra, .int mrh, .ref m7, .ref m8, .ref m9, .ref m10, .ref m11, .ref m12, .int mch, .int mfr, .int mfw, .int mrd, .ref m17, .ref m18, .ref m19, .ref m20, .ref m21, .ref m22, .ref m23, .int mtr])), (m2, .inl (cI, 6, .inl K)), (m3, .inl (cI, 6, .inl L)), (m4, .inl (cI, 6, .inl C))]) hD hS hA [0, 1, 2, 3] rfl
      refine va_calli (va_runV (As := [.int i1, .int i2]) (rest := [.int i1, .ref m0]) ⟨hx, hb, hml, hown, hts⟩ (ctX5_choiceOf l dC dI cI m0 m2 m3 m4 m7 m8 m9 m10 m11 m12 m17 m18 m19 m20 m21 m22 m23 H.size mfa mho mra mrh mch mfr mfw mrd mtr K L C i1 i2 (by assumption) (by assumption)) (cwV 2 hts gX5_name_X5_choiceOf rfl rfl rfl (by decide +kernel) ⟨Nat.le_of_ble_eq_true rfl, Nat.le_of_ble_eq_true rfl⟩) (pre_V hKc hN hPc hDc (RX5, TX5, 25) 5 0 rfl rfl) rfl rfl hl.1 rfl (lv_room (Nat.le_of_ble_eq_true rfl)) dX5_name_27 ⟨Nat.le_of_ble_eq_true rfl, Nat.le_of_ble_eq_true rfl⟩) hS (fun q _ h => hFc q h) hFc (fun r _ t H locs ht hvm hw hB hz1 hk1 hS => ?_)
      try dsimp only at hw
      subst hw
      rw [ht] at hB
      obtain ⟨hP, hD⟩ := rw_join ([(m0, .inr (5, [.int mfa, .int mho, .ref m2, .ref m3, .ref m4, .int mra, .int mrh, .ref m7, .ref m8, .ref m9, .ref m10, .ref m11, .ref m12, .int mch, .int mfr, .int mfw, .int mrd, .ref m17, .ref m18, .ref m19, .ref m20, .ref m21, .ref m22, .ref m23, .int mtr])), (m2, .inl (cI, 6, .inl K)), (m3, .inl (cI, 6, .inl L)), (m4, .inl (cI, 6, .inl C)), (m12, .inl (cI, 6, .inl PY))]) ([(m0, .inr (5, [.int mfa, .int mho, .ref m2, .ref m3, .ref m4, .int mra, .int mrh, .ref m7, .ref m8, .ref m9, .ref m10, .ref m11, .ref m12, .int mch, .int mfr, .int mfw, .int mrd, .ref m17, .ref m18, .ref m19, .ref m20, .ref m21, .ref m22, .ref m23, .int mtr])), (m2, .inl (cI, 6, .inl K)), (m3, .inl (cI, 6, .inl L)), (m4, .inl (cI, 6, .inl C)), (m12, .inl (cI, 6, .inl PY))]) ([(m0, .inr (5, [.int mfa, .int mho, .ref m2, .ref m3, .ref m4, .int mra, .int mrh, .ref m7, .ref m8, .ref m9, .ref m10, .ref m11, .ref m12, .int mch, .int mfr, .int mfw, .int mrd, .ref m17, .ref m18, .ref m19, .ref m20, .ref m21, .ref m22, .ref m23, .int mtr])), (m2, .inl (cI, 6, .inl K)), (m3, .inl (cI, 6, .inl L)), (m4, .inl (cI, 6, .inl C))]) ([(m0, .inr (5, [.int mfa, .int mho, .ref m2, .ref m3, .ref m4, .int mra, .int mrh, .ref m7, .ref m8, .ref m9, .ref m10, .ref m11, .ref m12, .int mch, .int mfr, .int mfw, .int mrd, .ref m17, .ref m18, .ref m19, .ref m20, .ref m21, .ref m22, .ref m23, .int mtr])), (m2, .inl (cI, 6, .inl K)), (m3, .inl (cI, 6, .inl L)), (m4, .inl (cI, 6, .inl C))]) ([(m12, .inl (cI, 6, .inl PY))]) hP hD [0, 1, 2, 3] [4] [m0, m2, m3, m4, m12] 5 rfl rfl rfl rfl rfl (by decide) rfl rfl hk1 hB
      have j4 : vp_in (p5_choiceOf mho K L C i1 i2) 6 := choiceOf_in j1 hNb
      refine lv_iload_n hx hb dX5_name_30 rfl (lv_at hl 2 rfl) ?_
      have hPc := hP.sub (ws' := [(m0, .inr (5, [.int mfa, .int mho, .ref m2, .ref m3, .ref m4, .int mra, .int mrh, .ref m7, .ref m8, .ref m9, .ref m10, .ref m11, .ref m12, .int mch, .int mfr, .int mfw, .int mrd, .ref m17, .ref m18, .ref m19, .ref m20, .ref m21, .ref m22, .ref m23, .int mtr])), (m2, .inl (cI, 6, .inl K)), (m3, .inl (cI, 6, .inl L)), (m4, .inl (cI, 6, .inl C)), (m12, .inl (cI, 6, .inl PY))]) [0, 1, 2, 3, 4] rfl
      have hDc := hD.sub (ws' := [(m0, .inr (5, [.int mfa, .int mho, .ref m2, .ref m3, .ref m4, .int mra, .int mrh, .ref m7, .ref m8, .ref m9, .ref m10, .ref m11, .ref m12, .int mch, .int mfr, .int mfw, .int mrd, .ref m17, .ref m18, .ref m19, .ref m20, .ref m21, .ref m22, .ref m23, .int mtr])), (m2, .inl (cI, 6, .inl K)), (m3, .inl (cI, 6, .inl L)), (m4, .inl (cI, 6, .inl C)), (m12, .inl (cI, 6, .inl PY))]) [0, 1, 2, 3, 4] (by decide) rfl
      have hKc := hK.sub (tys' := [(cI, .int)]) [0] rfl
      have hFc := va_free (wc := [(m0, .inr (5, [.int mfa, .int mho, .ref m2, .ref m3, .ref m4, .int mra, .int mrh, .ref m7, .ref m8, .ref m9, .ref m10, .ref m11, .ref m12, .int mch, .int mfr, .int mfw, .int mrd, .ref m17, .ref m18, .ref m19, .ref m20, .ref m21, .ref m22, .ref m23, .int mtr])), (m2, .inl (cI, 6, .inl K)), (m3, .inl (cI, 6, .inl L)), (m4, .inl (cI, 6, .inl C)), (m12, .inl (cI, 6, .inl PY))]) hD hS hA [0, 1, 2, 3, 4] rfl
      refine va_calli (va_runV (As := [.int i1, .int (p5_choiceOf mho K L C i1 i2), .int i2]) (rest := []) ⟨hx, hb, hml, hown, hts⟩ (ctX5_goPair l dC dI cI m0 m2 m3 m4 m7 m8 m9 m10 m11 m12 m17 m18 m19 m20 m21 m22 m23 H.size mfa mho mra mrh mch mfr mfw mrd mtr K L C PY i1 (p5_choiceOf mho K L C i1 i2) i2 (by assumption) (by assumption) (by assumption)) (cwV 3 hts gX5_name_X5_goPair rfl rfl rfl (by decide +kernel) ⟨Nat.le_of_ble_eq_true rfl, Nat.le_of_ble_eq_true rfl⟩) (pre_V hKc hN hPc hDc (RX5, TX5, 25) 5 0 rfl rfl) rfl rfl hl.1 rfl (lv_room (Nat.le_of_ble_eq_true rfl)) dX5_name_31 ⟨Nat.le_of_ble_eq_true rfl, Nat.le_of_ble_eq_true rfl⟩) hS (fun q _ h => hFc q h) hFc (fun r_31 _ t H locs ht hvm hw hB hz1 hk1 hS => ?_)
      try dsimp only at hw
      have er_31 := hw.symm
      rw [ht] at hB
      refine nm_gen ((p5_goPair mho mch mfr K L C PY i1 (p5_choiceOf mho K L C i1 i2) i2).2.1) (fun mch_31 emch_31 => ?_)
      rw [emch_31] at hB
      refine nm_gen ((p5_goPair mho mch mfr K L C PY i1 (p5_choiceOf mho K L C i1 i2) i2).2.2.1) (fun mfr_31 emfr_31 => ?_)
      rw [emfr_31] at hB
      refine nm_gen ((p5_goPair mho mch mfr K L C PY i1 (p5_choiceOf mho K L C i1 i2) i2).2.2.2.1) (fun L_31 eL_31 => ?_)
      rw [eL_31] at hB
      refine nm_gen ((p5_goPair mho mch mfr K L C PY i1 (p5_choiceOf mho K L C i1 i2) i2).2.2.2.2.1) (fun C_31 eC_31 => ?_)
      rw [eC_31] at hB
      refine nm_gen ((p5_goPair mho mch mfr K L C PY i1 (p5_choiceOf mho K L C i1 i2) i2).2.2.2.2.2) (fun PY_31 ePY_31 => ?_)
      rw [ePY_31] at hB
      obtain ⟨hP, hD⟩ := rw_join ([(m0, .inr (5, [.int mfa, .int mho, .ref m2, .ref m3, .ref m4, .int mra, .int mrh, .ref m7, .ref m8, .ref m9, .ref m10, .ref m11, .ref m12, .int mch, .int mfr, .int mfw, .int mrd, .ref m17, .ref m18, .ref m19, .ref m20, .ref m21, .ref m22, .ref m23, .int mtr])), (m2, .inl (cI, 6, .inl K)), (m3, .inl (cI, 6, .inl L)), (m4, .inl (cI, 6, .inl C)), (m12, .inl (cI, 6, .inl PY))]) ([(m0, .inr (5, [.int mfa, .int mho, .ref m2, .ref m3, .ref m4, .int mra, .int mrh, .ref m7, .ref m8, .ref m9, .ref m10, .ref m11, .ref m12, .int mch_31, .int mfr_31, .int mfw, .int mrd, .ref m17, .ref m18, .ref m19, .ref m20, .ref m21, .ref m22, .ref m23, .int mtr])), (m2, .inl (cI, 6, .inl K)), (m3, .inl (cI, 6, .inl L_31)), (m4, .inl (cI, 6, .inl C_31)), (m12, .inl (cI, 6, .inl PY_31))]) ([(m0, .inr (5, [.int mfa, .int mho, .ref m2, .ref m3, .ref m4, .int mra, .int mrh, .ref m7, .ref m8, .ref m9, .ref m10, .ref m11, .ref m12, .int mch, .int mfr, .int mfw, .int mrd, .ref m17, .ref m18, .ref m19, .ref m20, .ref m21, .ref m22, .ref m23, .int mtr])), (m2, .inl (cI, 6, .inl K)), (m3, .inl (cI, 6, .inl L)), (m4, .inl (cI, 6, .inl C)), (m12, .inl (cI, 6, .inl PY))]) ([(m0, .inr (5, [.int mfa, .int mho, .ref m2, .ref m3, .ref m4, .int mra, .int mrh, .ref m7, .ref m8, .ref m9, .ref m10, .ref m11, .ref m12, .int mch_31, .int mfr_31, .int mfw, .int mrd, .ref m17, .ref m18, .ref m19, .ref m20, .ref m21, .ref m22, .ref m23, .int mtr])), (m2, .inl (cI, 6, .inl K)), (m3, .inl (cI, 6, .inl L_31)), (m4, .inl (cI, 6, .inl C_31)), (m12, .inl (cI, 6, .inl PY_31))]) ([]) hP hD [0, 1, 2, 3, 4] [] [m0, m2, m3, m4, m12] 5 rfl rfl rfl rfl rfl (by decide) rfl rfl hk1 hB
      have hE9 : p5_name mho mch mfr K L C PY i1 i2 = (r_31, mch_31, mfr_31, L_31, C_31, PY_31) := by unfold p5_name; simp only [er_31, emch_31, emfr_31, eL_31, eC_31, ePY_31]; rw [if_pos c_5, if_pos c_14]
      exact W.iret (v := r_31) hx hb hr (fun t ht hW => ⟨⟨_, (), rfl, by rw [hE9], by show va_P (dC, dI) vwCl _ t.heap; rw [ht, hE9]; exact hP⟩, hS.F ht⟩) hS.2.2 dX5_name_34
    · skip
      refine lv_bipush (v := (-2)) hx hb dX5_name_17 (by decide) ?_
      refine lv_goto (tgt := 34) hx hb dX5_name_19 (by decide) ?_
      have hE9 : p5_name mho mch mfr K L C PY i1 i2 = ((-2), mch, mfr, L, C, PY) := by unfold p5_name; rw [if_pos c_5, if_neg c_14]
      exact W.iret (v := (-2)) hx hb hr (fun t ht hW => ⟨⟨_, (), rfl, by rw [hE9], by show va_P (dC, dI) vwCl _ t.heap; rw [ht, hE9]; exact hP⟩, hS.F ht⟩) hS.2.2 dX5_name_34
  · skip
    refine lv_iconst (v := (-1)) hx hb dX5_name_8 (by decide) ?_
    have hE9 : p5_name mho mch mfr K L C PY i1 i2 = ((-1), mch, mfr, L, C, PY) := by unfold p5_name; rw [if_neg c_5]
    exact W.iret (v := (-1)) hx hb hr (fun t ht hW => ⟨⟨_, (), rfl, by rw [hE9], by show va_P (dC, dI) vwCl _ t.heap; rw [ht, hE9]; exact hP⟩, hS.F ht⟩) hS.2.2 dX5_name_9

def p5_safe_l42 (mho : Int32) (K : Nat → Int32) (L : Nat → Int32) (C : Nat → Int32) (i1 : Int32) (i2 : Int32) : Nat → Int32 → Int32 → (Nat → Int32) → (Nat → Int32) → Int32 × (Nat → Int32) × (Nat → Int32)
  | 0, _, _, _, _ => (0, fun _ => 0, fun _ => 0)
  | n + 1, v5, v6, L_, C_ =>
    if (L i1.toNatClampNeg) < v6 then
      (v5, (upd L_ i1.toNatClampNeg (L i1.toNatClampNeg)), (upd C_ i1.toNatClampNeg (C i1.toNatClampNeg)))
    else
      if 0 ≤ v5 then
        (v5, (upd L_ i1.toNatClampNeg (L i1.toNatClampNeg)), (upd C_ i1.toNatClampNeg (C i1.toNatClampNeg)))
      else
        if (p5_isPointedAt mho K (upd L_ i1.toNatClampNeg ((L i1.toNatClampNeg) - v6)) (upd C_ i1.toNatClampNeg ((C i1.toNatClampNeg) + v6)) i1 i2) = 0 then
          p5_safe_l42 mho K L C i1 i2 n v6 (v6 + 1) (upd L_ i1.toNatClampNeg ((L i1.toNatClampNeg) - v6)) (upd C_ i1.toNatClampNeg ((C i1.toNatClampNeg) + v6))
        else
          p5_safe_l42 mho K L C i1 i2 n (-9) (v6 + 1) (upd L_ i1.toNatClampNeg ((L i1.toNatClampNeg) - v6)) (upd C_ i1.toNatClampNeg ((C i1.toNatClampNeg) + v6))
theorem p5_safe_l42_s (mho : Int32) (K : Nat → Int32) (L : Nat → Int32) (C : Nat → Int32) (i1 : Int32) (i2 : Int32) (n : Nat) (v5 : Int32) (v6 : Int32) (L_ : Nat → Int32) (C_ : Nat → Int32) : p5_safe_l42 mho K L C i1 i2 (n + 1) v5 v6 L_ C_ =
    (if (L i1.toNatClampNeg) < v6 then
      (v5, (upd L_ i1.toNatClampNeg (L i1.toNatClampNeg)), (upd C_ i1.toNatClampNeg (C i1.toNatClampNeg)))
    else
      if 0 ≤ v5 then
        (v5, (upd L_ i1.toNatClampNeg (L i1.toNatClampNeg)), (upd C_ i1.toNatClampNeg (C i1.toNatClampNeg)))
      else
        if (p5_isPointedAt mho K (upd L_ i1.toNatClampNeg ((L i1.toNatClampNeg) - v6)) (upd C_ i1.toNatClampNeg ((C i1.toNatClampNeg) + v6)) i1 i2) = 0 then
          p5_safe_l42 mho K L C i1 i2 n v6 (v6 + 1) (upd L_ i1.toNatClampNeg ((L i1.toNatClampNeg) - v6)) (upd C_ i1.toNatClampNeg ((C i1.toNatClampNeg) + v6))
        else
          p5_safe_l42 mho K L C i1 i2 n (-9) (v6 + 1) (upd L_ i1.toNatClampNeg ((L i1.toNatClampNeg) - v6)) (upd C_ i1.toNatClampNeg ((C i1.toNatClampNeg) + v6))) := rfl
def p5_safe (mho : Int32) (K : Nat → Int32) (L : Nat → Int32) (C : Nat → Int32) (i1 : Int32) (i2 : Int32) : Int32 × (Nat → Int32) × (Nat → Int32) :=
  if (p5_noHouse mho i1) = 0 then
    if (p5_noCost i2) = 0 then
      p5_safe_l42 mho K L C i1 i2 20 (-9) 0 L C
    else
      ((-2), L, C)
  else
    ((-1), L, C)
abbrev rmX5_safe : Room := { frames := 6, cells := 0, slots := 0, locals := 142 }
abbrev QX5_safe (dC : Nat → ClassId) (dI : Nat → Nat → Nat) (A : Nat → Prop) (cI : ClassId) (m0 : Nat) (m2 : Nat) (m3 : Nat) (m4 : Nat) (m7 : Nat) (m8 : Nat) (m9 : Nat) (m10 : Nat) (m11 : Nat) (m12 : Nat) (m17 : Nat) (m18 : Nat) (m19 : Nat) (m20 : Nat) (m21 : Nat) (m22 : Nat) (m23 : Nat) (mfa : Int32) (mho : Int32) (mra : Int32) (mrh : Int32) (mch : Int32) (mfr : Int32) (mfw : Int32) (mrd : Int32) (mtr : Int32) (K : Nat → Int32) (L : Nat → Int32) (C : Nat → Int32) (i1 : Int32) (i2 : Int32) : Array Value → State → Outcome → State → Prop := va_Qi (fun (r : Int32) (_ : Unit) => r = (p5_safe mho K L C i1 i2).1) (fun (_ : Unit) (t : State) => va_P (dC, dI) vwCl ([(m0, .inr (5, [.int mfa, .int mho, .ref m2, .ref m3, .ref m4, .int mra, .int mrh, .ref m7, .ref m8, .ref m9, .ref m10, .ref m11, .ref m12, .int mch, .int mfr, .int mfw, .int mrd, .ref m17, .ref m18, .ref m19, .ref m20, .ref m21, .ref m22, .ref m23, .int mtr])), (m2, .inl (cI, 6, .inl K)), (m3, .inl (cI, 6, .inl ((p5_safe mho K L C i1 i2).2.1))), (m4, .inl (cI, 6, .inl ((p5_safe mho K L C i1 i2).2.2)))]) t.heap) A
set_option maxHeartbeats 4000000 in
set_option maxRecDepth 100000 in
theorem ctX5_safe (l : Launch) (dC : Nat → ClassId) (dI : Nat → Nat → Nat) (cI : ClassId) (m0 : Nat) (m2 : Nat) (m3 : Nat) (m4 : Nat) (m7 : Nat) (m8 : Nat) (m9 : Nat) (m10 : Nat) (m11 : Nat) (m12 : Nat) (m17 : Nat) (m18 : Nat) (m19 : Nat) (m20 : Nat) (m21 : Nat) (m22 : Nat) (m23 : Nat) (sz : Nat) (mfa : Int32) (mho : Int32) (mra : Int32) (mrh : Int32) (mch : Int32) (mfr : Int32) (mfw : Int32) (mrd : Int32) (mtr : Int32) (K : Nat → Int32) (L : Nat → Int32) (C : Nat → Int32) (i1 : Int32) (i2 : Int32) (hNb : mho.toInt ≤ 6) (hL18 : ∀ j : Nat, (L j).toInt ≤ 18) : Met l yX5_safe wsX5_safe rmX5_safe (va_Pc [.ref m0, .int i1, .int i2] (cP dC dI [(cI, .int)] ([(m0, .inr (5, [.int mfa, .int mho, .ref m2, .ref m3, .ref m4, .int mra, .int mrh, .ref m7, .ref m8, .ref m9, .ref m10, .ref m11, .ref m12, .int mch, .int mfr, .int mfw, .int mrd, .ref m17, .ref m18, .ref m19, .ref m20, .ref m21, .ref m22, .ref m23, .int mtr])), (m2, .inl (cI, 6, .inl K)), (m3, .inl (cI, 6, .inl L)), (m4, .inl (cI, 6, .inl C))]) sz)) (QX5_safe dC dI (va_A ([(m0, .inr (5, [.int mfa, .int mho, .ref m2, .ref m3, .ref m4, .int mra, .int mrh, .ref m7, .ref m8, .ref m9, .ref m10, .ref m11, .ref m12, .int mch, .int mfr, .int mfw, .int mrd, .ref m17, .ref m18, .ref m19, .ref m20, .ref m21, .ref m22, .ref m23, .int mtr])), (m2, .inl (cI, 6, .inl K)), (m3, .inl (cI, 6, .inl L)), (m4, .inl (cI, 6, .inl C))]) sz) cI m0 m2 m3 m4 m7 m8 m9 m10 m11 m12 m17 m18 m19 m20 m21 m22 m23 mfa mho mra mrh mch mfr mfw mrd mtr K L C i1 i2) 0 0 (va_A ([(m0, .inr (5, [.int mfa, .int mho, .ref m2, .ref m3, .ref m4, .int mra, .int mrh, .ref m7, .ref m8, .ref m9, .ref m10, .ref m11, .ref m12, .int mch, .int mfr, .int mfw, .int mrd, .ref m17, .ref m18, .ref m19, .ref m20, .ref m21, .ref m22, .ref m23, .int mtr])), (m2, .inl (cI, 6, .inl K)), (m3, .inl (cI, 6, .inl L)), (m4, .inl (cI, 6, .inl C))]) sz) := by
  refine Met.ofW (cc := cX5_safe) (maxL := 7) (ret := (some .int)) (by decide) rfl ?_
  intro p e s m args below meth c s₁ B hml hv
  obtain ⟨rfl, hsz, hP, hK, hD0, hN⟩ := hv
  have hx := B.exec
  have hb := B.bytes
  have hr := B.returns
  have hts := atoms_spec (ws := wsX5_safe) B.pre
  have hown : s.vm.findClass RX5 = some m.cls := findClass_of_methodNamed B.named
  have hlocks := B.notSynchronized
  subst hsz
  have hD := hD0.self (sz := s.heap.size)
  generalize hAe : va_A ([(m0, .inr (5, [.int mfa, .int mho, .ref m2, .ref m3, .ref m4, .int mra, .int mrh, .ref m7, .ref m8, .ref m9, .ref m10, .ref m11, .ref m12, .int mch, .int mfr, .int mfw, .int mrd, .ref m17, .ref m18, .ref m19, .ref m20, .ref m21, .ref m22, .ref m23, .int mtr])), (m2, .inl (cI, 6, .inl K)), (m3, .inl (cI, 6, .inl L)), (m4, .inl (cI, 6, .inl C))]) s.heap.size = A at hD ⊢
  have hA : ∀ q : Nat, s.heap.size ≤ q → A q := fun q h => by rw [← hAe]; exact Or.inr h
  have hS : va_S A s.heap s.heap [] := va_S.rf
  have hP : va_P (dC, dI) vwCl ([(m0, .inr (5, [.int mfa, .int mho, .ref m2, .ref m3, .ref m4, .int mra, .int mrh, .ref m7, .ref m8, .ref m9, .ref m10, .ref m11, .ref m12, .int mch, .int mfr, .int mfw, .int mrd, .ref m17, .ref m18, .ref m19, .ref m20, .ref m21, .ref m22, .ref m23, .int mtr])), (m2, .inl (cI, 6, .inl K)), (m3, .inl (cI, 6, .inl L)), (m4, .inl (cI, 6, .inl C))]) s.heap := hP
  have hin5 : ∀ w ∈ wsX50, w ∈ wsX5_safe := by decide +kernel
  have kf_13 := hts (.fieldLink RX5 13 "RicherChangeModel" "landOf" "[I") (by decide +kernel)
  have kf_16 := hts (.fieldLink RX5 16 "RicherChangeModel" "coinOf" "[I") (by decide +kernel)
  have hl := lv_entry ([.ref m0, .int i1, .int i2]) (n := 7) (Nat.le_of_ble_eq_true rfl)
  rw [lg_entry_eq]
  generalize (lg_sl ([.ref m0, .int i1, .int i2]) ++ List.replicate (7 - (lg_sl ([.ref m0, .int i1, .int i2])).length) Slot.unset).toArray = ls at hl ⊢
  have hl : lv_has ls 7 [(0, .ref m0), (1, .int i1), (2, .int i2)] := hl
  have lp_42 : ∀ (n : Nat) (v5 : Int32) (v6 : Int32) (L_ : Nat → Int32) (C_ : Nat → Int32) (H : Heap) (locs : List Loc) (ls : Array Slot), (upe v6 (L i1.toNatClampNeg) n) → (vp_in i1 6) → va_P (dC, dI) vwCl ([(m0, .inr (5, [.int mfa, .int mho, .ref m2, .ref m3, .ref m4, .int mra, .int mrh, .ref m7, .ref m8, .ref m9, .ref m10, .ref m11, .ref m12, .int mch, .int mfr, .int mfw, .int mrd, .ref m17, .ref m18, .ref m19, .ref m20, .ref m21, .ref m22, .ref m23, .int mtr])), (m2, .inl (cI, 6, .inl K)), (m3, .inl (cI, 6, .inl L_)), (m4, .inl (cI, 6, .inl C_))]) H → va_D A ([(m0, .inr (5, [.int mfa, .int mho, .ref m2, .ref m3, .ref m4, .int mra, .int mrh, .ref m7, .ref m8, .ref m9, .ref m10, .ref m11, .ref m12, .int mch, .int mfr, .int mfw, .int mrd, .ref m17, .ref m18, .ref m19, .ref m20, .ref m21, .ref m22, .ref m23, .int mtr])), (m2, .inl (cI, 6, .inl K)), (m3, .inl (cI, 6, .inl L_)), (m4, .inl (cI, 6, .inl C_))]) → va_S A s.heap H locs → lv_has ls 7 [(6, .int v6), (5, .int v5), (4, .int (C i1.toNatClampNeg)), (3, .int (L i1.toNatClampNeg)), (0, .ref m0), (1, .int i1), (2, .int i2)] → p5_safe mho K L C i1 i2 = p5_safe_l42 mho K L C i1 i2 n v5 v6 L_ C_ → W p l e (headSpec wsX5_safe rmX5_safe).room s m [.ref m0, .int i1, .int i2].toArray below meth c H locs 0 0 (MQ below (QX5_safe dC dI A cI m0 m2 m3 m4 m7 m8 m9 m10 m11 m12 m17 m18 m19 m20 m21 m22 m23 mfa mho mra mrh mch mfr mfw mrd mtr K L C i1 i2) [.ref m0, .int i1, .int i2].toArray s 0 0 A) (F0 m 42 ls []) := by
    intro n
    induction n with
    | zero => intro v5 v6 L_ C_ _ _ _ hu hj1; exact absurd hu upe_no
    | succ n ih =>
      intro v5 v6 L_ C_ H locs ls hu hj1 hP hD hS hl hE
      refine lv_iload hx hb dX5_safe_42 (lv_at hl 0 rfl) ?_
      refine lv_iload_n hx hb dX5_safe_44 rfl (lv_at hl 3 rfl) ?_
      refine lv_icmp_gt (tgt := 98) hx hb dX5_safe_45 (by decide) (fun c_45 => ?_) (fun c_45 => ?_)
      · skip
        refine lv_aload_n hx hb dX5_safe_98 rfl (lv_at hl 4 rfl) ?_
        refine va_get (D := (dC, dI)) (ci := 5) (v := .ref m3) (C := RX5) (T := TX5) (N := 25) hx hb hts hin5 hown hK hP 0 rfl rfl 3 (by decide) kf_13 (fun _ h9 => h9) rfl dX5_safe_99 ?_
        refine lv_iload_n hx hb dX5_safe_102 rfl (lv_at hl 5 rfl) ?_
        refine lv_iload_n hx hb dX5_safe_103 rfl (lv_at hl 3 rfl) ?_
        refine va_iast hx hb hK hP hD hS 2 0 rfl rfl (by assumption) dX5_safe_104 (fun H locs hP hD hS => ?_)
        have hP : va_P (dC, dI) vwCl ([(m0, .inr (5, [.int mfa, .int mho, .ref m2, .ref m3, .ref m4, .int mra, .int mrh, .ref m7, .ref m8, .ref m9, .ref m10, .ref m11, .ref m12, .int mch, .int mfr, .int mfw, .int mrd, .ref m17, .ref m18, .ref m19, .ref m20, .ref m21, .ref m22, .ref m23, .int mtr])), (m2, .inl (cI, 6, .inl K)), (m3, .inl (cI, 6, .inl (upd L_ i1.toNatClampNeg (L i1.toNatClampNeg)))), (m4, .inl (cI, 6, .inl C_))]) H := hP
        have hD : va_D A ([(m0, .inr (5, [.int mfa, .int mho, .ref m2, .ref m3, .ref m4, .int mra, .int mrh, .ref m7, .ref m8, .ref m9, .ref m10, .ref m11, .ref m12, .int mch, .int mfr, .int mfw, .int mrd, .ref m17, .ref m18, .ref m19, .ref m20, .ref m21, .ref m22, .ref m23, .int mtr])), (m2, .inl (cI, 6, .inl K)), (m3, .inl (cI, 6, .inl (upd L_ i1.toNatClampNeg (L i1.toNatClampNeg)))), (m4, .inl (cI, 6, .inl C_))]) := hD
        refine lv_aload_n hx hb dX5_safe_105 rfl (lv_at hl 4 rfl) ?_
        refine va_get (D := (dC, dI)) (ci := 5) (v := .ref m4) (C := RX5) (T := TX5) (N := 25) hx hb hts hin5 hown hK hP 0 rfl rfl 4 (by decide) kf_16 (fun _ h9 => h9) rfl dX5_safe_106 ?_
        refine lv_iload_n hx hb dX5_safe_109 rfl (lv_at hl 5 rfl) ?_
        refine lv_iload hx hb dX5_safe_110 (lv_at hl 2 rfl) ?_
        refine va_iast hx hb hK hP hD hS 3 0 rfl rfl (by assumption) dX5_safe_112 (fun H locs hP hD hS => ?_)
        have hP : va_P (dC, dI) vwCl ([(m0, .inr (5, [.int mfa, .int mho, .ref m2, .ref m3, .ref m4, .int mra, .int mrh, .ref m7, .ref m8, .ref m9, .ref m10, .ref m11, .ref m12, .int mch, .int mfr, .int mfw, .int mrd, .ref m17, .ref m18, .ref m19, .ref m20, .ref m21, .ref m22, .ref m23, .int mtr])), (m2, .inl (cI, 6, .inl K)), (m3, .inl (cI, 6, .inl (upd L_ i1.toNatClampNeg (L i1.toNatClampNeg)))), (m4, .inl (cI, 6, .inl (upd C_ i1.toNatClampNeg (C i1.toNatClampNeg))))]) H := hP
        have hD : va_D A ([(m0, .inr (5, [.int mfa, .int mho, .ref m2, .ref m3, .ref m4, .int mra, .int mrh, .ref m7, .ref m8, .ref m9, .ref m10, .ref m11, .ref m12, .int mch, .int mfr, .int mfw, .int mrd, .ref m17, .ref m18, .ref m19, .ref m20, .ref m21, .ref m22, .ref m23, .int mtr])), (m2, .inl (cI, 6, .inl K)), (m3, .inl (cI, 6, .inl (upd L_ i1.toNatClampNeg (L i1.toNatClampNeg)))), (m4, .inl (cI, 6, .inl (upd C_ i1.toNatClampNeg (C i1.toNatClampNeg))))]) := hD
        refine lv_iload hx hb dX5_safe_113 (lv_at hl 1 rfl) ?_
        have hE9 : p5_safe mho K L C i1 i2 = (v5, (upd L_ i1.toNatClampNeg (L i1.toNatClampNeg)), (upd C_ i1.toNatClampNeg (C i1.toNatClampNeg))) := hE.trans (by rw [p5_safe_l42_s, if_pos c_45])
        exact W.iret (v := v5) hx hb hr (fun t ht hW => ⟨⟨_, (), rfl, by rw [hE9], by show va_P (dC, dI) vwCl _ t.heap; rw [ht, hE9]; exact hP⟩, hS.F ht⟩) hS.2.2 dX5_safe_115
      · skip
        refine lv_iload hx hb dX5_safe_48 (lv_at hl 1 rfl) ?_
        refine lv_if_ge (tgt := 98) hx hb dX5_safe_50 (by decide) (fun c_50 => ?_) (fun c_50 => ?_)
        · skip
          refine lv_aload_n hx hb dX5_safe_98 rfl (lv_at hl 4 rfl) ?_
          refine va_get (D := (dC, dI)) (ci := 5) (v := .ref m3) (C := RX5) (T := TX5) (N := 25) hx hb hts hin5 hown hK hP 0 rfl rfl 3 (by decide) kf_13 (fun _ h9 => h9) rfl dX5_safe_99 ?_
          refine lv_iload_n hx hb dX5_safe_102 rfl (lv_at hl 5 rfl) ?_
          refine lv_iload_n hx hb dX5_safe_103 rfl (lv_at hl 3 rfl) ?_
          refine va_iast hx hb hK hP hD hS 2 0 rfl rfl (by assumption) dX5_safe_104 (fun H locs hP hD hS => ?_)
          have hP : va_P (dC, dI) vwCl ([(m0, .inr (5, [.int mfa, .int mho, .ref m2, .ref m3, .ref m4, .int mra, .int mrh, .ref m7, .ref m8, .ref m9, .ref m10, .ref m11, .ref m12, .int mch, .int mfr, .int mfw, .int mrd, .ref m17, .ref m18, .ref m19, .ref m20, .ref m21, .ref m22, .ref m23, .int mtr])), (m2, .inl (cI, 6, .inl K)), (m3, .inl (cI, 6, .inl (upd L_ i1.toNatClampNeg (L i1.toNatClampNeg)))), (m4, .inl (cI, 6, .inl C_))]) H := hP
          have hD : va_D A ([(m0, .inr (5, [.int mfa, .int mho, .ref m2, .ref m3, .ref m4, .int mra, .int mrh, .ref m7, .ref m8, .ref m9, .ref m10, .ref m11, .ref m12, .int mch, .int mfr, .int mfw, .int mrd, .ref m17, .ref m18, .ref m19, .ref m20, .ref m21, .ref m22, .ref m23, .int mtr])), (m2, .inl (cI, 6, .inl K)), (m3, .inl (cI, 6, .inl (upd L_ i1.toNatClampNeg (L i1.toNatClampNeg)))), (m4, .inl (cI, 6, .inl C_))]) := hD
          refine lv_aload_n hx hb dX5_safe_105 rfl (lv_at hl 4 rfl) ?_
          refine va_get (D := (dC, dI)) (ci := 5) (v := .ref m4) (C := RX5) (T := TX5) (N := 25) hx hb hts hin5 hown hK hP 0 rfl rfl 4 (by decide) kf_16 (fun _ h9 => h9) rfl dX5_safe_106 ?_
          refine lv_iload_n hx hb dX5_safe_109 rfl (lv_at hl 5 rfl) ?_
          refine lv_iload hx hb dX5_safe_110 (lv_at hl 2 rfl) ?_
          refine va_iast hx hb hK hP hD hS 3 0 rfl rfl (by assumption) dX5_safe_112 (fun H locs hP hD hS => ?_)
          have hP : va_P (dC, dI) vwCl ([(m0, .inr (5, [.int mfa, .int mho, .ref m2, .ref m3, .ref m4, .int mra, .int mrh, .ref m7, .ref m8, .ref m9, .ref m10, .ref m11, .ref m12, .int mch, .int mfr, .int mfw, .int mrd, .ref m17, .ref m18, .ref m19, .ref m20, .ref m21, .ref m22, .ref m23, .int mtr])), (m2, .inl (cI, 6, .inl K)), (m3, .inl (cI, 6, .inl (upd L_ i1.toNatClampNeg (L i1.toNatClampNeg)))), (m4, .inl (cI, 6, .inl (upd C_ i1.toNatClampNeg (C i1.toNatClampNeg))))]) H := hP
          have hD : va_D A ([(m0, .inr (5, [.int mfa, .int mho, .ref m2, .ref m3, .ref m4, .int mra, .int mrh, .ref m7, .ref m8, .ref m9, .ref m10, .ref m11, .ref m12, .int mch, .int mfr, .int mfw, .int mrd, .ref m17, .ref m18, .ref m19, .ref m20, .ref m21, .ref m22, .ref m23, .int mtr])), (m2, .inl (cI, 6, .inl K)), (m3, .inl (cI, 6, .inl (upd L_ i1.toNatClampNeg (L i1.toNatClampNeg)))), (m4, .inl (cI, 6, .inl (upd C_ i1.toNatClampNeg (C i1.toNatClampNeg))))]) := hD
          refine lv_iload hx hb dX5_safe_113 (lv_at hl 1 rfl) ?_
          have hE9 : p5_safe mho K L C i1 i2 = (v5, (upd L_ i1.toNatClampNeg (L i1.toNatClampNeg)), (upd C_ i1.toNatClampNeg (C i1.toNatClampNeg))) := hE.trans (by rw [p5_safe_l42_s, if_neg c_45, if_pos c_50])
          exact W.iret (v := v5) hx hb hr (fun t ht hW => ⟨⟨_, (), rfl, by rw [hE9], by show va_P (dC, dI) vwCl _ t.heap; rw [ht, hE9]; exact hP⟩, hS.F ht⟩) hS.2.2 dX5_safe_115
        · skip
          refine lv_aload_n hx hb dX5_safe_53 rfl (lv_at hl 4 rfl) ?_
          refine va_get (D := (dC, dI)) (ci := 5) (v := .ref m3) (C := RX5) (T := TX5) (N := 25) hx hb hts hin5 hown hK hP 0 rfl rfl 3 (by decide) kf_13 (fun _ h9 => h9) rfl dX5_safe_54 ?_
          refine lv_iload_n hx hb dX5_safe_57 rfl (lv_at hl 5 rfl) ?_
          refine lv_iload_n hx hb dX5_safe_58 rfl (lv_at hl 3 rfl) ?_
          refine lv_iload hx hb dX5_safe_59 (lv_at hl 0 rfl) ?_
          refine lv_isub hx hb dX5_safe_61 ?_
          refine va_iast hx hb hK hP hD hS 2 0 rfl rfl (by assumption) dX5_safe_62 (fun H locs hP hD hS => ?_)
          have hP : va_P (dC, dI) vwCl ([(m0, .inr (5, [.int mfa, .int mho, .ref m2, .ref m3, .ref m4, .int mra, .int mrh, .ref m7, .ref m8, .ref m9, .ref m10, .ref m11, .ref m12, .int mch, .int mfr, .int mfw, .int mrd, .ref m17, .ref m18, .ref m19, .ref m20, .ref m21, .ref m22, .ref m23, .int mtr])), (m2, .inl (cI, 6, .inl K)), (m3, .inl (cI, 6, .inl (upd L_ i1.toNatClampNeg ((L i1.toNatClampNeg) - v6)))), (m4, .inl (cI, 6, .inl C_))]) H := hP
          have hD : va_D A ([(m0, .inr (5, [.int mfa, .int mho, .ref m2, .ref m3, .ref m4, .int mra, .int mrh, .ref m7, .ref m8, .ref m9, .ref m10, .ref m11, .ref m12, .int mch, .int mfr, .int mfw, .int mrd, .ref m17, .ref m18, .ref m19, .ref m20, .ref m21, .ref m22, .ref m23, .int mtr])), (m2, .inl (cI, 6, .inl K)), (m3, .inl (cI, 6, .inl (upd L_ i1.toNatClampNeg ((L i1.toNatClampNeg) - v6)))), (m4, .inl (cI, 6, .inl C_))]) := hD
          refine lv_aload_n hx hb dX5_safe_63 rfl (lv_at hl 4 rfl) ?_
          refine va_get (D := (dC, dI)) (ci := 5) (v := .ref m4) (C := RX5) (T := TX5) (N := 25) hx hb hts hin5 hown hK hP 0 rfl rfl 4 (by decide) kf_16 (fun _ h9 => h9) rfl dX5_safe_64 ?_
          refine lv_iload_n hx hb dX5_safe_67 rfl (lv_at hl 5 rfl) ?_
          refine lv_iload hx hb dX5_safe_68 (lv_at hl 2 rfl) ?_
          refine lv_iload hx hb dX5_safe_70 (lv_at hl 0 rfl) ?_
          refine lv_iadd hx hb dX5_safe_72 ?_
          refine va_iast hx hb hK hP hD hS 3 0 rfl rfl (by assumption) dX5_safe_73 (fun H locs hP hD hS => ?_)
          have hP : va_P (dC, dI) vwCl ([(m0, .inr (5, [.int mfa, .int mho, .ref m2, .ref m3, .ref m4, .int mra, .int mrh, .ref m7, .ref m8, .ref m9, .ref m10, .ref m11, .ref m12, .int mch, .int mfr, .int mfw, .int mrd, .ref m17, .ref m18, .ref m19, .ref m20, .ref m21, .ref m22, .ref m23, .int mtr])), (m2, .inl (cI, 6, .inl K)), (m3, .inl (cI, 6, .inl (upd L_ i1.toNatClampNeg ((L i1.toNatClampNeg) - v6)))), (m4, .inl (cI, 6, .inl (upd C_ i1.toNatClampNeg ((C i1.toNatClampNeg) + v6))))]) H := hP
          have hD : va_D A ([(m0, .inr (5, [.int mfa, .int mho, .ref m2, .ref m3, .ref m4, .int mra, .int mrh, .ref m7, .ref m8, .ref m9, .ref m10, .ref m11, .ref m12, .int mch, .int mfr, .int mfw, .int mrd, .ref m17, .ref m18, .ref m19, .ref m20, .ref m21, .ref m22, .ref m23, .int mtr])), (m2, .inl (cI, 6, .inl K)), (m3, .inl (cI, 6, .inl (upd L_ i1.toNatClampNeg ((L i1.toNatClampNeg) - v6)))), (m4, .inl (cI, 6, .inl (upd C_ i1.toNatClampNeg ((C i1.toNatClampNeg) + v6))))]) := hD
          refine lv_aload_n hx hb dX5_safe_74 rfl (lv_at hl 4 rfl) ?_
          refine lv_iload_n hx hb dX5_safe_75 rfl (lv_at hl 5 rfl) ?_
          refine lv_iload_n hx hb dX5_safe_76 rfl (lv_at hl 6 rfl) ?_
          have hPc := hP.sub (ws' := [(m0, .inr (5, [.int mfa, .int mho, .ref m2, .ref m3, .ref m4, .int mra, .int mrh, .ref m7, .ref m8, .ref m9, .ref m10, .ref m11, .ref m12, .int mch, .int mfr, .int mfw, .int mrd, .ref m17, .ref m18, .ref m19, .ref m20, .ref m21, .ref m22, .ref m23, .int mtr])), (m2, .inl (cI, 6, .inl K)), (m3, .inl (cI, 6, .inl (upd L_ i1.toNatClampNeg ((L i1.toNatClampNeg) - v6)))), (m4, .inl (cI, 6, .inl (upd C_ i1.toNatClampNeg ((C i1.toNatClampNeg) + v6))))]) [0, 1, 2, 3] rfl
          have hDc := hD.sub (ws' := [(m0, .inr (5, [.int mfa, .int mho, .ref m2, .ref m3, .ref m4, .int mra, .int mrh, .ref m7, .ref m8, .ref m9, .ref m10, .ref m11, .ref m12, .int mch, .int mfr, .int mfw, .int mrd, .ref m17, .ref m18, .ref m19, .ref m20, .ref m21, .ref m22, .ref m23, .int mtr])), (m2, .inl (cI, 6, .inl K)), (m3, .inl (cI, 6, .inl (upd L_ i1.toNatClampNeg ((L i1.toNatClampNeg) - v6)))), (m4, .inl (cI, 6, .inl (upd C_ i1.toNatClampNeg ((C i1.toNatClampNeg) + v6))))]) [0, 1, 2, 3] (by decide) rfl
          have hKc := hK.sub (tys' := [(cI, .int)]) [0] rfl
          have hFc := va_free (wc := [(m0, .inr (5, [.int mfa, .int mho, .ref m2, .ref m3, .ref m4, .int mra, .int mrh, .ref m7, .ref m8, .ref m9, .ref m10, .ref m11, .ref m12, .int mch, .int mfr, .int mfw, .int mrd, .ref m17, .ref m18, .ref m19, .ref m20, .ref m21, .ref m22, .ref m23, .int mtr])), (m2, .inl (cI, 6, .inl K)), (m3, .inl (cI, 6, .inl (upd L_ i1.toNatClampNeg ((L i1.toNatClampNeg) - v6)))), (m4, .inl (cI, 6, .inl (upd C_ i1.toNatClampNeg ((C i1.toNatClampNeg) + v6))))]) hD hS hA [0, 1, 2, 3] rfl
          refine va_calli (va_runV (As := [.int i1, .int i2]) (rest := []) ⟨hx, hb, hml, hown, hts⟩ (ctX5_isPointedAt l dC dI cI m0 m2 m3 m4 m7 m8 m9 m10 m11 m12 m17 m18 m19 m20 m21 m22 m23 H.size mfa mho mra mrh mch mfr mfw mrd mtr K (upd L_ i1.toNatClampNeg ((L i1.toNatClampNeg) - v6)) (upd C_ i1.toNatClampNeg ((C i1.toNatClampNeg) + v6)) i1 i2 (by assumption)) (cwV 2 hts gX5_safe_X5_isPointedAt rfl rfl rfl (by decide +kernel) ⟨Nat.le_of_ble_eq_true rfl, Nat.le_of_ble_eq_true rfl⟩) (pre_V hKc hN hPc hDc (RX5, TX5, 25) 5 0 rfl rfl) rfl rfl hl.1 rfl (lv_room (Nat.le_of_ble_eq_true rfl)) dX5_safe_77 ⟨Nat.le_of_ble_eq_true rfl, Nat.le_of_ble_eq_true rfl⟩) hS (fun q _ h => hFc q h) hFc (fun r _ t H locs ht hvm hw hB hz1 hk1 hS => ?_)
          try dsimp only at hw
          subst hw
          rw [ht] at hB
          obtain ⟨hP, hD⟩ := rw_join ([(m0, .inr (5, [.int mfa, .int mho, .ref m2, .ref m3, .ref m4, .int mra, .int mrh, .ref m7, .ref m8, .ref m9, .ref m10, .ref m11, .ref m12, .int mch, .int mfr, .int mfw, .int mrd, .ref m17, .ref m18, .ref m19, .ref m20, .ref m21, .ref m22, .ref m23, .int mtr])), (m2, .inl (cI, 6, .inl K)), (m3, .inl (cI, 6, .inl (upd L_ i1.toNatClampNeg ((L i1.toNatClampNeg) - v6)))), (m4, .inl (cI, 6, .inl (upd C_ i1.toNatClampNeg ((C i1.toNatClampNeg) + v6))))]) ([(m0, .inr (5, [.int mfa, .int mho, .ref m2, .ref m3, .ref m4, .int mra, .int mrh, .ref m7, .ref m8, .ref m9, .ref m10, .ref m11, .ref m12, .int mch, .int mfr, .int mfw, .int mrd, .ref m17, .ref m18, .ref m19, .ref m20, .ref m21, .ref m22, .ref m23, .int mtr])), (m2, .inl (cI, 6, .inl K)), (m3, .inl (cI, 6, .inl (upd L_ i1.toNatClampNeg ((L i1.toNatClampNeg) - v6)))), (m4, .inl (cI, 6, .inl (upd C_ i1.toNatClampNeg ((C i1.toNatClampNeg) + v6))))]) ([(m0, .inr (5, [.int mfa, .int mho, .ref m2, .ref m3, .ref m4, .int mra, .int mrh, .ref m7, .ref m8, .ref m9, .ref m10, .ref m11, .ref m12, .int mch, .int mfr, .int mfw, .int mrd, .ref m17, .ref m18, .ref m19, .ref m20, .ref m21, .ref m22, .ref m23, .int mtr])), (m2, .inl (cI, 6, .inl K)), (m3, .inl (cI, 6, .inl (upd L_ i1.toNatClampNeg ((L i1.toNatClampNeg) - v6)))), (m4, .inl (cI, 6, .inl (upd C_ i1.toNatClampNeg ((C i1.toNatClampNeg) + v6))))]) ([(m0, .inr (5, [.int mfa, .int mho, .ref m2, .ref m3, .ref m4, .int mra, .int mrh, .ref m7, .ref m8, .ref m9, .ref m10, .ref m11, .ref m12, .int mch, .int mfr, .int mfw, .int mrd, .ref m17, .ref m18, .ref m19, .ref m20, .ref m21, .ref m22, .ref m23, .int mtr])), (m2, .inl (cI, 6, .inl K)), (m3, .inl (cI, 6, .inl (upd L_ i1.toNatClampNeg ((L i1.toNatClampNeg) - v6)))), (m4, .inl (cI, 6, .inl (upd C_ i1.toNatClampNeg ((C i1.toNatClampNeg) + v6))))]) ([]) hP hD [0, 1, 2, 3] [] [m0, m2, m3, m4] 4 rfl rfl rfl rfl rfl (by decide) rfl rfl hk1 hB
          refine lv_if_eq (tgt := 88) hx hb dX5_safe_80 (by decide) (fun c_80 => ?_) (fun c_80 => ?_)
          · skip
            refine lv_iload hx hb dX5_safe_88 (lv_at hl 0 rfl) ?_
            refine lv_istore (lv' := [(5, .int v6), (6, .int v6), (4, .int (C i1.toNatClampNeg)), (3, .int (L i1.toNatClampNeg)), (0, .ref m0), (1, .int i1), (2, .int i2)]) hx hb dX5_safe_90 hl (by decide) rfl (fun ls hl => ?_)
            refine lv_iinc (v := (v6 + 1)) (lv' := [(6, .int (v6 + 1)), (5, .int v6), (4, .int (C i1.toNatClampNeg)), (3, .int (L i1.toNatClampNeg)), (0, .ref m0), (1, .int i1), (2, .int i2)]) hx hb dX5_safe_92 hl (k := 1) rfl rfl (by decide) rfl (fun ls hl => ?_)
            refine lv_goto (tgt := 42) hx hb dX5_safe_95 (by decide) ?_
            exact ih v6 (v6 + 1) (upd L_ i1.toNatClampNeg ((L i1.toNatClampNeg) - v6)) (upd C_ i1.toNatClampNeg ((C i1.toNatClampNeg) + v6)) _ _ _ (upe_s hu c_45 (by have := hL18 i1.toNatClampNeg; omega)) hj1 hP hD hS (lv_sub hl [0, 1, 2, 3, 4, 5, 6] rfl) (hE.trans (by rw [p5_safe_l42_s, if_neg c_45, if_neg c_50, if_pos c_80]))
          · skip
            refine lv_bipush (v := (-9)) hx hb dX5_safe_83 (by decide) ?_
            refine lv_goto (tgt := 90) hx hb dX5_safe_85 (by decide) ?_
            refine lv_istore (lv' := [(5, .int (-9)), (6, .int v6), (4, .int (C i1.toNatClampNeg)), (3, .int (L i1.toNatClampNeg)), (0, .ref m0), (1, .int i1), (2, .int i2)]) hx hb dX5_safe_90 hl (by decide) rfl (fun ls hl => ?_)
            refine lv_iinc (v := (v6 + 1)) (lv' := [(6, .int (v6 + 1)), (5, .int (-9)), (4, .int (C i1.toNatClampNeg)), (3, .int (L i1.toNatClampNeg)), (0, .ref m0), (1, .int i1), (2, .int i2)]) hx hb dX5_safe_92 hl (k := 1) rfl rfl (by decide) rfl (fun ls hl => ?_)
            refine lv_goto (tgt := 42) hx hb dX5_safe_95 (by decide) ?_
            exact ih (-9) (v6 + 1) (upd L_ i1.toNatClampNeg ((L i1.toNatClampNeg) - v6)) (upd C_ i1.toNatClampNeg ((C i1.toNatClampNeg) + v6)) _ _ _ (upe_s hu c_45 (by have := hL18 i1.toNatClampNeg; omega)) hj1 hP hD hS (lv_sub hl [0, 1, 2, 3, 4, 5, 6] rfl) (hE.trans (by rw [p5_safe_l42_s, if_neg c_45, if_neg c_50, if_neg c_80]))
  refine lv_aload_n hx hb dX5_safe_0 rfl (lv_at hl 0 rfl) ?_
  refine lv_iload_n hx hb dX5_safe_1 rfl (lv_at hl 1 rfl) ?_
  have hPc := hP.sub (ws' := [(m0, .inr (5, [.int mfa, .int mho, .ref m2, .ref m3, .ref m4, .int mra, .int mrh, .ref m7, .ref m8, .ref m9, .ref m10, .ref m11, .ref m12, .int mch, .int mfr, .int mfw, .int mrd, .ref m17, .ref m18, .ref m19, .ref m20, .ref m21, .ref m22, .ref m23, .int mtr]))]) [0] rfl
  have hDc := hD.sub (ws' := [(m0, .inr (5, [.int mfa, .int mho, .ref m2, .ref m3, .ref m4, .int mra, .int mrh, .ref m7, .ref m8, .ref m9, .ref m10, .ref m11, .ref m12, .int mch, .int mfr, .int mfw, .int mrd, .ref m17, .ref m18, .ref m19, .ref m20, .ref m21, .ref m22, .ref m23, .int mtr]))]) [0] (by decide) rfl
  have hKc := hK.sub (tys' := [(cI, .int)]) [0] rfl
  have hFc := va_free (wc := [(m0, .inr (5, [.int mfa, .int mho, .ref m2, .ref m3, .ref m4, .int mra, .int mrh, .ref m7, .ref m8, .ref m9, .ref m10, .ref m11, .ref m12, .int mch, .int mfr, .int mfw, .int mrd, .ref m17, .ref m18, .ref m19, .ref m20, .ref m21, .ref m22, .ref m23, .int mtr]))]) hD hS hA [0] rfl
  refine va_calli (va_runV (As := [.int i1]) (rest := []) ⟨hx, hb, hml, hown, hts⟩ (ctX5_noHouse l dC dI cI m0 m2 m3 m4 m7 m8 m9 m10 m11 m12 m17 m18 m19 m20 m21 m22 m23 s.heap.size mfa mho mra mrh mch mfr mfw mrd mtr i1) (cwV 1 hts gX5_safe_X5_noHouse rfl rfl rfl (by decide +kernel) ⟨Nat.le_of_ble_eq_true rfl, Nat.le_of_ble_eq_true rfl⟩) (pre_V hKc hN hPc hDc (RX5, TX5, 25) 5 0 rfl rfl) rfl rfl hl.1 rfl (lv_room (Nat.le_of_ble_eq_true rfl)) dX5_safe_2 ⟨Nat.le_of_ble_eq_true rfl, Nat.le_of_ble_eq_true rfl⟩) hS (fun q _ h => hFc q h) hFc (fun r _ t H locs ht hvm hw hB hz1 hk1 hS => ?_)
  try dsimp only at hw
  subst hw
  rw [ht] at hB
  obtain ⟨hP, hD⟩ := rw_join ([(m0, .inr (5, [.int mfa, .int mho, .ref m2, .ref m3, .ref m4, .int mra, .int mrh, .ref m7, .ref m8, .ref m9, .ref m10, .ref m11, .ref m12, .int mch, .int mfr, .int mfw, .int mrd, .ref m17, .ref m18, .ref m19, .ref m20, .ref m21, .ref m22, .ref m23, .int mtr])), (m2, .inl (cI, 6, .inl K)), (m3, .inl (cI, 6, .inl L)), (m4, .inl (cI, 6, .inl C))]) ([(m0, .inr (5, [.int mfa, .int mho, .ref m2, .ref m3, .ref m4, .int mra, .int mrh, .ref m7, .ref m8, .ref m9, .ref m10, .ref m11, .ref m12, .int mch, .int mfr, .int mfw, .int mrd, .ref m17, .ref m18, .ref m19, .ref m20, .ref m21, .ref m22, .ref m23, .int mtr])), (m2, .inl (cI, 6, .inl K)), (m3, .inl (cI, 6, .inl L)), (m4, .inl (cI, 6, .inl C))]) ([(m0, .inr (5, [.int mfa, .int mho, .ref m2, .ref m3, .ref m4, .int mra, .int mrh, .ref m7, .ref m8, .ref m9, .ref m10, .ref m11, .ref m12, .int mch, .int mfr, .int mfw, .int mrd, .ref m17, .ref m18, .ref m19, .ref m20, .ref m21, .ref m22, .ref m23, .int mtr]))]) ([(m0, .inr (5, [.int mfa, .int mho, .ref m2, .ref m3, .ref m4, .int mra, .int mrh, .ref m7, .ref m8, .ref m9, .ref m10, .ref m11, .ref m12, .int mch, .int mfr, .int mfw, .int mrd, .ref m17, .ref m18, .ref m19, .ref m20, .ref m21, .ref m22, .ref m23, .int mtr]))]) ([(m2, .inl (cI, 6, .inl K)), (m3, .inl (cI, 6, .inl L)), (m4, .inl (cI, 6, .inl C))]) hP hD [0] [1, 2, 3] [m0, m2, m3, m4] 4 rfl rfl rfl rfl rfl (by decide) rfl rfl hk1 hB
  refine lv_if_eq (tgt := 10) hx hb dX5_safe_5 (by decide) (fun c_5 => ?_) (fun c_5 => ?_)
  · skip
    have j1 : vp_in i1 6 := noHouse_in hNb c_5
    refine lv_iload_n hx hb dX5_safe_10 rfl (lv_at hl 2 rfl) ?_
    have hPc : va_P (dC, dI) vwCl [] H := hP.sub (ws' := []) [] rfl
    have hDc : va_D A [] := hD.sub (ws' := []) [] (by decide) rfl
    have hKc := hK.sub (tys' := [(cI, .int)]) [0] rfl
    have hFc := va_free (wc := []) hD hS hA [] rfl
    refine va_calli (va_runS (As := [.int i2]) (rest := []) ⟨hx, hb, hml, hown, hts⟩ (ctX5_noCost l dC dI cI H.size i2) (va_cwS 1 hts gX5_safe_X5_noCost rfl rfl rfl (by decide +kernel) ⟨Nat.le_of_ble_eq_true rfl, Nat.le_of_ble_eq_true rfl⟩) (pre_S hKc hN hPc hDc) rfl rfl hl.1 rfl (lv_room (Nat.le_of_ble_eq_true rfl)) dX5_safe_11 ⟨Nat.le_of_ble_eq_true rfl, Nat.le_of_ble_eq_true rfl⟩) hS (fun q _ h => hFc q h) hFc (fun r _ t H locs ht hvm hw hB hz1 hk1 hS => ?_)
    try dsimp only at hw
    subst hw
    rw [ht] at hB
    obtain ⟨hP, hD⟩ := rw_join ([(m0, .inr (5, [.int mfa, .int mho, .ref m2, .ref m3, .ref m4, .int mra, .int mrh, .ref m7, .ref m8, .ref m9, .ref m10, .ref m11, .ref m12, .int mch, .int mfr, .int mfw, .int mrd, .ref m17, .ref m18, .ref m19, .ref m20, .ref m21, .ref m22, .ref m23, .int mtr])), (m2, .inl (cI, 6, .inl K)), (m3, .inl (cI, 6, .inl L)), (m4, .inl (cI, 6, .inl C))]) ([(m0, .inr (5, [.int mfa, .int mho, .ref m2, .ref m3, .ref m4, .int mra, .int mrh, .ref m7, .ref m8, .ref m9, .ref m10, .ref m11, .ref m12, .int mch, .int mfr, .int mfw, .int mrd, .ref m17, .ref m18, .ref m19, .ref m20, .ref m21, .ref m22, .ref m23, .int mtr])), (m2, .inl (cI, 6, .inl K)), (m3, .inl (cI, 6, .inl L)), (m4, .inl (cI, 6, .inl C))]) ([]) ([]) ([(m0, .inr (5, [.int mfa, .int mho, .ref m2, .ref m3, .ref m4, .int mra, .int mrh, .ref m7, .ref m8, .ref m9, .ref m10, .ref m11, .ref m12, .int mch, .int mfr, .int mfw, .int mrd, .ref m17, .ref m18, .ref m19, .ref m20, .ref m21, .ref m22, .ref m23, .int mtr])), (m2, .inl (cI, 6, .inl K)), (m3, .inl (cI, 6, .inl L)), (m4, .inl (cI, 6, .inl C))]) hP hD [] [0, 1, 2, 3] [m0, m2, m3, m4] 4 rfl rfl rfl rfl rfl (by decide) rfl rfl hk1 hB
    refine lv_if_eq (tgt := 20) hx hb dX5_safe_14 (by decide) (fun c_14 => ?_) (fun c_14 => ?_)
    · skip
      refine lv_aload_n hx hb dX5_safe_20 rfl (lv_at hl 0 rfl) ?_
      refine va_get (D := (dC, dI)) (ci := 5) (v := .ref m3) (C := RX5) (T := TX5) (N := 25) hx hb hts hin5 hown hK hP 0 rfl rfl 3 (by decide) kf_13 (fun _ h9 => h9) rfl dX5_safe_21 ?_
      refine lv_iload_n hx hb dX5_safe_24 rfl (lv_at hl 1 rfl) ?_
      refine va_iald hx hb hK hP 2 0 rfl rfl (by assumption) dX5_safe_25 ?_
      refine lv_istore_n (lv' := [(3, .int (L i1.toNatClampNeg)), (0, .ref m0), (1, .int i1), (2, .int i2)]) hx hb dX5_safe_26 rfl hl (by decide) rfl (fun ls hl => ?_)
      refine lv_aload_n hx hb dX5_safe_27 rfl (lv_at hl 1 rfl) ?_
      refine va_get (D := (dC, dI)) (ci := 5) (v := .ref m4) (C := RX5) (T := TX5) (N := 25) hx hb hts hin5 hown hK hP 0 rfl rfl 4 (by decide) kf_16 (fun _ h9 => h9) rfl dX5_safe_28 ?_
      refine lv_iload_n hx hb dX5_safe_31 rfl (lv_at hl 2 rfl) ?_
      refine va_iald hx hb hK hP 3 0 rfl rfl (by assumption) dX5_safe_32 ?_
      refine lv_istore (lv' := [(4, .int (C i1.toNatClampNeg)), (3, .int (L i1.toNatClampNeg)), (0, .ref m0), (1, .int i1), (2, .int i2)]) hx hb dX5_safe_33 hl (by decide) rfl (fun ls hl => ?_)
      refine lv_bipush (v := (-9)) hx hb dX5_safe_35 (by decide) ?_
      refine lv_istore (lv' := [(5, .int (-9)), (4, .int (C i1.toNatClampNeg)), (3, .int (L i1.toNatClampNeg)), (0, .ref m0), (1, .int i1), (2, .int i2)]) hx hb dX5_safe_37 hl (by decide) rfl (fun ls hl => ?_)
      refine lv_iconst (v := 0) hx hb dX5_safe_39 (by decide) ?_
      refine lv_istore (lv' := [(6, .int 0), (5, .int (-9)), (4, .int (C i1.toNatClampNeg)), (3, .int (L i1.toNatClampNeg)), (0, .ref m0), (1, .int i1), (2, .int i2)]) hx hb dX5_safe_40 hl (by decide) rfl (fun ls hl => ?_)
      exact lp_42 20 (-9) 0 L C  _ _ _ (upe_i 18 (by decide) (hL18 _)) j1 hP hD hS (lv_sub hl [0, 1, 2, 3, 4, 5, 6] rfl) (by unfold p5_safe; rw [if_pos c_5, if_pos c_14])
    · skip
      refine lv_bipush (v := (-2)) hx hb dX5_safe_17 (by decide) ?_
      have hE9 : p5_safe mho K L C i1 i2 = ((-2), L, C) := by unfold p5_safe; rw [if_pos c_5, if_neg c_14]
      exact W.iret (v := (-2)) hx hb hr (fun t ht hW => ⟨⟨_, (), rfl, by rw [hE9], by show va_P (dC, dI) vwCl _ t.heap; rw [ht, hE9]; exact hP⟩, hS.F ht⟩) hS.2.2 dX5_safe_19
  · skip
    refine lv_iconst (v := (-1)) hx hb dX5_safe_8 (by decide) ?_
    have hE9 : p5_safe mho K L C i1 i2 = ((-1), L, C) := by unfold p5_safe; rw [if_neg c_5]
    exact W.iret (v := (-1)) hx hb hr (fun t ht hW => ⟨⟨_, (), rfl, by rw [hE9], by show va_P (dC, dI) vwCl _ t.heap; rw [ht, hE9]; exact hP⟩, hS.F ht⟩) hS.2.2 dX5_safe_9

def p5_reading (mho : Int32) (mrd : Int32) (RO : Nat → Int32) (RB : Nat → Int32) (RT : Nat → Int32) (i1 : Int32) (i2 : Int32) (i3 : Int32) : Int32 × Int32 × (Nat → Int32) × (Nat → Int32) × (Nat → Int32) :=
  if (p5_noHouse mho i1) = 0 then
    if (p5_noHouse mho i3) = 0 then
      if (p5_noCost i2) = 0 then
        if mrd = 8 then
          ((-4), mrd, RO, RB, RT)
        else
          (((mrd + 1) - 1), (mrd + 1), (upd RO mrd.toNatClampNeg i1), (upd RB mrd.toNatClampNeg i2), (upd RT mrd.toNatClampNeg i3))
      else
        ((-2), mrd, RO, RB, RT)
    else
      ((-1), mrd, RO, RB, RT)
  else
    ((-1), mrd, RO, RB, RT)
abbrev rmX5_reading : Room := { frames := 2, cells := 0, slots := 0, locals := 46 }
abbrev QX5_reading (dC : Nat → ClassId) (dI : Nat → Nat → Nat) (A : Nat → Prop) (cI : ClassId) (m0 : Nat) (m2 : Nat) (m3 : Nat) (m4 : Nat) (m7 : Nat) (m8 : Nat) (m9 : Nat) (m10 : Nat) (m11 : Nat) (m12 : Nat) (m17 : Nat) (m18 : Nat) (m19 : Nat) (m20 : Nat) (m21 : Nat) (m22 : Nat) (m23 : Nat) (mfa : Int32) (mho : Int32) (mra : Int32) (mrh : Int32) (mch : Int32) (mfr : Int32) (mfw : Int32) (mrd : Int32) (mtr : Int32) (RO : Nat → Int32) (RB : Nat → Int32) (RT : Nat → Int32) (i1 : Int32) (i2 : Int32) (i3 : Int32) : Array Value → State → Outcome → State → Prop := va_Qi (fun (r : Int32) (_ : Unit) => r = (p5_reading mho mrd RO RB RT i1 i2 i3).1) (fun (_ : Unit) (t : State) => va_P (dC, dI) vwCl ([(m0, .inr (5, [.int mfa, .int mho, .ref m2, .ref m3, .ref m4, .int mra, .int mrh, .ref m7, .ref m8, .ref m9, .ref m10, .ref m11, .ref m12, .int mch, .int mfr, .int mfw, .int ((p5_reading mho mrd RO RB RT i1 i2 i3).2.1), .ref m17, .ref m18, .ref m19, .ref m20, .ref m21, .ref m22, .ref m23, .int mtr])), (m17, .inl (cI, 8, .inl ((p5_reading mho mrd RO RB RT i1 i2 i3).2.2.1))), (m18, .inl (cI, 8, .inl ((p5_reading mho mrd RO RB RT i1 i2 i3).2.2.2.1))), (m19, .inl (cI, 8, .inl ((p5_reading mho mrd RO RB RT i1 i2 i3).2.2.2.2)))]) t.heap) A
set_option maxHeartbeats 4000000 in
set_option maxRecDepth 100000 in
theorem ctX5_reading (l : Launch) (dC : Nat → ClassId) (dI : Nat → Nat → Nat) (cI : ClassId) (m0 : Nat) (m2 : Nat) (m3 : Nat) (m4 : Nat) (m7 : Nat) (m8 : Nat) (m9 : Nat) (m10 : Nat) (m11 : Nat) (m12 : Nat) (m17 : Nat) (m18 : Nat) (m19 : Nat) (m20 : Nat) (m21 : Nat) (m22 : Nat) (m23 : Nat) (sz : Nat) (mfa : Int32) (mho : Int32) (mra : Int32) (mrh : Int32) (mch : Int32) (mfr : Int32) (mfw : Int32) (mrd : Int32) (mtr : Int32) (RO : Nat → Int32) (RB : Nat → Int32) (RT : Nat → Int32) (i1 : Int32) (i2 : Int32) (i3 : Int32) (hNb : mho.toInt ≤ 6) (hrd : 0 ≤ mrd.toInt ∧ mrd.toInt ≤ 8) : Met l yX5_reading wsX5_reading rmX5_reading (va_Pc [.ref m0, .int i1, .int i2, .int i3] (cP dC dI [(cI, .int)] ([(m0, .inr (5, [.int mfa, .int mho, .ref m2, .ref m3, .ref m4, .int mra, .int mrh, .ref m7, .ref m8, .ref m9, .ref m10, .ref m11, .ref m12, .int mch, .int mfr, .int mfw, .int mrd, .ref m17, .ref m18, .ref m19, .ref m20, .ref m21, .ref m22, .ref m23, .int mtr])), (m17, .inl (cI, 8, .inl RO)), (m18, .inl (cI, 8, .inl RB)), (m19, .inl (cI, 8, .inl RT))]) sz)) (QX5_reading dC dI (va_A ([(m0, .inr (5, [.int mfa, .int mho, .ref m2, .ref m3, .ref m4, .int mra, .int mrh, .ref m7, .ref m8, .ref m9, .ref m10, .ref m11, .ref m12, .int mch, .int mfr, .int mfw, .int mrd, .ref m17, .ref m18, .ref m19, .ref m20, .ref m21, .ref m22, .ref m23, .int mtr])), (m17, .inl (cI, 8, .inl RO)), (m18, .inl (cI, 8, .inl RB)), (m19, .inl (cI, 8, .inl RT))]) sz) cI m0 m2 m3 m4 m7 m8 m9 m10 m11 m12 m17 m18 m19 m20 m21 m22 m23 mfa mho mra mrh mch mfr mfw mrd mtr RO RB RT i1 i2 i3) 0 0 (va_A ([(m0, .inr (5, [.int mfa, .int mho, .ref m2, .ref m3, .ref m4, .int mra, .int mrh, .ref m7, .ref m8, .ref m9, .ref m10, .ref m11, .ref m12, .int mch, .int mfr, .int mfw, .int mrd, .ref m17, .ref m18, .ref m19, .ref m20, .ref m21, .ref m22, .ref m23, .int mtr])), (m17, .inl (cI, 8, .inl RO)), (m18, .inl (cI, 8, .inl RB)), (m19, .inl (cI, 8, .inl RT))]) sz) := by
  refine Met.ofW (cc := cX5_reading) (maxL := 4) (ret := (some .int)) (by decide) rfl ?_
  intro p e s m args below meth c s₁ B hml hv
  obtain ⟨rfl, hsz, hP, hK, hD0, hN⟩ := hv
  have hx := B.exec
  have hb := B.bytes
  have hr := B.returns
  have hts := atoms_spec (ws := wsX5_reading) B.pre
  have hown : s.vm.findClass RX5 = some m.cls := findClass_of_methodNamed B.named
  have hlocks := B.notSynchronized
  subst hsz
  have hD := hD0.self (sz := s.heap.size)
  generalize hAe : va_A ([(m0, .inr (5, [.int mfa, .int mho, .ref m2, .ref m3, .ref m4, .int mra, .int mrh, .ref m7, .ref m8, .ref m9, .ref m10, .ref m11, .ref m12, .int mch, .int mfr, .int mfw, .int mrd, .ref m17, .ref m18, .ref m19, .ref m20, .ref m21, .ref m22, .ref m23, .int mtr])), (m17, .inl (cI, 8, .inl RO)), (m18, .inl (cI, 8, .inl RB)), (m19, .inl (cI, 8, .inl RT))]) s.heap.size = A at hD ⊢
  have hA : ∀ q : Nat, s.heap.size ≤ q → A q := fun q h => by rw [← hAe]; exact Or.inr h
  have hS : va_S A s.heap s.heap [] := va_S.rf
  have hP : va_P (dC, dI) vwCl ([(m0, .inr (5, [.int mfa, .int mho, .ref m2, .ref m3, .ref m4, .int mra, .int mrh, .ref m7, .ref m8, .ref m9, .ref m10, .ref m11, .ref m12, .int mch, .int mfr, .int mfw, .int mrd, .ref m17, .ref m18, .ref m19, .ref m20, .ref m21, .ref m22, .ref m23, .int mtr])), (m17, .inl (cI, 8, .inl RO)), (m18, .inl (cI, 8, .inl RB)), (m19, .inl (cI, 8, .inl RT))]) s.heap := hP
  have hin5 : ∀ w ∈ wsX50, w ∈ wsX5_reading := by decide +kernel
  have kf_118 := hts (.fieldLink RX5 118 "RicherChangeModel" "readings" "I") (by decide +kernel)
  have kf_37 := hts (.fieldLink RX5 37 "RicherChangeModel" "readingOf" "[I") (by decide +kernel)
  have kf_40 := hts (.fieldLink RX5 40 "RicherChangeModel" "readingBy" "[I") (by decide +kernel)
  have kf_43 := hts (.fieldLink RX5 43 "RicherChangeModel" "readingAt" "[I") (by decide +kernel)
  have hl := lv_entry ([.ref m0, .int i1, .int i2, .int i3]) (n := 4) (Nat.le_of_ble_eq_true rfl)
  rw [lg_entry_eq]
  generalize (lg_sl ([.ref m0, .int i1, .int i2, .int i3]) ++ List.replicate (4 - (lg_sl ([.ref m0, .int i1, .int i2, .int i3])).length) Slot.unset).toArray = ls at hl ⊢
  have hl : lv_has ls 4 [(0, .ref m0), (1, .int i1), (2, .int i2), (3, .int i3)] := hl
  refine lv_aload_n hx hb dX5_reading_0 rfl (lv_at hl 0 rfl) ?_
  refine lv_iload_n hx hb dX5_reading_1 rfl (lv_at hl 1 rfl) ?_
  have hPc := hP.sub (ws' := [(m0, .inr (5, [.int mfa, .int mho, .ref m2, .ref m3, .ref m4, .int mra, .int mrh, .ref m7, .ref m8, .ref m9, .ref m10, .ref m11, .ref m12, .int mch, .int mfr, .int mfw, .int mrd, .ref m17, .ref m18, .ref m19, .ref m20, .ref m21, .ref m22, .ref m23, .int mtr]))]) [0] rfl
  have hDc := hD.sub (ws' := [(m0, .inr (5, [.int mfa, .int mho, .ref m2, .ref m3, .ref m4, .int mra, .int mrh, .ref m7, .ref m8, .ref m9, .ref m10, .ref m11, .ref m12, .int mch, .int mfr, .int mfw, .int mrd, .ref m17, .ref m18, .ref m19, .ref m20, .ref m21, .ref m22, .ref m23, .int mtr]))]) [0] (by decide) rfl
  have hKc := hK.sub (tys' := [(cI, .int)]) [0] rfl
  have hFc := va_free (wc := [(m0, .inr (5, [.int mfa, .int mho, .ref m2, .ref m3, .ref m4, .int mra, .int mrh, .ref m7, .ref m8, .ref m9, .ref m10, .ref m11, .ref m12, .int mch, .int mfr, .int mfw, .int mrd, .ref m17, .ref m18, .ref m19, .ref m20, .ref m21, .ref m22, .ref m23, .int mtr]))]) hD hS hA [0] rfl
  refine va_calli (va_runV (As := [.int i1]) (rest := []) ⟨hx, hb, hml, hown, hts⟩ (ctX5_noHouse l dC dI cI m0 m2 m3 m4 m7 m8 m9 m10 m11 m12 m17 m18 m19 m20 m21 m22 m23 s.heap.size mfa mho mra mrh mch mfr mfw mrd mtr i1) (cwV 1 hts gX5_reading_X5_noHouse rfl rfl rfl (by decide +kernel) ⟨Nat.le_of_ble_eq_true rfl, Nat.le_of_ble_eq_true rfl⟩) (pre_V hKc hN hPc hDc (RX5, TX5, 25) 5 0 rfl rfl) rfl rfl hl.1 rfl (lv_room (Nat.le_of_ble_eq_true rfl)) dX5_reading_2 ⟨Nat.le_of_ble_eq_true rfl, Nat.le_of_ble_eq_true rfl⟩) hS (fun q _ h => hFc q h) hFc (fun r _ t H locs ht hvm hw hB hz1 hk1 hS => ?_)
  try dsimp only at hw
  subst hw
  rw [ht] at hB
  obtain ⟨hP, hD⟩ := rw_join ([(m0, .inr (5, [.int mfa, .int mho, .ref m2, .ref m3, .ref m4, .int mra, .int mrh, .ref m7, .ref m8, .ref m9, .ref m10, .ref m11, .ref m12, .int mch, .int mfr, .int mfw, .int mrd, .ref m17, .ref m18, .ref m19, .ref m20, .ref m21, .ref m22, .ref m23, .int mtr])), (m17, .inl (cI, 8, .inl RO)), (m18, .inl (cI, 8, .inl RB)), (m19, .inl (cI, 8, .inl RT))]) ([(m0, .inr (5, [.int mfa, .int mho, .ref m2, .ref m3, .ref m4, .int mra, .int mrh, .ref m7, .ref m8, .ref m9, .ref m10, .ref m11, .ref m12, .int mch, .int mfr, .int mfw, .int mrd, .ref m17, .ref m18, .ref m19, .ref m20, .ref m21, .ref m22, .ref m23, .int mtr])), (m17, .inl (cI, 8, .inl RO)), (m18, .inl (cI, 8, .inl RB)), (m19, .inl (cI, 8, .inl RT))]) ([(m0, .inr (5, [.int mfa, .int mho, .ref m2, .ref m3, .ref m4, .int mra, .int mrh, .ref m7, .ref m8, .ref m9, .ref m10, .ref m11, .ref m12, .int mch, .int mfr, .int mfw, .int mrd, .ref m17, .ref m18, .ref m19, .ref m20, .ref m21, .ref m22, .ref m23, .int mtr]))]) ([(m0, .inr (5, [.int mfa, .int mho, .ref m2, .ref m3, .ref m4, .int mra, .int mrh, .ref m7, .ref m8, .ref m9, .ref m10, .ref m11, .ref m12, .int mch, .int mfr, .int mfw, .int mrd, .ref m17, .ref m18, .ref m19, .ref m20, .ref m21, .ref m22, .ref m23, .int mtr]))]) ([(m17, .inl (cI, 8, .inl RO)), (m18, .inl (cI, 8, .inl RB)), (m19, .inl (cI, 8, .inl RT))]) hP hD [0] [1, 2, 3] [m0, m17, m18, m19] 4 rfl rfl rfl rfl rfl (by decide) rfl rfl hk1 hB
  refine lv_if_ne (tgt := 16) hx hb dX5_reading_5 (by decide) (fun c_5 => ?_) (fun c_5 => ?_)
  · skip
    refine lv_iconst (v := (-1)) hx hb dX5_reading_16 (by decide) ?_
    have hE9 : p5_reading mho mrd RO RB RT i1 i2 i3 = ((-1), mrd, RO, RB, RT) := by unfold p5_reading; rw [if_neg c_5]
    exact W.iret (v := (-1)) hx hb hr (fun t ht hW => ⟨⟨_, (), rfl, by rw [hE9], by show va_P (dC, dI) vwCl _ t.heap; rw [ht, hE9]; exact hP⟩, hS.F ht⟩) hS.2.2 dX5_reading_17
  · skip
    refine lv_aload_n hx hb dX5_reading_8 rfl (lv_at hl 0 rfl) ?_
    refine lv_iload_n hx hb dX5_reading_9 rfl (lv_at hl 3 rfl) ?_
    have hPc := hP.sub (ws' := [(m0, .inr (5, [.int mfa, .int mho, .ref m2, .ref m3, .ref m4, .int mra, .int mrh, .ref m7, .ref m8, .ref m9, .ref m10, .ref m11, .ref m12, .int mch, .int mfr, .int mfw, .int mrd, .ref m17, .ref m18, .ref m19, .ref m20, .ref m21, .ref m22, .ref m23, .int mtr]))]) [0] rfl
    have hDc := hD.sub (ws' := [(m0, .inr (5, [.int mfa, .int mho, .ref m2, .ref m3, .ref m4, .int mra, .int mrh, .ref m7, .ref m8, .ref m9, .ref m10, .ref m11, .ref m12, .int mch, .int mfr, .int mfw, .int mrd, .ref m17, .ref m18, .ref m19, .ref m20, .ref m21, .ref m22, .ref m23, .int mtr]))]) [0] (by decide) rfl
    have hKc := hK.sub (tys' := [(cI, .int)]) [0] rfl
    have hFc := va_free (wc := [(m0, .inr (5, [.int mfa, .int mho, .ref m2, .ref m3, .ref m4, .int mra, .int mrh, .ref m7, .ref m8, .ref m9, .ref m10, .ref m11, .ref m12, .int mch, .int mfr, .int mfw, .int mrd, .ref m17, .ref m18, .ref m19, .ref m20, .ref m21, .ref m22, .ref m23, .int mtr]))]) hD hS hA [0] rfl
    refine va_calli (va_runV (As := [.int i3]) (rest := []) ⟨hx, hb, hml, hown, hts⟩ (ctX5_noHouse l dC dI cI m0 m2 m3 m4 m7 m8 m9 m10 m11 m12 m17 m18 m19 m20 m21 m22 m23 H.size mfa mho mra mrh mch mfr mfw mrd mtr i3) (cwV 1 hts gX5_reading_X5_noHouse rfl rfl rfl (by decide +kernel) ⟨Nat.le_of_ble_eq_true rfl, Nat.le_of_ble_eq_true rfl⟩) (pre_V hKc hN hPc hDc (RX5, TX5, 25) 5 0 rfl rfl) rfl rfl hl.1 rfl (lv_room (Nat.le_of_ble_eq_true rfl)) dX5_reading_10 ⟨Nat.le_of_ble_eq_true rfl, Nat.le_of_ble_eq_true rfl⟩) hS (fun q _ h => hFc q h) hFc (fun r _ t H locs ht hvm hw hB hz1 hk1 hS => ?_)
    try dsimp only at hw
    subst hw
    rw [ht] at hB
    obtain ⟨hP, hD⟩ := rw_join ([(m0, .inr (5, [.int mfa, .int mho, .ref m2, .ref m3, .ref m4, .int mra, .int mrh, .ref m7, .ref m8, .ref m9, .ref m10, .ref m11, .ref m12, .int mch, .int mfr, .int mfw, .int mrd, .ref m17, .ref m18, .ref m19, .ref m20, .ref m21, .ref m22, .ref m23, .int mtr])), (m17, .inl (cI, 8, .inl RO)), (m18, .inl (cI, 8, .inl RB)), (m19, .inl (cI, 8, .inl RT))]) ([(m0, .inr (5, [.int mfa, .int mho, .ref m2, .ref m3, .ref m4, .int mra, .int mrh, .ref m7, .ref m8, .ref m9, .ref m10, .ref m11, .ref m12, .int mch, .int mfr, .int mfw, .int mrd, .ref m17, .ref m18, .ref m19, .ref m20, .ref m21, .ref m22, .ref m23, .int mtr])), (m17, .inl (cI, 8, .inl RO)), (m18, .inl (cI, 8, .inl RB)), (m19, .inl (cI, 8, .inl RT))]) ([(m0, .inr (5, [.int mfa, .int mho, .ref m2, .ref m3, .ref m4, .int mra, .int mrh, .ref m7, .ref m8, .ref m9, .ref m10, .ref m11, .ref m12, .int mch, .int mfr, .int mfw, .int mrd, .ref m17, .ref m18, .ref m19, .ref m20, .ref m21, .ref m22, .ref m23, .int mtr]))]) ([(m0, .inr (5, [.int mfa, .int mho, .ref m2, .ref m3, .ref m4, .int mra, .int mrh, .ref m7, .ref m8, .ref m9, .ref m10, .ref m11, .ref m12, .int mch, .int mfr, .int mfw, .int mrd, .ref m17, .ref m18, .ref m19, .ref m20, .ref m21, .ref m22, .ref m23, .int mtr]))]) ([(m17, .inl (cI, 8, .inl RO)), (m18, .inl (cI, 8, .inl RB)), (m19, .inl (cI, 8, .inl RT))]) hP hD [0] [1, 2, 3] [m0, m17, m18, m19] 4 rfl rfl rfl rfl rfl (by decide) rfl rfl hk1 hB
    refine lv_if_eq (tgt := 18) hx hb dX5_reading_13 (by decide) (fun c_13 => ?_) (fun c_13 => ?_)
    · skip
      refine lv_iload_n hx hb dX5_reading_18 rfl (lv_at hl 2 rfl) ?_
      have hPc : va_P (dC, dI) vwCl [] H := hP.sub (ws' := []) [] rfl
      have hDc : va_D A [] := hD.sub (ws' := []) [] (by decide) rfl
      have hKc := hK.sub (tys' := [(cI, .int)]) [0] rfl
      have hFc := va_free (wc := []) hD hS hA [] rfl
      refine va_calli (va_runS (As := [.int i2]) (rest := []) ⟨hx, hb, hml, hown, hts⟩ (ctX5_noCost l dC dI cI H.size i2) (va_cwS 1 hts gX5_reading_X5_noCost rfl rfl rfl (by decide +kernel) ⟨Nat.le_of_ble_eq_true rfl, Nat.le_of_ble_eq_true rfl⟩) (pre_S hKc hN hPc hDc) rfl rfl hl.1 rfl (lv_room (Nat.le_of_ble_eq_true rfl)) dX5_reading_19 ⟨Nat.le_of_ble_eq_true rfl, Nat.le_of_ble_eq_true rfl⟩) hS (fun q _ h => hFc q h) hFc (fun r _ t H locs ht hvm hw hB hz1 hk1 hS => ?_)
      try dsimp only at hw
      subst hw
      rw [ht] at hB
      obtain ⟨hP, hD⟩ := rw_join ([(m0, .inr (5, [.int mfa, .int mho, .ref m2, .ref m3, .ref m4, .int mra, .int mrh, .ref m7, .ref m8, .ref m9, .ref m10, .ref m11, .ref m12, .int mch, .int mfr, .int mfw, .int mrd, .ref m17, .ref m18, .ref m19, .ref m20, .ref m21, .ref m22, .ref m23, .int mtr])), (m17, .inl (cI, 8, .inl RO)), (m18, .inl (cI, 8, .inl RB)), (m19, .inl (cI, 8, .inl RT))]) ([(m0, .inr (5, [.int mfa, .int mho, .ref m2, .ref m3, .ref m4, .int mra, .int mrh, .ref m7, .ref m8, .ref m9, .ref m10, .ref m11, .ref m12, .int mch, .int mfr, .int mfw, .int mrd, .ref m17, .ref m18, .ref m19, .ref m20, .ref m21, .ref m22, .ref m23, .int mtr])), (m17, .inl (cI, 8, .inl RO)), (m18, .inl (cI, 8, .inl RB)), (m19, .inl (cI, 8, .inl RT))]) ([]) ([]) ([(m0, .inr (5, [.int mfa, .int mho, .ref m2, .ref m3, .ref m4, .int mra, .int mrh, .ref m7, .ref m8, .ref m9, .ref m10, .ref m11, .ref m12, .int mch, .int mfr, .int mfw, .int mrd, .ref m17, .ref m18, .ref m19, .ref m20, .ref m21, .ref m22, .ref m23, .int mtr])), (m17, .inl (cI, 8, .inl RO)), (m18, .inl (cI, 8, .inl RB)), (m19, .inl (cI, 8, .inl RT))]) hP hD [] [0, 1, 2, 3] [m0, m17, m18, m19] 4 rfl rfl rfl rfl rfl (by decide) rfl rfl hk1 hB
      refine lv_if_eq (tgt := 28) hx hb dX5_reading_22 (by decide) (fun c_22 => ?_) (fun c_22 => ?_)
      · skip
        refine lv_aload_n hx hb dX5_reading_28 rfl (lv_at hl 0 rfl) ?_
        refine va_get (D := (dC, dI)) (ci := 5) (v := .int mrd) (C := RX5) (T := TX5) (N := 25) hx hb hts hin5 hown hK hP 0 rfl rfl 16 (by decide) kf_118 (fun _ h9 => h9) rfl dX5_reading_29 ?_
        refine lv_bipush (v := 8) hx hb dX5_reading_32 (by decide) ?_
        refine lv_icmp_ne (tgt := 40) hx hb dX5_reading_34 (by decide) (fun c_34 => ?_) (fun c_34 => ?_)
        · skip
          have jr : vp_in mrd 8 := rd_ix hrd c_34
          refine lv_aload_n hx hb dX5_reading_40 rfl (lv_at hl 0 rfl) ?_
          refine va_get (D := (dC, dI)) (ci := 5) (v := .ref m17) (C := RX5) (T := TX5) (N := 25) hx hb hts hin5 hown hK hP 0 rfl rfl 17 (by decide) kf_37 (fun _ h9 => h9) rfl dX5_reading_41 ?_
          refine lv_aload_n hx hb dX5_reading_44 rfl (lv_at hl 0 rfl) ?_
          refine va_get (D := (dC, dI)) (ci := 5) (v := .int mrd) (C := RX5) (T := TX5) (N := 25) hx hb hts hin5 hown hK hP 0 rfl rfl 16 (by decide) kf_118 (fun _ h9 => h9) rfl dX5_reading_45 ?_
          refine lv_iload_n hx hb dX5_reading_48 rfl (lv_at hl 1 rfl) ?_
          refine va_iast hx hb hK hP hD hS 1 0 rfl rfl (by assumption) dX5_reading_49 (fun H locs hP hD hS => ?_)
          have hP : va_P (dC, dI) vwCl ([(m0, .inr (5, [.int mfa, .int mho, .ref m2, .ref m3, .ref m4, .int mra, .int mrh, .ref m7, .ref m8, .ref m9, .ref m10, .ref m11, .ref m12, .int mch, .int mfr, .int mfw, .int mrd, .ref m17, .ref m18, .ref m19, .ref m20, .ref m21, .ref m22, .ref m23, .int mtr])), (m17, .inl (cI, 8, .inl (upd RO mrd.toNatClampNeg i1))), (m18, .inl (cI, 8, .inl RB)), (m19, .inl (cI, 8, .inl RT))]) H := hP
          have hD : va_D A ([(m0, .inr (5, [.int mfa, .int mho, .ref m2, .ref m3, .ref m4, .int mra, .int mrh, .ref m7, .ref m8, .ref m9, .ref m10, .ref m11, .ref m12, .int mch, .int mfr, .int mfw, .int mrd, .ref m17, .ref m18, .ref m19, .ref m20, .ref m21, .ref m22, .ref m23, .int mtr])), (m17, .inl (cI, 8, .inl (upd RO mrd.toNatClampNeg i1))), (m18, .inl (cI, 8, .inl RB)), (m19, .inl (cI, 8, .inl RT))]) := hD
          refine lv_aload_n hx hb dX5_reading_50 rfl (lv_at hl 0 rfl) ?_
          refine va_get (D := (dC, dI)) (ci := 5) (v := .ref m18) (C := RX5) (T := TX5) (N := 25) hx hb hts hin5 hown hK hP 0 rfl rfl 18 (by decide) kf_40 (fun _ h9 => h9) rfl dX5_reading_51 ?_
          refine lv_aload_n hx hb dX5_reading_54 rfl (lv_at hl 0 rfl) ?_
          refine va_get (D := (dC, dI)) (ci := 5) (v := .int mrd) (C := RX5) (T := TX5) (N := 25) hx hb hts hin5 hown hK hP 0 rfl rfl 16 (by decide) kf_118 (fun _ h9 => h9) rfl dX5_reading_55 ?_
          refine lv_iload_n hx hb dX5_reading_58 rfl (lv_at hl 2 rfl) ?_
          refine va_iast hx hb hK hP hD hS 2 0 rfl rfl (by assumption) dX5_reading_59 (fun H locs hP hD hS => ?_)
          have hP : va_P (dC, dI) vwCl ([(m0, .inr (5, [.int mfa, .int mho, .ref m2, .ref m3, .ref m4, .int mra, .int mrh, .ref m7, .ref m8, .ref m9, .ref m10, .ref m11, .ref m12, .int mch, .int mfr, .int mfw, .int mrd, .ref m17, .ref m18, .ref m19, .ref m20, .ref m21, .ref m22, .ref m23, .int mtr])), (m17, .inl (cI, 8, .inl (upd RO mrd.toNatClampNeg i1))), (m18, .inl (cI, 8, .inl (upd RB mrd.toNatClampNeg i2))), (m19, .inl (cI, 8, .inl RT))]) H := hP
          have hD : va_D A ([(m0, .inr (5, [.int mfa, .int mho, .ref m2, .ref m3, .ref m4, .int mra, .int mrh, .ref m7, .ref m8, .ref m9, .ref m10, .ref m11, .ref m12, .int mch, .int mfr, .int mfw, .int mrd, .ref m17, .ref m18, .ref m19, .ref m20, .ref m21, .ref m22, .ref m23, .int mtr])), (m17, .inl (cI, 8, .inl (upd RO mrd.toNatClampNeg i1))), (m18, .inl (cI, 8, .inl (upd RB mrd.toNatClampNeg i2))), (m19, .inl (cI, 8, .inl RT))]) := hD
          refine lv_aload_n hx hb dX5_reading_60 rfl (lv_at hl 0 rfl) ?_
          refine va_get (D := (dC, dI)) (ci := 5) (v := .ref m19) (C := RX5) (T := TX5) (N := 25) hx hb hts hin5 hown hK hP 0 rfl rfl 19 (by decide) kf_43 (fun _ h9 => h9) rfl dX5_reading_61 ?_
          refine lv_aload_n hx hb dX5_reading_64 rfl (lv_at hl 0 rfl) ?_
          refine va_get (D := (dC, dI)) (ci := 5) (v := .int mrd) (C := RX5) (T := TX5) (N := 25) hx hb hts hin5 hown hK hP 0 rfl rfl 16 (by decide) kf_118 (fun _ h9 => h9) rfl dX5_reading_65 ?_
          refine lv_iload_n hx hb dX5_reading_68 rfl (lv_at hl 3 rfl) ?_
          refine va_iast hx hb hK hP hD hS 3 0 rfl rfl (by assumption) dX5_reading_69 (fun H locs hP hD hS => ?_)
          have hP : va_P (dC, dI) vwCl ([(m0, .inr (5, [.int mfa, .int mho, .ref m2, .ref m3, .ref m4, .int mra, .int mrh, .ref m7, .ref m8, .ref m9, .ref m10, .ref m11, .ref m12, .int mch, .int mfr, .int mfw, .int mrd, .ref m17, .ref m18, .ref m19, .ref m20, .ref m21, .ref m22, .ref m23, .int mtr])), (m17, .inl (cI, 8, .inl (upd RO mrd.toNatClampNeg i1))), (m18, .inl (cI, 8, .inl (upd RB mrd.toNatClampNeg i2))), (m19, .inl (cI, 8, .inl (upd RT mrd.toNatClampNeg i3)))]) H := hP
          have hD : va_D A ([(m0, .inr (5, [.int mfa, .int mho, .ref m2, .ref m3, .ref m4, .int mra, .int mrh, .ref m7, .ref m8, .ref m9, .ref m10, .ref m11, .ref m12, .int mch, .int mfr, .int mfw, .int mrd, .ref m17, .ref m18, .ref m19, .ref m20, .ref m21, .ref m22, .ref m23, .int mtr])), (m17, .inl (cI, 8, .inl (upd RO mrd.toNatClampNeg i1))), (m18, .inl (cI, 8, .inl (upd RB mrd.toNatClampNeg i2))), (m19, .inl (cI, 8, .inl (upd RT mrd.toNatClampNeg i3)))]) := hD
          refine lv_aload_n hx hb dX5_reading_70 rfl (lv_at hl 0 rfl) ?_
          refine lv_dup hx hb dX5_reading_71 rfl ?_
          refine va_get (D := (dC, dI)) (ci := 5) (v := .int mrd) (C := RX5) (T := TX5) (N := 25) hx hb hts hin5 hown hK hP 0 rfl rfl 16 (by decide) kf_118 (fun _ h9 => h9) rfl dX5_reading_72 ?_
          refine lv_iconst (v := 1) hx hb dX5_reading_75 (by decide) ?_
          refine lv_iadd hx hb dX5_reading_76 ?_
          refine va_put (D := (dC, dI)) (ci := 5) (v := .int (mrd + 1)) (ty := .int) (C := RX5) (T := TX5) (N := 25) hx hb hts hin5 tyX5 tyX5_ok nmX5 hown hK hP hD hS 0 rfl rfl 16 (by decide) kf_118 (fun _ h9 => h9) rfl (by decide +kernel) rfl rfl (Nat.le_of_ble_eq_true rfl) dX5_reading_77 (fun H locs hP hD hS => ?_)
          have hP : va_P (dC, dI) vwCl ([(m0, .inr (5, [.int mfa, .int mho, .ref m2, .ref m3, .ref m4, .int mra, .int mrh, .ref m7, .ref m8, .ref m9, .ref m10, .ref m11, .ref m12, .int mch, .int mfr, .int mfw, .int (mrd + 1), .ref m17, .ref m18, .ref m19, .ref m20, .ref m21, .ref m22, .ref m23, .int mtr])), (m17, .inl (cI, 8, .inl (upd RO mrd.toNatClampNeg i1))), (m18, .inl (cI, 8, .inl (upd RB mrd.toNatClampNeg i2))), (m19, .inl (cI, 8, .inl (upd RT mrd.toNatClampNeg i3)))]) H := hP
          have hD : va_D A ([(m0, .inr (5, [.int mfa, .int mho, .ref m2, .ref m3, .ref m4, .int mra, .int mrh, .ref m7, .ref m8, .ref m9, .ref m10, .ref m11, .ref m12, .int mch, .int mfr, .int mfw, .int (mrd + 1), .ref m17, .ref m18, .ref m19, .ref m20, .ref m21, .ref m22, .ref m23, .int mtr])), (m17, .inl (cI, 8, .inl (upd RO mrd.toNatClampNeg i1))), (m18, .inl (cI, 8, .inl (upd RB mrd.toNatClampNeg i2))), (m19, .inl (cI, 8, .inl (upd RT mrd.toNatClampNeg i3)))]) := hD
          refine lv_aload_n hx hb dX5_reading_80 rfl (lv_at hl 0 rfl) ?_
          refine va_get (D := (dC, dI)) (ci := 5) (v := .int (mrd + 1)) (C := RX5) (T := TX5) (N := 25) hx hb hts hin5 hown hK hP 0 rfl rfl 16 (by decide) kf_118 (fun _ h9 => h9) rfl dX5_reading_81 ?_
          refine lv_iconst (v := 1) hx hb dX5_reading_84 (by decide) ?_
          refine lv_isub hx hb dX5_reading_85 ?_
          have hE9 : p5_reading mho mrd RO RB RT i1 i2 i3 = (((mrd + 1) - 1), (mrd + 1), (upd RO mrd.toNatClampNeg i1), (upd RB mrd.toNatClampNeg i2), (upd RT mrd.toNatClampNeg i3)) := by unfold p5_reading; rw [if_pos c_5, if_pos c_13, if_pos c_22, if_neg c_34]
          exact W.iret (v := ((mrd + 1) - 1)) hx hb hr (fun t ht hW => ⟨⟨_, (), rfl, by rw [hE9], by show va_P (dC, dI) vwCl _ t.heap; rw [ht, hE9]; exact hP⟩, hS.F ht⟩) hS.2.2 dX5_reading_86
        · skip
          refine lv_bipush (v := (-4)) hx hb dX5_reading_37 (by decide) ?_
          have hE9 : p5_reading mho mrd RO RB RT i1 i2 i3 = ((-4), mrd, RO, RB, RT) := by unfold p5_reading; rw [if_pos c_5, if_pos c_13, if_pos c_22, if_pos c_34]
          exact W.iret (v := (-4)) hx hb hr (fun t ht hW => ⟨⟨_, (), rfl, by rw [hE9], by show va_P (dC, dI) vwCl _ t.heap; rw [ht, hE9]; exact hP⟩, hS.F ht⟩) hS.2.2 dX5_reading_39
      · skip
        refine lv_bipush (v := (-2)) hx hb dX5_reading_25 (by decide) ?_
        have hE9 : p5_reading mho mrd RO RB RT i1 i2 i3 = ((-2), mrd, RO, RB, RT) := by unfold p5_reading; rw [if_pos c_5, if_pos c_13, if_neg c_22]
        exact W.iret (v := (-2)) hx hb hr (fun t ht hW => ⟨⟨_, (), rfl, by rw [hE9], by show va_P (dC, dI) vwCl _ t.heap; rw [ht, hE9]; exact hP⟩, hS.F ht⟩) hS.2.2 dX5_reading_27
    · skip
      refine lv_iconst (v := (-1)) hx hb dX5_reading_16 (by decide) ?_
      have hE9 : p5_reading mho mrd RO RB RT i1 i2 i3 = ((-1), mrd, RO, RB, RT) := by unfold p5_reading; rw [if_pos c_5, if_neg c_13]
      exact W.iret (v := (-1)) hx hb hr (fun t ht hW => ⟨⟨_, (), rfl, by rw [hE9], by show va_P (dC, dI) vwCl _ t.heap; rw [ht, hE9]; exact hP⟩, hS.F ht⟩) hS.2.2 dX5_reading_17

def p5_back (mrd : Int32) (i1 : Int32) : Int32 × Int32 :=
  if (p5_in i1.toInt64 0 mrd.toInt64) = 0 then
    ((-2), mrd)
  else
    ((mrd - i1), (mrd - i1))
abbrev rmX5_back : Room := { frames := 1, cells := 0, slots := 0, locals := 25 }
abbrev QX5_back (dC : Nat → ClassId) (dI : Nat → Nat → Nat) (A : Nat → Prop) (cI : ClassId) (m0 : Nat) (m2 : Nat) (m3 : Nat) (m4 : Nat) (m7 : Nat) (m8 : Nat) (m9 : Nat) (m10 : Nat) (m11 : Nat) (m12 : Nat) (m17 : Nat) (m18 : Nat) (m19 : Nat) (m20 : Nat) (m21 : Nat) (m22 : Nat) (m23 : Nat) (mfa : Int32) (mho : Int32) (mra : Int32) (mrh : Int32) (mch : Int32) (mfr : Int32) (mfw : Int32) (mrd : Int32) (mtr : Int32) (i1 : Int32) : Array Value → State → Outcome → State → Prop := va_Qi (fun (r : Int32) (_ : Unit) => r = (p5_back mrd i1).1) (fun (_ : Unit) (t : State) => va_P (dC, dI) vwCl ([(m0, .inr (5, [.int mfa, .int mho, .ref m2, .ref m3, .ref m4, .int mra, .int mrh, .ref m7, .ref m8, .ref m9, .ref m10, .ref m11, .ref m12, .int mch, .int mfr, .int mfw, .int ((p5_back mrd i1).2), .ref m17, .ref m18, .ref m19, .ref m20, .ref m21, .ref m22, .ref m23, .int mtr]))]) t.heap) A
set_option maxHeartbeats 4000000 in
set_option maxRecDepth 100000 in
theorem ctX5_back (l : Launch) (dC : Nat → ClassId) (dI : Nat → Nat → Nat) (cI : ClassId) (m0 : Nat) (m2 : Nat) (m3 : Nat) (m4 : Nat) (m7 : Nat) (m8 : Nat) (m9 : Nat) (m10 : Nat) (m11 : Nat) (m12 : Nat) (m17 : Nat) (m18 : Nat) (m19 : Nat) (m20 : Nat) (m21 : Nat) (m22 : Nat) (m23 : Nat) (sz : Nat) (mfa : Int32) (mho : Int32) (mra : Int32) (mrh : Int32) (mch : Int32) (mfr : Int32) (mfw : Int32) (mrd : Int32) (mtr : Int32) (i1 : Int32) : Met l yX5_back wsX5_back rmX5_back (va_Pc [.ref m0, .int i1] (cP dC dI [(cI, .int)] ([(m0, .inr (5, [.int mfa, .int mho, .ref m2, .ref m3, .ref m4, .int mra, .int mrh, .ref m7, .ref m8, .ref m9, .ref m10, .ref m11, .ref m12, .int mch, .int mfr, .int mfw, .int mrd, .ref m17, .ref m18, .ref m19, .ref m20, .ref m21, .ref m22, .ref m23, .int mtr]))]) sz)) (QX5_back dC dI (va_A ([(m0, .inr (5, [.int mfa, .int mho, .ref m2, .ref m3, .ref m4, .int mra, .int mrh, .ref m7, .ref m8, .ref m9, .ref m10, .ref m11, .ref m12, .int mch, .int mfr, .int mfw, .int mrd, .ref m17, .ref m18, .ref m19, .ref m20, .ref m21, .ref m22, .ref m23, .int mtr]))]) sz) cI m0 m2 m3 m4 m7 m8 m9 m10 m11 m12 m17 m18 m19 m20 m21 m22 m23 mfa mho mra mrh mch mfr mfw mrd mtr i1) 0 0 (va_A ([(m0, .inr (5, [.int mfa, .int mho, .ref m2, .ref m3, .ref m4, .int mra, .int mrh, .ref m7, .ref m8, .ref m9, .ref m10, .ref m11, .ref m12, .int mch, .int mfr, .int mfw, .int mrd, .ref m17, .ref m18, .ref m19, .ref m20, .ref m21, .ref m22, .ref m23, .int mtr]))]) sz) := by
  refine Met.ofW (cc := cX5_back) (maxL := 2) (ret := (some .int)) (by decide) rfl ?_
  intro p e s m args below meth c s₁ B hml hv
  obtain ⟨rfl, hsz, hP, hK, hD0, hN⟩ := hv
  have hx := B.exec
  have hb := B.bytes
  have hr := B.returns
  have hts := atoms_spec (ws := wsX5_back) B.pre
  have hown : s.vm.findClass RX5 = some m.cls := findClass_of_methodNamed B.named
  have hlocks := B.notSynchronized
  subst hsz
  have hD := hD0.self (sz := s.heap.size)
  generalize hAe : va_A ([(m0, .inr (5, [.int mfa, .int mho, .ref m2, .ref m3, .ref m4, .int mra, .int mrh, .ref m7, .ref m8, .ref m9, .ref m10, .ref m11, .ref m12, .int mch, .int mfr, .int mfw, .int mrd, .ref m17, .ref m18, .ref m19, .ref m20, .ref m21, .ref m22, .ref m23, .int mtr]))]) s.heap.size = A at hD ⊢
  have hA : ∀ q : Nat, s.heap.size ≤ q → A q := fun q h => by rw [← hAe]; exact Or.inr h
  have hS : va_S A s.heap s.heap [] := va_S.rf
  have hP : va_P (dC, dI) vwCl ([(m0, .inr (5, [.int mfa, .int mho, .ref m2, .ref m3, .ref m4, .int mra, .int mrh, .ref m7, .ref m8, .ref m9, .ref m10, .ref m11, .ref m12, .int mch, .int mfr, .int mfw, .int mrd, .ref m17, .ref m18, .ref m19, .ref m20, .ref m21, .ref m22, .ref m23, .int mtr]))]) s.heap := hP
  have hin5 : ∀ w ∈ wsX50, w ∈ wsX5_back := by decide +kernel
  have kf_118 := hts (.fieldLink RX5 118 "RicherChangeModel" "readings" "I") (by decide +kernel)
  have hl := lv_entry ([.ref m0, .int i1]) (n := 2) (Nat.le_of_ble_eq_true rfl)
  rw [lg_entry_eq]
  generalize (lg_sl ([.ref m0, .int i1]) ++ List.replicate (2 - (lg_sl ([.ref m0, .int i1])).length) Slot.unset).toArray = ls at hl ⊢
  have hl : lv_has ls 2 [(0, .ref m0), (1, .int i1)] := hl
  refine lv_iload_n hx hb dX5_back_0 rfl (lv_at hl 1 rfl) ?_
  refine lv_i2l (v := i1.toInt64) hx hb dX5_back_1 rfl ?_
  refine lv_lconst (v := 0) hx hb dX5_back_2 (by decide) ?_
  refine lv_aload_n hx hb dX5_back_3 rfl (lv_at hl 0 rfl) ?_
  refine va_get (D := (dC, dI)) (ci := 5) (v := .int mrd) (C := RX5) (T := TX5) (N := 25) hx hb hts hin5 hown hK hP 0 rfl rfl 16 (by decide) kf_118 (fun _ h9 => h9) rfl dX5_back_4 ?_
  refine lv_i2l (v := mrd.toInt64) hx hb dX5_back_7 rfl ?_
  have hPc : va_P (dC, dI) vwCl [] s.heap := hP.sub (ws' := []) [] rfl
  have hDc : va_D A [] := hD.sub (ws' := []) [] (by decide) rfl
  have hKc := hK.sub (tys' := [(cI, .int)]) [0] rfl
  have hFc := va_free (wc := []) hD hS hA [] rfl
  refine va_calli (va_runS (As := [.long i1.toInt64, .long 0, .long mrd.toInt64]) (rest := []) ⟨hx, hb, hml, hown, hts⟩ (ctX5_in l dC dI cI s.heap.size i1.toInt64 0 mrd.toInt64) (va_cwS 3 hts gX5_back_X5_in rfl rfl rfl (by decide +kernel) ⟨Nat.le_of_ble_eq_true rfl, Nat.le_of_ble_eq_true rfl⟩) (pre_S hKc hN hPc hDc) rfl rfl hl.1 rfl (lv_room (Nat.le_of_ble_eq_true rfl)) dX5_back_8 ⟨Nat.le_of_ble_eq_true rfl, Nat.le_of_ble_eq_true rfl⟩) hS (fun q _ h => hFc q h) hFc (fun r _ t H locs ht hvm hw hB hz1 hk1 hS => ?_)
  try dsimp only at hw
  subst hw
  rw [ht] at hB
  obtain ⟨hP, hD⟩ := rw_join ([(m0, .inr (5, [.int mfa, .int mho, .ref m2, .ref m3, .ref m4, .int mra, .int mrh, .ref m7, .ref m8, .ref m9, .ref m10, .ref m11, .ref m12, .int mch, .int mfr, .int mfw, .int mrd, .ref m17, .ref m18, .ref m19, .ref m20, .ref m21, .ref m22, .ref m23, .int mtr]))]) ([(m0, .inr (5, [.int mfa, .int mho, .ref m2, .ref m3, .ref m4, .int mra, .int mrh, .ref m7, .ref m8, .ref m9, .ref m10, .ref m11, .ref m12, .int mch, .int mfr, .int mfw, .int mrd, .ref m17, .ref m18, .ref m19, .ref m20, .ref m21, .ref m22, .ref m23, .int mtr]))]) ([]) ([]) ([(m0, .inr (5, [.int mfa, .int mho, .ref m2, .ref m3, .ref m4, .int mra, .int mrh, .ref m7, .ref m8, .ref m9, .ref m10, .ref m11, .ref m12, .int mch, .int mfr, .int mfw, .int mrd, .ref m17, .ref m18, .ref m19, .ref m20, .ref m21, .ref m22, .ref m23, .int mtr]))]) hP hD [] [0] [m0] 1 rfl rfl rfl rfl rfl (by decide) rfl rfl hk1 hB
  refine lv_if_ne (tgt := 17) hx hb dX5_back_11 (by decide) (fun c_11 => ?_) (fun c_11 => ?_)
  · skip
    refine lv_aload_n hx hb dX5_back_17 rfl (lv_at hl 0 rfl) ?_
    refine lv_dup hx hb dX5_back_18 rfl ?_
    refine va_get (D := (dC, dI)) (ci := 5) (v := .int mrd) (C := RX5) (T := TX5) (N := 25) hx hb hts hin5 hown hK hP 0 rfl rfl 16 (by decide) kf_118 (fun _ h9 => h9) rfl dX5_back_19 ?_
    refine lv_iload_n hx hb dX5_back_22 rfl (lv_at hl 1 rfl) ?_
    refine lv_isub hx hb dX5_back_23 ?_
    refine va_put (D := (dC, dI)) (ci := 5) (v := .int (mrd - i1)) (ty := .int) (C := RX5) (T := TX5) (N := 25) hx hb hts hin5 tyX5 tyX5_ok nmX5 hown hK hP hD hS 0 rfl rfl 16 (by decide) kf_118 (fun _ h9 => h9) rfl (by decide +kernel) rfl rfl (Nat.le_of_ble_eq_true rfl) dX5_back_24 (fun H locs hP hD hS => ?_)
    have hP : va_P (dC, dI) vwCl ([(m0, .inr (5, [.int mfa, .int mho, .ref m2, .ref m3, .ref m4, .int mra, .int mrh, .ref m7, .ref m8, .ref m9, .ref m10, .ref m11, .ref m12, .int mch, .int mfr, .int mfw, .int (mrd - i1), .ref m17, .ref m18, .ref m19, .ref m20, .ref m21, .ref m22, .ref m23, .int mtr]))]) H := hP
    have hD : va_D A ([(m0, .inr (5, [.int mfa, .int mho, .ref m2, .ref m3, .ref m4, .int mra, .int mrh, .ref m7, .ref m8, .ref m9, .ref m10, .ref m11, .ref m12, .int mch, .int mfr, .int mfw, .int (mrd - i1), .ref m17, .ref m18, .ref m19, .ref m20, .ref m21, .ref m22, .ref m23, .int mtr]))]) := hD
    refine lv_aload_n hx hb dX5_back_27 rfl (lv_at hl 0 rfl) ?_
    refine va_get (D := (dC, dI)) (ci := 5) (v := .int (mrd - i1)) (C := RX5) (T := TX5) (N := 25) hx hb hts hin5 hown hK hP 0 rfl rfl 16 (by decide) kf_118 (fun _ h9 => h9) rfl dX5_back_28 ?_
    have hE9 : p5_back mrd i1 = ((mrd - i1), (mrd - i1)) := by unfold p5_back; rw [if_neg c_11]
    exact W.iret (v := (mrd - i1)) hx hb hr (fun t ht hW => ⟨⟨_, (), rfl, by rw [hE9], by show va_P (dC, dI) vwCl _ t.heap; rw [ht, hE9]; exact hP⟩, hS.F ht⟩) hS.2.2 dX5_back_31
  · skip
    refine lv_bipush (v := (-2)) hx hb dX5_back_14 (by decide) ?_
    have hE9 : p5_back mrd i1 = ((-2), mrd) := by unfold p5_back; rw [if_pos c_11]
    exact W.iret (v := (-2)) hx hb hr (fun t ht hW => ⟨⟨_, (), rfl, by rw [hE9], by show va_P (dC, dI) vwCl _ t.heap; rw [ht, hE9]; exact hP⟩, hS.F ht⟩) hS.2.2 dX5_back_16

def p5_lands_l22 (mho : Int32) (mrd : Int32) (K : Nat → Int32) (L : Nat → Int32) (C : Nat → Int32) (RO : Nat → Int32) (RB : Nat → Int32) (RT : Nat → Int32) (i1 : Int32) : Nat → Int32 → Int32 → (Nat → Int32) → Int32 × (Nat → Int32)
  | 0, _, _, _ => (0, fun _ => 0)
  | n + 1, v3, v4, L_ =>
    if 10 ≤ v4 then
      (v3, (upd L_ i1.toNatClampNeg (L i1.toNatClampNeg)))
    else
      if (p5_areSo mho mrd K (upd L_ i1.toNatClampNeg v4) C RO RB RT) = 0 then
        p5_lands_l22 mho mrd K L C RO RB RT i1 n (v3 ||| 0) (v4 + 1) (upd L_ i1.toNatClampNeg v4)
      else
        p5_lands_l22 mho mrd K L C RO RB RT i1 n (v3 ||| ((1 : Int32) <<< (v4 &&& 31))) (v4 + 1) (upd L_ i1.toNatClampNeg v4)
theorem p5_lands_l22_s (mho : Int32) (mrd : Int32) (K : Nat → Int32) (L : Nat → Int32) (C : Nat → Int32) (RO : Nat → Int32) (RB : Nat → Int32) (RT : Nat → Int32) (i1 : Int32) (n : Nat) (v3 : Int32) (v4 : Int32) (L_ : Nat → Int32) : p5_lands_l22 mho mrd K L C RO RB RT i1 (n + 1) v3 v4 L_ =
    (if 10 ≤ v4 then
      (v3, (upd L_ i1.toNatClampNeg (L i1.toNatClampNeg)))
    else
      if (p5_areSo mho mrd K (upd L_ i1.toNatClampNeg v4) C RO RB RT) = 0 then
        p5_lands_l22 mho mrd K L C RO RB RT i1 n (v3 ||| 0) (v4 + 1) (upd L_ i1.toNatClampNeg v4)
      else
        p5_lands_l22 mho mrd K L C RO RB RT i1 n (v3 ||| ((1 : Int32) <<< (v4 &&& 31))) (v4 + 1) (upd L_ i1.toNatClampNeg v4)) := rfl
def p5_lands (mho : Int32) (mrd : Int32) (K : Nat → Int32) (L : Nat → Int32) (C : Nat → Int32) (RO : Nat → Int32) (RB : Nat → Int32) (RT : Nat → Int32) (i1 : Int32) : Int32 × (Nat → Int32) :=
  if (p5_noHouse mho i1) = 0 then
    p5_lands_l22 mho mrd K L C RO RB RT i1 11 0 0 L
  else
    ((-1), L)
abbrev rmX5_lands : Room := { frames := 6, cells := 0, slots := 0, locals := 140 }
abbrev QX5_lands (dC : Nat → ClassId) (dI : Nat → Nat → Nat) (A : Nat → Prop) (cI : ClassId) (m0 : Nat) (m2 : Nat) (m3 : Nat) (m4 : Nat) (m7 : Nat) (m8 : Nat) (m9 : Nat) (m10 : Nat) (m11 : Nat) (m12 : Nat) (m17 : Nat) (m18 : Nat) (m19 : Nat) (m20 : Nat) (m21 : Nat) (m22 : Nat) (m23 : Nat) (mfa : Int32) (mho : Int32) (mra : Int32) (mrh : Int32) (mch : Int32) (mfr : Int32) (mfw : Int32) (mrd : Int32) (mtr : Int32) (K : Nat → Int32) (L : Nat → Int32) (C : Nat → Int32) (RO : Nat → Int32) (RB : Nat → Int32) (RT : Nat → Int32) (i1 : Int32) : Array Value → State → Outcome → State → Prop := va_Qi (fun (r : Int32) (_ : Unit) => r = (p5_lands mho mrd K L C RO RB RT i1).1) (fun (_ : Unit) (t : State) => va_P (dC, dI) vwCl ([(m0, .inr (5, [.int mfa, .int mho, .ref m2, .ref m3, .ref m4, .int mra, .int mrh, .ref m7, .ref m8, .ref m9, .ref m10, .ref m11, .ref m12, .int mch, .int mfr, .int mfw, .int mrd, .ref m17, .ref m18, .ref m19, .ref m20, .ref m21, .ref m22, .ref m23, .int mtr])), (m2, .inl (cI, 6, .inl K)), (m3, .inl (cI, 6, .inl ((p5_lands mho mrd K L C RO RB RT i1).2))), (m4, .inl (cI, 6, .inl C)), (m17, .inl (cI, 8, .inl RO)), (m18, .inl (cI, 8, .inl RB)), (m19, .inl (cI, 8, .inl RT))]) t.heap) A
set_option maxHeartbeats 4000000 in
set_option maxRecDepth 100000 in
theorem ctX5_lands (l : Launch) (dC : Nat → ClassId) (dI : Nat → Nat → Nat) (cI : ClassId) (m0 : Nat) (m2 : Nat) (m3 : Nat) (m4 : Nat) (m7 : Nat) (m8 : Nat) (m9 : Nat) (m10 : Nat) (m11 : Nat) (m12 : Nat) (m17 : Nat) (m18 : Nat) (m19 : Nat) (m20 : Nat) (m21 : Nat) (m22 : Nat) (m23 : Nat) (sz : Nat) (mfa : Int32) (mho : Int32) (mra : Int32) (mrh : Int32) (mch : Int32) (mfr : Int32) (mfw : Int32) (mrd : Int32) (mtr : Int32) (K : Nat → Int32) (L : Nat → Int32) (C : Nat → Int32) (RO : Nat → Int32) (RB : Nat → Int32) (RT : Nat → Int32) (i1 : Int32) (hr8 : mrd.toInt ≤ 8) (hRO : ∀ j : Nat, (j : Int) < mrd.toInt → vp_in (RO j) 6) (hNb : mho.toInt ≤ 6) : Met l yX5_lands wsX5_lands rmX5_lands (va_Pc [.ref m0, .int i1] (cP dC dI [(cI, .int)] ([(m0, .inr (5, [.int mfa, .int mho, .ref m2, .ref m3, .ref m4, .int mra, .int mrh, .ref m7, .ref m8, .ref m9, .ref m10, .ref m11, .ref m12, .int mch, .int mfr, .int mfw, .int mrd, .ref m17, .ref m18, .ref m19, .ref m20, .ref m21, .ref m22, .ref m23, .int mtr])), (m2, .inl (cI, 6, .inl K)), (m3, .inl (cI, 6, .inl L)), (m4, .inl (cI, 6, .inl C)), (m17, .inl (cI, 8, .inl RO)), (m18, .inl (cI, 8, .inl RB)), (m19, .inl (cI, 8, .inl RT))]) sz)) (QX5_lands dC dI (va_A ([(m0, .inr (5, [.int mfa, .int mho, .ref m2, .ref m3, .ref m4, .int mra, .int mrh, .ref m7, .ref m8, .ref m9, .ref m10, .ref m11, .ref m12, .int mch, .int mfr, .int mfw, .int mrd, .ref m17, .ref m18, .ref m19, .ref m20, .ref m21, .ref m22, .ref m23, .int mtr])), (m2, .inl (cI, 6, .inl K)), (m3, .inl (cI, 6, .inl L)), (m4, .inl (cI, 6, .inl C)), (m17, .inl (cI, 8, .inl RO)), (m18, .inl (cI, 8, .inl RB)), (m19, .inl (cI, 8, .inl RT))]) sz) cI m0 m2 m3 m4 m7 m8 m9 m10 m11 m12 m17 m18 m19 m20 m21 m22 m23 mfa mho mra mrh mch mfr mfw mrd mtr K L C RO RB RT i1) 0 0 (va_A ([(m0, .inr (5, [.int mfa, .int mho, .ref m2, .ref m3, .ref m4, .int mra, .int mrh, .ref m7, .ref m8, .ref m9, .ref m10, .ref m11, .ref m12, .int mch, .int mfr, .int mfw, .int mrd, .ref m17, .ref m18, .ref m19, .ref m20, .ref m21, .ref m22, .ref m23, .int mtr])), (m2, .inl (cI, 6, .inl K)), (m3, .inl (cI, 6, .inl L)), (m4, .inl (cI, 6, .inl C)), (m17, .inl (cI, 8, .inl RO)), (m18, .inl (cI, 8, .inl RB)), (m19, .inl (cI, 8, .inl RT))]) sz) := by
  refine Met.ofW (cc := cX5_lands) (maxL := 5) (ret := (some .int)) (by decide) rfl ?_
  intro p e s m args below meth c s₁ B hml hv
  obtain ⟨rfl, hsz, hP, hK, hD0, hN⟩ := hv
  have hx := B.exec
  have hb := B.bytes
  have hr := B.returns
  have hts := atoms_spec (ws := wsX5_lands) B.pre
  have hown : s.vm.findClass RX5 = some m.cls := findClass_of_methodNamed B.named
  have hlocks := B.notSynchronized
  subst hsz
  have hD := hD0.self (sz := s.heap.size)
  generalize hAe : va_A ([(m0, .inr (5, [.int mfa, .int mho, .ref m2, .ref m3, .ref m4, .int mra, .int mrh, .ref m7, .ref m8, .ref m9, .ref m10, .ref m11, .ref m12, .int mch, .int mfr, .int mfw, .int mrd, .ref m17, .ref m18, .ref m19, .ref m20, .ref m21, .ref m22, .ref m23, .int mtr])), (m2, .inl (cI, 6, .inl K)), (m3, .inl (cI, 6, .inl L)), (m4, .inl (cI, 6, .inl C)), (m17, .inl (cI, 8, .inl RO)), (m18, .inl (cI, 8, .inl RB)), (m19, .inl (cI, 8, .inl RT))]) s.heap.size = A at hD ⊢
  have hA : ∀ q : Nat, s.heap.size ≤ q → A q := fun q h => by rw [← hAe]; exact Or.inr h
  have hS : va_S A s.heap s.heap [] := va_S.rf
  have hP : va_P (dC, dI) vwCl ([(m0, .inr (5, [.int mfa, .int mho, .ref m2, .ref m3, .ref m4, .int mra, .int mrh, .ref m7, .ref m8, .ref m9, .ref m10, .ref m11, .ref m12, .int mch, .int mfr, .int mfw, .int mrd, .ref m17, .ref m18, .ref m19, .ref m20, .ref m21, .ref m22, .ref m23, .int mtr])), (m2, .inl (cI, 6, .inl K)), (m3, .inl (cI, 6, .inl L)), (m4, .inl (cI, 6, .inl C)), (m17, .inl (cI, 8, .inl RO)), (m18, .inl (cI, 8, .inl RB)), (m19, .inl (cI, 8, .inl RT))]) s.heap := hP
  have hin5 : ∀ w ∈ wsX50, w ∈ wsX5_lands := by decide +kernel
  have kf_13 := hts (.fieldLink RX5 13 "RicherChangeModel" "landOf" "[I") (by decide +kernel)
  have hl := lv_entry ([.ref m0, .int i1]) (n := 5) (Nat.le_of_ble_eq_true rfl)
  rw [lg_entry_eq]
  generalize (lg_sl ([.ref m0, .int i1]) ++ List.replicate (5 - (lg_sl ([.ref m0, .int i1])).length) Slot.unset).toArray = ls at hl ⊢
  have hl : lv_has ls 5 [(0, .ref m0), (1, .int i1)] := hl
  have lp_22 : ∀ (n : Nat) (v3 : Int32) (v4 : Int32) (L_ : Nat → Int32) (H : Heap) (locs : List Loc) (ls : Array Slot), (up v4 10 n) → (vp_in i1 6) → va_P (dC, dI) vwCl ([(m0, .inr (5, [.int mfa, .int mho, .ref m2, .ref m3, .ref m4, .int mra, .int mrh, .ref m7, .ref m8, .ref m9, .ref m10, .ref m11, .ref m12, .int mch, .int mfr, .int mfw, .int mrd, .ref m17, .ref m18, .ref m19, .ref m20, .ref m21, .ref m22, .ref m23, .int mtr])), (m2, .inl (cI, 6, .inl K)), (m3, .inl (cI, 6, .inl L_)), (m4, .inl (cI, 6, .inl C)), (m17, .inl (cI, 8, .inl RO)), (m18, .inl (cI, 8, .inl RB)), (m19, .inl (cI, 8, .inl RT))]) H → va_D A ([(m0, .inr (5, [.int mfa, .int mho, .ref m2, .ref m3, .ref m4, .int mra, .int mrh, .ref m7, .ref m8, .ref m9, .ref m10, .ref m11, .ref m12, .int mch, .int mfr, .int mfw, .int mrd, .ref m17, .ref m18, .ref m19, .ref m20, .ref m21, .ref m22, .ref m23, .int mtr])), (m2, .inl (cI, 6, .inl K)), (m3, .inl (cI, 6, .inl L_)), (m4, .inl (cI, 6, .inl C)), (m17, .inl (cI, 8, .inl RO)), (m18, .inl (cI, 8, .inl RB)), (m19, .inl (cI, 8, .inl RT))]) → va_S A s.heap H locs → lv_has ls 5 [(4, .int v4), (3, .int v3), (2, .int (L i1.toNatClampNeg)), (0, .ref m0), (1, .int i1)] → p5_lands mho mrd K L C RO RB RT i1 = p5_lands_l22 mho mrd K L C RO RB RT i1 n v3 v4 L_ → W p l e (headSpec wsX5_lands rmX5_lands).room s m [.ref m0, .int i1].toArray below meth c H locs 0 0 (MQ below (QX5_lands dC dI A cI m0 m2 m3 m4 m7 m8 m9 m10 m11 m12 m17 m18 m19 m20 m21 m22 m23 mfa mho mra mrh mch mfr mfw mrd mtr K L C RO RB RT i1) [.ref m0, .int i1].toArray s 0 0 A) (F0 m 22 ls []) := by
    intro n
    induction n with
    | zero => intro v3 v4 L_ _ _ _ hu hj1; exact absurd hu up_no
    | succ n ih =>
      intro v3 v4 L_ H locs ls hu hj1 hP hD hS hl hE
      refine lv_iload hx hb dX5_lands_22 (lv_at hl 0 rfl) ?_
      refine lv_bipush (v := 10) hx hb dX5_lands_24 (by decide) ?_
      refine lv_icmp_ge (tgt := 61) hx hb dX5_lands_26 (by decide) (fun c_26 => ?_) (fun c_26 => ?_)
      · skip
        refine lv_aload_n hx hb dX5_lands_61 rfl (lv_at hl 3 rfl) ?_
        refine va_get (D := (dC, dI)) (ci := 5) (v := .ref m3) (C := RX5) (T := TX5) (N := 25) hx hb hts hin5 hown hK hP 0 rfl rfl 3 (by decide) kf_13 (fun _ h9 => h9) rfl dX5_lands_62 ?_
        refine lv_iload_n hx hb dX5_lands_65 rfl (lv_at hl 4 rfl) ?_
        refine lv_iload_n hx hb dX5_lands_66 rfl (lv_at hl 2 rfl) ?_
        refine va_iast hx hb hK hP hD hS 2 0 rfl rfl (by assumption) dX5_lands_67 (fun H locs hP hD hS => ?_)
        have hP : va_P (dC, dI) vwCl ([(m0, .inr (5, [.int mfa, .int mho, .ref m2, .ref m3, .ref m4, .int mra, .int mrh, .ref m7, .ref m8, .ref m9, .ref m10, .ref m11, .ref m12, .int mch, .int mfr, .int mfw, .int mrd, .ref m17, .ref m18, .ref m19, .ref m20, .ref m21, .ref m22, .ref m23, .int mtr])), (m2, .inl (cI, 6, .inl K)), (m3, .inl (cI, 6, .inl (upd L_ i1.toNatClampNeg (L i1.toNatClampNeg)))), (m4, .inl (cI, 6, .inl C)), (m17, .inl (cI, 8, .inl RO)), (m18, .inl (cI, 8, .inl RB)), (m19, .inl (cI, 8, .inl RT))]) H := hP
        have hD : va_D A ([(m0, .inr (5, [.int mfa, .int mho, .ref m2, .ref m3, .ref m4, .int mra, .int mrh, .ref m7, .ref m8, .ref m9, .ref m10, .ref m11, .ref m12, .int mch, .int mfr, .int mfw, .int mrd, .ref m17, .ref m18, .ref m19, .ref m20, .ref m21, .ref m22, .ref m23, .int mtr])), (m2, .inl (cI, 6, .inl K)), (m3, .inl (cI, 6, .inl (upd L_ i1.toNatClampNeg (L i1.toNatClampNeg)))), (m4, .inl (cI, 6, .inl C)), (m17, .inl (cI, 8, .inl RO)), (m18, .inl (cI, 8, .inl RB)), (m19, .inl (cI, 8, .inl RT))]) := hD
        refine lv_iload_n hx hb dX5_lands_68 rfl (lv_at hl 1 rfl) ?_
        have hE9 : p5_lands mho mrd K L C RO RB RT i1 = (v3, (upd L_ i1.toNatClampNeg (L i1.toNatClampNeg))) := hE.trans (by rw [p5_lands_l22_s, if_pos c_26])
        exact W.iret (v := v3) hx hb hr (fun t ht hW => ⟨⟨_, (), rfl, by rw [hE9], by show va_P (dC, dI) vwCl _ t.heap; rw [ht, hE9]; exact hP⟩, hS.F ht⟩) hS.2.2 dX5_lands_69
      · skip
        refine lv_aload_n hx hb dX5_lands_29 rfl (lv_at hl 3 rfl) ?_
        refine va_get (D := (dC, dI)) (ci := 5) (v := .ref m3) (C := RX5) (T := TX5) (N := 25) hx hb hts hin5 hown hK hP 0 rfl rfl 3 (by decide) kf_13 (fun _ h9 => h9) rfl dX5_lands_30 ?_
        refine lv_iload_n hx hb dX5_lands_33 rfl (lv_at hl 4 rfl) ?_
        refine lv_iload hx hb dX5_lands_34 (lv_at hl 0 rfl) ?_
        refine va_iast hx hb hK hP hD hS 2 0 rfl rfl (by assumption) dX5_lands_36 (fun H locs hP hD hS => ?_)
        have hP : va_P (dC, dI) vwCl ([(m0, .inr (5, [.int mfa, .int mho, .ref m2, .ref m3, .ref m4, .int mra, .int mrh, .ref m7, .ref m8, .ref m9, .ref m10, .ref m11, .ref m12, .int mch, .int mfr, .int mfw, .int mrd, .ref m17, .ref m18, .ref m19, .ref m20, .ref m21, .ref m22, .ref m23, .int mtr])), (m2, .inl (cI, 6, .inl K)), (m3, .inl (cI, 6, .inl (upd L_ i1.toNatClampNeg v4))), (m4, .inl (cI, 6, .inl C)), (m17, .inl (cI, 8, .inl RO)), (m18, .inl (cI, 8, .inl RB)), (m19, .inl (cI, 8, .inl RT))]) H := hP
        have hD : va_D A ([(m0, .inr (5, [.int mfa, .int mho, .ref m2, .ref m3, .ref m4, .int mra, .int mrh, .ref m7, .ref m8, .ref m9, .ref m10, .ref m11, .ref m12, .int mch, .int mfr, .int mfw, .int mrd, .ref m17, .ref m18, .ref m19, .ref m20, .ref m21, .ref m22, .ref m23, .int mtr])), (m2, .inl (cI, 6, .inl K)), (m3, .inl (cI, 6, .inl (upd L_ i1.toNatClampNeg v4))), (m4, .inl (cI, 6, .inl C)), (m17, .inl (cI, 8, .inl RO)), (m18, .inl (cI, 8, .inl RB)), (m19, .inl (cI, 8, .inl RT))]) := hD
        refine lv_iload_n hx hb dX5_lands_37 rfl (lv_at hl 1 rfl) ?_
        refine lv_aload_n hx hb dX5_lands_38 rfl (lv_at hl 3 rfl) ?_
        have hPc := hP.sub (ws' := [(m0, .inr (5, [.int mfa, .int mho, .ref m2, .ref m3, .ref m4, .int mra, .int mrh, .ref m7, .ref m8, .ref m9, .ref m10, .ref m11, .ref m12, .int mch, .int mfr, .int mfw, .int mrd, .ref m17, .ref m18, .ref m19, .ref m20, .ref m21, .ref m22, .ref m23, .int mtr])), (m2, .inl (cI, 6, .inl K)), (m3, .inl (cI, 6, .inl (upd L_ i1.toNatClampNeg v4))), (m4, .inl (cI, 6, .inl C)), (m17, .inl (cI, 8, .inl RO)), (m18, .inl (cI, 8, .inl RB)), (m19, .inl (cI, 8, .inl RT))]) [0, 1, 2, 3, 4, 5, 6] rfl
        have hDc := hD.sub (ws' := [(m0, .inr (5, [.int mfa, .int mho, .ref m2, .ref m3, .ref m4, .int mra, .int mrh, .ref m7, .ref m8, .ref m9, .ref m10, .ref m11, .ref m12, .int mch, .int mfr, .int mfw, .int mrd, .ref m17, .ref m18, .ref m19, .ref m20, .ref m21, .ref m22, .ref m23, .int mtr])), (m2, .inl (cI, 6, .inl K)), (m3, .inl (cI, 6, .inl (upd L_ i1.toNatClampNeg v4))), (m4, .inl (cI, 6, .inl C)), (m17, .inl (cI, 8, .inl RO)), (m18, .inl (cI, 8, .inl RB)), (m19, .inl (cI, 8, .inl RT))]) [0, 1, 2, 3, 4, 5, 6] (by decide) rfl
        have hKc := hK.sub (tys' := [(cI, .int)]) [0] rfl
        have hFc := va_free (wc := [(m0, .inr (5, [.int mfa, .int mho, .ref m2, .ref m3, .ref m4, .int mra, .int mrh, .ref m7, .ref m8, .ref m9, .ref m10, .ref m11, .ref m12, .int mch, .int mfr, .int mfw, .int mrd, .ref m17, .ref m18, .ref m19, .ref m20, .ref m21, .ref m22, .ref m23, .int mtr])), (m2, .inl (cI, 6, .inl K)), (m3, .inl (cI, 6, .inl (upd L_ i1.toNatClampNeg v4))), (m4, .inl (cI, 6, .inl C)), (m17, .inl (cI, 8, .inl RO)), (m18, .inl (cI, 8, .inl RB)), (m19, .inl (cI, 8, .inl RT))]) hD hS hA [0, 1, 2, 3, 4, 5, 6] rfl
        refine va_calli (va_runV (As := []) (rest := [.int v3]) ⟨hx, hb, hml, hown, hts⟩ (ctX5_areSo l dC dI cI m0 m2 m3 m4 m7 m8 m9 m10 m11 m12 m17 m18 m19 m20 m21 m22 m23 H.size mfa mho mra mrh mch mfr mfw mrd mtr K (upd L_ i1.toNatClampNeg v4) C RO RB RT (by assumption) (by assumption) (by assumption)) (cwV 0 hts gX5_lands_X5_areSo rfl rfl rfl (by decide +kernel) ⟨Nat.le_of_ble_eq_true rfl, Nat.le_of_ble_eq_true rfl⟩) (pre_V hKc hN hPc hDc (RX5, TX5, 25) 5 0 rfl rfl) rfl rfl hl.1 rfl (lv_room (Nat.le_of_ble_eq_true rfl)) dX5_lands_39 ⟨Nat.le_of_ble_eq_true rfl, Nat.le_of_ble_eq_true rfl⟩) hS (fun q _ h => hFc q h) hFc (fun r _ t H locs ht hvm hw hB hz1 hk1 hS => ?_)
        try dsimp only at hw
        subst hw
        rw [ht] at hB
        obtain ⟨hP, hD⟩ := rw_join ([(m0, .inr (5, [.int mfa, .int mho, .ref m2, .ref m3, .ref m4, .int mra, .int mrh, .ref m7, .ref m8, .ref m9, .ref m10, .ref m11, .ref m12, .int mch, .int mfr, .int mfw, .int mrd, .ref m17, .ref m18, .ref m19, .ref m20, .ref m21, .ref m22, .ref m23, .int mtr])), (m2, .inl (cI, 6, .inl K)), (m3, .inl (cI, 6, .inl (upd L_ i1.toNatClampNeg v4))), (m4, .inl (cI, 6, .inl C)), (m17, .inl (cI, 8, .inl RO)), (m18, .inl (cI, 8, .inl RB)), (m19, .inl (cI, 8, .inl RT))]) ([(m0, .inr (5, [.int mfa, .int mho, .ref m2, .ref m3, .ref m4, .int mra, .int mrh, .ref m7, .ref m8, .ref m9, .ref m10, .ref m11, .ref m12, .int mch, .int mfr, .int mfw, .int mrd, .ref m17, .ref m18, .ref m19, .ref m20, .ref m21, .ref m22, .ref m23, .int mtr])), (m2, .inl (cI, 6, .inl K)), (m3, .inl (cI, 6, .inl (upd L_ i1.toNatClampNeg v4))), (m4, .inl (cI, 6, .inl C)), (m17, .inl (cI, 8, .inl RO)), (m18, .inl (cI, 8, .inl RB)), (m19, .inl (cI, 8, .inl RT))]) ([(m0, .inr (5, [.int mfa, .int mho, .ref m2, .ref m3, .ref m4, .int mra, .int mrh, .ref m7, .ref m8, .ref m9, .ref m10, .ref m11, .ref m12, .int mch, .int mfr, .int mfw, .int mrd, .ref m17, .ref m18, .ref m19, .ref m20, .ref m21, .ref m22, .ref m23, .int mtr])), (m2, .inl (cI, 6, .inl K)), (m3, .inl (cI, 6, .inl (upd L_ i1.toNatClampNeg v4))), (m4, .inl (cI, 6, .inl C)), (m17, .inl (cI, 8, .inl RO)), (m18, .inl (cI, 8, .inl RB)), (m19, .inl (cI, 8, .inl RT))]) ([(m0, .inr (5, [.int mfa, .int mho, .ref m2, .ref m3, .ref m4, .int mra, .int mrh, .ref m7, .ref m8, .ref m9, .ref m10, .ref m11, .ref m12, .int mch, .int mfr, .int mfw, .int mrd, .ref m17, .ref m18, .ref m19, .ref m20, .ref m21, .ref m22, .ref m23, .int mtr])), (m2, .inl (cI, 6, .inl K)), (m3, .inl (cI, 6, .inl (upd L_ i1.toNatClampNeg v4))), (m4, .inl (cI, 6, .inl C)), (m17, .inl (cI, 8, .inl RO)), (m18, .inl (cI, 8, .inl RB)), (m19, .inl (cI, 8, .inl RT))]) ([]) hP hD [0, 1, 2, 3, 4, 5, 6] [] [m0, m2, m3, m4, m17, m18, m19] 7 rfl rfl rfl rfl rfl (by decide) rfl rfl hk1 hB
        refine lv_if_eq (tgt := 52) hx hb dX5_lands_42 (by decide) (fun c_42 => ?_) (fun c_42 => ?_)
        · skip
          refine lv_iconst (v := 0) hx hb dX5_lands_52 (by decide) ?_
          refine lv_ior hx hb dX5_lands_53 ?_
          refine lv_istore_n (lv' := [(3, .int (v3 ||| 0)), (4, .int v4), (2, .int (L i1.toNatClampNeg)), (0, .ref m0), (1, .int i1)]) hx hb dX5_lands_54 rfl hl (by decide) rfl (fun ls hl => ?_)
          refine lv_iinc (v := (v4 + 1)) (lv' := [(4, .int (v4 + 1)), (3, .int (v3 ||| 0)), (2, .int (L i1.toNatClampNeg)), (0, .ref m0), (1, .int i1)]) hx hb dX5_lands_55 hl (k := 1) rfl rfl (by decide) rfl (fun ls hl => ?_)
          refine lv_goto (tgt := 22) hx hb dX5_lands_58 (by decide) ?_
          exact ih (v3 ||| 0) (v4 + 1) (upd L_ i1.toNatClampNeg v4) _ _ _ (up_s hu c_26) hj1 hP hD hS (lv_sub hl [0, 1, 2, 3, 4] rfl) (hE.trans (by rw [p5_lands_l22_s, if_neg c_26, if_pos c_42]))
        · skip
          refine lv_iconst (v := 1) hx hb dX5_lands_45 (by decide) ?_
          refine lv_iload hx hb dX5_lands_46 (lv_at hl 0 rfl) ?_
          refine lv_ishl hx hb dX5_lands_48 ?_
          refine lv_goto (tgt := 53) hx hb dX5_lands_49 (by decide) ?_
          refine lv_ior hx hb dX5_lands_53 ?_
          refine lv_istore_n (lv' := [(3, .int (v3 ||| ((1 : Int32) <<< (v4 &&& 31)))), (4, .int v4), (2, .int (L i1.toNatClampNeg)), (0, .ref m0), (1, .int i1)]) hx hb dX5_lands_54 rfl hl (by decide) rfl (fun ls hl => ?_)
          refine lv_iinc (v := (v4 + 1)) (lv' := [(4, .int (v4 + 1)), (3, .int (v3 ||| ((1 : Int32) <<< (v4 &&& 31)))), (2, .int (L i1.toNatClampNeg)), (0, .ref m0), (1, .int i1)]) hx hb dX5_lands_55 hl (k := 1) rfl rfl (by decide) rfl (fun ls hl => ?_)
          refine lv_goto (tgt := 22) hx hb dX5_lands_58 (by decide) ?_
          exact ih (v3 ||| ((1 : Int32) <<< (v4 &&& 31))) (v4 + 1) (upd L_ i1.toNatClampNeg v4) _ _ _ (up_s hu c_26) hj1 hP hD hS (lv_sub hl [0, 1, 2, 3, 4] rfl) (hE.trans (by rw [p5_lands_l22_s, if_neg c_26, if_neg c_42]))
  refine lv_aload_n hx hb dX5_lands_0 rfl (lv_at hl 0 rfl) ?_
  refine lv_iload_n hx hb dX5_lands_1 rfl (lv_at hl 1 rfl) ?_
  have hPc := hP.sub (ws' := [(m0, .inr (5, [.int mfa, .int mho, .ref m2, .ref m3, .ref m4, .int mra, .int mrh, .ref m7, .ref m8, .ref m9, .ref m10, .ref m11, .ref m12, .int mch, .int mfr, .int mfw, .int mrd, .ref m17, .ref m18, .ref m19, .ref m20, .ref m21, .ref m22, .ref m23, .int mtr]))]) [0] rfl
  have hDc := hD.sub (ws' := [(m0, .inr (5, [.int mfa, .int mho, .ref m2, .ref m3, .ref m4, .int mra, .int mrh, .ref m7, .ref m8, .ref m9, .ref m10, .ref m11, .ref m12, .int mch, .int mfr, .int mfw, .int mrd, .ref m17, .ref m18, .ref m19, .ref m20, .ref m21, .ref m22, .ref m23, .int mtr]))]) [0] (by decide) rfl
  have hKc := hK.sub (tys' := [(cI, .int)]) [0] rfl
  have hFc := va_free (wc := [(m0, .inr (5, [.int mfa, .int mho, .ref m2, .ref m3, .ref m4, .int mra, .int mrh, .ref m7, .ref m8, .ref m9, .ref m10, .ref m11, .ref m12, .int mch, .int mfr, .int mfw, .int mrd, .ref m17, .ref m18, .ref m19, .ref m20, .ref m21, .ref m22, .ref m23, .int mtr]))]) hD hS hA [0] rfl
  refine va_calli (va_runV (As := [.int i1]) (rest := []) ⟨hx, hb, hml, hown, hts⟩ (ctX5_noHouse l dC dI cI m0 m2 m3 m4 m7 m8 m9 m10 m11 m12 m17 m18 m19 m20 m21 m22 m23 s.heap.size mfa mho mra mrh mch mfr mfw mrd mtr i1) (cwV 1 hts gX5_lands_X5_noHouse rfl rfl rfl (by decide +kernel) ⟨Nat.le_of_ble_eq_true rfl, Nat.le_of_ble_eq_true rfl⟩) (pre_V hKc hN hPc hDc (RX5, TX5, 25) 5 0 rfl rfl) rfl rfl hl.1 rfl (lv_room (Nat.le_of_ble_eq_true rfl)) dX5_lands_2 ⟨Nat.le_of_ble_eq_true rfl, Nat.le_of_ble_eq_true rfl⟩) hS (fun q _ h => hFc q h) hFc (fun r _ t H locs ht hvm hw hB hz1 hk1 hS => ?_)
  try dsimp only at hw
  subst hw
  rw [ht] at hB
  obtain ⟨hP, hD⟩ := rw_join ([(m0, .inr (5, [.int mfa, .int mho, .ref m2, .ref m3, .ref m4, .int mra, .int mrh, .ref m7, .ref m8, .ref m9, .ref m10, .ref m11, .ref m12, .int mch, .int mfr, .int mfw, .int mrd, .ref m17, .ref m18, .ref m19, .ref m20, .ref m21, .ref m22, .ref m23, .int mtr])), (m2, .inl (cI, 6, .inl K)), (m3, .inl (cI, 6, .inl L)), (m4, .inl (cI, 6, .inl C)), (m17, .inl (cI, 8, .inl RO)), (m18, .inl (cI, 8, .inl RB)), (m19, .inl (cI, 8, .inl RT))]) ([(m0, .inr (5, [.int mfa, .int mho, .ref m2, .ref m3, .ref m4, .int mra, .int mrh, .ref m7, .ref m8, .ref m9, .ref m10, .ref m11, .ref m12, .int mch, .int mfr, .int mfw, .int mrd, .ref m17, .ref m18, .ref m19, .ref m20, .ref m21, .ref m22, .ref m23, .int mtr])), (m2, .inl (cI, 6, .inl K)), (m3, .inl (cI, 6, .inl L)), (m4, .inl (cI, 6, .inl C)), (m17, .inl (cI, 8, .inl RO)), (m18, .inl (cI, 8, .inl RB)), (m19, .inl (cI, 8, .inl RT))]) ([(m0, .inr (5, [.int mfa, .int mho, .ref m2, .ref m3, .ref m4, .int mra, .int mrh, .ref m7, .ref m8, .ref m9, .ref m10, .ref m11, .ref m12, .int mch, .int mfr, .int mfw, .int mrd, .ref m17, .ref m18, .ref m19, .ref m20, .ref m21, .ref m22, .ref m23, .int mtr]))]) ([(m0, .inr (5, [.int mfa, .int mho, .ref m2, .ref m3, .ref m4, .int mra, .int mrh, .ref m7, .ref m8, .ref m9, .ref m10, .ref m11, .ref m12, .int mch, .int mfr, .int mfw, .int mrd, .ref m17, .ref m18, .ref m19, .ref m20, .ref m21, .ref m22, .ref m23, .int mtr]))]) ([(m2, .inl (cI, 6, .inl K)), (m3, .inl (cI, 6, .inl L)), (m4, .inl (cI, 6, .inl C)), (m17, .inl (cI, 8, .inl RO)), (m18, .inl (cI, 8, .inl RB)), (m19, .inl (cI, 8, .inl RT))]) hP hD [0] [1, 2, 3, 4, 5, 6] [m0, m2, m3, m4, m17, m18, m19] 7 rfl rfl rfl rfl rfl (by decide) rfl rfl hk1 hB
  refine lv_if_eq (tgt := 10) hx hb dX5_lands_5 (by decide) (fun c_5 => ?_) (fun c_5 => ?_)
  · skip
    have j1 : vp_in i1 6 := noHouse_in hNb c_5
    refine lv_aload_n hx hb dX5_lands_10 rfl (lv_at hl 0 rfl) ?_
    refine va_get (D := (dC, dI)) (ci := 5) (v := .ref m3) (C := RX5) (T := TX5) (N := 25) hx hb hts hin5 hown hK hP 0 rfl rfl 3 (by decide) kf_13 (fun _ h9 => h9) rfl dX5_lands_11 ?_
    refine lv_iload_n hx hb dX5_lands_14 rfl (lv_at hl 1 rfl) ?_
    refine va_iald hx hb hK hP 2 0 rfl rfl (by assumption) dX5_lands_15 ?_
    refine lv_istore_n (lv' := [(2, .int (L i1.toNatClampNeg)), (0, .ref m0), (1, .int i1)]) hx hb dX5_lands_16 rfl hl (by decide) rfl (fun ls hl => ?_)
    refine lv_iconst (v := 0) hx hb dX5_lands_17 (by decide) ?_
    refine lv_istore_n (lv' := [(3, .int 0), (2, .int (L i1.toNatClampNeg)), (0, .ref m0), (1, .int i1)]) hx hb dX5_lands_18 rfl hl (by decide) rfl (fun ls hl => ?_)
    refine lv_iconst (v := 0) hx hb dX5_lands_19 (by decide) ?_
    refine lv_istore (lv' := [(4, .int 0), (3, .int 0), (2, .int (L i1.toNatClampNeg)), (0, .ref m0), (1, .int i1)]) hx hb dX5_lands_20 hl (by decide) rfl (fun ls hl => ?_)
    exact lp_22 11 0 0 L  _ _ _ (up_i 10 (by decide) (by decide)) j1 hP hD hS (lv_sub hl [0, 1, 2, 3, 4] rfl) (by unfold p5_lands; rw [if_pos c_5])
  · skip
    refine lv_iconst (v := (-1)) hx hb dX5_lands_8 (by decide) ?_
    have hE9 : p5_lands mho mrd K L C RO RB RT i1 = ((-1), L) := by unfold p5_lands; rw [if_neg c_5]
    exact W.iret (v := (-1)) hx hb hr (fun t ht hW => ⟨⟨_, (), rfl, by rw [hE9], by show va_P (dC, dI) vwCl _ t.heap; rw [ht, hE9]; exact hP⟩, hS.F ht⟩) hS.2.2 dX5_lands_9

def p5_coins_l22 (mho : Int32) (mrd : Int32) (K : Nat → Int32) (L : Nat → Int32) (C : Nat → Int32) (RO : Nat → Int32) (RB : Nat → Int32) (RT : Nat → Int32) (i1 : Int32) : Nat → Int32 → Int32 → (Nat → Int32) → Int32 × (Nat → Int32)
  | 0, _, _, _ => (0, fun _ => 0)
  | n + 1, v3, v4, C_ =>
    if 10 ≤ v4 then
      (v3, (upd C_ i1.toNatClampNeg (C i1.toNatClampNeg)))
    else
      if (p5_areSo mho mrd K L (upd C_ i1.toNatClampNeg v4) RO RB RT) = 0 then
        p5_coins_l22 mho mrd K L C RO RB RT i1 n (v3 ||| 0) (v4 + 1) (upd C_ i1.toNatClampNeg v4)
      else
        p5_coins_l22 mho mrd K L C RO RB RT i1 n (v3 ||| ((1 : Int32) <<< (v4 &&& 31))) (v4 + 1) (upd C_ i1.toNatClampNeg v4)
theorem p5_coins_l22_s (mho : Int32) (mrd : Int32) (K : Nat → Int32) (L : Nat → Int32) (C : Nat → Int32) (RO : Nat → Int32) (RB : Nat → Int32) (RT : Nat → Int32) (i1 : Int32) (n : Nat) (v3 : Int32) (v4 : Int32) (C_ : Nat → Int32) : p5_coins_l22 mho mrd K L C RO RB RT i1 (n + 1) v3 v4 C_ =
    (if 10 ≤ v4 then
      (v3, (upd C_ i1.toNatClampNeg (C i1.toNatClampNeg)))
    else
      if (p5_areSo mho mrd K L (upd C_ i1.toNatClampNeg v4) RO RB RT) = 0 then
        p5_coins_l22 mho mrd K L C RO RB RT i1 n (v3 ||| 0) (v4 + 1) (upd C_ i1.toNatClampNeg v4)
      else
        p5_coins_l22 mho mrd K L C RO RB RT i1 n (v3 ||| ((1 : Int32) <<< (v4 &&& 31))) (v4 + 1) (upd C_ i1.toNatClampNeg v4)) := rfl
def p5_coins (mho : Int32) (mrd : Int32) (K : Nat → Int32) (L : Nat → Int32) (C : Nat → Int32) (RO : Nat → Int32) (RB : Nat → Int32) (RT : Nat → Int32) (i1 : Int32) : Int32 × (Nat → Int32) :=
  if (p5_noHouse mho i1) = 0 then
    p5_coins_l22 mho mrd K L C RO RB RT i1 11 0 0 C
  else
    ((-1), C)
abbrev rmX5_coins : Room := { frames := 6, cells := 0, slots := 0, locals := 140 }
abbrev QX5_coins (dC : Nat → ClassId) (dI : Nat → Nat → Nat) (A : Nat → Prop) (cI : ClassId) (m0 : Nat) (m2 : Nat) (m3 : Nat) (m4 : Nat) (m7 : Nat) (m8 : Nat) (m9 : Nat) (m10 : Nat) (m11 : Nat) (m12 : Nat) (m17 : Nat) (m18 : Nat) (m19 : Nat) (m20 : Nat) (m21 : Nat) (m22 : Nat) (m23 : Nat) (mfa : Int32) (mho : Int32) (mra : Int32) (mrh : Int32) (mch : Int32) (mfr : Int32) (mfw : Int32) (mrd : Int32) (mtr : Int32) (K : Nat → Int32) (L : Nat → Int32) (C : Nat → Int32) (RO : Nat → Int32) (RB : Nat → Int32) (RT : Nat → Int32) (i1 : Int32) : Array Value → State → Outcome → State → Prop := va_Qi (fun (r : Int32) (_ : Unit) => r = (p5_coins mho mrd K L C RO RB RT i1).1) (fun (_ : Unit) (t : State) => va_P (dC, dI) vwCl ([(m0, .inr (5, [.int mfa, .int mho, .ref m2, .ref m3, .ref m4, .int mra, .int mrh, .ref m7, .ref m8, .ref m9, .ref m10, .ref m11, .ref m12, .int mch, .int mfr, .int mfw, .int mrd, .ref m17, .ref m18, .ref m19, .ref m20, .ref m21, .ref m22, .ref m23, .int mtr])), (m2, .inl (cI, 6, .inl K)), (m3, .inl (cI, 6, .inl L)), (m4, .inl (cI, 6, .inl ((p5_coins mho mrd K L C RO RB RT i1).2))), (m17, .inl (cI, 8, .inl RO)), (m18, .inl (cI, 8, .inl RB)), (m19, .inl (cI, 8, .inl RT))]) t.heap) A
set_option maxHeartbeats 4000000 in
set_option maxRecDepth 100000 in
theorem ctX5_coins (l : Launch) (dC : Nat → ClassId) (dI : Nat → Nat → Nat) (cI : ClassId) (m0 : Nat) (m2 : Nat) (m3 : Nat) (m4 : Nat) (m7 : Nat) (m8 : Nat) (m9 : Nat) (m10 : Nat) (m11 : Nat) (m12 : Nat) (m17 : Nat) (m18 : Nat) (m19 : Nat) (m20 : Nat) (m21 : Nat) (m22 : Nat) (m23 : Nat) (sz : Nat) (mfa : Int32) (mho : Int32) (mra : Int32) (mrh : Int32) (mch : Int32) (mfr : Int32) (mfw : Int32) (mrd : Int32) (mtr : Int32) (K : Nat → Int32) (L : Nat → Int32) (C : Nat → Int32) (RO : Nat → Int32) (RB : Nat → Int32) (RT : Nat → Int32) (i1 : Int32) (hr8 : mrd.toInt ≤ 8) (hRO : ∀ j : Nat, (j : Int) < mrd.toInt → vp_in (RO j) 6) (hNb : mho.toInt ≤ 6) : Met l yX5_coins wsX5_coins rmX5_coins (va_Pc [.ref m0, .int i1] (cP dC dI [(cI, .int)] ([(m0, .inr (5, [.int mfa, .int mho, .ref m2, .ref m3, .ref m4, .int mra, .int mrh, .ref m7, .ref m8, .ref m9, .ref m10, .ref m11, .ref m12, .int mch, .int mfr, .int mfw, .int mrd, .ref m17, .ref m18, .ref m19, .ref m20, .ref m21, .ref m22, .ref m23, .int mtr])), (m2, .inl (cI, 6, .inl K)), (m3, .inl (cI, 6, .inl L)), (m4, .inl (cI, 6, .inl C)), (m17, .inl (cI, 8, .inl RO)), (m18, .inl (cI, 8, .inl RB)), (m19, .inl (cI, 8, .inl RT))]) sz)) (QX5_coins dC dI (va_A ([(m0, .inr (5, [.int mfa, .int mho, .ref m2, .ref m3, .ref m4, .int mra, .int mrh, .ref m7, .ref m8, .ref m9, .ref m10, .ref m11, .ref m12, .int mch, .int mfr, .int mfw, .int mrd, .ref m17, .ref m18, .ref m19, .ref m20, .ref m21, .ref m22, .ref m23, .int mtr])), (m2, .inl (cI, 6, .inl K)), (m3, .inl (cI, 6, .inl L)), (m4, .inl (cI, 6, .inl C)), (m17, .inl (cI, 8, .inl RO)), (m18, .inl (cI, 8, .inl RB)), (m19, .inl (cI, 8, .inl RT))]) sz) cI m0 m2 m3 m4 m7 m8 m9 m10 m11 m12 m17 m18 m19 m20 m21 m22 m23 mfa mho mra mrh mch mfr mfw mrd mtr K L C RO RB RT i1) 0 0 (va_A ([(m0, .inr (5, [.int mfa, .int mho, .ref m2, .ref m3, .ref m4, .int mra, .int mrh, .ref m7, .ref m8, .ref m9, .ref m10, .ref m11, .ref m12, .int mch, .int mfr, .int mfw, .int mrd, .ref m17, .ref m18, .ref m19, .ref m20, .ref m21, .ref m22, .ref m23, .int mtr])), (m2, .inl (cI, 6, .inl K)), (m3, .inl (cI, 6, .inl L)), (m4, .inl (cI, 6, .inl C)), (m17, .inl (cI, 8, .inl RO)), (m18, .inl (cI, 8, .inl RB)), (m19, .inl (cI, 8, .inl RT))]) sz) := by
  refine Met.ofW (cc := cX5_coins) (maxL := 5) (ret := (some .int)) (by decide) rfl ?_
  intro p e s m args below meth c s₁ B hml hv
  obtain ⟨rfl, hsz, hP, hK, hD0, hN⟩ := hv
  have hx := B.exec
  have hb := B.bytes
  have hr := B.returns
  have hts := atoms_spec (ws := wsX5_coins) B.pre
  have hown : s.vm.findClass RX5 = some m.cls := findClass_of_methodNamed B.named
  have hlocks := B.notSynchronized
  subst hsz
  have hD := hD0.self (sz := s.heap.size)
  generalize hAe : va_A ([(m0, .inr (5, [.int mfa, .int mho, .ref m2, .ref m3, .ref m4, .int mra, .int mrh, .ref m7, .ref m8, .ref m9, .ref m10, .ref m11, .ref m12, .int mch, .int mfr, .int mfw, .int mrd, .ref m17, .ref m18, .ref m19, .ref m20, .ref m21, .ref m22, .ref m23, .int mtr])), (m2, .inl (cI, 6, .inl K)), (m3, .inl (cI, 6, .inl L)), (m4, .inl (cI, 6, .inl C)), (m17, .inl (cI, 8, .inl RO)), (m18, .inl (cI, 8, .inl RB)), (m19, .inl (cI, 8, .inl RT))]) s.heap.size = A at hD ⊢
  have hA : ∀ q : Nat, s.heap.size ≤ q → A q := fun q h => by rw [← hAe]; exact Or.inr h
  have hS : va_S A s.heap s.heap [] := va_S.rf
  have hP : va_P (dC, dI) vwCl ([(m0, .inr (5, [.int mfa, .int mho, .ref m2, .ref m3, .ref m4, .int mra, .int mrh, .ref m7, .ref m8, .ref m9, .ref m10, .ref m11, .ref m12, .int mch, .int mfr, .int mfw, .int mrd, .ref m17, .ref m18, .ref m19, .ref m20, .ref m21, .ref m22, .ref m23, .int mtr])), (m2, .inl (cI, 6, .inl K)), (m3, .inl (cI, 6, .inl L)), (m4, .inl (cI, 6, .inl C)), (m17, .inl (cI, 8, .inl RO)), (m18, .inl (cI, 8, .inl RB)), (m19, .inl (cI, 8, .inl RT))]) s.heap := hP
  have hin5 : ∀ w ∈ wsX50, w ∈ wsX5_coins := by decide +kernel
  have kf_16 := hts (.fieldLink RX5 16 "RicherChangeModel" "coinOf" "[I") (by decide +kernel)
  have hl := lv_entry ([.ref m0, .int i1]) (n := 5) (Nat.le_of_ble_eq_true rfl)
  rw [lg_entry_eq]
  generalize (lg_sl ([.ref m0, .int i1]) ++ List.replicate (5 - (lg_sl ([.ref m0, .int i1])).length) Slot.unset).toArray = ls at hl ⊢
  have hl : lv_has ls 5 [(0, .ref m0), (1, .int i1)] := hl
  have lp_22 : ∀ (n : Nat) (v3 : Int32) (v4 : Int32) (C_ : Nat → Int32) (H : Heap) (locs : List Loc) (ls : Array Slot), (up v4 10 n) → (vp_in i1 6) → va_P (dC, dI) vwCl ([(m0, .inr (5, [.int mfa, .int mho, .ref m2, .ref m3, .ref m4, .int mra, .int mrh, .ref m7, .ref m8, .ref m9, .ref m10, .ref m11, .ref m12, .int mch, .int mfr, .int mfw, .int mrd, .ref m17, .ref m18, .ref m19, .ref m20, .ref m21, .ref m22, .ref m23, .int mtr])), (m2, .inl (cI, 6, .inl K)), (m3, .inl (cI, 6, .inl L)), (m4, .inl (cI, 6, .inl C_)), (m17, .inl (cI, 8, .inl RO)), (m18, .inl (cI, 8, .inl RB)), (m19, .inl (cI, 8, .inl RT))]) H → va_D A ([(m0, .inr (5, [.int mfa, .int mho, .ref m2, .ref m3, .ref m4, .int mra, .int mrh, .ref m7, .ref m8, .ref m9, .ref m10, .ref m11, .ref m12, .int mch, .int mfr, .int mfw, .int mrd, .ref m17, .ref m18, .ref m19, .ref m20, .ref m21, .ref m22, .ref m23, .int mtr])), (m2, .inl (cI, 6, .inl K)), (m3, .inl (cI, 6, .inl L)), (m4, .inl (cI, 6, .inl C_)), (m17, .inl (cI, 8, .inl RO)), (m18, .inl (cI, 8, .inl RB)), (m19, .inl (cI, 8, .inl RT))]) → va_S A s.heap H locs → lv_has ls 5 [(4, .int v4), (3, .int v3), (2, .int (C i1.toNatClampNeg)), (0, .ref m0), (1, .int i1)] → p5_coins mho mrd K L C RO RB RT i1 = p5_coins_l22 mho mrd K L C RO RB RT i1 n v3 v4 C_ → W p l e (headSpec wsX5_coins rmX5_coins).room s m [.ref m0, .int i1].toArray below meth c H locs 0 0 (MQ below (QX5_coins dC dI A cI m0 m2 m3 m4 m7 m8 m9 m10 m11 m12 m17 m18 m19 m20 m21 m22 m23 mfa mho mra mrh mch mfr mfw mrd mtr K L C RO RB RT i1) [.ref m0, .int i1].toArray s 0 0 A) (F0 m 22 ls []) := by
    intro n
    induction n with
    | zero => intro v3 v4 C_ _ _ _ hu hj1; exact absurd hu up_no
    | succ n ih =>
      intro v3 v4 C_ H locs ls hu hj1 hP hD hS hl hE
      refine lv_iload hx hb dX5_coins_22 (lv_at hl 0 rfl) ?_
      refine lv_bipush (v := 10) hx hb dX5_coins_24 (by decide) ?_
      refine lv_icmp_ge (tgt := 61) hx hb dX5_coins_26 (by decide) (fun c_26 => ?_) (fun c_26 => ?_)
      · skip
        refine lv_aload_n hx hb dX5_coins_61 rfl (lv_at hl 3 rfl) ?_
        refine va_get (D := (dC, dI)) (ci := 5) (v := .ref m4) (C := RX5) (T := TX5) (N := 25) hx hb hts hin5 hown hK hP 0 rfl rfl 4 (by decide) kf_16 (fun _ h9 => h9) rfl dX5_coins_62 ?_
        refine lv_iload_n hx hb dX5_coins_65 rfl (lv_at hl 4 rfl) ?_
        refine lv_iload_n hx hb dX5_coins_66 rfl (lv_at hl 2 rfl) ?_
        refine va_iast hx hb hK hP hD hS 3 0 rfl rfl (by assumption) dX5_coins_67 (fun H locs hP hD hS => ?_)
        have hP : va_P (dC, dI) vwCl ([(m0, .inr (5, [.int mfa, .int mho, .ref m2, .ref m3, .ref m4, .int mra, .int mrh, .ref m7, .ref m8, .ref m9, .ref m10, .ref m11, .ref m12, .int mch, .int mfr, .int mfw, .int mrd, .ref m17, .ref m18, .ref m19, .ref m20, .ref m21, .ref m22, .ref m23, .int mtr])), (m2, .inl (cI, 6, .inl K)), (m3, .inl (cI, 6, .inl L)), (m4, .inl (cI, 6, .inl (upd C_ i1.toNatClampNeg (C i1.toNatClampNeg)))), (m17, .inl (cI, 8, .inl RO)), (m18, .inl (cI, 8, .inl RB)), (m19, .inl (cI, 8, .inl RT))]) H := hP
        have hD : va_D A ([(m0, .inr (5, [.int mfa, .int mho, .ref m2, .ref m3, .ref m4, .int mra, .int mrh, .ref m7, .ref m8, .ref m9, .ref m10, .ref m11, .ref m12, .int mch, .int mfr, .int mfw, .int mrd, .ref m17, .ref m18, .ref m19, .ref m20, .ref m21, .ref m22, .ref m23, .int mtr])), (m2, .inl (cI, 6, .inl K)), (m3, .inl (cI, 6, .inl L)), (m4, .inl (cI, 6, .inl (upd C_ i1.toNatClampNeg (C i1.toNatClampNeg)))), (m17, .inl (cI, 8, .inl RO)), (m18, .inl (cI, 8, .inl RB)), (m19, .inl (cI, 8, .inl RT))]) := hD
        refine lv_iload_n hx hb dX5_coins_68 rfl (lv_at hl 1 rfl) ?_
        have hE9 : p5_coins mho mrd K L C RO RB RT i1 = (v3, (upd C_ i1.toNatClampNeg (C i1.toNatClampNeg))) := hE.trans (by rw [p5_coins_l22_s, if_pos c_26])
        exact W.iret (v := v3) hx hb hr (fun t ht hW => ⟨⟨_, (), rfl, by rw [hE9], by show va_P (dC, dI) vwCl _ t.heap; rw [ht, hE9]; exact hP⟩, hS.F ht⟩) hS.2.2 dX5_coins_69
      · skip
        refine lv_aload_n hx hb dX5_coins_29 rfl (lv_at hl 3 rfl) ?_
        refine va_get (D := (dC, dI)) (ci := 5) (v := .ref m4) (C := RX5) (T := TX5) (N := 25) hx hb hts hin5 hown hK hP 0 rfl rfl 4 (by decide) kf_16 (fun _ h9 => h9) rfl dX5_coins_30 ?_
        refine lv_iload_n hx hb dX5_coins_33 rfl (lv_at hl 4 rfl) ?_
        refine lv_iload hx hb dX5_coins_34 (lv_at hl 0 rfl) ?_
        refine va_iast hx hb hK hP hD hS 3 0 rfl rfl (by assumption) dX5_coins_36 (fun H locs hP hD hS => ?_)
        have hP : va_P (dC, dI) vwCl ([(m0, .inr (5, [.int mfa, .int mho, .ref m2, .ref m3, .ref m4, .int mra, .int mrh, .ref m7, .ref m8, .ref m9, .ref m10, .ref m11, .ref m12, .int mch, .int mfr, .int mfw, .int mrd, .ref m17, .ref m18, .ref m19, .ref m20, .ref m21, .ref m22, .ref m23, .int mtr])), (m2, .inl (cI, 6, .inl K)), (m3, .inl (cI, 6, .inl L)), (m4, .inl (cI, 6, .inl (upd C_ i1.toNatClampNeg v4))), (m17, .inl (cI, 8, .inl RO)), (m18, .inl (cI, 8, .inl RB)), (m19, .inl (cI, 8, .inl RT))]) H := hP
        have hD : va_D A ([(m0, .inr (5, [.int mfa, .int mho, .ref m2, .ref m3, .ref m4, .int mra, .int mrh, .ref m7, .ref m8, .ref m9, .ref m10, .ref m11, .ref m12, .int mch, .int mfr, .int mfw, .int mrd, .ref m17, .ref m18, .ref m19, .ref m20, .ref m21, .ref m22, .ref m23, .int mtr])), (m2, .inl (cI, 6, .inl K)), (m3, .inl (cI, 6, .inl L)), (m4, .inl (cI, 6, .inl (upd C_ i1.toNatClampNeg v4))), (m17, .inl (cI, 8, .inl RO)), (m18, .inl (cI, 8, .inl RB)), (m19, .inl (cI, 8, .inl RT))]) := hD
        refine lv_iload_n hx hb dX5_coins_37 rfl (lv_at hl 1 rfl) ?_
        refine lv_aload_n hx hb dX5_coins_38 rfl (lv_at hl 3 rfl) ?_
        have hPc := hP.sub (ws' := [(m0, .inr (5, [.int mfa, .int mho, .ref m2, .ref m3, .ref m4, .int mra, .int mrh, .ref m7, .ref m8, .ref m9, .ref m10, .ref m11, .ref m12, .int mch, .int mfr, .int mfw, .int mrd, .ref m17, .ref m18, .ref m19, .ref m20, .ref m21, .ref m22, .ref m23, .int mtr])), (m2, .inl (cI, 6, .inl K)), (m3, .inl (cI, 6, .inl L)), (m4, .inl (cI, 6, .inl (upd C_ i1.toNatClampNeg v4))), (m17, .inl (cI, 8, .inl RO)), (m18, .inl (cI, 8, .inl RB)), (m19, .inl (cI, 8, .inl RT))]) [0, 1, 2, 3, 4, 5, 6] rfl
        have hDc := hD.sub (ws' := [(m0, .inr (5, [.int mfa, .int mho, .ref m2, .ref m3, .ref m4, .int mra, .int mrh, .ref m7, .ref m8, .ref m9, .ref m10, .ref m11, .ref m12, .int mch, .int mfr, .int mfw, .int mrd, .ref m17, .ref m18, .ref m19, .ref m20, .ref m21, .ref m22, .ref m23, .int mtr])), (m2, .inl (cI, 6, .inl K)), (m3, .inl (cI, 6, .inl L)), (m4, .inl (cI, 6, .inl (upd C_ i1.toNatClampNeg v4))), (m17, .inl (cI, 8, .inl RO)), (m18, .inl (cI, 8, .inl RB)), (m19, .inl (cI, 8, .inl RT))]) [0, 1, 2, 3, 4, 5, 6] (by decide) rfl
        have hKc := hK.sub (tys' := [(cI, .int)]) [0] rfl
        have hFc := va_free (wc := [(m0, .inr (5, [.int mfa, .int mho, .ref m2, .ref m3, .ref m4, .int mra, .int mrh, .ref m7, .ref m8, .ref m9, .ref m10, .ref m11, .ref m12, .int mch, .int mfr, .int mfw, .int mrd, .ref m17, .ref m18, .ref m19, .ref m20, .ref m21, .ref m22, .ref m23, .int mtr])), (m2, .inl (cI, 6, .inl K)), (m3, .inl (cI, 6, .inl L)), (m4, .inl (cI, 6, .inl (upd C_ i1.toNatClampNeg v4))), (m17, .inl (cI, 8, .inl RO)), (m18, .inl (cI, 8, .inl RB)), (m19, .inl (cI, 8, .inl RT))]) hD hS hA [0, 1, 2, 3, 4, 5, 6] rfl
        refine va_calli (va_runV (As := []) (rest := [.int v3]) ⟨hx, hb, hml, hown, hts⟩ (ctX5_areSo l dC dI cI m0 m2 m3 m4 m7 m8 m9 m10 m11 m12 m17 m18 m19 m20 m21 m22 m23 H.size mfa mho mra mrh mch mfr mfw mrd mtr K L (upd C_ i1.toNatClampNeg v4) RO RB RT (by assumption) (by assumption) (by assumption)) (cwV 0 hts gX5_coins_X5_areSo rfl rfl rfl (by decide +kernel) ⟨Nat.le_of_ble_eq_true rfl, Nat.le_of_ble_eq_true rfl⟩) (pre_V hKc hN hPc hDc (RX5, TX5, 25) 5 0 rfl rfl) rfl rfl hl.1 rfl (lv_room (Nat.le_of_ble_eq_true rfl)) dX5_coins_39 ⟨Nat.le_of_ble_eq_true rfl, Nat.le_of_ble_eq_true rfl⟩) hS (fun q _ h => hFc q h) hFc (fun r _ t H locs ht hvm hw hB hz1 hk1 hS => ?_)
        try dsimp only at hw
        subst hw
        rw [ht] at hB
        obtain ⟨hP, hD⟩ := rw_join ([(m0, .inr (5, [.int mfa, .int mho, .ref m2, .ref m3, .ref m4, .int mra, .int mrh, .ref m7, .ref m8, .ref m9, .ref m10, .ref m11, .ref m12, .int mch, .int mfr, .int mfw, .int mrd, .ref m17, .ref m18, .ref m19, .ref m20, .ref m21, .ref m22, .ref m23, .int mtr])), (m2, .inl (cI, 6, .inl K)), (m3, .inl (cI, 6, .inl L)), (m4, .inl (cI, 6, .inl (upd C_ i1.toNatClampNeg v4))), (m17, .inl (cI, 8, .inl RO)), (m18, .inl (cI, 8, .inl RB)), (m19, .inl (cI, 8, .inl RT))]) ([(m0, .inr (5, [.int mfa, .int mho, .ref m2, .ref m3, .ref m4, .int mra, .int mrh, .ref m7, .ref m8, .ref m9, .ref m10, .ref m11, .ref m12, .int mch, .int mfr, .int mfw, .int mrd, .ref m17, .ref m18, .ref m19, .ref m20, .ref m21, .ref m22, .ref m23, .int mtr])), (m2, .inl (cI, 6, .inl K)), (m3, .inl (cI, 6, .inl L)), (m4, .inl (cI, 6, .inl (upd C_ i1.toNatClampNeg v4))), (m17, .inl (cI, 8, .inl RO)), (m18, .inl (cI, 8, .inl RB)), (m19, .inl (cI, 8, .inl RT))]) ([(m0, .inr (5, [.int mfa, .int mho, .ref m2, .ref m3, .ref m4, .int mra, .int mrh, .ref m7, .ref m8, .ref m9, .ref m10, .ref m11, .ref m12, .int mch, .int mfr, .int mfw, .int mrd, .ref m17, .ref m18, .ref m19, .ref m20, .ref m21, .ref m22, .ref m23, .int mtr])), (m2, .inl (cI, 6, .inl K)), (m3, .inl (cI, 6, .inl L)), (m4, .inl (cI, 6, .inl (upd C_ i1.toNatClampNeg v4))), (m17, .inl (cI, 8, .inl RO)), (m18, .inl (cI, 8, .inl RB)), (m19, .inl (cI, 8, .inl RT))]) ([(m0, .inr (5, [.int mfa, .int mho, .ref m2, .ref m3, .ref m4, .int mra, .int mrh, .ref m7, .ref m8, .ref m9, .ref m10, .ref m11, .ref m12, .int mch, .int mfr, .int mfw, .int mrd, .ref m17, .ref m18, .ref m19, .ref m20, .ref m21, .ref m22, .ref m23, .int mtr])), (m2, .inl (cI, 6, .inl K)), (m3, .inl (cI, 6, .inl L)), (m4, .inl (cI, 6, .inl (upd C_ i1.toNatClampNeg v4))), (m17, .inl (cI, 8, .inl RO)), (m18, .inl (cI, 8, .inl RB)), (m19, .inl (cI, 8, .inl RT))]) ([]) hP hD [0, 1, 2, 3, 4, 5, 6] [] [m0, m2, m3, m4, m17, m18, m19] 7 rfl rfl rfl rfl rfl (by decide) rfl rfl hk1 hB
        refine lv_if_eq (tgt := 52) hx hb dX5_coins_42 (by decide) (fun c_42 => ?_) (fun c_42 => ?_)
        · skip
          refine lv_iconst (v := 0) hx hb dX5_coins_52 (by decide) ?_
          refine lv_ior hx hb dX5_coins_53 ?_
          refine lv_istore_n (lv' := [(3, .int (v3 ||| 0)), (4, .int v4), (2, .int (C i1.toNatClampNeg)), (0, .ref m0), (1, .int i1)]) hx hb dX5_coins_54 rfl hl (by decide) rfl (fun ls hl => ?_)
          refine lv_iinc (v := (v4 + 1)) (lv' := [(4, .int (v4 + 1)), (3, .int (v3 ||| 0)), (2, .int (C i1.toNatClampNeg)), (0, .ref m0), (1, .int i1)]) hx hb dX5_coins_55 hl (k := 1) rfl rfl (by decide) rfl (fun ls hl => ?_)
          refine lv_goto (tgt := 22) hx hb dX5_coins_58 (by decide) ?_
          exact ih (v3 ||| 0) (v4 + 1) (upd C_ i1.toNatClampNeg v4) _ _ _ (up_s hu c_26) hj1 hP hD hS (lv_sub hl [0, 1, 2, 3, 4] rfl) (hE.trans (by rw [p5_coins_l22_s, if_neg c_26, if_pos c_42]))
        · skip
          refine lv_iconst (v := 1) hx hb dX5_coins_45 (by decide) ?_
          refine lv_iload hx hb dX5_coins_46 (lv_at hl 0 rfl) ?_
          refine lv_ishl hx hb dX5_coins_48 ?_
          refine lv_goto (tgt := 53) hx hb dX5_coins_49 (by decide) ?_
          refine lv_ior hx hb dX5_coins_53 ?_
          refine lv_istore_n (lv' := [(3, .int (v3 ||| ((1 : Int32) <<< (v4 &&& 31)))), (4, .int v4), (2, .int (C i1.toNatClampNeg)), (0, .ref m0), (1, .int i1)]) hx hb dX5_coins_54 rfl hl (by decide) rfl (fun ls hl => ?_)
          refine lv_iinc (v := (v4 + 1)) (lv' := [(4, .int (v4 + 1)), (3, .int (v3 ||| ((1 : Int32) <<< (v4 &&& 31)))), (2, .int (C i1.toNatClampNeg)), (0, .ref m0), (1, .int i1)]) hx hb dX5_coins_55 hl (k := 1) rfl rfl (by decide) rfl (fun ls hl => ?_)
          refine lv_goto (tgt := 22) hx hb dX5_coins_58 (by decide) ?_
          exact ih (v3 ||| ((1 : Int32) <<< (v4 &&& 31))) (v4 + 1) (upd C_ i1.toNatClampNeg v4) _ _ _ (up_s hu c_26) hj1 hP hD hS (lv_sub hl [0, 1, 2, 3, 4] rfl) (hE.trans (by rw [p5_coins_l22_s, if_neg c_26, if_neg c_42]))
  refine lv_aload_n hx hb dX5_coins_0 rfl (lv_at hl 0 rfl) ?_
  refine lv_iload_n hx hb dX5_coins_1 rfl (lv_at hl 1 rfl) ?_
  have hPc := hP.sub (ws' := [(m0, .inr (5, [.int mfa, .int mho, .ref m2, .ref m3, .ref m4, .int mra, .int mrh, .ref m7, .ref m8, .ref m9, .ref m10, .ref m11, .ref m12, .int mch, .int mfr, .int mfw, .int mrd, .ref m17, .ref m18, .ref m19, .ref m20, .ref m21, .ref m22, .ref m23, .int mtr]))]) [0] rfl
  have hDc := hD.sub (ws' := [(m0, .inr (5, [.int mfa, .int mho, .ref m2, .ref m3, .ref m4, .int mra, .int mrh, .ref m7, .ref m8, .ref m9, .ref m10, .ref m11, .ref m12, .int mch, .int mfr, .int mfw, .int mrd, .ref m17, .ref m18, .ref m19, .ref m20, .ref m21, .ref m22, .ref m23, .int mtr]))]) [0] (by decide) rfl
  have hKc := hK.sub (tys' := [(cI, .int)]) [0] rfl
  have hFc := va_free (wc := [(m0, .inr (5, [.int mfa, .int mho, .ref m2, .ref m3, .ref m4, .int mra, .int mrh, .ref m7, .ref m8, .ref m9, .ref m10, .ref m11, .ref m12, .int mch, .int mfr, .int mfw, .int mrd, .ref m17, .ref m18, .ref m19, .ref m20, .ref m21, .ref m22, .ref m23, .int mtr]))]) hD hS hA [0] rfl
  refine va_calli (va_runV (As := [.int i1]) (rest := []) ⟨hx, hb, hml, hown, hts⟩ (ctX5_noHouse l dC dI cI m0 m2 m3 m4 m7 m8 m9 m10 m11 m12 m17 m18 m19 m20 m21 m22 m23 s.heap.size mfa mho mra mrh mch mfr mfw mrd mtr i1) (cwV 1 hts gX5_coins_X5_noHouse rfl rfl rfl (by decide +kernel) ⟨Nat.le_of_ble_eq_true rfl, Nat.le_of_ble_eq_true rfl⟩) (pre_V hKc hN hPc hDc (RX5, TX5, 25) 5 0 rfl rfl) rfl rfl hl.1 rfl (lv_room (Nat.le_of_ble_eq_true rfl)) dX5_coins_2 ⟨Nat.le_of_ble_eq_true rfl, Nat.le_of_ble_eq_true rfl⟩) hS (fun q _ h => hFc q h) hFc (fun r _ t H locs ht hvm hw hB hz1 hk1 hS => ?_)
  try dsimp only at hw
  subst hw
  rw [ht] at hB
  obtain ⟨hP, hD⟩ := rw_join ([(m0, .inr (5, [.int mfa, .int mho, .ref m2, .ref m3, .ref m4, .int mra, .int mrh, .ref m7, .ref m8, .ref m9, .ref m10, .ref m11, .ref m12, .int mch, .int mfr, .int mfw, .int mrd, .ref m17, .ref m18, .ref m19, .ref m20, .ref m21, .ref m22, .ref m23, .int mtr])), (m2, .inl (cI, 6, .inl K)), (m3, .inl (cI, 6, .inl L)), (m4, .inl (cI, 6, .inl C)), (m17, .inl (cI, 8, .inl RO)), (m18, .inl (cI, 8, .inl RB)), (m19, .inl (cI, 8, .inl RT))]) ([(m0, .inr (5, [.int mfa, .int mho, .ref m2, .ref m3, .ref m4, .int mra, .int mrh, .ref m7, .ref m8, .ref m9, .ref m10, .ref m11, .ref m12, .int mch, .int mfr, .int mfw, .int mrd, .ref m17, .ref m18, .ref m19, .ref m20, .ref m21, .ref m22, .ref m23, .int mtr])), (m2, .inl (cI, 6, .inl K)), (m3, .inl (cI, 6, .inl L)), (m4, .inl (cI, 6, .inl C)), (m17, .inl (cI, 8, .inl RO)), (m18, .inl (cI, 8, .inl RB)), (m19, .inl (cI, 8, .inl RT))]) ([(m0, .inr (5, [.int mfa, .int mho, .ref m2, .ref m3, .ref m4, .int mra, .int mrh, .ref m7, .ref m8, .ref m9, .ref m10, .ref m11, .ref m12, .int mch, .int mfr, .int mfw, .int mrd, .ref m17, .ref m18, .ref m19, .ref m20, .ref m21, .ref m22, .ref m23, .int mtr]))]) ([(m0, .inr (5, [.int mfa, .int mho, .ref m2, .ref m3, .ref m4, .int mra, .int mrh, .ref m7, .ref m8, .ref m9, .ref m10, .ref m11, .ref m12, .int mch, .int mfr, .int mfw, .int mrd, .ref m17, .ref m18, .ref m19, .ref m20, .ref m21, .ref m22, .ref m23, .int mtr]))]) ([(m2, .inl (cI, 6, .inl K)), (m3, .inl (cI, 6, .inl L)), (m4, .inl (cI, 6, .inl C)), (m17, .inl (cI, 8, .inl RO)), (m18, .inl (cI, 8, .inl RB)), (m19, .inl (cI, 8, .inl RT))]) hP hD [0] [1, 2, 3, 4, 5, 6] [m0, m2, m3, m4, m17, m18, m19] 7 rfl rfl rfl rfl rfl (by decide) rfl rfl hk1 hB
  refine lv_if_eq (tgt := 10) hx hb dX5_coins_5 (by decide) (fun c_5 => ?_) (fun c_5 => ?_)
  · skip
    have j1 : vp_in i1 6 := noHouse_in hNb c_5
    refine lv_aload_n hx hb dX5_coins_10 rfl (lv_at hl 0 rfl) ?_
    refine va_get (D := (dC, dI)) (ci := 5) (v := .ref m4) (C := RX5) (T := TX5) (N := 25) hx hb hts hin5 hown hK hP 0 rfl rfl 4 (by decide) kf_16 (fun _ h9 => h9) rfl dX5_coins_11 ?_
    refine lv_iload_n hx hb dX5_coins_14 rfl (lv_at hl 1 rfl) ?_
    refine va_iald hx hb hK hP 3 0 rfl rfl (by assumption) dX5_coins_15 ?_
    refine lv_istore_n (lv' := [(2, .int (C i1.toNatClampNeg)), (0, .ref m0), (1, .int i1)]) hx hb dX5_coins_16 rfl hl (by decide) rfl (fun ls hl => ?_)
    refine lv_iconst (v := 0) hx hb dX5_coins_17 (by decide) ?_
    refine lv_istore_n (lv' := [(3, .int 0), (2, .int (C i1.toNatClampNeg)), (0, .ref m0), (1, .int i1)]) hx hb dX5_coins_18 rfl hl (by decide) rfl (fun ls hl => ?_)
    refine lv_iconst (v := 0) hx hb dX5_coins_19 (by decide) ?_
    refine lv_istore (lv' := [(4, .int 0), (3, .int 0), (2, .int (C i1.toNatClampNeg)), (0, .ref m0), (1, .int i1)]) hx hb dX5_coins_20 hl (by decide) rfl (fun ls hl => ?_)
    exact lp_22 11 0 0 C  _ _ _ (up_i 10 (by decide) (by decide)) j1 hP hD hS (lv_sub hl [0, 1, 2, 3, 4] rfl) (by unfold p5_coins; rw [if_pos c_5])
  · skip
    refine lv_iconst (v := (-1)) hx hb dX5_coins_8 (by decide) ?_
    have hE9 : p5_coins mho mrd K L C RO RB RT i1 = ((-1), C) := by unfold p5_coins; rw [if_neg c_5]
    exact W.iret (v := (-1)) hx hb hr (fun t ht hW => ⟨⟨_, (), rfl, by rw [hE9], by show va_P (dC, dI) vwCl _ t.heap; rw [ht, hE9]; exact hP⟩, hS.F ht⟩) hS.2.2 dX5_coins_9

def p5_kinds_l22 (mho : Int32) (mrd : Int32) (K : Nat → Int32) (L : Nat → Int32) (C : Nat → Int32) (RO : Nat → Int32) (RB : Nat → Int32) (RT : Nat → Int32) (i1 : Int32) : Nat → Int32 → Int32 → (Nat → Int32) → Int32 × (Nat → Int32)
  | 0, _, _, _ => (0, fun _ => 0)
  | n + 1, v3, v4, K_ =>
    if 3 ≤ v4 then
      (v3, (upd K_ i1.toNatClampNeg (K i1.toNatClampNeg)))
    else
      if (p5_areSo mho mrd (upd K_ i1.toNatClampNeg v4) L C RO RB RT) = 0 then
        p5_kinds_l22 mho mrd K L C RO RB RT i1 n (v3 ||| 0) (v4 + 1) (upd K_ i1.toNatClampNeg v4)
      else
        p5_kinds_l22 mho mrd K L C RO RB RT i1 n (v3 ||| ((1 : Int32) <<< (v4 &&& 31))) (v4 + 1) (upd K_ i1.toNatClampNeg v4)
theorem p5_kinds_l22_s (mho : Int32) (mrd : Int32) (K : Nat → Int32) (L : Nat → Int32) (C : Nat → Int32) (RO : Nat → Int32) (RB : Nat → Int32) (RT : Nat → Int32) (i1 : Int32) (n : Nat) (v3 : Int32) (v4 : Int32) (K_ : Nat → Int32) : p5_kinds_l22 mho mrd K L C RO RB RT i1 (n + 1) v3 v4 K_ =
    (if 3 ≤ v4 then
      (v3, (upd K_ i1.toNatClampNeg (K i1.toNatClampNeg)))
    else
      if (p5_areSo mho mrd (upd K_ i1.toNatClampNeg v4) L C RO RB RT) = 0 then
        p5_kinds_l22 mho mrd K L C RO RB RT i1 n (v3 ||| 0) (v4 + 1) (upd K_ i1.toNatClampNeg v4)
      else
        p5_kinds_l22 mho mrd K L C RO RB RT i1 n (v3 ||| ((1 : Int32) <<< (v4 &&& 31))) (v4 + 1) (upd K_ i1.toNatClampNeg v4)) := rfl
def p5_kinds (mho : Int32) (mrd : Int32) (K : Nat → Int32) (L : Nat → Int32) (C : Nat → Int32) (RO : Nat → Int32) (RB : Nat → Int32) (RT : Nat → Int32) (i1 : Int32) : Int32 × (Nat → Int32) :=
  if (p5_noHouse mho i1) = 0 then
    p5_kinds_l22 mho mrd K L C RO RB RT i1 4 0 0 K
  else
    ((-1), K)
abbrev rmX5_kinds : Room := { frames := 6, cells := 0, slots := 0, locals := 140 }
abbrev QX5_kinds (dC : Nat → ClassId) (dI : Nat → Nat → Nat) (A : Nat → Prop) (cI : ClassId) (m0 : Nat) (m2 : Nat) (m3 : Nat) (m4 : Nat) (m7 : Nat) (m8 : Nat) (m9 : Nat) (m10 : Nat) (m11 : Nat) (m12 : Nat) (m17 : Nat) (m18 : Nat) (m19 : Nat) (m20 : Nat) (m21 : Nat) (m22 : Nat) (m23 : Nat) (mfa : Int32) (mho : Int32) (mra : Int32) (mrh : Int32) (mch : Int32) (mfr : Int32) (mfw : Int32) (mrd : Int32) (mtr : Int32) (K : Nat → Int32) (L : Nat → Int32) (C : Nat → Int32) (RO : Nat → Int32) (RB : Nat → Int32) (RT : Nat → Int32) (i1 : Int32) : Array Value → State → Outcome → State → Prop := va_Qi (fun (r : Int32) (_ : Unit) => r = (p5_kinds mho mrd K L C RO RB RT i1).1) (fun (_ : Unit) (t : State) => va_P (dC, dI) vwCl ([(m0, .inr (5, [.int mfa, .int mho, .ref m2, .ref m3, .ref m4, .int mra, .int mrh, .ref m7, .ref m8, .ref m9, .ref m10, .ref m11, .ref m12, .int mch, .int mfr, .int mfw, .int mrd, .ref m17, .ref m18, .ref m19, .ref m20, .ref m21, .ref m22, .ref m23, .int mtr])), (m2, .inl (cI, 6, .inl ((p5_kinds mho mrd K L C RO RB RT i1).2))), (m3, .inl (cI, 6, .inl L)), (m4, .inl (cI, 6, .inl C)), (m17, .inl (cI, 8, .inl RO)), (m18, .inl (cI, 8, .inl RB)), (m19, .inl (cI, 8, .inl RT))]) t.heap) A
set_option maxHeartbeats 4000000 in
set_option maxRecDepth 100000 in
theorem ctX5_kinds (l : Launch) (dC : Nat → ClassId) (dI : Nat → Nat → Nat) (cI : ClassId) (m0 : Nat) (m2 : Nat) (m3 : Nat) (m4 : Nat) (m7 : Nat) (m8 : Nat) (m9 : Nat) (m10 : Nat) (m11 : Nat) (m12 : Nat) (m17 : Nat) (m18 : Nat) (m19 : Nat) (m20 : Nat) (m21 : Nat) (m22 : Nat) (m23 : Nat) (sz : Nat) (mfa : Int32) (mho : Int32) (mra : Int32) (mrh : Int32) (mch : Int32) (mfr : Int32) (mfw : Int32) (mrd : Int32) (mtr : Int32) (K : Nat → Int32) (L : Nat → Int32) (C : Nat → Int32) (RO : Nat → Int32) (RB : Nat → Int32) (RT : Nat → Int32) (i1 : Int32) (hr8 : mrd.toInt ≤ 8) (hRO : ∀ j : Nat, (j : Int) < mrd.toInt → vp_in (RO j) 6) (hNb : mho.toInt ≤ 6) : Met l yX5_kinds wsX5_kinds rmX5_kinds (va_Pc [.ref m0, .int i1] (cP dC dI [(cI, .int)] ([(m0, .inr (5, [.int mfa, .int mho, .ref m2, .ref m3, .ref m4, .int mra, .int mrh, .ref m7, .ref m8, .ref m9, .ref m10, .ref m11, .ref m12, .int mch, .int mfr, .int mfw, .int mrd, .ref m17, .ref m18, .ref m19, .ref m20, .ref m21, .ref m22, .ref m23, .int mtr])), (m2, .inl (cI, 6, .inl K)), (m3, .inl (cI, 6, .inl L)), (m4, .inl (cI, 6, .inl C)), (m17, .inl (cI, 8, .inl RO)), (m18, .inl (cI, 8, .inl RB)), (m19, .inl (cI, 8, .inl RT))]) sz)) (QX5_kinds dC dI (va_A ([(m0, .inr (5, [.int mfa, .int mho, .ref m2, .ref m3, .ref m4, .int mra, .int mrh, .ref m7, .ref m8, .ref m9, .ref m10, .ref m11, .ref m12, .int mch, .int mfr, .int mfw, .int mrd, .ref m17, .ref m18, .ref m19, .ref m20, .ref m21, .ref m22, .ref m23, .int mtr])), (m2, .inl (cI, 6, .inl K)), (m3, .inl (cI, 6, .inl L)), (m4, .inl (cI, 6, .inl C)), (m17, .inl (cI, 8, .inl RO)), (m18, .inl (cI, 8, .inl RB)), (m19, .inl (cI, 8, .inl RT))]) sz) cI m0 m2 m3 m4 m7 m8 m9 m10 m11 m12 m17 m18 m19 m20 m21 m22 m23 mfa mho mra mrh mch mfr mfw mrd mtr K L C RO RB RT i1) 0 0 (va_A ([(m0, .inr (5, [.int mfa, .int mho, .ref m2, .ref m3, .ref m4, .int mra, .int mrh, .ref m7, .ref m8, .ref m9, .ref m10, .ref m11, .ref m12, .int mch, .int mfr, .int mfw, .int mrd, .ref m17, .ref m18, .ref m19, .ref m20, .ref m21, .ref m22, .ref m23, .int mtr])), (m2, .inl (cI, 6, .inl K)), (m3, .inl (cI, 6, .inl L)), (m4, .inl (cI, 6, .inl C)), (m17, .inl (cI, 8, .inl RO)), (m18, .inl (cI, 8, .inl RB)), (m19, .inl (cI, 8, .inl RT))]) sz) := by
  refine Met.ofW (cc := cX5_kinds) (maxL := 5) (ret := (some .int)) (by decide) rfl ?_
  intro p e s m args below meth c s₁ B hml hv
  obtain ⟨rfl, hsz, hP, hK, hD0, hN⟩ := hv
  have hx := B.exec
  have hb := B.bytes
  have hr := B.returns
  have hts := atoms_spec (ws := wsX5_kinds) B.pre
  have hown : s.vm.findClass RX5 = some m.cls := findClass_of_methodNamed B.named
  have hlocks := B.notSynchronized
  subst hsz
  have hD := hD0.self (sz := s.heap.size)
  generalize hAe : va_A ([(m0, .inr (5, [.int mfa, .int mho, .ref m2, .ref m3, .ref m4, .int mra, .int mrh, .ref m7, .ref m8, .ref m9, .ref m10, .ref m11, .ref m12, .int mch, .int mfr, .int mfw, .int mrd, .ref m17, .ref m18, .ref m19, .ref m20, .ref m21, .ref m22, .ref m23, .int mtr])), (m2, .inl (cI, 6, .inl K)), (m3, .inl (cI, 6, .inl L)), (m4, .inl (cI, 6, .inl C)), (m17, .inl (cI, 8, .inl RO)), (m18, .inl (cI, 8, .inl RB)), (m19, .inl (cI, 8, .inl RT))]) s.heap.size = A at hD ⊢
  have hA : ∀ q : Nat, s.heap.size ≤ q → A q := fun q h => by rw [← hAe]; exact Or.inr h
  have hS : va_S A s.heap s.heap [] := va_S.rf
  have hP : va_P (dC, dI) vwCl ([(m0, .inr (5, [.int mfa, .int mho, .ref m2, .ref m3, .ref m4, .int mra, .int mrh, .ref m7, .ref m8, .ref m9, .ref m10, .ref m11, .ref m12, .int mch, .int mfr, .int mfw, .int mrd, .ref m17, .ref m18, .ref m19, .ref m20, .ref m21, .ref m22, .ref m23, .int mtr])), (m2, .inl (cI, 6, .inl K)), (m3, .inl (cI, 6, .inl L)), (m4, .inl (cI, 6, .inl C)), (m17, .inl (cI, 8, .inl RO)), (m18, .inl (cI, 8, .inl RB)), (m19, .inl (cI, 8, .inl RT))]) s.heap := hP
  have hin5 : ∀ w ∈ wsX50, w ∈ wsX5_kinds := by decide +kernel
  have kf_7 := hts (.fieldLink RX5 7 "RicherChangeModel" "kindOf" "[I") (by decide +kernel)
  have hl := lv_entry ([.ref m0, .int i1]) (n := 5) (Nat.le_of_ble_eq_true rfl)
  rw [lg_entry_eq]
  generalize (lg_sl ([.ref m0, .int i1]) ++ List.replicate (5 - (lg_sl ([.ref m0, .int i1])).length) Slot.unset).toArray = ls at hl ⊢
  have hl : lv_has ls 5 [(0, .ref m0), (1, .int i1)] := hl
  have lp_22 : ∀ (n : Nat) (v3 : Int32) (v4 : Int32) (K_ : Nat → Int32) (H : Heap) (locs : List Loc) (ls : Array Slot), (up v4 3 n) → (vp_in i1 6) → va_P (dC, dI) vwCl ([(m0, .inr (5, [.int mfa, .int mho, .ref m2, .ref m3, .ref m4, .int mra, .int mrh, .ref m7, .ref m8, .ref m9, .ref m10, .ref m11, .ref m12, .int mch, .int mfr, .int mfw, .int mrd, .ref m17, .ref m18, .ref m19, .ref m20, .ref m21, .ref m22, .ref m23, .int mtr])), (m2, .inl (cI, 6, .inl K_)), (m3, .inl (cI, 6, .inl L)), (m4, .inl (cI, 6, .inl C)), (m17, .inl (cI, 8, .inl RO)), (m18, .inl (cI, 8, .inl RB)), (m19, .inl (cI, 8, .inl RT))]) H → va_D A ([(m0, .inr (5, [.int mfa, .int mho, .ref m2, .ref m3, .ref m4, .int mra, .int mrh, .ref m7, .ref m8, .ref m9, .ref m10, .ref m11, .ref m12, .int mch, .int mfr, .int mfw, .int mrd, .ref m17, .ref m18, .ref m19, .ref m20, .ref m21, .ref m22, .ref m23, .int mtr])), (m2, .inl (cI, 6, .inl K_)), (m3, .inl (cI, 6, .inl L)), (m4, .inl (cI, 6, .inl C)), (m17, .inl (cI, 8, .inl RO)), (m18, .inl (cI, 8, .inl RB)), (m19, .inl (cI, 8, .inl RT))]) → va_S A s.heap H locs → lv_has ls 5 [(4, .int v4), (3, .int v3), (2, .int (K i1.toNatClampNeg)), (0, .ref m0), (1, .int i1)] → p5_kinds mho mrd K L C RO RB RT i1 = p5_kinds_l22 mho mrd K L C RO RB RT i1 n v3 v4 K_ → W p l e (headSpec wsX5_kinds rmX5_kinds).room s m [.ref m0, .int i1].toArray below meth c H locs 0 0 (MQ below (QX5_kinds dC dI A cI m0 m2 m3 m4 m7 m8 m9 m10 m11 m12 m17 m18 m19 m20 m21 m22 m23 mfa mho mra mrh mch mfr mfw mrd mtr K L C RO RB RT i1) [.ref m0, .int i1].toArray s 0 0 A) (F0 m 22 ls []) := by
    intro n
    induction n with
    | zero => intro v3 v4 K_ _ _ _ hu hj1; exact absurd hu up_no
    | succ n ih =>
      intro v3 v4 K_ H locs ls hu hj1 hP hD hS hl hE
      refine lv_iload hx hb dX5_kinds_22 (lv_at hl 0 rfl) ?_
      refine lv_iconst (v := 3) hx hb dX5_kinds_24 (by decide) ?_
      refine lv_icmp_ge (tgt := 60) hx hb dX5_kinds_25 (by decide) (fun c_25 => ?_) (fun c_25 => ?_)
      · skip
        refine lv_aload_n hx hb dX5_kinds_60 rfl (lv_at hl 3 rfl) ?_
        refine va_get (D := (dC, dI)) (ci := 5) (v := .ref m2) (C := RX5) (T := TX5) (N := 25) hx hb hts hin5 hown hK hP 0 rfl rfl 2 (by decide) kf_7 (fun _ h9 => h9) rfl dX5_kinds_61 ?_
        refine lv_iload_n hx hb dX5_kinds_64 rfl (lv_at hl 4 rfl) ?_
        refine lv_iload_n hx hb dX5_kinds_65 rfl (lv_at hl 2 rfl) ?_
        refine va_iast hx hb hK hP hD hS 1 0 rfl rfl (by assumption) dX5_kinds_66 (fun H locs hP hD hS => ?_)
        have hP : va_P (dC, dI) vwCl ([(m0, .inr (5, [.int mfa, .int mho, .ref m2, .ref m3, .ref m4, .int mra, .int mrh, .ref m7, .ref m8, .ref m9, .ref m10, .ref m11, .ref m12, .int mch, .int mfr, .int mfw, .int mrd, .ref m17, .ref m18, .ref m19, .ref m20, .ref m21, .ref m22, .ref m23, .int mtr])), (m2, .inl (cI, 6, .inl (upd K_ i1.toNatClampNeg (K i1.toNatClampNeg)))), (m3, .inl (cI, 6, .inl L)), (m4, .inl (cI, 6, .inl C)), (m17, .inl (cI, 8, .inl RO)), (m18, .inl (cI, 8, .inl RB)), (m19, .inl (cI, 8, .inl RT))]) H := hP
        have hD : va_D A ([(m0, .inr (5, [.int mfa, .int mho, .ref m2, .ref m3, .ref m4, .int mra, .int mrh, .ref m7, .ref m8, .ref m9, .ref m10, .ref m11, .ref m12, .int mch, .int mfr, .int mfw, .int mrd, .ref m17, .ref m18, .ref m19, .ref m20, .ref m21, .ref m22, .ref m23, .int mtr])), (m2, .inl (cI, 6, .inl (upd K_ i1.toNatClampNeg (K i1.toNatClampNeg)))), (m3, .inl (cI, 6, .inl L)), (m4, .inl (cI, 6, .inl C)), (m17, .inl (cI, 8, .inl RO)), (m18, .inl (cI, 8, .inl RB)), (m19, .inl (cI, 8, .inl RT))]) := hD
        refine lv_iload_n hx hb dX5_kinds_67 rfl (lv_at hl 1 rfl) ?_
        have hE9 : p5_kinds mho mrd K L C RO RB RT i1 = (v3, (upd K_ i1.toNatClampNeg (K i1.toNatClampNeg))) := hE.trans (by rw [p5_kinds_l22_s, if_pos c_25])
        exact W.iret (v := v3) hx hb hr (fun t ht hW => ⟨⟨_, (), rfl, by rw [hE9], by show va_P (dC, dI) vwCl _ t.heap; rw [ht, hE9]; exact hP⟩, hS.F ht⟩) hS.2.2 dX5_kinds_68
      · skip
        refine lv_aload_n hx hb dX5_kinds_28 rfl (lv_at hl 3 rfl) ?_
        refine va_get (D := (dC, dI)) (ci := 5) (v := .ref m2) (C := RX5) (T := TX5) (N := 25) hx hb hts hin5 hown hK hP 0 rfl rfl 2 (by decide) kf_7 (fun _ h9 => h9) rfl dX5_kinds_29 ?_
        refine lv_iload_n hx hb dX5_kinds_32 rfl (lv_at hl 4 rfl) ?_
        refine lv_iload hx hb dX5_kinds_33 (lv_at hl 0 rfl) ?_
        refine va_iast hx hb hK hP hD hS 1 0 rfl rfl (by assumption) dX5_kinds_35 (fun H locs hP hD hS => ?_)
        have hP : va_P (dC, dI) vwCl ([(m0, .inr (5, [.int mfa, .int mho, .ref m2, .ref m3, .ref m4, .int mra, .int mrh, .ref m7, .ref m8, .ref m9, .ref m10, .ref m11, .ref m12, .int mch, .int mfr, .int mfw, .int mrd, .ref m17, .ref m18, .ref m19, .ref m20, .ref m21, .ref m22, .ref m23, .int mtr])), (m2, .inl (cI, 6, .inl (upd K_ i1.toNatClampNeg v4))), (m3, .inl (cI, 6, .inl L)), (m4, .inl (cI, 6, .inl C)), (m17, .inl (cI, 8, .inl RO)), (m18, .inl (cI, 8, .inl RB)), (m19, .inl (cI, 8, .inl RT))]) H := hP
        have hD : va_D A ([(m0, .inr (5, [.int mfa, .int mho, .ref m2, .ref m3, .ref m4, .int mra, .int mrh, .ref m7, .ref m8, .ref m9, .ref m10, .ref m11, .ref m12, .int mch, .int mfr, .int mfw, .int mrd, .ref m17, .ref m18, .ref m19, .ref m20, .ref m21, .ref m22, .ref m23, .int mtr])), (m2, .inl (cI, 6, .inl (upd K_ i1.toNatClampNeg v4))), (m3, .inl (cI, 6, .inl L)), (m4, .inl (cI, 6, .inl C)), (m17, .inl (cI, 8, .inl RO)), (m18, .inl (cI, 8, .inl RB)), (m19, .inl (cI, 8, .inl RT))]) := hD
        refine lv_iload_n hx hb dX5_kinds_36 rfl (lv_at hl 1 rfl) ?_
        refine lv_aload_n hx hb dX5_kinds_37 rfl (lv_at hl 3 rfl) ?_
        have hPc := hP.sub (ws' := [(m0, .inr (5, [.int mfa, .int mho, .ref m2, .ref m3, .ref m4, .int mra, .int mrh, .ref m7, .ref m8, .ref m9, .ref m10, .ref m11, .ref m12, .int mch, .int mfr, .int mfw, .int mrd, .ref m17, .ref m18, .ref m19, .ref m20, .ref m21, .ref m22, .ref m23, .int mtr])), (m2, .inl (cI, 6, .inl (upd K_ i1.toNatClampNeg v4))), (m3, .inl (cI, 6, .inl L)), (m4, .inl (cI, 6, .inl C)), (m17, .inl (cI, 8, .inl RO)), (m18, .inl (cI, 8, .inl RB)), (m19, .inl (cI, 8, .inl RT))]) [0, 1, 2, 3, 4, 5, 6] rfl
        have hDc := hD.sub (ws' := [(m0, .inr (5, [.int mfa, .int mho, .ref m2, .ref m3, .ref m4, .int mra, .int mrh, .ref m7, .ref m8, .ref m9, .ref m10, .ref m11, .ref m12, .int mch, .int mfr, .int mfw, .int mrd, .ref m17, .ref m18, .ref m19, .ref m20, .ref m21, .ref m22, .ref m23, .int mtr])), (m2, .inl (cI, 6, .inl (upd K_ i1.toNatClampNeg v4))), (m3, .inl (cI, 6, .inl L)), (m4, .inl (cI, 6, .inl C)), (m17, .inl (cI, 8, .inl RO)), (m18, .inl (cI, 8, .inl RB)), (m19, .inl (cI, 8, .inl RT))]) [0, 1, 2, 3, 4, 5, 6] (by decide) rfl
        have hKc := hK.sub (tys' := [(cI, .int)]) [0] rfl
        have hFc := va_free (wc := [(m0, .inr (5, [.int mfa, .int mho, .ref m2, .ref m3, .ref m4, .int mra, .int mrh, .ref m7, .ref m8, .ref m9, .ref m10, .ref m11, .ref m12, .int mch, .int mfr, .int mfw, .int mrd, .ref m17, .ref m18, .ref m19, .ref m20, .ref m21, .ref m22, .ref m23, .int mtr])), (m2, .inl (cI, 6, .inl (upd K_ i1.toNatClampNeg v4))), (m3, .inl (cI, 6, .inl L)), (m4, .inl (cI, 6, .inl C)), (m17, .inl (cI, 8, .inl RO)), (m18, .inl (cI, 8, .inl RB)), (m19, .inl (cI, 8, .inl RT))]) hD hS hA [0, 1, 2, 3, 4, 5, 6] rfl
        refine va_calli (va_runV (As := []) (rest := [.int v3]) ⟨hx, hb, hml, hown, hts⟩ (ctX5_areSo l dC dI cI m0 m2 m3 m4 m7 m8 m9 m10 m11 m12 m17 m18 m19 m20 m21 m22 m23 H.size mfa mho mra mrh mch mfr mfw mrd mtr (upd K_ i1.toNatClampNeg v4) L C RO RB RT (by assumption) (by assumption) (by assumption)) (cwV 0 hts gX5_kinds_X5_areSo rfl rfl rfl (by decide +kernel) ⟨Nat.le_of_ble_eq_true rfl, Nat.le_of_ble_eq_true rfl⟩) (pre_V hKc hN hPc hDc (RX5, TX5, 25) 5 0 rfl rfl) rfl rfl hl.1 rfl (lv_room (Nat.le_of_ble_eq_true rfl)) dX5_kinds_38 ⟨Nat.le_of_ble_eq_true rfl, Nat.le_of_ble_eq_true rfl⟩) hS (fun q _ h => hFc q h) hFc (fun r _ t H locs ht hvm hw hB hz1 hk1 hS => ?_)
        try dsimp only at hw
        subst hw
        rw [ht] at hB
        obtain ⟨hP, hD⟩ := rw_join ([(m0, .inr (5, [.int mfa, .int mho, .ref m2, .ref m3, .ref m4, .int mra, .int mrh, .ref m7, .ref m8, .ref m9, .ref m10, .ref m11, .ref m12, .int mch, .int mfr, .int mfw, .int mrd, .ref m17, .ref m18, .ref m19, .ref m20, .ref m21, .ref m22, .ref m23, .int mtr])), (m2, .inl (cI, 6, .inl (upd K_ i1.toNatClampNeg v4))), (m3, .inl (cI, 6, .inl L)), (m4, .inl (cI, 6, .inl C)), (m17, .inl (cI, 8, .inl RO)), (m18, .inl (cI, 8, .inl RB)), (m19, .inl (cI, 8, .inl RT))]) ([(m0, .inr (5, [.int mfa, .int mho, .ref m2, .ref m3, .ref m4, .int mra, .int mrh, .ref m7, .ref m8, .ref m9, .ref m10, .ref m11, .ref m12, .int mch, .int mfr, .int mfw, .int mrd, .ref m17, .ref m18, .ref m19, .ref m20, .ref m21, .ref m22, .ref m23, .int mtr])), (m2, .inl (cI, 6, .inl (upd K_ i1.toNatClampNeg v4))), (m3, .inl (cI, 6, .inl L)), (m4, .inl (cI, 6, .inl C)), (m17, .inl (cI, 8, .inl RO)), (m18, .inl (cI, 8, .inl RB)), (m19, .inl (cI, 8, .inl RT))]) ([(m0, .inr (5, [.int mfa, .int mho, .ref m2, .ref m3, .ref m4, .int mra, .int mrh, .ref m7, .ref m8, .ref m9, .ref m10, .ref m11, .ref m12, .int mch, .int mfr, .int mfw, .int mrd, .ref m17, .ref m18, .ref m19, .ref m20, .ref m21, .ref m22, .ref m23, .int mtr])), (m2, .inl (cI, 6, .inl (upd K_ i1.toNatClampNeg v4))), (m3, .inl (cI, 6, .inl L)), (m4, .inl (cI, 6, .inl C)), (m17, .inl (cI, 8, .inl RO)), (m18, .inl (cI, 8, .inl RB)), (m19, .inl (cI, 8, .inl RT))]) ([(m0, .inr (5, [.int mfa, .int mho, .ref m2, .ref m3, .ref m4, .int mra, .int mrh, .ref m7, .ref m8, .ref m9, .ref m10, .ref m11, .ref m12, .int mch, .int mfr, .int mfw, .int mrd, .ref m17, .ref m18, .ref m19, .ref m20, .ref m21, .ref m22, .ref m23, .int mtr])), (m2, .inl (cI, 6, .inl (upd K_ i1.toNatClampNeg v4))), (m3, .inl (cI, 6, .inl L)), (m4, .inl (cI, 6, .inl C)), (m17, .inl (cI, 8, .inl RO)), (m18, .inl (cI, 8, .inl RB)), (m19, .inl (cI, 8, .inl RT))]) ([]) hP hD [0, 1, 2, 3, 4, 5, 6] [] [m0, m2, m3, m4, m17, m18, m19] 7 rfl rfl rfl rfl rfl (by decide) rfl rfl hk1 hB
        refine lv_if_eq (tgt := 51) hx hb dX5_kinds_41 (by decide) (fun c_41 => ?_) (fun c_41 => ?_)
        · skip
          refine lv_iconst (v := 0) hx hb dX5_kinds_51 (by decide) ?_
          refine lv_ior hx hb dX5_kinds_52 ?_
          refine lv_istore_n (lv' := [(3, .int (v3 ||| 0)), (4, .int v4), (2, .int (K i1.toNatClampNeg)), (0, .ref m0), (1, .int i1)]) hx hb dX5_kinds_53 rfl hl (by decide) rfl (fun ls hl => ?_)
          refine lv_iinc (v := (v4 + 1)) (lv' := [(4, .int (v4 + 1)), (3, .int (v3 ||| 0)), (2, .int (K i1.toNatClampNeg)), (0, .ref m0), (1, .int i1)]) hx hb dX5_kinds_54 hl (k := 1) rfl rfl (by decide) rfl (fun ls hl => ?_)
          refine lv_goto (tgt := 22) hx hb dX5_kinds_57 (by decide) ?_
          exact ih (v3 ||| 0) (v4 + 1) (upd K_ i1.toNatClampNeg v4) _ _ _ (up_s hu c_25) hj1 hP hD hS (lv_sub hl [0, 1, 2, 3, 4] rfl) (hE.trans (by rw [p5_kinds_l22_s, if_neg c_25, if_pos c_41]))
        · skip
          refine lv_iconst (v := 1) hx hb dX5_kinds_44 (by decide) ?_
          refine lv_iload hx hb dX5_kinds_45 (lv_at hl 0 rfl) ?_
          refine lv_ishl hx hb dX5_kinds_47 ?_
          refine lv_goto (tgt := 52) hx hb dX5_kinds_48 (by decide) ?_
          refine lv_ior hx hb dX5_kinds_52 ?_
          refine lv_istore_n (lv' := [(3, .int (v3 ||| ((1 : Int32) <<< (v4 &&& 31)))), (4, .int v4), (2, .int (K i1.toNatClampNeg)), (0, .ref m0), (1, .int i1)]) hx hb dX5_kinds_53 rfl hl (by decide) rfl (fun ls hl => ?_)
          refine lv_iinc (v := (v4 + 1)) (lv' := [(4, .int (v4 + 1)), (3, .int (v3 ||| ((1 : Int32) <<< (v4 &&& 31)))), (2, .int (K i1.toNatClampNeg)), (0, .ref m0), (1, .int i1)]) hx hb dX5_kinds_54 hl (k := 1) rfl rfl (by decide) rfl (fun ls hl => ?_)
          refine lv_goto (tgt := 22) hx hb dX5_kinds_57 (by decide) ?_
          exact ih (v3 ||| ((1 : Int32) <<< (v4 &&& 31))) (v4 + 1) (upd K_ i1.toNatClampNeg v4) _ _ _ (up_s hu c_25) hj1 hP hD hS (lv_sub hl [0, 1, 2, 3, 4] rfl) (hE.trans (by rw [p5_kinds_l22_s, if_neg c_25, if_neg c_41]))
  refine lv_aload_n hx hb dX5_kinds_0 rfl (lv_at hl 0 rfl) ?_
  refine lv_iload_n hx hb dX5_kinds_1 rfl (lv_at hl 1 rfl) ?_
  have hPc := hP.sub (ws' := [(m0, .inr (5, [.int mfa, .int mho, .ref m2, .ref m3, .ref m4, .int mra, .int mrh, .ref m7, .ref m8, .ref m9, .ref m10, .ref m11, .ref m12, .int mch, .int mfr, .int mfw, .int mrd, .ref m17, .ref m18, .ref m19, .ref m20, .ref m21, .ref m22, .ref m23, .int mtr]))]) [0] rfl
  have hDc := hD.sub (ws' := [(m0, .inr (5, [.int mfa, .int mho, .ref m2, .ref m3, .ref m4, .int mra, .int mrh, .ref m7, .ref m8, .ref m9, .ref m10, .ref m11, .ref m12, .int mch, .int mfr, .int mfw, .int mrd, .ref m17, .ref m18, .ref m19, .ref m20, .ref m21, .ref m22, .ref m23, .int mtr]))]) [0] (by decide) rfl
  have hKc := hK.sub (tys' := [(cI, .int)]) [0] rfl
  have hFc := va_free (wc := [(m0, .inr (5, [.int mfa, .int mho, .ref m2, .ref m3, .ref m4, .int mra, .int mrh, .ref m7, .ref m8, .ref m9, .ref m10, .ref m11, .ref m12, .int mch, .int mfr, .int mfw, .int mrd, .ref m17, .ref m18, .ref m19, .ref m20, .ref m21, .ref m22, .ref m23, .int mtr]))]) hD hS hA [0] rfl
  refine va_calli (va_runV (As := [.int i1]) (rest := []) ⟨hx, hb, hml, hown, hts⟩ (ctX5_noHouse l dC dI cI m0 m2 m3 m4 m7 m8 m9 m10 m11 m12 m17 m18 m19 m20 m21 m22 m23 s.heap.size mfa mho mra mrh mch mfr mfw mrd mtr i1) (cwV 1 hts gX5_kinds_X5_noHouse rfl rfl rfl (by decide +kernel) ⟨Nat.le_of_ble_eq_true rfl, Nat.le_of_ble_eq_true rfl⟩) (pre_V hKc hN hPc hDc (RX5, TX5, 25) 5 0 rfl rfl) rfl rfl hl.1 rfl (lv_room (Nat.le_of_ble_eq_true rfl)) dX5_kinds_2 ⟨Nat.le_of_ble_eq_true rfl, Nat.le_of_ble_eq_true rfl⟩) hS (fun q _ h => hFc q h) hFc (fun r _ t H locs ht hvm hw hB hz1 hk1 hS => ?_)
  try dsimp only at hw
  subst hw
  rw [ht] at hB
  obtain ⟨hP, hD⟩ := rw_join ([(m0, .inr (5, [.int mfa, .int mho, .ref m2, .ref m3, .ref m4, .int mra, .int mrh, .ref m7, .ref m8, .ref m9, .ref m10, .ref m11, .ref m12, .int mch, .int mfr, .int mfw, .int mrd, .ref m17, .ref m18, .ref m19, .ref m20, .ref m21, .ref m22, .ref m23, .int mtr])), (m2, .inl (cI, 6, .inl K)), (m3, .inl (cI, 6, .inl L)), (m4, .inl (cI, 6, .inl C)), (m17, .inl (cI, 8, .inl RO)), (m18, .inl (cI, 8, .inl RB)), (m19, .inl (cI, 8, .inl RT))]) ([(m0, .inr (5, [.int mfa, .int mho, .ref m2, .ref m3, .ref m4, .int mra, .int mrh, .ref m7, .ref m8, .ref m9, .ref m10, .ref m11, .ref m12, .int mch, .int mfr, .int mfw, .int mrd, .ref m17, .ref m18, .ref m19, .ref m20, .ref m21, .ref m22, .ref m23, .int mtr])), (m2, .inl (cI, 6, .inl K)), (m3, .inl (cI, 6, .inl L)), (m4, .inl (cI, 6, .inl C)), (m17, .inl (cI, 8, .inl RO)), (m18, .inl (cI, 8, .inl RB)), (m19, .inl (cI, 8, .inl RT))]) ([(m0, .inr (5, [.int mfa, .int mho, .ref m2, .ref m3, .ref m4, .int mra, .int mrh, .ref m7, .ref m8, .ref m9, .ref m10, .ref m11, .ref m12, .int mch, .int mfr, .int mfw, .int mrd, .ref m17, .ref m18, .ref m19, .ref m20, .ref m21, .ref m22, .ref m23, .int mtr]))]) ([(m0, .inr (5, [.int mfa, .int mho, .ref m2, .ref m3, .ref m4, .int mra, .int mrh, .ref m7, .ref m8, .ref m9, .ref m10, .ref m11, .ref m12, .int mch, .int mfr, .int mfw, .int mrd, .ref m17, .ref m18, .ref m19, .ref m20, .ref m21, .ref m22, .ref m23, .int mtr]))]) ([(m2, .inl (cI, 6, .inl K)), (m3, .inl (cI, 6, .inl L)), (m4, .inl (cI, 6, .inl C)), (m17, .inl (cI, 8, .inl RO)), (m18, .inl (cI, 8, .inl RB)), (m19, .inl (cI, 8, .inl RT))]) hP hD [0] [1, 2, 3, 4, 5, 6] [m0, m2, m3, m4, m17, m18, m19] 7 rfl rfl rfl rfl rfl (by decide) rfl rfl hk1 hB
  refine lv_if_eq (tgt := 10) hx hb dX5_kinds_5 (by decide) (fun c_5 => ?_) (fun c_5 => ?_)
  · skip
    have j1 : vp_in i1 6 := noHouse_in hNb c_5
    refine lv_aload_n hx hb dX5_kinds_10 rfl (lv_at hl 0 rfl) ?_
    refine va_get (D := (dC, dI)) (ci := 5) (v := .ref m2) (C := RX5) (T := TX5) (N := 25) hx hb hts hin5 hown hK hP 0 rfl rfl 2 (by decide) kf_7 (fun _ h9 => h9) rfl dX5_kinds_11 ?_
    refine lv_iload_n hx hb dX5_kinds_14 rfl (lv_at hl 1 rfl) ?_
    refine va_iald hx hb hK hP 1 0 rfl rfl (by assumption) dX5_kinds_15 ?_
    refine lv_istore_n (lv' := [(2, .int (K i1.toNatClampNeg)), (0, .ref m0), (1, .int i1)]) hx hb dX5_kinds_16 rfl hl (by decide) rfl (fun ls hl => ?_)
    refine lv_iconst (v := 0) hx hb dX5_kinds_17 (by decide) ?_
    refine lv_istore_n (lv' := [(3, .int 0), (2, .int (K i1.toNatClampNeg)), (0, .ref m0), (1, .int i1)]) hx hb dX5_kinds_18 rfl hl (by decide) rfl (fun ls hl => ?_)
    refine lv_iconst (v := 0) hx hb dX5_kinds_19 (by decide) ?_
    refine lv_istore (lv' := [(4, .int 0), (3, .int 0), (2, .int (K i1.toNatClampNeg)), (0, .ref m0), (1, .int i1)]) hx hb dX5_kinds_20 hl (by decide) rfl (fun ls hl => ?_)
    exact lp_22 4 0 0 K _ _ _ (up_i 3 (by decide) (by decide)) j1 hP hD hS (lv_sub hl [0, 1, 2, 3, 4] rfl) (by unfold p5_kinds; rw [if_pos c_5])
  · skip
    refine lv_iconst (v := (-1)) hx hb dX5_kinds_8 (by decide) ?_
    have hE9 : p5_kinds mho mrd K L C RO RB RT i1 = ((-1), K) := by unfold p5_kinds; rw [if_neg c_5]
    exact W.iret (v := (-1)) hx hb hr (fun t ht hW => ⟨⟨_, (), rfl, by rw [hE9], by show va_P (dC, dI) vwCl _ t.heap; rw [ht, hE9]; exact hP⟩, hS.F ht⟩) hS.2.2 dX5_kinds_9

def p5_odds_l33 (mho : Int32) (K : Nat → Int32) (L : Nat → Int32) (C : Nat → Int32) (i1 : Int32) (i2 : Int32) : Nat → Int64 → Int32 → Int64
  | 0, _, _ => 0
  | n + 1, w3, v5 =>
    if mho ≤ v5 then
      (p5_share w3 mho.toInt64 i2)
    else
      if (p5_isFair mho K L C v5 (p5_choiceOf mho K L C v5 i1) i1) = 0 then
        p5_odds_l33 mho K L C i1 i2 n (w3 + 0) (v5 + 1)
      else
        p5_odds_l33 mho K L C i1 i2 n (w3 + 1) (v5 + 1)
theorem p5_odds_l33_s (mho : Int32) (K : Nat → Int32) (L : Nat → Int32) (C : Nat → Int32) (i1 : Int32) (i2 : Int32) (n : Nat) (w3 : Int64) (v5 : Int32) : p5_odds_l33 mho K L C i1 i2 (n + 1) w3 v5 =
    (if mho ≤ v5 then
      (p5_share w3 mho.toInt64 i2)
    else
      if (p5_isFair mho K L C v5 (p5_choiceOf mho K L C v5 i1) i1) = 0 then
        p5_odds_l33 mho K L C i1 i2 n (w3 + 0) (v5 + 1)
      else
        p5_odds_l33 mho K L C i1 i2 n (w3 + 1) (v5 + 1)) := rfl
def p5_odds (mho : Int32) (K : Nat → Int32) (L : Nat → Int32) (C : Nat → Int32) (i1 : Int32) (i2 : Int32) : Int64 :=
  if mho = 0 then
    p5_lost
  else
    if (p5_noCost i1) = 0 then
      if (p5_in i2.toInt64 0 1) = 0 then
        p5_lost
      else
        p5_odds_l33 mho K L C i1 i2 7 0 0
    else
      p5_lost
abbrev rmX5_odds : Room := { frames := 5, cells := 0, slots := 0, locals := 118 }
abbrev QX5_odds (dC : Nat → ClassId) (dI : Nat → Nat → Nat) (A : Nat → Prop) (cI : ClassId) (m0 : Nat) (m2 : Nat) (m3 : Nat) (m4 : Nat) (m7 : Nat) (m8 : Nat) (m9 : Nat) (m10 : Nat) (m11 : Nat) (m12 : Nat) (m17 : Nat) (m18 : Nat) (m19 : Nat) (m20 : Nat) (m21 : Nat) (m22 : Nat) (m23 : Nat) (mfa : Int32) (mho : Int32) (mra : Int32) (mrh : Int32) (mch : Int32) (mfr : Int32) (mfw : Int32) (mrd : Int32) (mtr : Int32) (K : Nat → Int32) (L : Nat → Int32) (C : Nat → Int32) (i1 : Int32) (i2 : Int32) : Array Value → State → Outcome → State → Prop := va_Ql (fun (r : Int64) (_ : Unit) => r = p5_odds mho K L C i1 i2) (fun (_ : Unit) (t : State) => va_P (dC, dI) vwCl ([(m0, .inr (5, [.int mfa, .int mho, .ref m2, .ref m3, .ref m4, .int mra, .int mrh, .ref m7, .ref m8, .ref m9, .ref m10, .ref m11, .ref m12, .int mch, .int mfr, .int mfw, .int mrd, .ref m17, .ref m18, .ref m19, .ref m20, .ref m21, .ref m22, .ref m23, .int mtr])), (m2, .inl (cI, 6, .inl K)), (m3, .inl (cI, 6, .inl L)), (m4, .inl (cI, 6, .inl C))]) t.heap) A
set_option maxHeartbeats 4000000 in
set_option maxRecDepth 100000 in
theorem ctX5_odds (l : Launch) (dC : Nat → ClassId) (dI : Nat → Nat → Nat) (cI : ClassId) (m0 : Nat) (m2 : Nat) (m3 : Nat) (m4 : Nat) (m7 : Nat) (m8 : Nat) (m9 : Nat) (m10 : Nat) (m11 : Nat) (m12 : Nat) (m17 : Nat) (m18 : Nat) (m19 : Nat) (m20 : Nat) (m21 : Nat) (m22 : Nat) (m23 : Nat) (sz : Nat) (mfa : Int32) (mho : Int32) (mra : Int32) (mrh : Int32) (mch : Int32) (mfr : Int32) (mfw : Int32) (mrd : Int32) (mtr : Int32) (K : Nat → Int32) (L : Nat → Int32) (C : Nat → Int32) (i1 : Int32) (i2 : Int32) (hNb : mho.toInt ≤ 6) (hN0 : 0 ≤ mho.toInt) : Met l yX5_odds wsX5_odds rmX5_odds (va_Pc [.ref m0, .int i1, .int i2] (cP dC dI [(cI, .int)] ([(m0, .inr (5, [.int mfa, .int mho, .ref m2, .ref m3, .ref m4, .int mra, .int mrh, .ref m7, .ref m8, .ref m9, .ref m10, .ref m11, .ref m12, .int mch, .int mfr, .int mfw, .int mrd, .ref m17, .ref m18, .ref m19, .ref m20, .ref m21, .ref m22, .ref m23, .int mtr])), (m2, .inl (cI, 6, .inl K)), (m3, .inl (cI, 6, .inl L)), (m4, .inl (cI, 6, .inl C))]) sz)) (QX5_odds dC dI (va_A ([(m0, .inr (5, [.int mfa, .int mho, .ref m2, .ref m3, .ref m4, .int mra, .int mrh, .ref m7, .ref m8, .ref m9, .ref m10, .ref m11, .ref m12, .int mch, .int mfr, .int mfw, .int mrd, .ref m17, .ref m18, .ref m19, .ref m20, .ref m21, .ref m22, .ref m23, .int mtr])), (m2, .inl (cI, 6, .inl K)), (m3, .inl (cI, 6, .inl L)), (m4, .inl (cI, 6, .inl C))]) sz) cI m0 m2 m3 m4 m7 m8 m9 m10 m11 m12 m17 m18 m19 m20 m21 m22 m23 mfa mho mra mrh mch mfr mfw mrd mtr K L C i1 i2) 0 0 (va_A ([(m0, .inr (5, [.int mfa, .int mho, .ref m2, .ref m3, .ref m4, .int mra, .int mrh, .ref m7, .ref m8, .ref m9, .ref m10, .ref m11, .ref m12, .int mch, .int mfr, .int mfw, .int mrd, .ref m17, .ref m18, .ref m19, .ref m20, .ref m21, .ref m22, .ref m23, .int mtr])), (m2, .inl (cI, 6, .inl K)), (m3, .inl (cI, 6, .inl L)), (m4, .inl (cI, 6, .inl C))]) sz) := by
  refine Met.ofW (cc := cX5_odds) (maxL := 6) (ret := (some .long)) (by decide) rfl ?_
  intro p e s m args below meth c s₁ B hml hv
  obtain ⟨rfl, hsz, hP, hK, hD0, hN⟩ := hv
  have hx := B.exec
  have hb := B.bytes
  have hr := B.returns
  have hts := atoms_spec (ws := wsX5_odds) B.pre
  have hown : s.vm.findClass RX5 = some m.cls := findClass_of_methodNamed B.named
  have hlocks := B.notSynchronized
  subst hsz
  have hD := hD0.self (sz := s.heap.size)
  generalize hAe : va_A ([(m0, .inr (5, [.int mfa, .int mho, .ref m2, .ref m3, .ref m4, .int mra, .int mrh, .ref m7, .ref m8, .ref m9, .ref m10, .ref m11, .ref m12, .int mch, .int mfr, .int mfw, .int mrd, .ref m17, .ref m18, .ref m19, .ref m20, .ref m21, .ref m22, .ref m23, .int mtr])), (m2, .inl (cI, 6, .inl K)), (m3, .inl (cI, 6, .inl L)), (m4, .inl (cI, 6, .inl C))]) s.heap.size = A at hD ⊢
  have hA : ∀ q : Nat, s.heap.size ≤ q → A q := fun q h => by rw [← hAe]; exact Or.inr h
  have hS : va_S A s.heap s.heap [] := va_S.rf
  have hP : va_P (dC, dI) vwCl ([(m0, .inr (5, [.int mfa, .int mho, .ref m2, .ref m3, .ref m4, .int mra, .int mrh, .ref m7, .ref m8, .ref m9, .ref m10, .ref m11, .ref m12, .int mch, .int mfr, .int mfw, .int mrd, .ref m17, .ref m18, .ref m19, .ref m20, .ref m21, .ref m22, .ref m23, .int mtr])), (m2, .inl (cI, 6, .inl K)), (m3, .inl (cI, 6, .inl L)), (m4, .inl (cI, 6, .inl C))]) s.heap := hP
  have hin5 : ∀ w ∈ wsX50, w ∈ wsX5_odds := by decide +kernel
  have kf_68 := hts (.fieldLink RX5 68 "RicherChangeModel" "houses" "I") (by decide +kernel)
  have hl := lv_entry ([.ref m0, .int i1, .int i2]) (n := 6) (Nat.le_of_ble_eq_true rfl)
  rw [lg_entry_eq]
  generalize (lg_sl ([.ref m0, .int i1, .int i2]) ++ List.replicate (6 - (lg_sl ([.ref m0, .int i1, .int i2])).length) Slot.unset).toArray = ls at hl ⊢
  have hl : lv_has ls 6 [(0, .ref m0), (1, .int i1), (2, .int i2)] := hl
  have lp_33 : ∀ (n : Nat) (w3 : Int64) (v5 : Int32) (H : Heap) (locs : List Loc) (ls : Array Slot), (up v5 mho n) → (0 ≤ w3.toInt ∧ w3.toInt ≤ v5.toInt ∧ v5.toInt ≤ mho.toInt) → (¬ mho = 0) → va_P (dC, dI) vwCl ([(m0, .inr (5, [.int mfa, .int mho, .ref m2, .ref m3, .ref m4, .int mra, .int mrh, .ref m7, .ref m8, .ref m9, .ref m10, .ref m11, .ref m12, .int mch, .int mfr, .int mfw, .int mrd, .ref m17, .ref m18, .ref m19, .ref m20, .ref m21, .ref m22, .ref m23, .int mtr])), (m2, .inl (cI, 6, .inl K)), (m3, .inl (cI, 6, .inl L)), (m4, .inl (cI, 6, .inl C))]) H → va_D A ([(m0, .inr (5, [.int mfa, .int mho, .ref m2, .ref m3, .ref m4, .int mra, .int mrh, .ref m7, .ref m8, .ref m9, .ref m10, .ref m11, .ref m12, .int mch, .int mfr, .int mfw, .int mrd, .ref m17, .ref m18, .ref m19, .ref m20, .ref m21, .ref m22, .ref m23, .int mtr])), (m2, .inl (cI, 6, .inl K)), (m3, .inl (cI, 6, .inl L)), (m4, .inl (cI, 6, .inl C))]) → va_S A s.heap H locs → lv_has ls 6 [(5, .int v5), (3, .long w3), (0, .ref m0), (1, .int i1), (2, .int i2)] → p5_odds mho K L C i1 i2 = p5_odds_l33 mho K L C i1 i2 n w3 v5 → W p l e (headSpec wsX5_odds rmX5_odds).room s m [.ref m0, .int i1, .int i2].toArray below meth c H locs 0 0 (MQ below (QX5_odds dC dI A cI m0 m2 m3 m4 m7 m8 m9 m10 m11 m12 m17 m18 m19 m20 m21 m22 m23 mfa mho mra mrh mch mfr mfw mrd mtr K L C i1 i2) [.ref m0, .int i1, .int i2].toArray s 0 0 A) (F0 m 33 ls []) := by
    intro n
    induction n with
    | zero => intro w3 v5 _ _ _ hu hw3 hnz; exact absurd hu up_no
    | succ n ih =>
      intro w3 v5 H locs ls hu hw3 hnz hP hD hS hl hE
      refine lv_iload hx hb dX5_odds_33 (lv_at hl 0 rfl) ?_
      refine lv_aload_n hx hb dX5_odds_35 rfl (lv_at hl 2 rfl) ?_
      refine va_get (D := (dC, dI)) (ci := 5) (v := .int mho) (C := RX5) (T := TX5) (N := 25) hx hb hts hin5 hown hK hP 0 rfl rfl 1 (by decide) kf_68 (fun _ h9 => h9) rfl dX5_odds_36 ?_
      refine lv_icmp_ge (tgt := 73) hx hb dX5_odds_39 (by decide) (fun c_39 => ?_) (fun c_39 => ?_)
      · skip
        refine lv_lload_n hx hb dX5_odds_73 rfl (lv_at hl 1 rfl) ?_
        refine lv_aload_n hx hb dX5_odds_74 rfl (lv_at hl 2 rfl) ?_
        refine va_get (D := (dC, dI)) (ci := 5) (v := .int mho) (C := RX5) (T := TX5) (N := 25) hx hb hts hin5 hown hK hP 0 rfl rfl 1 (by decide) kf_68 (fun _ h9 => h9) rfl dX5_odds_75 ?_
        refine lv_i2l (v := mho.toInt64) hx hb dX5_odds_78 rfl ?_
        refine lv_iload_n hx hb dX5_odds_79 rfl (lv_at hl 4 rfl) ?_
        have hPc : va_P (dC, dI) vwCl [] H := hP.sub (ws' := []) [] rfl
        have hDc : va_D A [] := hD.sub (ws' := []) [] (by decide) rfl
        have hKc := hK.sub (tys' := [(cI, .int)]) [0] rfl
        have hFc := va_free (wc := []) hD hS hA [] rfl
        refine va_calll (va_runS (As := [.long w3, .long mho.toInt64, .int i2]) (rest := []) ⟨hx, hb, hml, hown, hts⟩ (ctX5_share l dC dI cI H.size w3 mho.toInt64 i2 (od_1 hw3 hNb) (od_2 hN0 hnz hNb)) (va_cwS 3 hts gX5_odds_X5_share rfl rfl rfl (by decide +kernel) ⟨Nat.le_of_ble_eq_true rfl, Nat.le_of_ble_eq_true rfl⟩) (pre_S hKc hN hPc hDc) rfl rfl hl.1 rfl (lv_room (Nat.le_of_ble_eq_true rfl)) dX5_odds_80 ⟨Nat.le_of_ble_eq_true rfl, Nat.le_of_ble_eq_true rfl⟩) hS (fun q _ h => hFc q h) hFc (fun r _ t H locs ht hvm hw hB hz1 hk1 hS => ?_)
        try dsimp only at hw
        subst hw
        rw [ht] at hB
        obtain ⟨hP, hD⟩ := rw_join ([(m0, .inr (5, [.int mfa, .int mho, .ref m2, .ref m3, .ref m4, .int mra, .int mrh, .ref m7, .ref m8, .ref m9, .ref m10, .ref m11, .ref m12, .int mch, .int mfr, .int mfw, .int mrd, .ref m17, .ref m18, .ref m19, .ref m20, .ref m21, .ref m22, .ref m23, .int mtr])), (m2, .inl (cI, 6, .inl K)), (m3, .inl (cI, 6, .inl L)), (m4, .inl (cI, 6, .inl C))]) ([(m0, .inr (5, [.int mfa, .int mho, .ref m2, .ref m3, .ref m4, .int mra, .int mrh, .ref m7, .ref m8, .ref m9, .ref m10, .ref m11, .ref m12, .int mch, .int mfr, .int mfw, .int mrd, .ref m17, .ref m18, .ref m19, .ref m20, .ref m21, .ref m22, .ref m23, .int mtr])), (m2, .inl (cI, 6, .inl K)), (m3, .inl (cI, 6, .inl L)), (m4, .inl (cI, 6, .inl C))]) ([]) ([]) ([(m0, .inr (5, [.int mfa, .int mho, .ref m2, .ref m3, .ref m4, .int mra, .int mrh, .ref m7, .ref m8, .ref m9, .ref m10, .ref m11, .ref m12, .int mch, .int mfr, .int mfw, .int mrd, .ref m17, .ref m18, .ref m19, .ref m20, .ref m21, .ref m22, .ref m23, .int mtr])), (m2, .inl (cI, 6, .inl K)), (m3, .inl (cI, 6, .inl L)), (m4, .inl (cI, 6, .inl C))]) hP hD [] [0, 1, 2, 3] [m0, m2, m3, m4] 4 rfl rfl rfl rfl rfl (by decide) rfl rfl hk1 hB
        have hE9 : p5_odds mho K L C i1 i2 = (p5_share w3 mho.toInt64 i2) := hE.trans (by rw [p5_odds_l33_s, if_pos c_39])
        exact W.lret (v := (p5_share w3 mho.toInt64 i2)) hx hb hr (fun t ht hW => ⟨⟨_, (), rfl, by rw [hE9], by show va_P (dC, dI) vwCl _ t.heap; rw [ht]; exact hP⟩, hS.F ht⟩) hS.2.2 dX5_odds_83
      · skip
        have j5 : vp_in v5 6 := up_in 6 hu c_39 hNb
        refine lv_lload_n hx hb dX5_odds_42 rfl (lv_at hl 1 rfl) ?_
        refine lv_aload_n hx hb dX5_odds_43 rfl (lv_at hl 2 rfl) ?_
        refine lv_iload hx hb dX5_odds_44 (lv_at hl 0 rfl) ?_
        refine lv_aload_n hx hb dX5_odds_46 rfl (lv_at hl 2 rfl) ?_
        refine lv_iload hx hb dX5_odds_47 (lv_at hl 0 rfl) ?_
        refine lv_iload_n hx hb dX5_odds_49 rfl (lv_at hl 3 rfl) ?_
        have hPc := hP.sub (ws' := [(m0, .inr (5, [.int mfa, .int mho, .ref m2, .ref m3, .ref m4, .int mra, .int mrh, .ref m7, .ref m8, .ref m9, .ref m10, .ref m11, .ref m12, .int mch, .int mfr, .int mfw, .int mrd, .ref m17, .ref m18, .ref m19, .ref m20, .ref m21, .ref m22, .ref m23, .int mtr])), (m2, .inl (cI, 6, .inl K)), (m3, .inl (cI, 6, .inl L)), (m4, .inl (cI, 6, .inl C))]) [0, 1, 2, 3] rfl
        have hDc := hD.sub (ws' := [(m0, .inr (5, [.int mfa, .int mho, .ref m2, .ref m3, .ref m4, .int mra, .int mrh, .ref m7, .ref m8, .ref m9, .ref m10, .ref m11, .ref m12, .int mch, .int mfr, .int mfw, .int mrd, .ref m17, .ref m18, .ref m19, .ref m20, .ref m21, .ref m22, .ref m23, .int mtr])), (m2, .inl (cI, 6, .inl K)), (m3, .inl (cI, 6, .inl L)), (m4, .inl (cI, 6, .inl C))]) [0, 1, 2, 3] (by decide) rfl
        have hKc := hK.sub (tys' := [(cI, .int)]) [0] rfl
        have hFc := va_free (wc := [(m0, .inr (5, [.int mfa, .int mho, .ref m2, .ref m3, .ref m4, .int mra, .int mrh, .ref m7, .ref m8, .ref m9, .ref m10, .ref m11, .ref m12, .int mch, .int mfr, .int mfw, .int mrd, .ref m17, .ref m18, .ref m19, .ref m20, .ref m21, .ref m22, .ref m23, .int mtr])), (m2, .inl (cI, 6, .inl K)), (m3, .inl (cI, 6, .inl L)), (m4, .inl (cI, 6, .inl C))]) hD hS hA [0, 1, 2, 3] rfl
        refine va_calli (va_runV (As := [.int v5, .int i1]) (rest := [.int v5, .ref m0, .long w3]) ⟨hx, hb, hml, hown, hts⟩ (ctX5_choiceOf l dC dI cI m0 m2 m3 m4 m7 m8 m9 m10 m11 m12 m17 m18 m19 m20 m21 m22 m23 H.size mfa mho mra mrh mch mfr mfw mrd mtr K L C v5 i1 (by assumption) (by assumption)) (cwV 2 hts gX5_odds_X5_choiceOf rfl rfl rfl (by decide +kernel) ⟨Nat.le_of_ble_eq_true rfl, Nat.le_of_ble_eq_true rfl⟩) (pre_V hKc hN hPc hDc (RX5, TX5, 25) 5 0 rfl rfl) rfl rfl hl.1 rfl (lv_room (Nat.le_of_ble_eq_true rfl)) dX5_odds_50 ⟨Nat.le_of_ble_eq_true rfl, Nat.le_of_ble_eq_true rfl⟩) hS (fun q _ h => hFc q h) hFc (fun r _ t H locs ht hvm hw hB hz1 hk1 hS => ?_)
        try dsimp only at hw
        subst hw
        rw [ht] at hB
        obtain ⟨hP, hD⟩ := rw_join ([(m0, .inr (5, [.int mfa, .int mho, .ref m2, .ref m3, .ref m4, .int mra, .int mrh, .ref m7, .ref m8, .ref m9, .ref m10, .ref m11, .ref m12, .int mch, .int mfr, .int mfw, .int mrd, .ref m17, .ref m18, .ref m19, .ref m20, .ref m21, .ref m22, .ref m23, .int mtr])), (m2, .inl (cI, 6, .inl K)), (m3, .inl (cI, 6, .inl L)), (m4, .inl (cI, 6, .inl C))]) ([(m0, .inr (5, [.int mfa, .int mho, .ref m2, .ref m3, .ref m4, .int mra, .int mrh, .ref m7, .ref m8, .ref m9, .ref m10, .ref m11, .ref m12, .int mch, .int mfr, .int mfw, .int mrd, .ref m17, .ref m18, .ref m19, .ref m20, .ref m21, .ref m22, .ref m23, .int mtr])), (m2, .inl (cI, 6, .inl K)), (m3, .inl (cI, 6, .inl L)), (m4, .inl (cI, 6, .inl C))]) ([(m0, .inr (5, [.int mfa, .int mho, .ref m2, .ref m3, .ref m4, .int mra, .int mrh, .ref m7, .ref m8, .ref m9, .ref m10, .ref m11, .ref m12, .int mch, .int mfr, .int mfw, .int mrd, .ref m17, .ref m18, .ref m19, .ref m20, .ref m21, .ref m22, .ref m23, .int mtr])), (m2, .inl (cI, 6, .inl K)), (m3, .inl (cI, 6, .inl L)), (m4, .inl (cI, 6, .inl C))]) ([(m0, .inr (5, [.int mfa, .int mho, .ref m2, .ref m3, .ref m4, .int mra, .int mrh, .ref m7, .ref m8, .ref m9, .ref m10, .ref m11, .ref m12, .int mch, .int mfr, .int mfw, .int mrd, .ref m17, .ref m18, .ref m19, .ref m20, .ref m21, .ref m22, .ref m23, .int mtr])), (m2, .inl (cI, 6, .inl K)), (m3, .inl (cI, 6, .inl L)), (m4, .inl (cI, 6, .inl C))]) ([]) hP hD [0, 1, 2, 3] [] [m0, m2, m3, m4] 4 rfl rfl rfl rfl rfl (by decide) rfl rfl hk1 hB
        have jc : vp_in (p5_choiceOf mho K L C v5 i1) 6 := choiceOf_in j5 hNb
        refine lv_iload_n hx hb dX5_odds_53 rfl (lv_at hl 3 rfl) ?_
        have hPc := hP.sub (ws' := [(m0, .inr (5, [.int mfa, .int mho, .ref m2, .ref m3, .ref m4, .int mra, .int mrh, .ref m7, .ref m8, .ref m9, .ref m10, .ref m11, .ref m12, .int mch, .int mfr, .int mfw, .int mrd, .ref m17, .ref m18, .ref m19, .ref m20, .ref m21, .ref m22, .ref m23, .int mtr])), (m2, .inl (cI, 6, .inl K)), (m3, .inl (cI, 6, .inl L)), (m4, .inl (cI, 6, .inl C))]) [0, 1, 2, 3] rfl
        have hDc := hD.sub (ws' := [(m0, .inr (5, [.int mfa, .int mho, .ref m2, .ref m3, .ref m4, .int mra, .int mrh, .ref m7, .ref m8, .ref m9, .ref m10, .ref m11, .ref m12, .int mch, .int mfr, .int mfw, .int mrd, .ref m17, .ref m18, .ref m19, .ref m20, .ref m21, .ref m22, .ref m23, .int mtr])), (m2, .inl (cI, 6, .inl K)), (m3, .inl (cI, 6, .inl L)), (m4, .inl (cI, 6, .inl C))]) [0, 1, 2, 3] (by decide) rfl
        have hKc := hK.sub (tys' := [(cI, .int)]) [0] rfl
        have hFc := va_free (wc := [(m0, .inr (5, [.int mfa, .int mho, .ref m2, .ref m3, .ref m4, .int mra, .int mrh, .ref m7, .ref m8, .ref m9, .ref m10, .ref m11, .ref m12, .int mch, .int mfr, .int mfw, .int mrd, .ref m17, .ref m18, .ref m19, .ref m20, .ref m21, .ref m22, .ref m23, .int mtr])), (m2, .inl (cI, 6, .inl K)), (m3, .inl (cI, 6, .inl L)), (m4, .inl (cI, 6, .inl C))]) hD hS hA [0, 1, 2, 3] rfl
        refine va_calli (va_runV (As := [.int v5, .int (p5_choiceOf mho K L C v5 i1), .int i1]) (rest := [.long w3]) ⟨hx, hb, hml, hown, hts⟩ (ctX5_isFair l dC dI cI m0 m2 m3 m4 m7 m8 m9 m10 m11 m12 m17 m18 m19 m20 m21 m22 m23 H.size mfa mho mra mrh mch mfr mfw mrd mtr K L C v5 (p5_choiceOf mho K L C v5 i1) i1 (by assumption) (by assumption) (by assumption)) (cwV 3 hts gX5_odds_X5_isFair rfl rfl rfl (by decide +kernel) ⟨Nat.le_of_ble_eq_true rfl, Nat.le_of_ble_eq_true rfl⟩) (pre_V hKc hN hPc hDc (RX5, TX5, 25) 5 0 rfl rfl) rfl rfl hl.1 rfl (lv_room (Nat.le_of_ble_eq_true rfl)) dX5_odds_54 ⟨Nat.le_of_ble_eq_true rfl, Nat.le_of_ble_eq_true rfl⟩) hS (fun q _ h => hFc q h) hFc (fun r _ t H locs ht hvm hw hB hz1 hk1 hS => ?_)
        try dsimp only at hw
        subst hw
        rw [ht] at hB
        obtain ⟨hP, hD⟩ := rw_join ([(m0, .inr (5, [.int mfa, .int mho, .ref m2, .ref m3, .ref m4, .int mra, .int mrh, .ref m7, .ref m8, .ref m9, .ref m10, .ref m11, .ref m12, .int mch, .int mfr, .int mfw, .int mrd, .ref m17, .ref m18, .ref m19, .ref m20, .ref m21, .ref m22, .ref m23, .int mtr])), (m2, .inl (cI, 6, .inl K)), (m3, .inl (cI, 6, .inl L)), (m4, .inl (cI, 6, .inl C))]) ([(m0, .inr (5, [.int mfa, .int mho, .ref m2, .ref m3, .ref m4, .int mra, .int mrh, .ref m7, .ref m8, .ref m9, .ref m10, .ref m11, .ref m12, .int mch, .int mfr, .int mfw, .int mrd, .ref m17, .ref m18, .ref m19, .ref m20, .ref m21, .ref m22, .ref m23, .int mtr])), (m2, .inl (cI, 6, .inl K)), (m3, .inl (cI, 6, .inl L)), (m4, .inl (cI, 6, .inl C))]) ([(m0, .inr (5, [.int mfa, .int mho, .ref m2, .ref m3, .ref m4, .int mra, .int mrh, .ref m7, .ref m8, .ref m9, .ref m10, .ref m11, .ref m12, .int mch, .int mfr, .int mfw, .int mrd, .ref m17, .ref m18, .ref m19, .ref m20, .ref m21, .ref m22, .ref m23, .int mtr])), (m2, .inl (cI, 6, .inl K)), (m3, .inl (cI, 6, .inl L)), (m4, .inl (cI, 6, .inl C))]) ([(m0, .inr (5, [.int mfa, .int mho, .ref m2, .ref m3, .ref m4, .int mra, .int mrh, .ref m7, .ref m8, .ref m9, .ref m10, .ref m11, .ref m12, .int mch, .int mfr, .int mfw, .int mrd, .ref m17, .ref m18, .ref m19, .ref m20, .ref m21, .ref m22, .ref m23, .int mtr])), (m2, .inl (cI, 6, .inl K)), (m3, .inl (cI, 6, .inl L)), (m4, .inl (cI, 6, .inl C))]) ([]) hP hD [0, 1, 2, 3] [] [m0, m2, m3, m4] 4 rfl rfl rfl rfl rfl (by decide) rfl rfl hk1 hB
        refine lv_if_eq (tgt := 64) hx hb dX5_odds_57 (by decide) (fun c_57 => ?_) (fun c_57 => ?_)
        · skip
          refine lv_lconst (v := 0) hx hb dX5_odds_64 (by decide) ?_
          refine lv_ladd hx hb dX5_odds_65 ?_
          refine lv_lstore_n (lv' := [(3, .long (w3 + 0)), (5, .int v5), (0, .ref m0), (1, .int i1), (2, .int i2)]) hx hb dX5_odds_66 rfl hl (by decide) rfl (fun ls hl => ?_)
          refine lv_iinc (v := (v5 + 1)) (lv' := [(5, .int (v5 + 1)), (3, .long (w3 + 0)), (0, .ref m0), (1, .int i1), (2, .int i2)]) hx hb dX5_odds_67 hl (k := 1) rfl rfl (by decide) rfl (fun ls hl => ?_)
          refine lv_goto (tgt := 33) hx hb dX5_odds_70 (by decide) ?_
          exact ih (w3 + 0) (v5 + 1) _ _ _ (up_s hu c_39) (w3_s hw3 hu c_39 (by first | exact Or.inl rfl | exact Or.inr rfl)) hnz hP hD hS (lv_sub hl [0, 1, 2, 3, 4] rfl) (hE.trans (by rw [p5_odds_l33_s, if_neg c_39, if_pos c_57]))
        · skip
          refine lv_lconst (v := 1) hx hb dX5_odds_60 (by decide) ?_
          refine lv_goto (tgt := 65) hx hb dX5_odds_61 (by decide) ?_
          refine lv_ladd hx hb dX5_odds_65 ?_
          refine lv_lstore_n (lv' := [(3, .long (w3 + 1)), (5, .int v5), (0, .ref m0), (1, .int i1), (2, .int i2)]) hx hb dX5_odds_66 rfl hl (by decide) rfl (fun ls hl => ?_)
          refine lv_iinc (v := (v5 + 1)) (lv' := [(5, .int (v5 + 1)), (3, .long (w3 + 1)), (0, .ref m0), (1, .int i1), (2, .int i2)]) hx hb dX5_odds_67 hl (k := 1) rfl rfl (by decide) rfl (fun ls hl => ?_)
          refine lv_goto (tgt := 33) hx hb dX5_odds_70 (by decide) ?_
          exact ih (w3 + 1) (v5 + 1) _ _ _ (up_s hu c_39) (w3_s hw3 hu c_39 (by first | exact Or.inl rfl | exact Or.inr rfl)) hnz hP hD hS (lv_sub hl [0, 1, 2, 3, 4] rfl) (hE.trans (by rw [p5_odds_l33_s, if_neg c_39, if_neg c_57]))
  refine lv_aload_n hx hb dX5_odds_0 rfl (lv_at hl 0 rfl) ?_
  refine va_get (D := (dC, dI)) (ci := 5) (v := .int mho) (C := RX5) (T := TX5) (N := 25) hx hb hts hin5 hown hK hP 0 rfl rfl 1 (by decide) kf_68 (fun _ h9 => h9) rfl dX5_odds_1 ?_
  refine lv_if_eq (tgt := 24) hx hb dX5_odds_4 (by decide) (fun c_4 => ?_) (fun c_4 => ?_)
  · skip
    have hPc : va_P (dC, dI) vwCl [] s.heap := hP.sub (ws' := []) [] rfl
    have hDc : va_D A [] := hD.sub (ws' := []) [] (by decide) rfl
    have hKc := hK.sub (tys' := [(cI, .int)]) [0] rfl
    have hFc := va_free (wc := []) hD hS hA [] rfl
    refine va_calll (va_runS (As := []) (rest := []) ⟨hx, hb, hml, hown, hts⟩ (ctX5_lost l dC dI cI s.heap.size) (va_cwS 0 hts gX5_odds_X5_lost rfl rfl rfl (by decide +kernel) ⟨Nat.le_of_ble_eq_true rfl, Nat.le_of_ble_eq_true rfl⟩) (pre_S hKc hN hPc hDc) rfl rfl hl.1 rfl (lv_room (Nat.le_of_ble_eq_true rfl)) dX5_odds_24 ⟨Nat.le_of_ble_eq_true rfl, Nat.le_of_ble_eq_true rfl⟩) hS (fun q _ h => hFc q h) hFc (fun r _ t H locs ht hvm hw hB hz1 hk1 hS => ?_)
    try dsimp only at hw
    subst hw
    rw [ht] at hB
    obtain ⟨hP, hD⟩ := rw_join ([(m0, .inr (5, [.int mfa, .int mho, .ref m2, .ref m3, .ref m4, .int mra, .int mrh, .ref m7, .ref m8, .ref m9, .ref m10, .ref m11, .ref m12, .int mch, .int mfr, .int mfw, .int mrd, .ref m17, .ref m18, .ref m19, .ref m20, .ref m21, .ref m22, .ref m23, .int mtr])), (m2, .inl (cI, 6, .inl K)), (m3, .inl (cI, 6, .inl L)), (m4, .inl (cI, 6, .inl C))]) ([(m0, .inr (5, [.int mfa, .int mho, .ref m2, .ref m3, .ref m4, .int mra, .int mrh, .ref m7, .ref m8, .ref m9, .ref m10, .ref m11, .ref m12, .int mch, .int mfr, .int mfw, .int mrd, .ref m17, .ref m18, .ref m19, .ref m20, .ref m21, .ref m22, .ref m23, .int mtr])), (m2, .inl (cI, 6, .inl K)), (m3, .inl (cI, 6, .inl L)), (m4, .inl (cI, 6, .inl C))]) ([]) ([]) ([(m0, .inr (5, [.int mfa, .int mho, .ref m2, .ref m3, .ref m4, .int mra, .int mrh, .ref m7, .ref m8, .ref m9, .ref m10, .ref m11, .ref m12, .int mch, .int mfr, .int mfw, .int mrd, .ref m17, .ref m18, .ref m19, .ref m20, .ref m21, .ref m22, .ref m23, .int mtr])), (m2, .inl (cI, 6, .inl K)), (m3, .inl (cI, 6, .inl L)), (m4, .inl (cI, 6, .inl C))]) hP hD [] [0, 1, 2, 3] [m0, m2, m3, m4] 4 rfl rfl rfl rfl rfl (by decide) rfl rfl hk1 hB
    have hE9 : p5_odds mho K L C i1 i2 = p5_lost := by unfold p5_odds; rw [if_pos c_4]
    exact W.lret (v := p5_lost) hx hb hr (fun t ht hW => ⟨⟨_, (), rfl, by rw [hE9], by show va_P (dC, dI) vwCl _ t.heap; rw [ht]; exact hP⟩, hS.F ht⟩) hS.2.2 dX5_odds_27
  · skip
    refine lv_iload_n hx hb dX5_odds_7 rfl (lv_at hl 1 rfl) ?_
    have hPc : va_P (dC, dI) vwCl [] s.heap := hP.sub (ws' := []) [] rfl
    have hDc : va_D A [] := hD.sub (ws' := []) [] (by decide) rfl
    have hKc := hK.sub (tys' := [(cI, .int)]) [0] rfl
    have hFc := va_free (wc := []) hD hS hA [] rfl
    refine va_calli (va_runS (As := [.int i1]) (rest := []) ⟨hx, hb, hml, hown, hts⟩ (ctX5_noCost l dC dI cI s.heap.size i1) (va_cwS 1 hts gX5_odds_X5_noCost rfl rfl rfl (by decide +kernel) ⟨Nat.le_of_ble_eq_true rfl, Nat.le_of_ble_eq_true rfl⟩) (pre_S hKc hN hPc hDc) rfl rfl hl.1 rfl (lv_room (Nat.le_of_ble_eq_true rfl)) dX5_odds_8 ⟨Nat.le_of_ble_eq_true rfl, Nat.le_of_ble_eq_true rfl⟩) hS (fun q _ h => hFc q h) hFc (fun r _ t H locs ht hvm hw hB hz1 hk1 hS => ?_)
    try dsimp only at hw
    subst hw
    rw [ht] at hB
    obtain ⟨hP, hD⟩ := rw_join ([(m0, .inr (5, [.int mfa, .int mho, .ref m2, .ref m3, .ref m4, .int mra, .int mrh, .ref m7, .ref m8, .ref m9, .ref m10, .ref m11, .ref m12, .int mch, .int mfr, .int mfw, .int mrd, .ref m17, .ref m18, .ref m19, .ref m20, .ref m21, .ref m22, .ref m23, .int mtr])), (m2, .inl (cI, 6, .inl K)), (m3, .inl (cI, 6, .inl L)), (m4, .inl (cI, 6, .inl C))]) ([(m0, .inr (5, [.int mfa, .int mho, .ref m2, .ref m3, .ref m4, .int mra, .int mrh, .ref m7, .ref m8, .ref m9, .ref m10, .ref m11, .ref m12, .int mch, .int mfr, .int mfw, .int mrd, .ref m17, .ref m18, .ref m19, .ref m20, .ref m21, .ref m22, .ref m23, .int mtr])), (m2, .inl (cI, 6, .inl K)), (m3, .inl (cI, 6, .inl L)), (m4, .inl (cI, 6, .inl C))]) ([]) ([]) ([(m0, .inr (5, [.int mfa, .int mho, .ref m2, .ref m3, .ref m4, .int mra, .int mrh, .ref m7, .ref m8, .ref m9, .ref m10, .ref m11, .ref m12, .int mch, .int mfr, .int mfw, .int mrd, .ref m17, .ref m18, .ref m19, .ref m20, .ref m21, .ref m22, .ref m23, .int mtr])), (m2, .inl (cI, 6, .inl K)), (m3, .inl (cI, 6, .inl L)), (m4, .inl (cI, 6, .inl C))]) hP hD [] [0, 1, 2, 3] [m0, m2, m3, m4] 4 rfl rfl rfl rfl rfl (by decide) rfl rfl hk1 hB
    refine lv_if_ne (tgt := 24) hx hb dX5_odds_11 (by decide) (fun c_11 => ?_) (fun c_11 => ?_)
    · skip
      have hPc : va_P (dC, dI) vwCl [] H := hP.sub (ws' := []) [] rfl
      have hDc : va_D A [] := hD.sub (ws' := []) [] (by decide) rfl
      have hKc := hK.sub (tys' := [(cI, .int)]) [0] rfl
      have hFc := va_free (wc := []) hD hS hA [] rfl
      refine va_calll (va_runS (As := []) (rest := []) ⟨hx, hb, hml, hown, hts⟩ (ctX5_lost l dC dI cI H.size) (va_cwS 0 hts gX5_odds_X5_lost rfl rfl rfl (by decide +kernel) ⟨Nat.le_of_ble_eq_true rfl, Nat.le_of_ble_eq_true rfl⟩) (pre_S hKc hN hPc hDc) rfl rfl hl.1 rfl (lv_room (Nat.le_of_ble_eq_true rfl)) dX5_odds_24 ⟨Nat.le_of_ble_eq_true rfl, Nat.le_of_ble_eq_true rfl⟩) hS (fun q _ h => hFc q h) hFc (fun r _ t H locs ht hvm hw hB hz1 hk1 hS => ?_)
      try dsimp only at hw
      subst hw
      rw [ht] at hB
      obtain ⟨hP, hD⟩ := rw_join ([(m0, .inr (5, [.int mfa, .int mho, .ref m2, .ref m3, .ref m4, .int mra, .int mrh, .ref m7, .ref m8, .ref m9, .ref m10, .ref m11, .ref m12, .int mch, .int mfr, .int mfw, .int mrd, .ref m17, .ref m18, .ref m19, .ref m20, .ref m21, .ref m22, .ref m23, .int mtr])), (m2, .inl (cI, 6, .inl K)), (m3, .inl (cI, 6, .inl L)), (m4, .inl (cI, 6, .inl C))]) ([(m0, .inr (5, [.int mfa, .int mho, .ref m2, .ref m3, .ref m4, .int mra, .int mrh, .ref m7, .ref m8, .ref m9, .ref m10, .ref m11, .ref m12, .int mch, .int mfr, .int mfw, .int mrd, .ref m17, .ref m18, .ref m19, .ref m20, .ref m21, .ref m22, .ref m23, .int mtr])), (m2, .inl (cI, 6, .inl K)), (m3, .inl (cI, 6, .inl L)), (m4, .inl (cI, 6, .inl C))]) ([]) ([]) ([(m0, .inr (5, [.int mfa, .int mho, .ref m2, .ref m3, .ref m4, .int mra, .int mrh, .ref m7, .ref m8, .ref m9, .ref m10, .ref m11, .ref m12, .int mch, .int mfr, .int mfw, .int mrd, .ref m17, .ref m18, .ref m19, .ref m20, .ref m21, .ref m22, .ref m23, .int mtr])), (m2, .inl (cI, 6, .inl K)), (m3, .inl (cI, 6, .inl L)), (m4, .inl (cI, 6, .inl C))]) hP hD [] [0, 1, 2, 3] [m0, m2, m3, m4] 4 rfl rfl rfl rfl rfl (by decide) rfl rfl hk1 hB
      have hE9 : p5_odds mho K L C i1 i2 = p5_lost := by unfold p5_odds; rw [if_neg c_4, if_neg c_11]
      exact W.lret (v := p5_lost) hx hb hr (fun t ht hW => ⟨⟨_, (), rfl, by rw [hE9], by show va_P (dC, dI) vwCl _ t.heap; rw [ht]; exact hP⟩, hS.F ht⟩) hS.2.2 dX5_odds_27
    · skip
      refine lv_iload_n hx hb dX5_odds_14 rfl (lv_at hl 2 rfl) ?_
      refine lv_i2l (v := i2.toInt64) hx hb dX5_odds_15 rfl ?_
      refine lv_lconst (v := 0) hx hb dX5_odds_16 (by decide) ?_
      refine lv_lconst (v := 1) hx hb dX5_odds_17 (by decide) ?_
      have hPc : va_P (dC, dI) vwCl [] H := hP.sub (ws' := []) [] rfl
      have hDc : va_D A [] := hD.sub (ws' := []) [] (by decide) rfl
      have hKc := hK.sub (tys' := [(cI, .int)]) [0] rfl
      have hFc := va_free (wc := []) hD hS hA [] rfl
      refine va_calli (va_runS (As := [.long i2.toInt64, .long 0, .long 1]) (rest := []) ⟨hx, hb, hml, hown, hts⟩ (ctX5_in l dC dI cI H.size i2.toInt64 0 1) (va_cwS 3 hts gX5_odds_X5_in rfl rfl rfl (by decide +kernel) ⟨Nat.le_of_ble_eq_true rfl, Nat.le_of_ble_eq_true rfl⟩) (pre_S hKc hN hPc hDc) rfl rfl hl.1 rfl (lv_room (Nat.le_of_ble_eq_true rfl)) dX5_odds_18 ⟨Nat.le_of_ble_eq_true rfl, Nat.le_of_ble_eq_true rfl⟩) hS (fun q _ h => hFc q h) hFc (fun r _ t H locs ht hvm hw hB hz1 hk1 hS => ?_)
      try dsimp only at hw
      subst hw
      rw [ht] at hB
      obtain ⟨hP, hD⟩ := rw_join ([(m0, .inr (5, [.int mfa, .int mho, .ref m2, .ref m3, .ref m4, .int mra, .int mrh, .ref m7, .ref m8, .ref m9, .ref m10, .ref m11, .ref m12, .int mch, .int mfr, .int mfw, .int mrd, .ref m17, .ref m18, .ref m19, .ref m20, .ref m21, .ref m22, .ref m23, .int mtr])), (m2, .inl (cI, 6, .inl K)), (m3, .inl (cI, 6, .inl L)), (m4, .inl (cI, 6, .inl C))]) ([(m0, .inr (5, [.int mfa, .int mho, .ref m2, .ref m3, .ref m4, .int mra, .int mrh, .ref m7, .ref m8, .ref m9, .ref m10, .ref m11, .ref m12, .int mch, .int mfr, .int mfw, .int mrd, .ref m17, .ref m18, .ref m19, .ref m20, .ref m21, .ref m22, .ref m23, .int mtr])), (m2, .inl (cI, 6, .inl K)), (m3, .inl (cI, 6, .inl L)), (m4, .inl (cI, 6, .inl C))]) ([]) ([]) ([(m0, .inr (5, [.int mfa, .int mho, .ref m2, .ref m3, .ref m4, .int mra, .int mrh, .ref m7, .ref m8, .ref m9, .ref m10, .ref m11, .ref m12, .int mch, .int mfr, .int mfw, .int mrd, .ref m17, .ref m18, .ref m19, .ref m20, .ref m21, .ref m22, .ref m23, .int mtr])), (m2, .inl (cI, 6, .inl K)), (m3, .inl (cI, 6, .inl L)), (m4, .inl (cI, 6, .inl C))]) hP hD [] [0, 1, 2, 3] [m0, m2, m3, m4] 4 rfl rfl rfl rfl rfl (by decide) rfl rfl hk1 hB
      refine lv_if_ne (tgt := 28) hx hb dX5_odds_21 (by decide) (fun c_21 => ?_) (fun c_21 => ?_)
      · skip
        refine lv_lconst (v := 0) hx hb dX5_odds_28 (by decide) ?_
        refine lv_lstore_n (lv' := [(3, .long 0), (0, .ref m0), (1, .int i1), (2, .int i2)]) hx hb dX5_odds_29 rfl hl (by decide) rfl (fun ls hl => ?_)
        refine lv_iconst (v := 0) hx hb dX5_odds_30 (by decide) ?_
        refine lv_istore (lv' := [(5, .int 0), (3, .long 0), (0, .ref m0), (1, .int i1), (2, .int i2)]) hx hb dX5_odds_31 hl (by decide) rfl (fun ls hl => ?_)
        exact lp_33 7 0 0  _ _ _ (up_i 6 (by decide) hNb) ⟨by decide, by decide, by rw [q_0]; exact hN0⟩ c_4 hP hD hS (lv_sub hl [0, 1, 2, 3, 4] rfl) (by unfold p5_odds; rw [if_neg c_4, if_pos c_11, if_neg c_21])
      · skip
        have hPc : va_P (dC, dI) vwCl [] H := hP.sub (ws' := []) [] rfl
        have hDc : va_D A [] := hD.sub (ws' := []) [] (by decide) rfl
        have hKc := hK.sub (tys' := [(cI, .int)]) [0] rfl
        have hFc := va_free (wc := []) hD hS hA [] rfl
        refine va_calll (va_runS (As := []) (rest := []) ⟨hx, hb, hml, hown, hts⟩ (ctX5_lost l dC dI cI H.size) (va_cwS 0 hts gX5_odds_X5_lost rfl rfl rfl (by decide +kernel) ⟨Nat.le_of_ble_eq_true rfl, Nat.le_of_ble_eq_true rfl⟩) (pre_S hKc hN hPc hDc) rfl rfl hl.1 rfl (lv_room (Nat.le_of_ble_eq_true rfl)) dX5_odds_24 ⟨Nat.le_of_ble_eq_true rfl, Nat.le_of_ble_eq_true rfl⟩) hS (fun q _ h => hFc q h) hFc (fun r _ t H locs ht hvm hw hB hz1 hk1 hS => ?_)
        try dsimp only at hw
        subst hw
        rw [ht] at hB
        obtain ⟨hP, hD⟩ := rw_join ([(m0, .inr (5, [.int mfa, .int mho, .ref m2, .ref m3, .ref m4, .int mra, .int mrh, .ref m7, .ref m8, .ref m9, .ref m10, .ref m11, .ref m12, .int mch, .int mfr, .int mfw, .int mrd, .ref m17, .ref m18, .ref m19, .ref m20, .ref m21, .ref m22, .ref m23, .int mtr])), (m2, .inl (cI, 6, .inl K)), (m3, .inl (cI, 6, .inl L)), (m4, .inl (cI, 6, .inl C))]) ([(m0, .inr (5, [.int mfa, .int mho, .ref m2, .ref m3, .ref m4, .int mra, .int mrh, .ref m7, .ref m8, .ref m9, .ref m10, .ref m11, .ref m12, .int mch, .int mfr, .int mfw, .int mrd, .ref m17, .ref m18, .ref m19, .ref m20, .ref m21, .ref m22, .ref m23, .int mtr])), (m2, .inl (cI, 6, .inl K)), (m3, .inl (cI, 6, .inl L)), (m4, .inl (cI, 6, .inl C))]) ([]) ([]) ([(m0, .inr (5, [.int mfa, .int mho, .ref m2, .ref m3, .ref m4, .int mra, .int mrh, .ref m7, .ref m8, .ref m9, .ref m10, .ref m11, .ref m12, .int mch, .int mfr, .int mfw, .int mrd, .ref m17, .ref m18, .ref m19, .ref m20, .ref m21, .ref m22, .ref m23, .int mtr])), (m2, .inl (cI, 6, .inl K)), (m3, .inl (cI, 6, .inl L)), (m4, .inl (cI, 6, .inl C))]) hP hD [] [0, 1, 2, 3] [m0, m2, m3, m4] 4 rfl rfl rfl rfl rfl (by decide) rfl rfl hk1 hB
        have hE9 : p5_odds mho K L C i1 i2 = p5_lost := by unfold p5_odds; rw [if_neg c_4, if_pos c_11, if_pos c_21]
        exact W.lret (v := p5_lost) hx hb hr (fun t ht hW => ⟨⟨_, (), rfl, by rw [hE9], by show va_P (dC, dI) vwCl _ t.heap; rw [ht]; exact hP⟩, hS.F ht⟩) hS.2.2 dX5_odds_27

def p5_sheet_l65 (mfa : Int32) (SZ : Nat → Int32) (LN : Nat → Int32) (SH : Nat → Int32) (i1 : Int32) (i2 : Int32) (i3 : Int32) : Nat → Int32 → (Nat → Int32) → Int32 × Int32 × (Nat → Int32) × (Nat → Int32) × (Nat → Int32)
  | 0, _, _ => (0, 0, fun _ => 0, fun _ => 0, fun _ => 0)
  | n + 1, v4, SH_ =>
    if i3 ≤ v4 then
      (((p5_refused mfa 1).1), ((p5_refused mfa 1).2), (upd SZ i1.toNatClampNeg i3), (upd LN i1.toNatClampNeg i2), SH_)
    else
      p5_sheet_l65 mfa SZ LN SH i1 i2 i3 n (v4 + 1) (upd SH_ ((60 * i1) + v4).toNatClampNeg 0)
theorem p5_sheet_l65_s (mfa : Int32) (SZ : Nat → Int32) (LN : Nat → Int32) (SH : Nat → Int32) (i1 : Int32) (i2 : Int32) (i3 : Int32) (n : Nat) (v4 : Int32) (SH_ : Nat → Int32) : p5_sheet_l65 mfa SZ LN SH i1 i2 i3 (n + 1) v4 SH_ =
    (if i3 ≤ v4 then
      (((p5_refused mfa 1).1), ((p5_refused mfa 1).2), (upd SZ i1.toNatClampNeg i3), (upd LN i1.toNatClampNeg i2), SH_)
    else
      p5_sheet_l65 mfa SZ LN SH i1 i2 i3 n (v4 + 1) (upd SH_ ((60 * i1) + v4).toNatClampNeg 0)) := rfl
def p5_sheet (mfa : Int32) (SZ : Nat → Int32) (LN : Nat → Int32) (SH : Nat → Int32) (i1 : Int32) (i2 : Int32) (i3 : Int32) : Int32 × Int32 × (Nat → Int32) × (Nat → Int32) × (Nat → Int32) :=
  if (p5_noSheet i1) = 0 then
    if (p5_in i2.toInt64 0 2) = 0 then
      (((p5_refused mfa (-2)).1), ((p5_refused mfa (-2)).2), SZ, LN, SH)
    else
      if i3 ≤ 60 then
        if 0 ≤ i3 then
          p5_sheet_l65 mfa SZ LN SH i1 i2 i3 61 0 SH
        else
          (((p5_failed mfa 4).1), ((p5_failed mfa 4).2), SZ, LN, SH)
      else
        (((p5_refused mfa (-2)).1), ((p5_refused mfa (-2)).2), SZ, LN, SH)
  else
    (((p5_refused mfa (-1)).1), ((p5_refused mfa (-1)).2), SZ, LN, SH)
abbrev rmX5_sheet : Room := { frames := 2, cells := 0, slots := 0, locals := 45 }
abbrev QX5_sheet (dC : Nat → ClassId) (dI : Nat → Nat → Nat) (A : Nat → Prop) (cI : ClassId) (m0 : Nat) (m2 : Nat) (m3 : Nat) (m4 : Nat) (m7 : Nat) (m8 : Nat) (m9 : Nat) (m10 : Nat) (m11 : Nat) (m12 : Nat) (m17 : Nat) (m18 : Nat) (m19 : Nat) (m20 : Nat) (m21 : Nat) (m22 : Nat) (m23 : Nat) (mfa : Int32) (mho : Int32) (mra : Int32) (mrh : Int32) (mch : Int32) (mfr : Int32) (mfw : Int32) (mrd : Int32) (mtr : Int32) (SZ : Nat → Int32) (LN : Nat → Int32) (SH : Nat → Int32) (i1 : Int32) (i2 : Int32) (i3 : Int32) : Array Value → State → Outcome → State → Prop := va_Qi (fun (r : Int32) (_ : Unit) => r = (p5_sheet mfa SZ LN SH i1 i2 i3).1) (fun (_ : Unit) (t : State) => va_P (dC, dI) vwCl ([(m0, .inr (5, [.int ((p5_sheet mfa SZ LN SH i1 i2 i3).2.1), .int mho, .ref m2, .ref m3, .ref m4, .int mra, .int mrh, .ref m7, .ref m8, .ref m9, .ref m10, .ref m11, .ref m12, .int mch, .int mfr, .int mfw, .int mrd, .ref m17, .ref m18, .ref m19, .ref m20, .ref m21, .ref m22, .ref m23, .int mtr])), (m20, .inl (cI, 4, .inl ((p5_sheet mfa SZ LN SH i1 i2 i3).2.2.1))), (m21, .inl (cI, 4, .inl ((p5_sheet mfa SZ LN SH i1 i2 i3).2.2.2.1))), (m22, .inl (cI, 240, .inl ((p5_sheet mfa SZ LN SH i1 i2 i3).2.2.2.2)))]) t.heap) A
set_option maxHeartbeats 4000000 in
set_option maxRecDepth 100000 in
theorem ctX5_sheet (l : Launch) (dC : Nat → ClassId) (dI : Nat → Nat → Nat) (cI : ClassId) (m0 : Nat) (m2 : Nat) (m3 : Nat) (m4 : Nat) (m7 : Nat) (m8 : Nat) (m9 : Nat) (m10 : Nat) (m11 : Nat) (m12 : Nat) (m17 : Nat) (m18 : Nat) (m19 : Nat) (m20 : Nat) (m21 : Nat) (m22 : Nat) (m23 : Nat) (sz : Nat) (mfa : Int32) (mho : Int32) (mra : Int32) (mrh : Int32) (mch : Int32) (mfr : Int32) (mfw : Int32) (mrd : Int32) (mtr : Int32) (SZ : Nat → Int32) (LN : Nat → Int32) (SH : Nat → Int32) (i1 : Int32) (i2 : Int32) (i3 : Int32) : Met l yX5_sheet wsX5_sheet rmX5_sheet (va_Pc [.ref m0, .int i1, .int i2, .int i3] (cP dC dI [(cI, .int)] ([(m0, .inr (5, [.int mfa, .int mho, .ref m2, .ref m3, .ref m4, .int mra, .int mrh, .ref m7, .ref m8, .ref m9, .ref m10, .ref m11, .ref m12, .int mch, .int mfr, .int mfw, .int mrd, .ref m17, .ref m18, .ref m19, .ref m20, .ref m21, .ref m22, .ref m23, .int mtr])), (m20, .inl (cI, 4, .inl SZ)), (m21, .inl (cI, 4, .inl LN)), (m22, .inl (cI, 240, .inl SH))]) sz)) (QX5_sheet dC dI (va_A ([(m0, .inr (5, [.int mfa, .int mho, .ref m2, .ref m3, .ref m4, .int mra, .int mrh, .ref m7, .ref m8, .ref m9, .ref m10, .ref m11, .ref m12, .int mch, .int mfr, .int mfw, .int mrd, .ref m17, .ref m18, .ref m19, .ref m20, .ref m21, .ref m22, .ref m23, .int mtr])), (m20, .inl (cI, 4, .inl SZ)), (m21, .inl (cI, 4, .inl LN)), (m22, .inl (cI, 240, .inl SH))]) sz) cI m0 m2 m3 m4 m7 m8 m9 m10 m11 m12 m17 m18 m19 m20 m21 m22 m23 mfa mho mra mrh mch mfr mfw mrd mtr SZ LN SH i1 i2 i3) 0 0 (va_A ([(m0, .inr (5, [.int mfa, .int mho, .ref m2, .ref m3, .ref m4, .int mra, .int mrh, .ref m7, .ref m8, .ref m9, .ref m10, .ref m11, .ref m12, .int mch, .int mfr, .int mfw, .int mrd, .ref m17, .ref m18, .ref m19, .ref m20, .ref m21, .ref m22, .ref m23, .int mtr])), (m20, .inl (cI, 4, .inl SZ)), (m21, .inl (cI, 4, .inl LN)), (m22, .inl (cI, 240, .inl SH))]) sz) := by
  refine Met.ofW (cc := cX5_sheet) (maxL := 5) (ret := (some .int)) (by decide) rfl ?_
  intro p e s m args below meth c s₁ B hml hv
  obtain ⟨rfl, hsz, hP, hK, hD0, hN⟩ := hv
  have hx := B.exec
  have hb := B.bytes
  have hr := B.returns
  have hts := atoms_spec (ws := wsX5_sheet) B.pre
  have hown : s.vm.findClass RX5 = some m.cls := findClass_of_methodNamed B.named
  have hlocks := B.notSynchronized
  subst hsz
  have hD := hD0.self (sz := s.heap.size)
  generalize hAe : va_A ([(m0, .inr (5, [.int mfa, .int mho, .ref m2, .ref m3, .ref m4, .int mra, .int mrh, .ref m7, .ref m8, .ref m9, .ref m10, .ref m11, .ref m12, .int mch, .int mfr, .int mfw, .int mrd, .ref m17, .ref m18, .ref m19, .ref m20, .ref m21, .ref m22, .ref m23, .int mtr])), (m20, .inl (cI, 4, .inl SZ)), (m21, .inl (cI, 4, .inl LN)), (m22, .inl (cI, 240, .inl SH))]) s.heap.size = A at hD ⊢
  have hA : ∀ q : Nat, s.heap.size ≤ q → A q := fun q h => by rw [← hAe]; exact Or.inr h
  have hS : va_S A s.heap s.heap [] := va_S.rf
  have hP : va_P (dC, dI) vwCl ([(m0, .inr (5, [.int mfa, .int mho, .ref m2, .ref m3, .ref m4, .int mra, .int mrh, .ref m7, .ref m8, .ref m9, .ref m10, .ref m11, .ref m12, .int mch, .int mfr, .int mfw, .int mrd, .ref m17, .ref m18, .ref m19, .ref m20, .ref m21, .ref m22, .ref m23, .int mtr])), (m20, .inl (cI, 4, .inl SZ)), (m21, .inl (cI, 4, .inl LN)), (m22, .inl (cI, 240, .inl SH))]) s.heap := hP
  have hin5 : ∀ w ∈ wsX50, w ∈ wsX5_sheet := by decide +kernel
  have kl_109 := hts (.constantLong RX5 109 2) (by decide +kernel)
  have kf_46 := hts (.fieldLink RX5 46 "RicherChangeModel" "sheetSize" "[I") (by decide +kernel)
  have kf_49 := hts (.fieldLink RX5 49 "RicherChangeModel" "sheetLane" "[I") (by decide +kernel)
  have kf_52 := hts (.fieldLink RX5 52 "RicherChangeModel" "sheet" "[I") (by decide +kernel)
  have hl := lv_entry ([.ref m0, .int i1, .int i2, .int i3]) (n := 5) (Nat.le_of_ble_eq_true rfl)
  rw [lg_entry_eq]
  generalize (lg_sl ([.ref m0, .int i1, .int i2, .int i3]) ++ List.replicate (5 - (lg_sl ([.ref m0, .int i1, .int i2, .int i3])).length) Slot.unset).toArray = ls at hl ⊢
  have hl : lv_has ls 5 [(0, .ref m0), (1, .int i1), (2, .int i2), (3, .int i3)] := hl
  have lp_65 : ∀ (n : Nat) (v4 : Int32) (SH_ : Nat → Int32) (H : Heap) (locs : List Loc) (ls : Array Slot), (up v4 i3 n) → (vp_in i1 4) → (i3.toInt ≤ 60) → va_P (dC, dI) vwCl ([(m0, .inr (5, [.int mfa, .int mho, .ref m2, .ref m3, .ref m4, .int mra, .int mrh, .ref m7, .ref m8, .ref m9, .ref m10, .ref m11, .ref m12, .int mch, .int mfr, .int mfw, .int mrd, .ref m17, .ref m18, .ref m19, .ref m20, .ref m21, .ref m22, .ref m23, .int mtr])), (m20, .inl (cI, 4, .inl (upd SZ i1.toNatClampNeg i3))), (m21, .inl (cI, 4, .inl (upd LN i1.toNatClampNeg i2))), (m22, .inl (cI, 240, .inl SH_))]) H → va_D A ([(m0, .inr (5, [.int mfa, .int mho, .ref m2, .ref m3, .ref m4, .int mra, .int mrh, .ref m7, .ref m8, .ref m9, .ref m10, .ref m11, .ref m12, .int mch, .int mfr, .int mfw, .int mrd, .ref m17, .ref m18, .ref m19, .ref m20, .ref m21, .ref m22, .ref m23, .int mtr])), (m20, .inl (cI, 4, .inl (upd SZ i1.toNatClampNeg i3))), (m21, .inl (cI, 4, .inl (upd LN i1.toNatClampNeg i2))), (m22, .inl (cI, 240, .inl SH_))]) → va_S A s.heap H locs → lv_has ls 5 [(4, .int v4), (0, .ref m0), (1, .int i1), (2, .int i2), (3, .int i3)] → p5_sheet mfa SZ LN SH i1 i2 i3 = p5_sheet_l65 mfa SZ LN SH i1 i2 i3 n v4 SH_ → W p l e (headSpec wsX5_sheet rmX5_sheet).room s m [.ref m0, .int i1, .int i2, .int i3].toArray below meth c H locs 0 0 (MQ below (QX5_sheet dC dI A cI m0 m2 m3 m4 m7 m8 m9 m10 m11 m12 m17 m18 m19 m20 m21 m22 m23 mfa mho mra mrh mch mfr mfw mrd mtr SZ LN SH i1 i2 i3) [.ref m0, .int i1, .int i2, .int i3].toArray s 0 0 A) (F0 m 65 ls []) := by
    intro n
    induction n with
    | zero => intro v4 SH_ _ _ _ hu hj1 h60; exact absurd hu up_no
    | succ n ih =>
      intro v4 SH_ H locs ls hu hj1 h60 hP hD hS hl hE
      refine lv_iload hx hb dX5_sheet_65 (lv_at hl 0 rfl) ?_
      refine lv_iload_n hx hb dX5_sheet_67 rfl (lv_at hl 4 rfl) ?_
      refine lv_icmp_ge (tgt := 90) hx hb dX5_sheet_68 (by decide) (fun c_68 => ?_) (fun c_68 => ?_)
      · skip
        refine lv_aload_n hx hb dX5_sheet_90 rfl (lv_at hl 1 rfl) ?_
        refine lv_iconst (v := 1) hx hb dX5_sheet_91 (by decide) ?_
        have hPc := hP.sub (ws' := [(m0, .inr (5, [.int mfa, .int mho, .ref m2, .ref m3, .ref m4, .int mra, .int mrh, .ref m7, .ref m8, .ref m9, .ref m10, .ref m11, .ref m12, .int mch, .int mfr, .int mfw, .int mrd, .ref m17, .ref m18, .ref m19, .ref m20, .ref m21, .ref m22, .ref m23, .int mtr]))]) [0] rfl
        have hDc := hD.sub (ws' := [(m0, .inr (5, [.int mfa, .int mho, .ref m2, .ref m3, .ref m4, .int mra, .int mrh, .ref m7, .ref m8, .ref m9, .ref m10, .ref m11, .ref m12, .int mch, .int mfr, .int mfw, .int mrd, .ref m17, .ref m18, .ref m19, .ref m20, .ref m21, .ref m22, .ref m23, .int mtr]))]) [0] (by decide) rfl
        have hKc := hK.sub (tys' := [(cI, .int)]) [0] rfl
        have hFc := va_free (wc := [(m0, .inr (5, [.int mfa, .int mho, .ref m2, .ref m3, .ref m4, .int mra, .int mrh, .ref m7, .ref m8, .ref m9, .ref m10, .ref m11, .ref m12, .int mch, .int mfr, .int mfw, .int mrd, .ref m17, .ref m18, .ref m19, .ref m20, .ref m21, .ref m22, .ref m23, .int mtr]))]) hD hS hA [0] rfl
        refine va_calli (va_runV (As := [.int 1]) (rest := []) ⟨hx, hb, hml, hown, hts⟩ (ctX5_refused l dC dI cI m0 m2 m3 m4 m7 m8 m9 m10 m11 m12 m17 m18 m19 m20 m21 m22 m23 H.size mfa mho mra mrh mch mfr mfw mrd mtr 1) (cwV 1 hts gX5_sheet_X5_refused rfl rfl rfl (by decide +kernel) ⟨Nat.le_of_ble_eq_true rfl, Nat.le_of_ble_eq_true rfl⟩) (pre_V hKc hN hPc hDc (RX5, TX5, 25) 5 0 rfl rfl) rfl rfl hl.1 rfl (lv_room (Nat.le_of_ble_eq_true rfl)) dX5_sheet_92 ⟨Nat.le_of_ble_eq_true rfl, Nat.le_of_ble_eq_true rfl⟩) hS (fun q _ h => hFc q h) hFc (fun r_92 _ t H locs ht hvm hw hB hz1 hk1 hS => ?_)
        try dsimp only at hw
        have er_92 := hw.symm
        rw [ht] at hB
        refine nm_gen ((p5_refused mfa 1).2) (fun mfa_92 emfa_92 => ?_)
        rw [emfa_92] at hB
        obtain ⟨hP, hD⟩ := rw_join ([(m0, .inr (5, [.int mfa, .int mho, .ref m2, .ref m3, .ref m4, .int mra, .int mrh, .ref m7, .ref m8, .ref m9, .ref m10, .ref m11, .ref m12, .int mch, .int mfr, .int mfw, .int mrd, .ref m17, .ref m18, .ref m19, .ref m20, .ref m21, .ref m22, .ref m23, .int mtr])), (m20, .inl (cI, 4, .inl (upd SZ i1.toNatClampNeg i3))), (m21, .inl (cI, 4, .inl (upd LN i1.toNatClampNeg i2))), (m22, .inl (cI, 240, .inl SH_))]) ([(m0, .inr (5, [.int mfa_92, .int mho, .ref m2, .ref m3, .ref m4, .int mra, .int mrh, .ref m7, .ref m8, .ref m9, .ref m10, .ref m11, .ref m12, .int mch, .int mfr, .int mfw, .int mrd, .ref m17, .ref m18, .ref m19, .ref m20, .ref m21, .ref m22, .ref m23, .int mtr])), (m20, .inl (cI, 4, .inl (upd SZ i1.toNatClampNeg i3))), (m21, .inl (cI, 4, .inl (upd LN i1.toNatClampNeg i2))), (m22, .inl (cI, 240, .inl SH_))]) ([(m0, .inr (5, [.int mfa, .int mho, .ref m2, .ref m3, .ref m4, .int mra, .int mrh, .ref m7, .ref m8, .ref m9, .ref m10, .ref m11, .ref m12, .int mch, .int mfr, .int mfw, .int mrd, .ref m17, .ref m18, .ref m19, .ref m20, .ref m21, .ref m22, .ref m23, .int mtr]))]) ([(m0, .inr (5, [.int mfa_92, .int mho, .ref m2, .ref m3, .ref m4, .int mra, .int mrh, .ref m7, .ref m8, .ref m9, .ref m10, .ref m11, .ref m12, .int mch, .int mfr, .int mfw, .int mrd, .ref m17, .ref m18, .ref m19, .ref m20, .ref m21, .ref m22, .ref m23, .int mtr]))]) ([(m20, .inl (cI, 4, .inl (upd SZ i1.toNatClampNeg i3))), (m21, .inl (cI, 4, .inl (upd LN i1.toNatClampNeg i2))), (m22, .inl (cI, 240, .inl SH_))]) hP hD [0] [1, 2, 3] [m0, m20, m21, m22] 4 rfl rfl rfl rfl rfl (by decide) rfl rfl hk1 hB
        have hE9 : p5_sheet mfa SZ LN SH i1 i2 i3 = (r_92, mfa_92, (upd SZ i1.toNatClampNeg i3), (upd LN i1.toNatClampNeg i2), SH_) := hE.trans (by rw [p5_sheet_l65_s]; simp only [er_92, emfa_92]; rw [if_pos c_68])
        exact W.iret (v := r_92) hx hb hr (fun t ht hW => ⟨⟨_, (), rfl, by rw [hE9], by show va_P (dC, dI) vwCl _ t.heap; rw [ht, hE9]; exact hP⟩, hS.F ht⟩) hS.2.2 dX5_sheet_95
      · skip
        refine lv_aload_n hx hb dX5_sheet_71 rfl (lv_at hl 1 rfl) ?_
        refine va_get (D := (dC, dI)) (ci := 5) (v := .ref m22) (C := RX5) (T := TX5) (N := 25) hx hb hts hin5 hown hK hP 0 rfl rfl 22 (by decide) kf_52 (fun _ h9 => h9) rfl dX5_sheet_72 ?_
        refine lv_bipush (v := 60) hx hb dX5_sheet_75 (by decide) ?_
        refine lv_iload_n hx hb dX5_sheet_77 rfl (lv_at hl 2 rfl) ?_
        refine lv_imul hx hb dX5_sheet_78 ?_
        refine lv_iload hx hb dX5_sheet_79 (lv_at hl 0 rfl) ?_
        refine lv_iadd hx hb dX5_sheet_81 ?_
        refine lv_iconst (v := 0) hx hb dX5_sheet_82 (by decide) ?_
        refine va_iast hx hb hK hP hD hS 3 0 rfl rfl (sh_ix hj1 h60 hu c_68) dX5_sheet_83 (fun H locs hP hD hS => ?_)
        have hP : va_P (dC, dI) vwCl ([(m0, .inr (5, [.int mfa, .int mho, .ref m2, .ref m3, .ref m4, .int mra, .int mrh, .ref m7, .ref m8, .ref m9, .ref m10, .ref m11, .ref m12, .int mch, .int mfr, .int mfw, .int mrd, .ref m17, .ref m18, .ref m19, .ref m20, .ref m21, .ref m22, .ref m23, .int mtr])), (m20, .inl (cI, 4, .inl (upd SZ i1.toNatClampNeg i3))), (m21, .inl (cI, 4, .inl (upd LN i1.toNatClampNeg i2))), (m22, .inl (cI, 240, .inl (upd SH_ ((60 * i1) + v4).toNatClampNeg 0)))]) H := hP
        have hD : va_D A ([(m0, .inr (5, [.int mfa, .int mho, .ref m2, .ref m3, .ref m4, .int mra, .int mrh, .ref m7, .ref m8, .ref m9, .ref m10, .ref m11, .ref m12, .int mch, .int mfr, .int mfw, .int mrd, .ref m17, .ref m18, .ref m19, .ref m20, .ref m21, .ref m22, .ref m23, .int mtr])), (m20, .inl (cI, 4, .inl (upd SZ i1.toNatClampNeg i3))), (m21, .inl (cI, 4, .inl (upd LN i1.toNatClampNeg i2))), (m22, .inl (cI, 240, .inl (upd SH_ ((60 * i1) + v4).toNatClampNeg 0)))]) := hD
        refine lv_iinc (v := (v4 + 1)) (lv' := [(4, .int (v4 + 1)), (0, .ref m0), (1, .int i1), (2, .int i2), (3, .int i3)]) hx hb dX5_sheet_84 hl (k := 0) rfl rfl (by decide) rfl (fun ls hl => ?_)
        refine lv_goto (tgt := 65) hx hb dX5_sheet_87 (by decide) ?_
        exact ih (v4 + 1) (upd SH_ ((60 * i1) + v4).toNatClampNeg 0) _ _ _ (up_s hu c_68) hj1 h60 hP hD hS (lv_sub hl [0, 1, 2, 3, 4] rfl) (hE.trans (by rw [p5_sheet_l65_s, if_neg c_68]))
  refine lv_iload_n hx hb dX5_sheet_0 rfl (lv_at hl 1 rfl) ?_
  have hPc : va_P (dC, dI) vwCl [] s.heap := hP.sub (ws' := []) [] rfl
  have hDc : va_D A [] := hD.sub (ws' := []) [] (by decide) rfl
  have hKc := hK.sub (tys' := [(cI, .int)]) [0] rfl
  have hFc := va_free (wc := []) hD hS hA [] rfl
  refine va_calli (va_runS (As := [.int i1]) (rest := []) ⟨hx, hb, hml, hown, hts⟩ (ctX5_noSheet l dC dI cI s.heap.size i1) (va_cwS 1 hts gX5_sheet_X5_noSheet rfl rfl rfl (by decide +kernel) ⟨Nat.le_of_ble_eq_true rfl, Nat.le_of_ble_eq_true rfl⟩) (pre_S hKc hN hPc hDc) rfl rfl hl.1 rfl (lv_room (Nat.le_of_ble_eq_true rfl)) dX5_sheet_1 ⟨Nat.le_of_ble_eq_true rfl, Nat.le_of_ble_eq_true rfl⟩) hS (fun q _ h => hFc q h) hFc (fun r _ t H locs ht hvm hw hB hz1 hk1 hS => ?_)
  try dsimp only at hw
  subst hw
  rw [ht] at hB
  obtain ⟨hP, hD⟩ := rw_join ([(m0, .inr (5, [.int mfa, .int mho, .ref m2, .ref m3, .ref m4, .int mra, .int mrh, .ref m7, .ref m8, .ref m9, .ref m10, .ref m11, .ref m12, .int mch, .int mfr, .int mfw, .int mrd, .ref m17, .ref m18, .ref m19, .ref m20, .ref m21, .ref m22, .ref m23, .int mtr])), (m20, .inl (cI, 4, .inl SZ)), (m21, .inl (cI, 4, .inl LN)), (m22, .inl (cI, 240, .inl SH))]) ([(m0, .inr (5, [.int mfa, .int mho, .ref m2, .ref m3, .ref m4, .int mra, .int mrh, .ref m7, .ref m8, .ref m9, .ref m10, .ref m11, .ref m12, .int mch, .int mfr, .int mfw, .int mrd, .ref m17, .ref m18, .ref m19, .ref m20, .ref m21, .ref m22, .ref m23, .int mtr])), (m20, .inl (cI, 4, .inl SZ)), (m21, .inl (cI, 4, .inl LN)), (m22, .inl (cI, 240, .inl SH))]) ([]) ([]) ([(m0, .inr (5, [.int mfa, .int mho, .ref m2, .ref m3, .ref m4, .int mra, .int mrh, .ref m7, .ref m8, .ref m9, .ref m10, .ref m11, .ref m12, .int mch, .int mfr, .int mfw, .int mrd, .ref m17, .ref m18, .ref m19, .ref m20, .ref m21, .ref m22, .ref m23, .int mtr])), (m20, .inl (cI, 4, .inl SZ)), (m21, .inl (cI, 4, .inl LN)), (m22, .inl (cI, 240, .inl SH))]) hP hD [] [0, 1, 2, 3] [m0, m20, m21, m22] 4 rfl rfl rfl rfl rfl (by decide) rfl rfl hk1 hB
  refine lv_if_eq (tgt := 13) hx hb dX5_sheet_4 (by decide) (fun c_4 => ?_) (fun c_4 => ?_)
  · skip
    have j1 : vp_in i1 4 := noSheet_in c_4
    refine lv_iload_n hx hb dX5_sheet_13 rfl (lv_at hl 2 rfl) ?_
    refine lv_i2l (v := i2.toInt64) hx hb dX5_sheet_14 rfl ?_
    refine lv_lconst (v := 0) hx hb dX5_sheet_15 (by decide) ?_
    refine lv_ldc2 (v := 2) hx hb hown kl_109 dX5_sheet_16 ?_
    have hPc : va_P (dC, dI) vwCl [] H := hP.sub (ws' := []) [] rfl
    have hDc : va_D A [] := hD.sub (ws' := []) [] (by decide) rfl
    have hKc := hK.sub (tys' := [(cI, .int)]) [0] rfl
    have hFc := va_free (wc := []) hD hS hA [] rfl
    refine va_calli (va_runS (As := [.long i2.toInt64, .long 0, .long 2]) (rest := []) ⟨hx, hb, hml, hown, hts⟩ (ctX5_in l dC dI cI H.size i2.toInt64 0 2) (va_cwS 3 hts gX5_sheet_X5_in rfl rfl rfl (by decide +kernel) ⟨Nat.le_of_ble_eq_true rfl, Nat.le_of_ble_eq_true rfl⟩) (pre_S hKc hN hPc hDc) rfl rfl hl.1 rfl (lv_room (Nat.le_of_ble_eq_true rfl)) dX5_sheet_19 ⟨Nat.le_of_ble_eq_true rfl, Nat.le_of_ble_eq_true rfl⟩) hS (fun q _ h => hFc q h) hFc (fun r _ t H locs ht hvm hw hB hz1 hk1 hS => ?_)
    try dsimp only at hw
    subst hw
    rw [ht] at hB
    obtain ⟨hP, hD⟩ := rw_join ([(m0, .inr (5, [.int mfa, .int mho, .ref m2, .ref m3, .ref m4, .int mra, .int mrh, .ref m7, .ref m8, .ref m9, .ref m10, .ref m11, .ref m12, .int mch, .int mfr, .int mfw, .int mrd, .ref m17, .ref m18, .ref m19, .ref m20, .ref m21, .ref m22, .ref m23, .int mtr])), (m20, .inl (cI, 4, .inl SZ)), (m21, .inl (cI, 4, .inl LN)), (m22, .inl (cI, 240, .inl SH))]) ([(m0, .inr (5, [.int mfa, .int mho, .ref m2, .ref m3, .ref m4, .int mra, .int mrh, .ref m7, .ref m8, .ref m9, .ref m10, .ref m11, .ref m12, .int mch, .int mfr, .int mfw, .int mrd, .ref m17, .ref m18, .ref m19, .ref m20, .ref m21, .ref m22, .ref m23, .int mtr])), (m20, .inl (cI, 4, .inl SZ)), (m21, .inl (cI, 4, .inl LN)), (m22, .inl (cI, 240, .inl SH))]) ([]) ([]) ([(m0, .inr (5, [.int mfa, .int mho, .ref m2, .ref m3, .ref m4, .int mra, .int mrh, .ref m7, .ref m8, .ref m9, .ref m10, .ref m11, .ref m12, .int mch, .int mfr, .int mfw, .int mrd, .ref m17, .ref m18, .ref m19, .ref m20, .ref m21, .ref m22, .ref m23, .int mtr])), (m20, .inl (cI, 4, .inl SZ)), (m21, .inl (cI, 4, .inl LN)), (m22, .inl (cI, 240, .inl SH))]) hP hD [] [0, 1, 2, 3] [m0, m20, m21, m22] 4 rfl rfl rfl rfl rfl (by decide) rfl rfl hk1 hB
    refine lv_if_eq (tgt := 31) hx hb dX5_sheet_22 (by decide) (fun c_22 => ?_) (fun c_22 => ?_)
    · skip
      refine lv_aload_n hx hb dX5_sheet_31 rfl (lv_at hl 0 rfl) ?_
      refine lv_bipush (v := (-2)) hx hb dX5_sheet_32 (by decide) ?_
      have hPc := hP.sub (ws' := [(m0, .inr (5, [.int mfa, .int mho, .ref m2, .ref m3, .ref m4, .int mra, .int mrh, .ref m7, .ref m8, .ref m9, .ref m10, .ref m11, .ref m12, .int mch, .int mfr, .int mfw, .int mrd, .ref m17, .ref m18, .ref m19, .ref m20, .ref m21, .ref m22, .ref m23, .int mtr]))]) [0] rfl
      have hDc := hD.sub (ws' := [(m0, .inr (5, [.int mfa, .int mho, .ref m2, .ref m3, .ref m4, .int mra, .int mrh, .ref m7, .ref m8, .ref m9, .ref m10, .ref m11, .ref m12, .int mch, .int mfr, .int mfw, .int mrd, .ref m17, .ref m18, .ref m19, .ref m20, .ref m21, .ref m22, .ref m23, .int mtr]))]) [0] (by decide) rfl
      have hKc := hK.sub (tys' := [(cI, .int)]) [0] rfl
      have hFc := va_free (wc := [(m0, .inr (5, [.int mfa, .int mho, .ref m2, .ref m3, .ref m4, .int mra, .int mrh, .ref m7, .ref m8, .ref m9, .ref m10, .ref m11, .ref m12, .int mch, .int mfr, .int mfw, .int mrd, .ref m17, .ref m18, .ref m19, .ref m20, .ref m21, .ref m22, .ref m23, .int mtr]))]) hD hS hA [0] rfl
      refine va_calli (va_runV (As := [.int (-2)]) (rest := []) ⟨hx, hb, hml, hown, hts⟩ (ctX5_refused l dC dI cI m0 m2 m3 m4 m7 m8 m9 m10 m11 m12 m17 m18 m19 m20 m21 m22 m23 H.size mfa mho mra mrh mch mfr mfw mrd mtr (-2)) (cwV 1 hts gX5_sheet_X5_refused rfl rfl rfl (by decide +kernel) ⟨Nat.le_of_ble_eq_true rfl, Nat.le_of_ble_eq_true rfl⟩) (pre_V hKc hN hPc hDc (RX5, TX5, 25) 5 0 rfl rfl) rfl rfl hl.1 rfl (lv_room (Nat.le_of_ble_eq_true rfl)) dX5_sheet_34 ⟨Nat.le_of_ble_eq_true rfl, Nat.le_of_ble_eq_true rfl⟩) hS (fun q _ h => hFc q h) hFc (fun r_34 _ t H locs ht hvm hw hB hz1 hk1 hS => ?_)
      try dsimp only at hw
      have er_34 := hw.symm
      rw [ht] at hB
      refine nm_gen ((p5_refused mfa (-2)).2) (fun mfa_34 emfa_34 => ?_)
      rw [emfa_34] at hB
      obtain ⟨hP, hD⟩ := rw_join ([(m0, .inr (5, [.int mfa, .int mho, .ref m2, .ref m3, .ref m4, .int mra, .int mrh, .ref m7, .ref m8, .ref m9, .ref m10, .ref m11, .ref m12, .int mch, .int mfr, .int mfw, .int mrd, .ref m17, .ref m18, .ref m19, .ref m20, .ref m21, .ref m22, .ref m23, .int mtr])), (m20, .inl (cI, 4, .inl SZ)), (m21, .inl (cI, 4, .inl LN)), (m22, .inl (cI, 240, .inl SH))]) ([(m0, .inr (5, [.int mfa_34, .int mho, .ref m2, .ref m3, .ref m4, .int mra, .int mrh, .ref m7, .ref m8, .ref m9, .ref m10, .ref m11, .ref m12, .int mch, .int mfr, .int mfw, .int mrd, .ref m17, .ref m18, .ref m19, .ref m20, .ref m21, .ref m22, .ref m23, .int mtr])), (m20, .inl (cI, 4, .inl SZ)), (m21, .inl (cI, 4, .inl LN)), (m22, .inl (cI, 240, .inl SH))]) ([(m0, .inr (5, [.int mfa, .int mho, .ref m2, .ref m3, .ref m4, .int mra, .int mrh, .ref m7, .ref m8, .ref m9, .ref m10, .ref m11, .ref m12, .int mch, .int mfr, .int mfw, .int mrd, .ref m17, .ref m18, .ref m19, .ref m20, .ref m21, .ref m22, .ref m23, .int mtr]))]) ([(m0, .inr (5, [.int mfa_34, .int mho, .ref m2, .ref m3, .ref m4, .int mra, .int mrh, .ref m7, .ref m8, .ref m9, .ref m10, .ref m11, .ref m12, .int mch, .int mfr, .int mfw, .int mrd, .ref m17, .ref m18, .ref m19, .ref m20, .ref m21, .ref m22, .ref m23, .int mtr]))]) ([(m20, .inl (cI, 4, .inl SZ)), (m21, .inl (cI, 4, .inl LN)), (m22, .inl (cI, 240, .inl SH))]) hP hD [0] [1, 2, 3] [m0, m20, m21, m22] 4 rfl rfl rfl rfl rfl (by decide) rfl rfl hk1 hB
      have hE9 : p5_sheet mfa SZ LN SH i1 i2 i3 = (r_34, mfa_34, SZ, LN, SH) := by unfold p5_sheet; simp only [er_34, emfa_34]; rw [if_pos c_4, if_pos c_22]
      exact W.iret (v := r_34) hx hb hr (fun t ht hW => ⟨⟨_, (), rfl, by rw [hE9], by show va_P (dC, dI) vwCl _ t.heap; rw [ht, hE9]; exact hP⟩, hS.F ht⟩) hS.2.2 dX5_sheet_37
    · skip
      refine lv_iload_n hx hb dX5_sheet_25 rfl (lv_at hl 3 rfl) ?_
      refine lv_bipush (v := 60) hx hb dX5_sheet_26 (by decide) ?_
      refine lv_icmp_le (tgt := 38) hx hb dX5_sheet_28 (by decide) (fun c_28 => ?_) (fun c_28 => ?_)
      · skip
        refine lv_iload_n hx hb dX5_sheet_38 rfl (lv_at hl 3 rfl) ?_
        refine lv_if_ge (tgt := 48) hx hb dX5_sheet_39 (by decide) (fun c_39 => ?_) (fun c_39 => ?_)
        · skip
          refine lv_aload_n hx hb dX5_sheet_48 rfl (lv_at hl 0 rfl) ?_
          refine va_get (D := (dC, dI)) (ci := 5) (v := .ref m20) (C := RX5) (T := TX5) (N := 25) hx hb hts hin5 hown hK hP 0 rfl rfl 20 (by decide) kf_46 (fun _ h9 => h9) rfl dX5_sheet_49 ?_
          refine lv_iload_n hx hb dX5_sheet_52 rfl (lv_at hl 1 rfl) ?_
          refine lv_iload_n hx hb dX5_sheet_53 rfl (lv_at hl 3 rfl) ?_
          refine va_iast hx hb hK hP hD hS 1 0 rfl rfl (by assumption) dX5_sheet_54 (fun H locs hP hD hS => ?_)
          have hP : va_P (dC, dI) vwCl ([(m0, .inr (5, [.int mfa, .int mho, .ref m2, .ref m3, .ref m4, .int mra, .int mrh, .ref m7, .ref m8, .ref m9, .ref m10, .ref m11, .ref m12, .int mch, .int mfr, .int mfw, .int mrd, .ref m17, .ref m18, .ref m19, .ref m20, .ref m21, .ref m22, .ref m23, .int mtr])), (m20, .inl (cI, 4, .inl (upd SZ i1.toNatClampNeg i3))), (m21, .inl (cI, 4, .inl LN)), (m22, .inl (cI, 240, .inl SH))]) H := hP
          have hD : va_D A ([(m0, .inr (5, [.int mfa, .int mho, .ref m2, .ref m3, .ref m4, .int mra, .int mrh, .ref m7, .ref m8, .ref m9, .ref m10, .ref m11, .ref m12, .int mch, .int mfr, .int mfw, .int mrd, .ref m17, .ref m18, .ref m19, .ref m20, .ref m21, .ref m22, .ref m23, .int mtr])), (m20, .inl (cI, 4, .inl (upd SZ i1.toNatClampNeg i3))), (m21, .inl (cI, 4, .inl LN)), (m22, .inl (cI, 240, .inl SH))]) := hD
          refine lv_aload_n hx hb dX5_sheet_55 rfl (lv_at hl 0 rfl) ?_
          refine va_get (D := (dC, dI)) (ci := 5) (v := .ref m21) (C := RX5) (T := TX5) (N := 25) hx hb hts hin5 hown hK hP 0 rfl rfl 21 (by decide) kf_49 (fun _ h9 => h9) rfl dX5_sheet_56 ?_
          refine lv_iload_n hx hb dX5_sheet_59 rfl (lv_at hl 1 rfl) ?_
          refine lv_iload_n hx hb dX5_sheet_60 rfl (lv_at hl 2 rfl) ?_
          refine va_iast hx hb hK hP hD hS 2 0 rfl rfl (by assumption) dX5_sheet_61 (fun H locs hP hD hS => ?_)
          have hP : va_P (dC, dI) vwCl ([(m0, .inr (5, [.int mfa, .int mho, .ref m2, .ref m3, .ref m4, .int mra, .int mrh, .ref m7, .ref m8, .ref m9, .ref m10, .ref m11, .ref m12, .int mch, .int mfr, .int mfw, .int mrd, .ref m17, .ref m18, .ref m19, .ref m20, .ref m21, .ref m22, .ref m23, .int mtr])), (m20, .inl (cI, 4, .inl (upd SZ i1.toNatClampNeg i3))), (m21, .inl (cI, 4, .inl (upd LN i1.toNatClampNeg i2))), (m22, .inl (cI, 240, .inl SH))]) H := hP
          have hD : va_D A ([(m0, .inr (5, [.int mfa, .int mho, .ref m2, .ref m3, .ref m4, .int mra, .int mrh, .ref m7, .ref m8, .ref m9, .ref m10, .ref m11, .ref m12, .int mch, .int mfr, .int mfw, .int mrd, .ref m17, .ref m18, .ref m19, .ref m20, .ref m21, .ref m22, .ref m23, .int mtr])), (m20, .inl (cI, 4, .inl (upd SZ i1.toNatClampNeg i3))), (m21, .inl (cI, 4, .inl (upd LN i1.toNatClampNeg i2))), (m22, .inl (cI, 240, .inl SH))]) := hD
          refine lv_iconst (v := 0) hx hb dX5_sheet_62 (by decide) ?_
          refine lv_istore (lv' := [(4, .int 0), (0, .ref m0), (1, .int i1), (2, .int i2), (3, .int i3)]) hx hb dX5_sheet_63 hl (by decide) rfl (fun ls hl => ?_)
          exact lp_65 61 0 SH _ _ _ (up_i 60 (by decide) (le60 c_28)) j1 (le60 c_28) hP hD hS (lv_sub hl [0, 1, 2, 3, 4] rfl) (by unfold p5_sheet; rw [if_pos c_4, if_neg c_22, if_pos c_28, if_pos c_39])
        · skip
          refine lv_aload_n hx hb dX5_sheet_42 rfl (lv_at hl 0 rfl) ?_
          refine lv_iconst (v := 4) hx hb dX5_sheet_43 (by decide) ?_
          have hPc := hP.sub (ws' := [(m0, .inr (5, [.int mfa, .int mho, .ref m2, .ref m3, .ref m4, .int mra, .int mrh, .ref m7, .ref m8, .ref m9, .ref m10, .ref m11, .ref m12, .int mch, .int mfr, .int mfw, .int mrd, .ref m17, .ref m18, .ref m19, .ref m20, .ref m21, .ref m22, .ref m23, .int mtr]))]) [0] rfl
          have hDc := hD.sub (ws' := [(m0, .inr (5, [.int mfa, .int mho, .ref m2, .ref m3, .ref m4, .int mra, .int mrh, .ref m7, .ref m8, .ref m9, .ref m10, .ref m11, .ref m12, .int mch, .int mfr, .int mfw, .int mrd, .ref m17, .ref m18, .ref m19, .ref m20, .ref m21, .ref m22, .ref m23, .int mtr]))]) [0] (by decide) rfl
          have hKc := hK.sub (tys' := [(cI, .int)]) [0] rfl
          have hFc := va_free (wc := [(m0, .inr (5, [.int mfa, .int mho, .ref m2, .ref m3, .ref m4, .int mra, .int mrh, .ref m7, .ref m8, .ref m9, .ref m10, .ref m11, .ref m12, .int mch, .int mfr, .int mfw, .int mrd, .ref m17, .ref m18, .ref m19, .ref m20, .ref m21, .ref m22, .ref m23, .int mtr]))]) hD hS hA [0] rfl
          refine va_calli (va_runV (As := [.int 4]) (rest := []) ⟨hx, hb, hml, hown, hts⟩ (ctX5_failed l dC dI cI m0 m2 m3 m4 m7 m8 m9 m10 m11 m12 m17 m18 m19 m20 m21 m22 m23 H.size mfa mho mra mrh mch mfr mfw mrd mtr 4) (cwV 1 hts gX5_sheet_X5_failed rfl rfl rfl (by decide +kernel) ⟨Nat.le_of_ble_eq_true rfl, Nat.le_of_ble_eq_true rfl⟩) (pre_V hKc hN hPc hDc (RX5, TX5, 25) 5 0 rfl rfl) rfl rfl hl.1 rfl (lv_room (Nat.le_of_ble_eq_true rfl)) dX5_sheet_44 ⟨Nat.le_of_ble_eq_true rfl, Nat.le_of_ble_eq_true rfl⟩) hS (fun q _ h => hFc q h) hFc (fun r_44 _ t H locs ht hvm hw hB hz1 hk1 hS => ?_)
          try dsimp only at hw
          have er_44 := hw.symm
          rw [ht] at hB
          refine nm_gen ((p5_failed mfa 4).2) (fun mfa_44 emfa_44 => ?_)
          rw [emfa_44] at hB
          obtain ⟨hP, hD⟩ := rw_join ([(m0, .inr (5, [.int mfa, .int mho, .ref m2, .ref m3, .ref m4, .int mra, .int mrh, .ref m7, .ref m8, .ref m9, .ref m10, .ref m11, .ref m12, .int mch, .int mfr, .int mfw, .int mrd, .ref m17, .ref m18, .ref m19, .ref m20, .ref m21, .ref m22, .ref m23, .int mtr])), (m20, .inl (cI, 4, .inl SZ)), (m21, .inl (cI, 4, .inl LN)), (m22, .inl (cI, 240, .inl SH))]) ([(m0, .inr (5, [.int mfa_44, .int mho, .ref m2, .ref m3, .ref m4, .int mra, .int mrh, .ref m7, .ref m8, .ref m9, .ref m10, .ref m11, .ref m12, .int mch, .int mfr, .int mfw, .int mrd, .ref m17, .ref m18, .ref m19, .ref m20, .ref m21, .ref m22, .ref m23, .int mtr])), (m20, .inl (cI, 4, .inl SZ)), (m21, .inl (cI, 4, .inl LN)), (m22, .inl (cI, 240, .inl SH))]) ([(m0, .inr (5, [.int mfa, .int mho, .ref m2, .ref m3, .ref m4, .int mra, .int mrh, .ref m7, .ref m8, .ref m9, .ref m10, .ref m11, .ref m12, .int mch, .int mfr, .int mfw, .int mrd, .ref m17, .ref m18, .ref m19, .ref m20, .ref m21, .ref m22, .ref m23, .int mtr]))]) ([(m0, .inr (5, [.int mfa_44, .int mho, .ref m2, .ref m3, .ref m4, .int mra, .int mrh, .ref m7, .ref m8, .ref m9, .ref m10, .ref m11, .ref m12, .int mch, .int mfr, .int mfw, .int mrd, .ref m17, .ref m18, .ref m19, .ref m20, .ref m21, .ref m22, .ref m23, .int mtr]))]) ([(m20, .inl (cI, 4, .inl SZ)), (m21, .inl (cI, 4, .inl LN)), (m22, .inl (cI, 240, .inl SH))]) hP hD [0] [1, 2, 3] [m0, m20, m21, m22] 4 rfl rfl rfl rfl rfl (by decide) rfl rfl hk1 hB
          have hE9 : p5_sheet mfa SZ LN SH i1 i2 i3 = (r_44, mfa_44, SZ, LN, SH) := by unfold p5_sheet; simp only [er_44, emfa_44]; rw [if_pos c_4, if_neg c_22, if_pos c_28, if_neg c_39]
          exact W.iret (v := r_44) hx hb hr (fun t ht hW => ⟨⟨_, (), rfl, by rw [hE9], by show va_P (dC, dI) vwCl _ t.heap; rw [ht, hE9]; exact hP⟩, hS.F ht⟩) hS.2.2 dX5_sheet_47
      · skip
        refine lv_aload_n hx hb dX5_sheet_31 rfl (lv_at hl 0 rfl) ?_
        refine lv_bipush (v := (-2)) hx hb dX5_sheet_32 (by decide) ?_
        have hPc := hP.sub (ws' := [(m0, .inr (5, [.int mfa, .int mho, .ref m2, .ref m3, .ref m4, .int mra, .int mrh, .ref m7, .ref m8, .ref m9, .ref m10, .ref m11, .ref m12, .int mch, .int mfr, .int mfw, .int mrd, .ref m17, .ref m18, .ref m19, .ref m20, .ref m21, .ref m22, .ref m23, .int mtr]))]) [0] rfl
        have hDc := hD.sub (ws' := [(m0, .inr (5, [.int mfa, .int mho, .ref m2, .ref m3, .ref m4, .int mra, .int mrh, .ref m7, .ref m8, .ref m9, .ref m10, .ref m11, .ref m12, .int mch, .int mfr, .int mfw, .int mrd, .ref m17, .ref m18, .ref m19, .ref m20, .ref m21, .ref m22, .ref m23, .int mtr]))]) [0] (by decide) rfl
        have hKc := hK.sub (tys' := [(cI, .int)]) [0] rfl
        have hFc := va_free (wc := [(m0, .inr (5, [.int mfa, .int mho, .ref m2, .ref m3, .ref m4, .int mra, .int mrh, .ref m7, .ref m8, .ref m9, .ref m10, .ref m11, .ref m12, .int mch, .int mfr, .int mfw, .int mrd, .ref m17, .ref m18, .ref m19, .ref m20, .ref m21, .ref m22, .ref m23, .int mtr]))]) hD hS hA [0] rfl
        refine va_calli (va_runV (As := [.int (-2)]) (rest := []) ⟨hx, hb, hml, hown, hts⟩ (ctX5_refused l dC dI cI m0 m2 m3 m4 m7 m8 m9 m10 m11 m12 m17 m18 m19 m20 m21 m22 m23 H.size mfa mho mra mrh mch mfr mfw mrd mtr (-2)) (cwV 1 hts gX5_sheet_X5_refused rfl rfl rfl (by decide +kernel) ⟨Nat.le_of_ble_eq_true rfl, Nat.le_of_ble_eq_true rfl⟩) (pre_V hKc hN hPc hDc (RX5, TX5, 25) 5 0 rfl rfl) rfl rfl hl.1 rfl (lv_room (Nat.le_of_ble_eq_true rfl)) dX5_sheet_34 ⟨Nat.le_of_ble_eq_true rfl, Nat.le_of_ble_eq_true rfl⟩) hS (fun q _ h => hFc q h) hFc (fun r_34 _ t H locs ht hvm hw hB hz1 hk1 hS => ?_)
        try dsimp only at hw
        have er_34 := hw.symm
        rw [ht] at hB
        refine nm_gen ((p5_refused mfa (-2)).2) (fun mfa_34 emfa_34 => ?_)
        rw [emfa_34] at hB
        obtain ⟨hP, hD⟩ := rw_join ([(m0, .inr (5, [.int mfa, .int mho, .ref m2, .ref m3, .ref m4, .int mra, .int mrh, .ref m7, .ref m8, .ref m9, .ref m10, .ref m11, .ref m12, .int mch, .int mfr, .int mfw, .int mrd, .ref m17, .ref m18, .ref m19, .ref m20, .ref m21, .ref m22, .ref m23, .int mtr])), (m20, .inl (cI, 4, .inl SZ)), (m21, .inl (cI, 4, .inl LN)), (m22, .inl (cI, 240, .inl SH))]) ([(m0, .inr (5, [.int mfa_34, .int mho, .ref m2, .ref m3, .ref m4, .int mra, .int mrh, .ref m7, .ref m8, .ref m9, .ref m10, .ref m11, .ref m12, .int mch, .int mfr, .int mfw, .int mrd, .ref m17, .ref m18, .ref m19, .ref m20, .ref m21, .ref m22, .ref m23, .int mtr])), (m20, .inl (cI, 4, .inl SZ)), (m21, .inl (cI, 4, .inl LN)), (m22, .inl (cI, 240, .inl SH))]) ([(m0, .inr (5, [.int mfa, .int mho, .ref m2, .ref m3, .ref m4, .int mra, .int mrh, .ref m7, .ref m8, .ref m9, .ref m10, .ref m11, .ref m12, .int mch, .int mfr, .int mfw, .int mrd, .ref m17, .ref m18, .ref m19, .ref m20, .ref m21, .ref m22, .ref m23, .int mtr]))]) ([(m0, .inr (5, [.int mfa_34, .int mho, .ref m2, .ref m3, .ref m4, .int mra, .int mrh, .ref m7, .ref m8, .ref m9, .ref m10, .ref m11, .ref m12, .int mch, .int mfr, .int mfw, .int mrd, .ref m17, .ref m18, .ref m19, .ref m20, .ref m21, .ref m22, .ref m23, .int mtr]))]) ([(m20, .inl (cI, 4, .inl SZ)), (m21, .inl (cI, 4, .inl LN)), (m22, .inl (cI, 240, .inl SH))]) hP hD [0] [1, 2, 3] [m0, m20, m21, m22] 4 rfl rfl rfl rfl rfl (by decide) rfl rfl hk1 hB
        have hE9 : p5_sheet mfa SZ LN SH i1 i2 i3 = (r_34, mfa_34, SZ, LN, SH) := by unfold p5_sheet; simp only [er_34, emfa_34]; rw [if_pos c_4, if_neg c_22, if_neg c_28]
        exact W.iret (v := r_34) hx hb hr (fun t ht hW => ⟨⟨_, (), rfl, by rw [hE9], by show va_P (dC, dI) vwCl _ t.heap; rw [ht, hE9]; exact hP⟩, hS.F ht⟩) hS.2.2 dX5_sheet_37
  · skip
    refine lv_aload_n hx hb dX5_sheet_7 rfl (lv_at hl 0 rfl) ?_
    refine lv_iconst (v := (-1)) hx hb dX5_sheet_8 (by decide) ?_
    have hPc := hP.sub (ws' := [(m0, .inr (5, [.int mfa, .int mho, .ref m2, .ref m3, .ref m4, .int mra, .int mrh, .ref m7, .ref m8, .ref m9, .ref m10, .ref m11, .ref m12, .int mch, .int mfr, .int mfw, .int mrd, .ref m17, .ref m18, .ref m19, .ref m20, .ref m21, .ref m22, .ref m23, .int mtr]))]) [0] rfl
    have hDc := hD.sub (ws' := [(m0, .inr (5, [.int mfa, .int mho, .ref m2, .ref m3, .ref m4, .int mra, .int mrh, .ref m7, .ref m8, .ref m9, .ref m10, .ref m11, .ref m12, .int mch, .int mfr, .int mfw, .int mrd, .ref m17, .ref m18, .ref m19, .ref m20, .ref m21, .ref m22, .ref m23, .int mtr]))]) [0] (by decide) rfl
    have hKc := hK.sub (tys' := [(cI, .int)]) [0] rfl
    have hFc := va_free (wc := [(m0, .inr (5, [.int mfa, .int mho, .ref m2, .ref m3, .ref m4, .int mra, .int mrh, .ref m7, .ref m8, .ref m9, .ref m10, .ref m11, .ref m12, .int mch, .int mfr, .int mfw, .int mrd, .ref m17, .ref m18, .ref m19, .ref m20, .ref m21, .ref m22, .ref m23, .int mtr]))]) hD hS hA [0] rfl
    refine va_calli (va_runV (As := [.int (-1)]) (rest := []) ⟨hx, hb, hml, hown, hts⟩ (ctX5_refused l dC dI cI m0 m2 m3 m4 m7 m8 m9 m10 m11 m12 m17 m18 m19 m20 m21 m22 m23 H.size mfa mho mra mrh mch mfr mfw mrd mtr (-1)) (cwV 1 hts gX5_sheet_X5_refused rfl rfl rfl (by decide +kernel) ⟨Nat.le_of_ble_eq_true rfl, Nat.le_of_ble_eq_true rfl⟩) (pre_V hKc hN hPc hDc (RX5, TX5, 25) 5 0 rfl rfl) rfl rfl hl.1 rfl (lv_room (Nat.le_of_ble_eq_true rfl)) dX5_sheet_9 ⟨Nat.le_of_ble_eq_true rfl, Nat.le_of_ble_eq_true rfl⟩) hS (fun q _ h => hFc q h) hFc (fun r_9 _ t H locs ht hvm hw hB hz1 hk1 hS => ?_)
    try dsimp only at hw
    have er_9 := hw.symm
    rw [ht] at hB
    refine nm_gen ((p5_refused mfa (-1)).2) (fun mfa_9 emfa_9 => ?_)
    rw [emfa_9] at hB
    obtain ⟨hP, hD⟩ := rw_join ([(m0, .inr (5, [.int mfa, .int mho, .ref m2, .ref m3, .ref m4, .int mra, .int mrh, .ref m7, .ref m8, .ref m9, .ref m10, .ref m11, .ref m12, .int mch, .int mfr, .int mfw, .int mrd, .ref m17, .ref m18, .ref m19, .ref m20, .ref m21, .ref m22, .ref m23, .int mtr])), (m20, .inl (cI, 4, .inl SZ)), (m21, .inl (cI, 4, .inl LN)), (m22, .inl (cI, 240, .inl SH))]) ([(m0, .inr (5, [.int mfa_9, .int mho, .ref m2, .ref m3, .ref m4, .int mra, .int mrh, .ref m7, .ref m8, .ref m9, .ref m10, .ref m11, .ref m12, .int mch, .int mfr, .int mfw, .int mrd, .ref m17, .ref m18, .ref m19, .ref m20, .ref m21, .ref m22, .ref m23, .int mtr])), (m20, .inl (cI, 4, .inl SZ)), (m21, .inl (cI, 4, .inl LN)), (m22, .inl (cI, 240, .inl SH))]) ([(m0, .inr (5, [.int mfa, .int mho, .ref m2, .ref m3, .ref m4, .int mra, .int mrh, .ref m7, .ref m8, .ref m9, .ref m10, .ref m11, .ref m12, .int mch, .int mfr, .int mfw, .int mrd, .ref m17, .ref m18, .ref m19, .ref m20, .ref m21, .ref m22, .ref m23, .int mtr]))]) ([(m0, .inr (5, [.int mfa_9, .int mho, .ref m2, .ref m3, .ref m4, .int mra, .int mrh, .ref m7, .ref m8, .ref m9, .ref m10, .ref m11, .ref m12, .int mch, .int mfr, .int mfw, .int mrd, .ref m17, .ref m18, .ref m19, .ref m20, .ref m21, .ref m22, .ref m23, .int mtr]))]) ([(m20, .inl (cI, 4, .inl SZ)), (m21, .inl (cI, 4, .inl LN)), (m22, .inl (cI, 240, .inl SH))]) hP hD [0] [1, 2, 3] [m0, m20, m21, m22] 4 rfl rfl rfl rfl rfl (by decide) rfl rfl hk1 hB
    have hE9 : p5_sheet mfa SZ LN SH i1 i2 i3 = (r_9, mfa_9, SZ, LN, SH) := by unfold p5_sheet; simp only [er_9, emfa_9]; rw [if_neg c_4]
    exact W.iret (v := r_9) hx hb hr (fun t ht hW => ⟨⟨_, (), rfl, by rw [hE9], by show va_P (dC, dI) vwCl _ t.heap; rw [ht, hE9]; exact hP⟩, hS.F ht⟩) hS.2.2 dX5_sheet_12

def p5_lose (SZ : Nat → Int32) (i1 : Int32) : Int32 × (Nat → Int32) :=
  if (p5_noSheet i1) = 0 then
    if 0 ≤ (SZ i1.toNatClampNeg) then
      (1, (upd SZ i1.toNatClampNeg (-1)))
    else
      (0, (upd SZ i1.toNatClampNeg (-1)))
  else
    ((-1), SZ)
abbrev rmX5_lose : Room := { frames := 2, cells := 0, slots := 0, locals := 45 }
abbrev QX5_lose (dC : Nat → ClassId) (dI : Nat → Nat → Nat) (A : Nat → Prop) (cI : ClassId) (m0 : Nat) (m2 : Nat) (m3 : Nat) (m4 : Nat) (m7 : Nat) (m8 : Nat) (m9 : Nat) (m10 : Nat) (m11 : Nat) (m12 : Nat) (m17 : Nat) (m18 : Nat) (m19 : Nat) (m20 : Nat) (m21 : Nat) (m22 : Nat) (m23 : Nat) (mfa : Int32) (mho : Int32) (mra : Int32) (mrh : Int32) (mch : Int32) (mfr : Int32) (mfw : Int32) (mrd : Int32) (mtr : Int32) (SZ : Nat → Int32) (i1 : Int32) : Array Value → State → Outcome → State → Prop := va_Qi (fun (r : Int32) (_ : Unit) => r = (p5_lose SZ i1).1) (fun (_ : Unit) (t : State) => va_P (dC, dI) vwCl ([(m0, .inr (5, [.int mfa, .int mho, .ref m2, .ref m3, .ref m4, .int mra, .int mrh, .ref m7, .ref m8, .ref m9, .ref m10, .ref m11, .ref m12, .int mch, .int mfr, .int mfw, .int mrd, .ref m17, .ref m18, .ref m19, .ref m20, .ref m21, .ref m22, .ref m23, .int mtr])), (m20, .inl (cI, 4, .inl ((p5_lose SZ i1).2)))]) t.heap) A
set_option maxHeartbeats 4000000 in
set_option maxRecDepth 100000 in
theorem ctX5_lose (l : Launch) (dC : Nat → ClassId) (dI : Nat → Nat → Nat) (cI : ClassId) (m0 : Nat) (m2 : Nat) (m3 : Nat) (m4 : Nat) (m7 : Nat) (m8 : Nat) (m9 : Nat) (m10 : Nat) (m11 : Nat) (m12 : Nat) (m17 : Nat) (m18 : Nat) (m19 : Nat) (m20 : Nat) (m21 : Nat) (m22 : Nat) (m23 : Nat) (sz : Nat) (mfa : Int32) (mho : Int32) (mra : Int32) (mrh : Int32) (mch : Int32) (mfr : Int32) (mfw : Int32) (mrd : Int32) (mtr : Int32) (SZ : Nat → Int32) (i1 : Int32) : Met l yX5_lose wsX5_lose rmX5_lose (va_Pc [.ref m0, .int i1] (cP dC dI [(cI, .int)] ([(m0, .inr (5, [.int mfa, .int mho, .ref m2, .ref m3, .ref m4, .int mra, .int mrh, .ref m7, .ref m8, .ref m9, .ref m10, .ref m11, .ref m12, .int mch, .int mfr, .int mfw, .int mrd, .ref m17, .ref m18, .ref m19, .ref m20, .ref m21, .ref m22, .ref m23, .int mtr])), (m20, .inl (cI, 4, .inl SZ))]) sz)) (QX5_lose dC dI (va_A ([(m0, .inr (5, [.int mfa, .int mho, .ref m2, .ref m3, .ref m4, .int mra, .int mrh, .ref m7, .ref m8, .ref m9, .ref m10, .ref m11, .ref m12, .int mch, .int mfr, .int mfw, .int mrd, .ref m17, .ref m18, .ref m19, .ref m20, .ref m21, .ref m22, .ref m23, .int mtr])), (m20, .inl (cI, 4, .inl SZ))]) sz) cI m0 m2 m3 m4 m7 m8 m9 m10 m11 m12 m17 m18 m19 m20 m21 m22 m23 mfa mho mra mrh mch mfr mfw mrd mtr SZ i1) 0 0 (va_A ([(m0, .inr (5, [.int mfa, .int mho, .ref m2, .ref m3, .ref m4, .int mra, .int mrh, .ref m7, .ref m8, .ref m9, .ref m10, .ref m11, .ref m12, .int mch, .int mfr, .int mfw, .int mrd, .ref m17, .ref m18, .ref m19, .ref m20, .ref m21, .ref m22, .ref m23, .int mtr])), (m20, .inl (cI, 4, .inl SZ))]) sz) := by
  refine Met.ofW (cc := cX5_lose) (maxL := 3) (ret := (some .int)) (by decide) rfl ?_
  intro p e s m args below meth c s₁ B hml hv
  obtain ⟨rfl, hsz, hP, hK, hD0, hN⟩ := hv
  have hx := B.exec
  have hb := B.bytes
  have hr := B.returns
  have hts := atoms_spec (ws := wsX5_lose) B.pre
  have hown : s.vm.findClass RX5 = some m.cls := findClass_of_methodNamed B.named
  have hlocks := B.notSynchronized
  subst hsz
  have hD := hD0.self (sz := s.heap.size)
  generalize hAe : va_A ([(m0, .inr (5, [.int mfa, .int mho, .ref m2, .ref m3, .ref m4, .int mra, .int mrh, .ref m7, .ref m8, .ref m9, .ref m10, .ref m11, .ref m12, .int mch, .int mfr, .int mfw, .int mrd, .ref m17, .ref m18, .ref m19, .ref m20, .ref m21, .ref m22, .ref m23, .int mtr])), (m20, .inl (cI, 4, .inl SZ))]) s.heap.size = A at hD ⊢
  have hA : ∀ q : Nat, s.heap.size ≤ q → A q := fun q h => by rw [← hAe]; exact Or.inr h
  have hS : va_S A s.heap s.heap [] := va_S.rf
  have hP : va_P (dC, dI) vwCl ([(m0, .inr (5, [.int mfa, .int mho, .ref m2, .ref m3, .ref m4, .int mra, .int mrh, .ref m7, .ref m8, .ref m9, .ref m10, .ref m11, .ref m12, .int mch, .int mfr, .int mfw, .int mrd, .ref m17, .ref m18, .ref m19, .ref m20, .ref m21, .ref m22, .ref m23, .int mtr])), (m20, .inl (cI, 4, .inl SZ))]) s.heap := hP
  have hin5 : ∀ w ∈ wsX50, w ∈ wsX5_lose := by decide +kernel
  have kf_46 := hts (.fieldLink RX5 46 "RicherChangeModel" "sheetSize" "[I") (by decide +kernel)
  have hl := lv_entry ([.ref m0, .int i1]) (n := 3) (Nat.le_of_ble_eq_true rfl)
  rw [lg_entry_eq]
  generalize (lg_sl ([.ref m0, .int i1]) ++ List.replicate (3 - (lg_sl ([.ref m0, .int i1])).length) Slot.unset).toArray = ls at hl ⊢
  have hl : lv_has ls 3 [(0, .ref m0), (1, .int i1)] := hl
  refine lv_iload_n hx hb dX5_lose_0 rfl (lv_at hl 1 rfl) ?_
  have hPc : va_P (dC, dI) vwCl [] s.heap := hP.sub (ws' := []) [] rfl
  have hDc : va_D A [] := hD.sub (ws' := []) [] (by decide) rfl
  have hKc := hK.sub (tys' := [(cI, .int)]) [0] rfl
  have hFc := va_free (wc := []) hD hS hA [] rfl
  refine va_calli (va_runS (As := [.int i1]) (rest := []) ⟨hx, hb, hml, hown, hts⟩ (ctX5_noSheet l dC dI cI s.heap.size i1) (va_cwS 1 hts gX5_lose_X5_noSheet rfl rfl rfl (by decide +kernel) ⟨Nat.le_of_ble_eq_true rfl, Nat.le_of_ble_eq_true rfl⟩) (pre_S hKc hN hPc hDc) rfl rfl hl.1 rfl (lv_room (Nat.le_of_ble_eq_true rfl)) dX5_lose_1 ⟨Nat.le_of_ble_eq_true rfl, Nat.le_of_ble_eq_true rfl⟩) hS (fun q _ h => hFc q h) hFc (fun r _ t H locs ht hvm hw hB hz1 hk1 hS => ?_)
  try dsimp only at hw
  subst hw
  rw [ht] at hB
  obtain ⟨hP, hD⟩ := rw_join ([(m0, .inr (5, [.int mfa, .int mho, .ref m2, .ref m3, .ref m4, .int mra, .int mrh, .ref m7, .ref m8, .ref m9, .ref m10, .ref m11, .ref m12, .int mch, .int mfr, .int mfw, .int mrd, .ref m17, .ref m18, .ref m19, .ref m20, .ref m21, .ref m22, .ref m23, .int mtr])), (m20, .inl (cI, 4, .inl SZ))]) ([(m0, .inr (5, [.int mfa, .int mho, .ref m2, .ref m3, .ref m4, .int mra, .int mrh, .ref m7, .ref m8, .ref m9, .ref m10, .ref m11, .ref m12, .int mch, .int mfr, .int mfw, .int mrd, .ref m17, .ref m18, .ref m19, .ref m20, .ref m21, .ref m22, .ref m23, .int mtr])), (m20, .inl (cI, 4, .inl SZ))]) ([]) ([]) ([(m0, .inr (5, [.int mfa, .int mho, .ref m2, .ref m3, .ref m4, .int mra, .int mrh, .ref m7, .ref m8, .ref m9, .ref m10, .ref m11, .ref m12, .int mch, .int mfr, .int mfw, .int mrd, .ref m17, .ref m18, .ref m19, .ref m20, .ref m21, .ref m22, .ref m23, .int mtr])), (m20, .inl (cI, 4, .inl SZ))]) hP hD [] [0, 1] [m0, m20] 2 rfl rfl rfl rfl rfl (by decide) rfl rfl hk1 hB
  refine lv_if_eq (tgt := 9) hx hb dX5_lose_4 (by decide) (fun c_4 => ?_) (fun c_4 => ?_)
  · skip
    have j1 : vp_in i1 4 := noSheet_in c_4
    refine lv_aload_n hx hb dX5_lose_9 rfl (lv_at hl 0 rfl) ?_
    refine va_get (D := (dC, dI)) (ci := 5) (v := .ref m20) (C := RX5) (T := TX5) (N := 25) hx hb hts hin5 hown hK hP 0 rfl rfl 20 (by decide) kf_46 (fun _ h9 => h9) rfl dX5_lose_10 ?_
    refine lv_iload_n hx hb dX5_lose_13 rfl (lv_at hl 1 rfl) ?_
    refine va_iald hx hb hK hP 1 0 rfl rfl (by assumption) dX5_lose_14 ?_
    refine lv_if_ge (tgt := 22) hx hb dX5_lose_15 (by decide) (fun c_15 => ?_) (fun c_15 => ?_)
    · skip
      refine lv_iconst (v := 1) hx hb dX5_lose_22 (by decide) ?_
      refine lv_istore_n (lv' := [(2, .int 1), (0, .ref m0), (1, .int i1)]) hx hb dX5_lose_23 rfl hl (by decide) rfl (fun ls hl => ?_)
      refine lv_aload_n hx hb dX5_lose_24 rfl (lv_at hl 1 rfl) ?_
      refine va_get (D := (dC, dI)) (ci := 5) (v := .ref m20) (C := RX5) (T := TX5) (N := 25) hx hb hts hin5 hown hK hP 0 rfl rfl 20 (by decide) kf_46 (fun _ h9 => h9) rfl dX5_lose_25 ?_
      refine lv_iload_n hx hb dX5_lose_28 rfl (lv_at hl 2 rfl) ?_
      refine lv_iconst (v := (-1)) hx hb dX5_lose_29 (by decide) ?_
      refine va_iast hx hb hK hP hD hS 1 0 rfl rfl (by assumption) dX5_lose_30 (fun H locs hP hD hS => ?_)
      have hP : va_P (dC, dI) vwCl ([(m0, .inr (5, [.int mfa, .int mho, .ref m2, .ref m3, .ref m4, .int mra, .int mrh, .ref m7, .ref m8, .ref m9, .ref m10, .ref m11, .ref m12, .int mch, .int mfr, .int mfw, .int mrd, .ref m17, .ref m18, .ref m19, .ref m20, .ref m21, .ref m22, .ref m23, .int mtr])), (m20, .inl (cI, 4, .inl (upd SZ i1.toNatClampNeg (-1))))]) H := hP
      have hD : va_D A ([(m0, .inr (5, [.int mfa, .int mho, .ref m2, .ref m3, .ref m4, .int mra, .int mrh, .ref m7, .ref m8, .ref m9, .ref m10, .ref m11, .ref m12, .int mch, .int mfr, .int mfw, .int mrd, .ref m17, .ref m18, .ref m19, .ref m20, .ref m21, .ref m22, .ref m23, .int mtr])), (m20, .inl (cI, 4, .inl (upd SZ i1.toNatClampNeg (-1))))]) := hD
      refine lv_iload_n hx hb dX5_lose_31 rfl (lv_at hl 0 rfl) ?_
      have hE9 : p5_lose SZ i1 = (1, (upd SZ i1.toNatClampNeg (-1))) := by unfold p5_lose; rw [if_pos c_4, if_pos c_15]
      exact W.iret (v := 1) hx hb hr (fun t ht hW => ⟨⟨_, (), rfl, by rw [hE9], by show va_P (dC, dI) vwCl _ t.heap; rw [ht, hE9]; exact hP⟩, hS.F ht⟩) hS.2.2 dX5_lose_32
    · skip
      refine lv_iconst (v := 0) hx hb dX5_lose_18 (by decide) ?_
      refine lv_goto (tgt := 23) hx hb dX5_lose_19 (by decide) ?_
      refine lv_istore_n (lv' := [(2, .int 0), (0, .ref m0), (1, .int i1)]) hx hb dX5_lose_23 rfl hl (by decide) rfl (fun ls hl => ?_)
      refine lv_aload_n hx hb dX5_lose_24 rfl (lv_at hl 1 rfl) ?_
      refine va_get (D := (dC, dI)) (ci := 5) (v := .ref m20) (C := RX5) (T := TX5) (N := 25) hx hb hts hin5 hown hK hP 0 rfl rfl 20 (by decide) kf_46 (fun _ h9 => h9) rfl dX5_lose_25 ?_
      refine lv_iload_n hx hb dX5_lose_28 rfl (lv_at hl 2 rfl) ?_
      refine lv_iconst (v := (-1)) hx hb dX5_lose_29 (by decide) ?_
      refine va_iast hx hb hK hP hD hS 1 0 rfl rfl (by assumption) dX5_lose_30 (fun H locs hP hD hS => ?_)
      have hP : va_P (dC, dI) vwCl ([(m0, .inr (5, [.int mfa, .int mho, .ref m2, .ref m3, .ref m4, .int mra, .int mrh, .ref m7, .ref m8, .ref m9, .ref m10, .ref m11, .ref m12, .int mch, .int mfr, .int mfw, .int mrd, .ref m17, .ref m18, .ref m19, .ref m20, .ref m21, .ref m22, .ref m23, .int mtr])), (m20, .inl (cI, 4, .inl (upd SZ i1.toNatClampNeg (-1))))]) H := hP
      have hD : va_D A ([(m0, .inr (5, [.int mfa, .int mho, .ref m2, .ref m3, .ref m4, .int mra, .int mrh, .ref m7, .ref m8, .ref m9, .ref m10, .ref m11, .ref m12, .int mch, .int mfr, .int mfw, .int mrd, .ref m17, .ref m18, .ref m19, .ref m20, .ref m21, .ref m22, .ref m23, .int mtr])), (m20, .inl (cI, 4, .inl (upd SZ i1.toNatClampNeg (-1))))]) := hD
      refine lv_iload_n hx hb dX5_lose_31 rfl (lv_at hl 0 rfl) ?_
      have hE9 : p5_lose SZ i1 = (0, (upd SZ i1.toNatClampNeg (-1))) := by unfold p5_lose; rw [if_pos c_4, if_neg c_15]
      exact W.iret (v := 0) hx hb hr (fun t ht hW => ⟨⟨_, (), rfl, by rw [hE9], by show va_P (dC, dI) vwCl _ t.heap; rw [ht, hE9]; exact hP⟩, hS.F ht⟩) hS.2.2 dX5_lose_32
  · skip
    refine lv_iconst (v := (-1)) hx hb dX5_lose_7 (by decide) ?_
    have hE9 : p5_lose SZ i1 = ((-1), SZ) := by unfold p5_lose; rw [if_neg c_4]
    exact W.iret (v := (-1)) hx hb hr (fun t ht hW => ⟨⟨_, (), rfl, by rw [hE9], by show va_P (dC, dI) vwCl _ t.heap; rw [ht, hE9]; exact hP⟩, hS.F ht⟩) hS.2.2 dX5_lose_8

def p5_put (mfa : Int32) (SZ : Nat → Int32) (LN : Nat → Int32) (SH : Nat → Int32) (i1 : Int32) (i2 : Int32) (i3 : Int32) : Int32 × Int32 × (Nat → Int32) :=
  if (p5_noSheet i1) = 0 then
    if (p5_noCell SZ i1 i2) ≤ 0 then
      if (LN i1.toNatClampNeg) = 0 then
        (((p5_refused mfa 1).1), ((p5_refused mfa 1).2), (upd SH ((60 * i1) + i2).toNatClampNeg i3.toInt8.toInt32))
      else
        if (LN i1.toNatClampNeg) = 1 then
          (((p5_refused mfa 1).1), ((p5_refused mfa 1).2), (upd SH ((60 * i1) + i2).toNatClampNeg i3.toInt16.toInt32))
        else
          (((p5_refused mfa 1).1), ((p5_refused mfa 1).2), (upd SH ((60 * i1) + i2).toNatClampNeg i3))
    else
      (((p5_failed mfa (p5_noCell SZ i1 i2)).1), ((p5_failed mfa (p5_noCell SZ i1 i2)).2), SH)
  else
    (((p5_refused mfa (-1)).1), ((p5_refused mfa (-1)).2), SH)
abbrev rmX5_put : Room := { frames := 2, cells := 0, slots := 0, locals := 47 }
abbrev QX5_put (dC : Nat → ClassId) (dI : Nat → Nat → Nat) (A : Nat → Prop) (cI : ClassId) (m0 : Nat) (m2 : Nat) (m3 : Nat) (m4 : Nat) (m7 : Nat) (m8 : Nat) (m9 : Nat) (m10 : Nat) (m11 : Nat) (m12 : Nat) (m17 : Nat) (m18 : Nat) (m19 : Nat) (m20 : Nat) (m21 : Nat) (m22 : Nat) (m23 : Nat) (mfa : Int32) (mho : Int32) (mra : Int32) (mrh : Int32) (mch : Int32) (mfr : Int32) (mfw : Int32) (mrd : Int32) (mtr : Int32) (SZ : Nat → Int32) (LN : Nat → Int32) (SH : Nat → Int32) (i1 : Int32) (i2 : Int32) (i3 : Int32) : Array Value → State → Outcome → State → Prop := va_Qi (fun (r : Int32) (_ : Unit) => r = (p5_put mfa SZ LN SH i1 i2 i3).1) (fun (_ : Unit) (t : State) => va_P (dC, dI) vwCl ([(m0, .inr (5, [.int ((p5_put mfa SZ LN SH i1 i2 i3).2.1), .int mho, .ref m2, .ref m3, .ref m4, .int mra, .int mrh, .ref m7, .ref m8, .ref m9, .ref m10, .ref m11, .ref m12, .int mch, .int mfr, .int mfw, .int mrd, .ref m17, .ref m18, .ref m19, .ref m20, .ref m21, .ref m22, .ref m23, .int mtr])), (m20, .inl (cI, 4, .inl SZ)), (m21, .inl (cI, 4, .inl LN)), (m22, .inl (cI, 240, .inl ((p5_put mfa SZ LN SH i1 i2 i3).2.2)))]) t.heap) A
set_option maxHeartbeats 4000000 in
set_option maxRecDepth 100000 in
theorem ctX5_put (l : Launch) (dC : Nat → ClassId) (dI : Nat → Nat → Nat) (cI : ClassId) (m0 : Nat) (m2 : Nat) (m3 : Nat) (m4 : Nat) (m7 : Nat) (m8 : Nat) (m9 : Nat) (m10 : Nat) (m11 : Nat) (m12 : Nat) (m17 : Nat) (m18 : Nat) (m19 : Nat) (m20 : Nat) (m21 : Nat) (m22 : Nat) (m23 : Nat) (sz : Nat) (mfa : Int32) (mho : Int32) (mra : Int32) (mrh : Int32) (mch : Int32) (mfr : Int32) (mfw : Int32) (mrd : Int32) (mtr : Int32) (SZ : Nat → Int32) (LN : Nat → Int32) (SH : Nat → Int32) (i1 : Int32) (i2 : Int32) (i3 : Int32) (hSZ : ∀ j : Nat, (SZ j).toInt ≤ 60) : Met l yX5_put wsX5_put rmX5_put (va_Pc [.ref m0, .int i1, .int i2, .int i3] (cP dC dI [(cI, .int)] ([(m0, .inr (5, [.int mfa, .int mho, .ref m2, .ref m3, .ref m4, .int mra, .int mrh, .ref m7, .ref m8, .ref m9, .ref m10, .ref m11, .ref m12, .int mch, .int mfr, .int mfw, .int mrd, .ref m17, .ref m18, .ref m19, .ref m20, .ref m21, .ref m22, .ref m23, .int mtr])), (m20, .inl (cI, 4, .inl SZ)), (m21, .inl (cI, 4, .inl LN)), (m22, .inl (cI, 240, .inl SH))]) sz)) (QX5_put dC dI (va_A ([(m0, .inr (5, [.int mfa, .int mho, .ref m2, .ref m3, .ref m4, .int mra, .int mrh, .ref m7, .ref m8, .ref m9, .ref m10, .ref m11, .ref m12, .int mch, .int mfr, .int mfw, .int mrd, .ref m17, .ref m18, .ref m19, .ref m20, .ref m21, .ref m22, .ref m23, .int mtr])), (m20, .inl (cI, 4, .inl SZ)), (m21, .inl (cI, 4, .inl LN)), (m22, .inl (cI, 240, .inl SH))]) sz) cI m0 m2 m3 m4 m7 m8 m9 m10 m11 m12 m17 m18 m19 m20 m21 m22 m23 mfa mho mra mrh mch mfr mfw mrd mtr SZ LN SH i1 i2 i3) 0 0 (va_A ([(m0, .inr (5, [.int mfa, .int mho, .ref m2, .ref m3, .ref m4, .int mra, .int mrh, .ref m7, .ref m8, .ref m9, .ref m10, .ref m11, .ref m12, .int mch, .int mfr, .int mfw, .int mrd, .ref m17, .ref m18, .ref m19, .ref m20, .ref m21, .ref m22, .ref m23, .int mtr])), (m20, .inl (cI, 4, .inl SZ)), (m21, .inl (cI, 4, .inl LN)), (m22, .inl (cI, 240, .inl SH))]) sz) := by
  refine Met.ofW (cc := cX5_put) (maxL := 4) (ret := (some .int)) (by decide) rfl ?_
  intro p e s m args below meth c s₁ B hml hv
  obtain ⟨rfl, hsz, hP, hK, hD0, hN⟩ := hv
  have hx := B.exec
  have hb := B.bytes
  have hr := B.returns
  have hts := atoms_spec (ws := wsX5_put) B.pre
  have hown : s.vm.findClass RX5 = some m.cls := findClass_of_methodNamed B.named
  have hlocks := B.notSynchronized
  subst hsz
  have hD := hD0.self (sz := s.heap.size)
  generalize hAe : va_A ([(m0, .inr (5, [.int mfa, .int mho, .ref m2, .ref m3, .ref m4, .int mra, .int mrh, .ref m7, .ref m8, .ref m9, .ref m10, .ref m11, .ref m12, .int mch, .int mfr, .int mfw, .int mrd, .ref m17, .ref m18, .ref m19, .ref m20, .ref m21, .ref m22, .ref m23, .int mtr])), (m20, .inl (cI, 4, .inl SZ)), (m21, .inl (cI, 4, .inl LN)), (m22, .inl (cI, 240, .inl SH))]) s.heap.size = A at hD ⊢
  have hA : ∀ q : Nat, s.heap.size ≤ q → A q := fun q h => by rw [← hAe]; exact Or.inr h
  have hS : va_S A s.heap s.heap [] := va_S.rf
  have hP : va_P (dC, dI) vwCl ([(m0, .inr (5, [.int mfa, .int mho, .ref m2, .ref m3, .ref m4, .int mra, .int mrh, .ref m7, .ref m8, .ref m9, .ref m10, .ref m11, .ref m12, .int mch, .int mfr, .int mfw, .int mrd, .ref m17, .ref m18, .ref m19, .ref m20, .ref m21, .ref m22, .ref m23, .int mtr])), (m20, .inl (cI, 4, .inl SZ)), (m21, .inl (cI, 4, .inl LN)), (m22, .inl (cI, 240, .inl SH))]) s.heap := hP
  have hin5 : ∀ w ∈ wsX50, w ∈ wsX5_put := by decide +kernel
  have kf_49 := hts (.fieldLink RX5 49 "RicherChangeModel" "sheetLane" "[I") (by decide +kernel)
  have kf_52 := hts (.fieldLink RX5 52 "RicherChangeModel" "sheet" "[I") (by decide +kernel)
  have hl := lv_entry ([.ref m0, .int i1, .int i2, .int i3]) (n := 4) (Nat.le_of_ble_eq_true rfl)
  rw [lg_entry_eq]
  generalize (lg_sl ([.ref m0, .int i1, .int i2, .int i3]) ++ List.replicate (4 - (lg_sl ([.ref m0, .int i1, .int i2, .int i3])).length) Slot.unset).toArray = ls at hl ⊢
  have hl : lv_has ls 4 [(0, .ref m0), (1, .int i1), (2, .int i2), (3, .int i3)] := hl
  refine lv_iload_n hx hb dX5_put_0 rfl (lv_at hl 1 rfl) ?_
  have hPc : va_P (dC, dI) vwCl [] s.heap := hP.sub (ws' := []) [] rfl
  have hDc : va_D A [] := hD.sub (ws' := []) [] (by decide) rfl
  have hKc := hK.sub (tys' := [(cI, .int)]) [0] rfl
  have hFc := va_free (wc := []) hD hS hA [] rfl
  refine va_calli (va_runS (As := [.int i1]) (rest := []) ⟨hx, hb, hml, hown, hts⟩ (ctX5_noSheet l dC dI cI s.heap.size i1) (va_cwS 1 hts gX5_put_X5_noSheet rfl rfl rfl (by decide +kernel) ⟨Nat.le_of_ble_eq_true rfl, Nat.le_of_ble_eq_true rfl⟩) (pre_S hKc hN hPc hDc) rfl rfl hl.1 rfl (lv_room (Nat.le_of_ble_eq_true rfl)) dX5_put_1 ⟨Nat.le_of_ble_eq_true rfl, Nat.le_of_ble_eq_true rfl⟩) hS (fun q _ h => hFc q h) hFc (fun r _ t H locs ht hvm hw hB hz1 hk1 hS => ?_)
  try dsimp only at hw
  subst hw
  rw [ht] at hB
  obtain ⟨hP, hD⟩ := rw_join ([(m0, .inr (5, [.int mfa, .int mho, .ref m2, .ref m3, .ref m4, .int mra, .int mrh, .ref m7, .ref m8, .ref m9, .ref m10, .ref m11, .ref m12, .int mch, .int mfr, .int mfw, .int mrd, .ref m17, .ref m18, .ref m19, .ref m20, .ref m21, .ref m22, .ref m23, .int mtr])), (m20, .inl (cI, 4, .inl SZ)), (m21, .inl (cI, 4, .inl LN)), (m22, .inl (cI, 240, .inl SH))]) ([(m0, .inr (5, [.int mfa, .int mho, .ref m2, .ref m3, .ref m4, .int mra, .int mrh, .ref m7, .ref m8, .ref m9, .ref m10, .ref m11, .ref m12, .int mch, .int mfr, .int mfw, .int mrd, .ref m17, .ref m18, .ref m19, .ref m20, .ref m21, .ref m22, .ref m23, .int mtr])), (m20, .inl (cI, 4, .inl SZ)), (m21, .inl (cI, 4, .inl LN)), (m22, .inl (cI, 240, .inl SH))]) ([]) ([]) ([(m0, .inr (5, [.int mfa, .int mho, .ref m2, .ref m3, .ref m4, .int mra, .int mrh, .ref m7, .ref m8, .ref m9, .ref m10, .ref m11, .ref m12, .int mch, .int mfr, .int mfw, .int mrd, .ref m17, .ref m18, .ref m19, .ref m20, .ref m21, .ref m22, .ref m23, .int mtr])), (m20, .inl (cI, 4, .inl SZ)), (m21, .inl (cI, 4, .inl LN)), (m22, .inl (cI, 240, .inl SH))]) hP hD [] [0, 1, 2, 3] [m0, m20, m21, m22] 4 rfl rfl rfl rfl rfl (by decide) rfl rfl hk1 hB
  refine lv_if_eq (tgt := 13) hx hb dX5_put_4 (by decide) (fun c_4 => ?_) (fun c_4 => ?_)
  · skip
    have j1 : vp_in i1 4 := noSheet_in c_4
    refine lv_aload_n hx hb dX5_put_13 rfl (lv_at hl 0 rfl) ?_
    refine lv_iload_n hx hb dX5_put_14 rfl (lv_at hl 1 rfl) ?_
    refine lv_iload_n hx hb dX5_put_15 rfl (lv_at hl 2 rfl) ?_
    have hPc := hP.sub (ws' := [(m0, .inr (5, [.int mfa, .int mho, .ref m2, .ref m3, .ref m4, .int mra, .int mrh, .ref m7, .ref m8, .ref m9, .ref m10, .ref m11, .ref m12, .int mch, .int mfr, .int mfw, .int mrd, .ref m17, .ref m18, .ref m19, .ref m20, .ref m21, .ref m22, .ref m23, .int mtr])), (m20, .inl (cI, 4, .inl SZ))]) [0, 1] rfl
    have hDc := hD.sub (ws' := [(m0, .inr (5, [.int mfa, .int mho, .ref m2, .ref m3, .ref m4, .int mra, .int mrh, .ref m7, .ref m8, .ref m9, .ref m10, .ref m11, .ref m12, .int mch, .int mfr, .int mfw, .int mrd, .ref m17, .ref m18, .ref m19, .ref m20, .ref m21, .ref m22, .ref m23, .int mtr])), (m20, .inl (cI, 4, .inl SZ))]) [0, 1] (by decide) rfl
    have hKc := hK.sub (tys' := [(cI, .int)]) [0] rfl
    have hFc := va_free (wc := [(m0, .inr (5, [.int mfa, .int mho, .ref m2, .ref m3, .ref m4, .int mra, .int mrh, .ref m7, .ref m8, .ref m9, .ref m10, .ref m11, .ref m12, .int mch, .int mfr, .int mfw, .int mrd, .ref m17, .ref m18, .ref m19, .ref m20, .ref m21, .ref m22, .ref m23, .int mtr])), (m20, .inl (cI, 4, .inl SZ))]) hD hS hA [0, 1] rfl
    refine va_calli (va_runV (As := [.int i1, .int i2]) (rest := []) ⟨hx, hb, hml, hown, hts⟩ (ctX5_noCell l dC dI cI m0 m2 m3 m4 m7 m8 m9 m10 m11 m12 m17 m18 m19 m20 m21 m22 m23 H.size mfa mho mra mrh mch mfr mfw mrd mtr SZ i1 i2 (by assumption)) (cwV 2 hts gX5_put_X5_noCell rfl rfl rfl (by decide +kernel) ⟨Nat.le_of_ble_eq_true rfl, Nat.le_of_ble_eq_true rfl⟩) (pre_V hKc hN hPc hDc (RX5, TX5, 25) 5 0 rfl rfl) rfl rfl hl.1 rfl (lv_room (Nat.le_of_ble_eq_true rfl)) dX5_put_16 ⟨Nat.le_of_ble_eq_true rfl, Nat.le_of_ble_eq_true rfl⟩) hS (fun q _ h => hFc q h) hFc (fun r _ t H locs ht hvm hw hB hz1 hk1 hS => ?_)
    try dsimp only at hw
    subst hw
    rw [ht] at hB
    obtain ⟨hP, hD⟩ := rw_join ([(m0, .inr (5, [.int mfa, .int mho, .ref m2, .ref m3, .ref m4, .int mra, .int mrh, .ref m7, .ref m8, .ref m9, .ref m10, .ref m11, .ref m12, .int mch, .int mfr, .int mfw, .int mrd, .ref m17, .ref m18, .ref m19, .ref m20, .ref m21, .ref m22, .ref m23, .int mtr])), (m20, .inl (cI, 4, .inl SZ)), (m21, .inl (cI, 4, .inl LN)), (m22, .inl (cI, 240, .inl SH))]) ([(m0, .inr (5, [.int mfa, .int mho, .ref m2, .ref m3, .ref m4, .int mra, .int mrh, .ref m7, .ref m8, .ref m9, .ref m10, .ref m11, .ref m12, .int mch, .int mfr, .int mfw, .int mrd, .ref m17, .ref m18, .ref m19, .ref m20, .ref m21, .ref m22, .ref m23, .int mtr])), (m20, .inl (cI, 4, .inl SZ)), (m21, .inl (cI, 4, .inl LN)), (m22, .inl (cI, 240, .inl SH))]) ([(m0, .inr (5, [.int mfa, .int mho, .ref m2, .ref m3, .ref m4, .int mra, .int mrh, .ref m7, .ref m8, .ref m9, .ref m10, .ref m11, .ref m12, .int mch, .int mfr, .int mfw, .int mrd, .ref m17, .ref m18, .ref m19, .ref m20, .ref m21, .ref m22, .ref m23, .int mtr])), (m20, .inl (cI, 4, .inl SZ))]) ([(m0, .inr (5, [.int mfa, .int mho, .ref m2, .ref m3, .ref m4, .int mra, .int mrh, .ref m7, .ref m8, .ref m9, .ref m10, .ref m11, .ref m12, .int mch, .int mfr, .int mfw, .int mrd, .ref m17, .ref m18, .ref m19, .ref m20, .ref m21, .ref m22, .ref m23, .int mtr])), (m20, .inl (cI, 4, .inl SZ))]) ([(m21, .inl (cI, 4, .inl LN)), (m22, .inl (cI, 240, .inl SH))]) hP hD [0, 1] [2, 3] [m0, m20, m21, m22] 4 rfl rfl rfl rfl rfl (by decide) rfl rfl hk1 hB
    refine lv_if_le (tgt := 33) hx hb dX5_put_19 (by decide) (fun c_19 => ?_) (fun c_19 => ?_)
    · skip
      refine lv_aload_n hx hb dX5_put_33 rfl (lv_at hl 0 rfl) ?_
      refine va_get (D := (dC, dI)) (ci := 5) (v := .ref m22) (C := RX5) (T := TX5) (N := 25) hx hb hts hin5 hown hK hP 0 rfl rfl 22 (by decide) kf_52 (fun _ h9 => h9) rfl dX5_put_34 ?_
      refine lv_bipush (v := 60) hx hb dX5_put_37 (by decide) ?_
      refine lv_iload_n hx hb dX5_put_39 rfl (lv_at hl 1 rfl) ?_
      refine lv_imul hx hb dX5_put_40 ?_
      refine lv_iload_n hx hb dX5_put_41 rfl (lv_at hl 2 rfl) ?_
      refine lv_iadd hx hb dX5_put_42 ?_
      refine lv_aload_n hx hb dX5_put_43 rfl (lv_at hl 0 rfl) ?_
      refine va_get (D := (dC, dI)) (ci := 5) (v := .ref m21) (C := RX5) (T := TX5) (N := 25) hx hb hts hin5 hown hK hP 0 rfl rfl 21 (by decide) kf_49 (fun _ h9 => h9) rfl dX5_put_44 ?_
      refine lv_iload_n hx hb dX5_put_47 rfl (lv_at hl 1 rfl) ?_
      refine va_iald hx hb hK hP 2 0 rfl rfl (by assumption) dX5_put_48 ?_
      refine lv_if_ne (tgt := 57) hx hb dX5_put_49 (by decide) (fun c_49 => ?_) (fun c_49 => ?_)
      · skip
        refine lv_aload_n hx hb dX5_put_57 rfl (lv_at hl 0 rfl) ?_
        refine va_get (D := (dC, dI)) (ci := 5) (v := .ref m21) (C := RX5) (T := TX5) (N := 25) hx hb hts hin5 hown hK hP 0 rfl rfl 21 (by decide) kf_49 (fun _ h9 => h9) rfl dX5_put_58 ?_
        refine lv_iload_n hx hb dX5_put_61 rfl (lv_at hl 1 rfl) ?_
        refine va_iald hx hb hK hP 2 0 rfl rfl (by assumption) dX5_put_62 ?_
        refine lv_iconst (v := 1) hx hb dX5_put_63 (by decide) ?_
        refine lv_icmp_ne (tgt := 72) hx hb dX5_put_64 (by decide) (fun c_64 => ?_) (fun c_64 => ?_)
        · skip
          refine lv_iload_n hx hb dX5_put_72 rfl (lv_at hl 3 rfl) ?_
          refine va_iast hx hb hK hP hD hS 3 0 rfl rfl (put_ix j1 (hSZ _) c_19) dX5_put_73 (fun H locs hP hD hS => ?_)
          have hP : va_P (dC, dI) vwCl ([(m0, .inr (5, [.int mfa, .int mho, .ref m2, .ref m3, .ref m4, .int mra, .int mrh, .ref m7, .ref m8, .ref m9, .ref m10, .ref m11, .ref m12, .int mch, .int mfr, .int mfw, .int mrd, .ref m17, .ref m18, .ref m19, .ref m20, .ref m21, .ref m22, .ref m23, .int mtr])), (m20, .inl (cI, 4, .inl SZ)), (m21, .inl (cI, 4, .inl LN)), (m22, .inl (cI, 240, .inl (upd SH ((60 * i1) + i2).toNatClampNeg i3)))]) H := hP
          have hD : va_D A ([(m0, .inr (5, [.int mfa, .int mho, .ref m2, .ref m3, .ref m4, .int mra, .int mrh, .ref m7, .ref m8, .ref m9, .ref m10, .ref m11, .ref m12, .int mch, .int mfr, .int mfw, .int mrd, .ref m17, .ref m18, .ref m19, .ref m20, .ref m21, .ref m22, .ref m23, .int mtr])), (m20, .inl (cI, 4, .inl SZ)), (m21, .inl (cI, 4, .inl LN)), (m22, .inl (cI, 240, .inl (upd SH ((60 * i1) + i2).toNatClampNeg i3)))]) := hD
          refine lv_aload_n hx hb dX5_put_74 rfl (lv_at hl 0 rfl) ?_
          refine lv_iconst (v := 1) hx hb dX5_put_75 (by decide) ?_
          have hPc := hP.sub (ws' := [(m0, .inr (5, [.int mfa, .int mho, .ref m2, .ref m3, .ref m4, .int mra, .int mrh, .ref m7, .ref m8, .ref m9, .ref m10, .ref m11, .ref m12, .int mch, .int mfr, .int mfw, .int mrd, .ref m17, .ref m18, .ref m19, .ref m20, .ref m21, .ref m22, .ref m23, .int mtr]))]) [0] rfl
          have hDc := hD.sub (ws' := [(m0, .inr (5, [.int mfa, .int mho, .ref m2, .ref m3, .ref m4, .int mra, .int mrh, .ref m7, .ref m8, .ref m9, .ref m10, .ref m11, .ref m12, .int mch, .int mfr, .int mfw, .int mrd, .ref m17, .ref m18, .ref m19, .ref m20, .ref m21, .ref m22, .ref m23, .int mtr]))]) [0] (by decide) rfl
          have hKc := hK.sub (tys' := [(cI, .int)]) [0] rfl
          have hFc := va_free (wc := [(m0, .inr (5, [.int mfa, .int mho, .ref m2, .ref m3, .ref m4, .int mra, .int mrh, .ref m7, .ref m8, .ref m9, .ref m10, .ref m11, .ref m12, .int mch, .int mfr, .int mfw, .int mrd, .ref m17, .ref m18, .ref m19, .ref m20, .ref m21, .ref m22, .ref m23, .int mtr]))]) hD hS hA [0] rfl
          refine va_calli (va_runV (As := [.int 1]) (rest := []) ⟨hx, hb, hml, hown, hts⟩ (ctX5_refused l dC dI cI m0 m2 m3 m4 m7 m8 m9 m10 m11 m12 m17 m18 m19 m20 m21 m22 m23 H.size mfa mho mra mrh mch mfr mfw mrd mtr 1) (cwV 1 hts gX5_put_X5_refused rfl rfl rfl (by decide +kernel) ⟨Nat.le_of_ble_eq_true rfl, Nat.le_of_ble_eq_true rfl⟩) (pre_V hKc hN hPc hDc (RX5, TX5, 25) 5 0 rfl rfl) rfl rfl hl.1 rfl (lv_room (Nat.le_of_ble_eq_true rfl)) dX5_put_76 ⟨Nat.le_of_ble_eq_true rfl, Nat.le_of_ble_eq_true rfl⟩) hS (fun q _ h => hFc q h) hFc (fun r_76 _ t H locs ht hvm hw hB hz1 hk1 hS => ?_)
          try dsimp only at hw
          have er_76 := hw.symm
          rw [ht] at hB
          refine nm_gen ((p5_refused mfa 1).2) (fun mfa_76 emfa_76 => ?_)
          rw [emfa_76] at hB
          obtain ⟨hP, hD⟩ := rw_join ([(m0, .inr (5, [.int mfa, .int mho, .ref m2, .ref m3, .ref m4, .int mra, .int mrh, .ref m7, .ref m8, .ref m9, .ref m10, .ref m11, .ref m12, .int mch, .int mfr, .int mfw, .int mrd, .ref m17, .ref m18, .ref m19, .ref m20, .ref m21, .ref m22, .ref m23, .int mtr])), (m20, .inl (cI, 4, .inl SZ)), (m21, .inl (cI, 4, .inl LN)), (m22, .inl (cI, 240, .inl (upd SH ((60 * i1) + i2).toNatClampNeg i3)))]) ([(m0, .inr (5, [.int mfa_76, .int mho, .ref m2, .ref m3, .ref m4, .int mra, .int mrh, .ref m7, .ref m8, .ref m9, .ref m10, .ref m11, .ref m12, .int mch, .int mfr, .int mfw, .int mrd, .ref m17, .ref m18, .ref m19, .ref m20, .ref m21, .ref m22, .ref m23, .int mtr])), (m20, .inl (cI, 4, .inl SZ)), (m21, .inl (cI, 4, .inl LN)), (m22, .inl (cI, 240, .inl (upd SH ((60 * i1) + i2).toNatClampNeg i3)))]) ([(m0, .inr (5, [.int mfa, .int mho, .ref m2, .ref m3, .ref m4, .int mra, .int mrh, .ref m7, .ref m8, .ref m9, .ref m10, .ref m11, .ref m12, .int mch, .int mfr, .int mfw, .int mrd, .ref m17, .ref m18, .ref m19, .ref m20, .ref m21, .ref m22, .ref m23, .int mtr]))]) ([(m0, .inr (5, [.int mfa_76, .int mho, .ref m2, .ref m3, .ref m4, .int mra, .int mrh, .ref m7, .ref m8, .ref m9, .ref m10, .ref m11, .ref m12, .int mch, .int mfr, .int mfw, .int mrd, .ref m17, .ref m18, .ref m19, .ref m20, .ref m21, .ref m22, .ref m23, .int mtr]))]) ([(m20, .inl (cI, 4, .inl SZ)), (m21, .inl (cI, 4, .inl LN)), (m22, .inl (cI, 240, .inl (upd SH ((60 * i1) + i2).toNatClampNeg i3)))]) hP hD [0] [1, 2, 3] [m0, m20, m21, m22] 4 rfl rfl rfl rfl rfl (by decide) rfl rfl hk1 hB
          have hE9 : p5_put mfa SZ LN SH i1 i2 i3 = (r_76, mfa_76, (upd SH ((60 * i1) + i2).toNatClampNeg i3)) := by unfold p5_put; simp only [er_76, emfa_76]; rw [if_pos c_4, if_pos c_19, if_neg c_49, if_neg c_64]
          exact W.iret (v := r_76) hx hb hr (fun t ht hW => ⟨⟨_, (), rfl, by rw [hE9], by show va_P (dC, dI) vwCl _ t.heap; rw [ht, hE9]; exact hP⟩, hS.F ht⟩) hS.2.2 dX5_put_79
        · skip
          refine lv_iload_n hx hb dX5_put_67 rfl (lv_at hl 3 rfl) ?_
          refine lv_i2s (v := i3.toInt16.toInt32) hx hb dX5_put_68 rfl ?_
          refine lv_goto (tgt := 73) hx hb dX5_put_69 (by decide) ?_
          refine va_iast hx hb hK hP hD hS 3 0 rfl rfl (put_ix j1 (hSZ _) c_19) dX5_put_73 (fun H locs hP hD hS => ?_)
          have hP : va_P (dC, dI) vwCl ([(m0, .inr (5, [.int mfa, .int mho, .ref m2, .ref m3, .ref m4, .int mra, .int mrh, .ref m7, .ref m8, .ref m9, .ref m10, .ref m11, .ref m12, .int mch, .int mfr, .int mfw, .int mrd, .ref m17, .ref m18, .ref m19, .ref m20, .ref m21, .ref m22, .ref m23, .int mtr])), (m20, .inl (cI, 4, .inl SZ)), (m21, .inl (cI, 4, .inl LN)), (m22, .inl (cI, 240, .inl (upd SH ((60 * i1) + i2).toNatClampNeg i3.toInt16.toInt32)))]) H := hP
          have hD : va_D A ([(m0, .inr (5, [.int mfa, .int mho, .ref m2, .ref m3, .ref m4, .int mra, .int mrh, .ref m7, .ref m8, .ref m9, .ref m10, .ref m11, .ref m12, .int mch, .int mfr, .int mfw, .int mrd, .ref m17, .ref m18, .ref m19, .ref m20, .ref m21, .ref m22, .ref m23, .int mtr])), (m20, .inl (cI, 4, .inl SZ)), (m21, .inl (cI, 4, .inl LN)), (m22, .inl (cI, 240, .inl (upd SH ((60 * i1) + i2).toNatClampNeg i3.toInt16.toInt32)))]) := hD
          refine lv_aload_n hx hb dX5_put_74 rfl (lv_at hl 0 rfl) ?_
          refine lv_iconst (v := 1) hx hb dX5_put_75 (by decide) ?_
          have hPc := hP.sub (ws' := [(m0, .inr (5, [.int mfa, .int mho, .ref m2, .ref m3, .ref m4, .int mra, .int mrh, .ref m7, .ref m8, .ref m9, .ref m10, .ref m11, .ref m12, .int mch, .int mfr, .int mfw, .int mrd, .ref m17, .ref m18, .ref m19, .ref m20, .ref m21, .ref m22, .ref m23, .int mtr]))]) [0] rfl
          have hDc := hD.sub (ws' := [(m0, .inr (5, [.int mfa, .int mho, .ref m2, .ref m3, .ref m4, .int mra, .int mrh, .ref m7, .ref m8, .ref m9, .ref m10, .ref m11, .ref m12, .int mch, .int mfr, .int mfw, .int mrd, .ref m17, .ref m18, .ref m19, .ref m20, .ref m21, .ref m22, .ref m23, .int mtr]))]) [0] (by decide) rfl
          have hKc := hK.sub (tys' := [(cI, .int)]) [0] rfl
          have hFc := va_free (wc := [(m0, .inr (5, [.int mfa, .int mho, .ref m2, .ref m3, .ref m4, .int mra, .int mrh, .ref m7, .ref m8, .ref m9, .ref m10, .ref m11, .ref m12, .int mch, .int mfr, .int mfw, .int mrd, .ref m17, .ref m18, .ref m19, .ref m20, .ref m21, .ref m22, .ref m23, .int mtr]))]) hD hS hA [0] rfl
          refine va_calli (va_runV (As := [.int 1]) (rest := []) ⟨hx, hb, hml, hown, hts⟩ (ctX5_refused l dC dI cI m0 m2 m3 m4 m7 m8 m9 m10 m11 m12 m17 m18 m19 m20 m21 m22 m23 H.size mfa mho mra mrh mch mfr mfw mrd mtr 1) (cwV 1 hts gX5_put_X5_refused rfl rfl rfl (by decide +kernel) ⟨Nat.le_of_ble_eq_true rfl, Nat.le_of_ble_eq_true rfl⟩) (pre_V hKc hN hPc hDc (RX5, TX5, 25) 5 0 rfl rfl) rfl rfl hl.1 rfl (lv_room (Nat.le_of_ble_eq_true rfl)) dX5_put_76 ⟨Nat.le_of_ble_eq_true rfl, Nat.le_of_ble_eq_true rfl⟩) hS (fun q _ h => hFc q h) hFc (fun r_76 _ t H locs ht hvm hw hB hz1 hk1 hS => ?_)
          try dsimp only at hw
          have er_76 := hw.symm
          rw [ht] at hB
          refine nm_gen ((p5_refused mfa 1).2) (fun mfa_76 emfa_76 => ?_)
          rw [emfa_76] at hB
          obtain ⟨hP, hD⟩ := rw_join ([(m0, .inr (5, [.int mfa, .int mho, .ref m2, .ref m3, .ref m4, .int mra, .int mrh, .ref m7, .ref m8, .ref m9, .ref m10, .ref m11, .ref m12, .int mch, .int mfr, .int mfw, .int mrd, .ref m17, .ref m18, .ref m19, .ref m20, .ref m21, .ref m22, .ref m23, .int mtr])), (m20, .inl (cI, 4, .inl SZ)), (m21, .inl (cI, 4, .inl LN)), (m22, .inl (cI, 240, .inl (upd SH ((60 * i1) + i2).toNatClampNeg i3.toInt16.toInt32)))]) ([(m0, .inr (5, [.int mfa_76, .int mho, .ref m2, .ref m3, .ref m4, .int mra, .int mrh, .ref m7, .ref m8, .ref m9, .ref m10, .ref m11, .ref m12, .int mch, .int mfr, .int mfw, .int mrd, .ref m17, .ref m18, .ref m19, .ref m20, .ref m21, .ref m22, .ref m23, .int mtr])), (m20, .inl (cI, 4, .inl SZ)), (m21, .inl (cI, 4, .inl LN)), (m22, .inl (cI, 240, .inl (upd SH ((60 * i1) + i2).toNatClampNeg i3.toInt16.toInt32)))]) ([(m0, .inr (5, [.int mfa, .int mho, .ref m2, .ref m3, .ref m4, .int mra, .int mrh, .ref m7, .ref m8, .ref m9, .ref m10, .ref m11, .ref m12, .int mch, .int mfr, .int mfw, .int mrd, .ref m17, .ref m18, .ref m19, .ref m20, .ref m21, .ref m22, .ref m23, .int mtr]))]) ([(m0, .inr (5, [.int mfa_76, .int mho, .ref m2, .ref m3, .ref m4, .int mra, .int mrh, .ref m7, .ref m8, .ref m9, .ref m10, .ref m11, .ref m12, .int mch, .int mfr, .int mfw, .int mrd, .ref m17, .ref m18, .ref m19, .ref m20, .ref m21, .ref m22, .ref m23, .int mtr]))]) ([(m20, .inl (cI, 4, .inl SZ)), (m21, .inl (cI, 4, .inl LN)), (m22, .inl (cI, 240, .inl (upd SH ((60 * i1) + i2).toNatClampNeg i3.toInt16.toInt32)))]) hP hD [0] [1, 2, 3] [m0, m20, m21, m22] 4 rfl rfl rfl rfl rfl (by decide) rfl rfl hk1 hB
          have hE9 : p5_put mfa SZ LN SH i1 i2 i3 = (r_76, mfa_76, (upd SH ((60 * i1) + i2).toNatClampNeg i3.toInt16.toInt32)) := by unfold p5_put; simp only [er_76, emfa_76]; rw [if_pos c_4, if_pos c_19, if_neg c_49, if_pos c_64]
          exact W.iret (v := r_76) hx hb hr (fun t ht hW => ⟨⟨_, (), rfl, by rw [hE9], by show va_P (dC, dI) vwCl _ t.heap; rw [ht, hE9]; exact hP⟩, hS.F ht⟩) hS.2.2 dX5_put_79
      · skip
        refine lv_iload_n hx hb dX5_put_52 rfl (lv_at hl 3 rfl) ?_
        refine lv_i2b (v := i3.toInt8.toInt32) hx hb dX5_put_53 rfl ?_
        refine lv_goto (tgt := 73) hx hb dX5_put_54 (by decide) ?_
        refine va_iast hx hb hK hP hD hS 3 0 rfl rfl (put_ix j1 (hSZ _) c_19) dX5_put_73 (fun H locs hP hD hS => ?_)
        have hP : va_P (dC, dI) vwCl ([(m0, .inr (5, [.int mfa, .int mho, .ref m2, .ref m3, .ref m4, .int mra, .int mrh, .ref m7, .ref m8, .ref m9, .ref m10, .ref m11, .ref m12, .int mch, .int mfr, .int mfw, .int mrd, .ref m17, .ref m18, .ref m19, .ref m20, .ref m21, .ref m22, .ref m23, .int mtr])), (m20, .inl (cI, 4, .inl SZ)), (m21, .inl (cI, 4, .inl LN)), (m22, .inl (cI, 240, .inl (upd SH ((60 * i1) + i2).toNatClampNeg i3.toInt8.toInt32)))]) H := hP
        have hD : va_D A ([(m0, .inr (5, [.int mfa, .int mho, .ref m2, .ref m3, .ref m4, .int mra, .int mrh, .ref m7, .ref m8, .ref m9, .ref m10, .ref m11, .ref m12, .int mch, .int mfr, .int mfw, .int mrd, .ref m17, .ref m18, .ref m19, .ref m20, .ref m21, .ref m22, .ref m23, .int mtr])), (m20, .inl (cI, 4, .inl SZ)), (m21, .inl (cI, 4, .inl LN)), (m22, .inl (cI, 240, .inl (upd SH ((60 * i1) + i2).toNatClampNeg i3.toInt8.toInt32)))]) := hD
        refine lv_aload_n hx hb dX5_put_74 rfl (lv_at hl 0 rfl) ?_
        refine lv_iconst (v := 1) hx hb dX5_put_75 (by decide) ?_
        have hPc := hP.sub (ws' := [(m0, .inr (5, [.int mfa, .int mho, .ref m2, .ref m3, .ref m4, .int mra, .int mrh, .ref m7, .ref m8, .ref m9, .ref m10, .ref m11, .ref m12, .int mch, .int mfr, .int mfw, .int mrd, .ref m17, .ref m18, .ref m19, .ref m20, .ref m21, .ref m22, .ref m23, .int mtr]))]) [0] rfl
        have hDc := hD.sub (ws' := [(m0, .inr (5, [.int mfa, .int mho, .ref m2, .ref m3, .ref m4, .int mra, .int mrh, .ref m7, .ref m8, .ref m9, .ref m10, .ref m11, .ref m12, .int mch, .int mfr, .int mfw, .int mrd, .ref m17, .ref m18, .ref m19, .ref m20, .ref m21, .ref m22, .ref m23, .int mtr]))]) [0] (by decide) rfl
        have hKc := hK.sub (tys' := [(cI, .int)]) [0] rfl
        have hFc := va_free (wc := [(m0, .inr (5, [.int mfa, .int mho, .ref m2, .ref m3, .ref m4, .int mra, .int mrh, .ref m7, .ref m8, .ref m9, .ref m10, .ref m11, .ref m12, .int mch, .int mfr, .int mfw, .int mrd, .ref m17, .ref m18, .ref m19, .ref m20, .ref m21, .ref m22, .ref m23, .int mtr]))]) hD hS hA [0] rfl
        refine va_calli (va_runV (As := [.int 1]) (rest := []) ⟨hx, hb, hml, hown, hts⟩ (ctX5_refused l dC dI cI m0 m2 m3 m4 m7 m8 m9 m10 m11 m12 m17 m18 m19 m20 m21 m22 m23 H.size mfa mho mra mrh mch mfr mfw mrd mtr 1) (cwV 1 hts gX5_put_X5_refused rfl rfl rfl (by decide +kernel) ⟨Nat.le_of_ble_eq_true rfl, Nat.le_of_ble_eq_true rfl⟩) (pre_V hKc hN hPc hDc (RX5, TX5, 25) 5 0 rfl rfl) rfl rfl hl.1 rfl (lv_room (Nat.le_of_ble_eq_true rfl)) dX5_put_76 ⟨Nat.le_of_ble_eq_true rfl, Nat.le_of_ble_eq_true rfl⟩) hS (fun q _ h => hFc q h) hFc (fun r_76 _ t H locs ht hvm hw hB hz1 hk1 hS => ?_)
        try dsimp only at hw
        have er_76 := hw.symm
        rw [ht] at hB
        refine nm_gen ((p5_refused mfa 1).2) (fun mfa_76 emfa_76 => ?_)
        rw [emfa_76] at hB
        obtain ⟨hP, hD⟩ := rw_join ([(m0, .inr (5, [.int mfa, .int mho, .ref m2, .ref m3, .ref m4, .int mra, .int mrh, .ref m7, .ref m8, .ref m9, .ref m10, .ref m11, .ref m12, .int mch, .int mfr, .int mfw, .int mrd, .ref m17, .ref m18, .ref m19, .ref m20, .ref m21, .ref m22, .ref m23, .int mtr])), (m20, .inl (cI, 4, .inl SZ)), (m21, .inl (cI, 4, .inl LN)), (m22, .inl (cI, 240, .inl (upd SH ((60 * i1) + i2).toNatClampNeg i3.toInt8.toInt32)))]) ([(m0, .inr (5, [.int mfa_76, .int mho, .ref m2, .ref m3, .ref m4, .int mra, .int mrh, .ref m7, .ref m8, .ref m9, .ref m10, .ref m11, .ref m12, .int mch, .int mfr, .int mfw, .int mrd, .ref m17, .ref m18, .ref m19, .ref m20, .ref m21, .ref m22, .ref m23, .int mtr])), (m20, .inl (cI, 4, .inl SZ)), (m21, .inl (cI, 4, .inl LN)), (m22, .inl (cI, 240, .inl (upd SH ((60 * i1) + i2).toNatClampNeg i3.toInt8.toInt32)))]) ([(m0, .inr (5, [.int mfa, .int mho, .ref m2, .ref m3, .ref m4, .int mra, .int mrh, .ref m7, .ref m8, .ref m9, .ref m10, .ref m11, .ref m12, .int mch, .int mfr, .int mfw, .int mrd, .ref m17, .ref m18, .ref m19, .ref m20, .ref m21, .ref m22, .ref m23, .int mtr]))]) ([(m0, .inr (5, [.int mfa_76, .int mho, .ref m2, .ref m3, .ref m4, .int mra, .int mrh, .ref m7, .ref m8, .ref m9, .ref m10, .ref m11, .ref m12, .int mch, .int mfr, .int mfw, .int mrd, .ref m17, .ref m18, .ref m19, .ref m20, .ref m21, .ref m22, .ref m23, .int mtr]))]) ([(m20, .inl (cI, 4, .inl SZ)), (m21, .inl (cI, 4, .inl LN)), (m22, .inl (cI, 240, .inl (upd SH ((60 * i1) + i2).toNatClampNeg i3.toInt8.toInt32)))]) hP hD [0] [1, 2, 3] [m0, m20, m21, m22] 4 rfl rfl rfl rfl rfl (by decide) rfl rfl hk1 hB
        have hE9 : p5_put mfa SZ LN SH i1 i2 i3 = (r_76, mfa_76, (upd SH ((60 * i1) + i2).toNatClampNeg i3.toInt8.toInt32)) := by unfold p5_put; simp only [er_76, emfa_76]; rw [if_pos c_4, if_pos c_19, if_pos c_49]
        exact W.iret (v := r_76) hx hb hr (fun t ht hW => ⟨⟨_, (), rfl, by rw [hE9], by show va_P (dC, dI) vwCl _ t.heap; rw [ht, hE9]; exact hP⟩, hS.F ht⟩) hS.2.2 dX5_put_79
    · skip
      refine lv_aload_n hx hb dX5_put_22 rfl (lv_at hl 0 rfl) ?_
      refine lv_aload_n hx hb dX5_put_23 rfl (lv_at hl 0 rfl) ?_
      refine lv_iload_n hx hb dX5_put_24 rfl (lv_at hl 1 rfl) ?_
      refine lv_iload_n hx hb dX5_put_25 rfl (lv_at hl 2 rfl) ?_
      have hPc := hP.sub (ws' := [(m0, .inr (5, [.int mfa, .int mho, .ref m2, .ref m3, .ref m4, .int mra, .int mrh, .ref m7, .ref m8, .ref m9, .ref m10, .ref m11, .ref m12, .int mch, .int mfr, .int mfw, .int mrd, .ref m17, .ref m18, .ref m19, .ref m20, .ref m21, .ref m22, .ref m23, .int mtr])), (m20, .inl (cI, 4, .inl SZ))]) [0, 1] rfl
      have hDc := hD.sub (ws' := [(m0, .inr (5, [.int mfa, .int mho, .ref m2, .ref m3, .ref m4, .int mra, .int mrh, .ref m7, .ref m8, .ref m9, .ref m10, .ref m11, .ref m12, .int mch, .int mfr, .int mfw, .int mrd, .ref m17, .ref m18, .ref m19, .ref m20, .ref m21, .ref m22, .ref m23, .int mtr])), (m20, .inl (cI, 4, .inl SZ))]) [0, 1] (by decide) rfl
      have hKc := hK.sub (tys' := [(cI, .int)]) [0] rfl
      have hFc := va_free (wc := [(m0, .inr (5, [.int mfa, .int mho, .ref m2, .ref m3, .ref m4, .int mra, .int mrh, .ref m7, .ref m8, .ref m9, .ref m10, .ref m11, .ref m12, .int mch, .int mfr, .int mfw, .int mrd, .ref m17, .ref m18, .ref m19, .ref m20, .ref m21, .ref m22, .ref m23, .int mtr])), (m20, .inl (cI, 4, .inl SZ))]) hD hS hA [0, 1] rfl
      refine va_calli (va_runV (As := [.int i1, .int i2]) (rest := [.ref m0]) ⟨hx, hb, hml, hown, hts⟩ (ctX5_noCell l dC dI cI m0 m2 m3 m4 m7 m8 m9 m10 m11 m12 m17 m18 m19 m20 m21 m22 m23 H.size mfa mho mra mrh mch mfr mfw mrd mtr SZ i1 i2 (by assumption)) (cwV 2 hts gX5_put_X5_noCell rfl rfl rfl (by decide +kernel) ⟨Nat.le_of_ble_eq_true rfl, Nat.le_of_ble_eq_true rfl⟩) (pre_V hKc hN hPc hDc (RX5, TX5, 25) 5 0 rfl rfl) rfl rfl hl.1 rfl (lv_room (Nat.le_of_ble_eq_true rfl)) dX5_put_26 ⟨Nat.le_of_ble_eq_true rfl, Nat.le_of_ble_eq_true rfl⟩) hS (fun q _ h => hFc q h) hFc (fun r _ t H locs ht hvm hw hB hz1 hk1 hS => ?_)
      try dsimp only at hw
      subst hw
      rw [ht] at hB
      obtain ⟨hP, hD⟩ := rw_join ([(m0, .inr (5, [.int mfa, .int mho, .ref m2, .ref m3, .ref m4, .int mra, .int mrh, .ref m7, .ref m8, .ref m9, .ref m10, .ref m11, .ref m12, .int mch, .int mfr, .int mfw, .int mrd, .ref m17, .ref m18, .ref m19, .ref m20, .ref m21, .ref m22, .ref m23, .int mtr])), (m20, .inl (cI, 4, .inl SZ)), (m21, .inl (cI, 4, .inl LN)), (m22, .inl (cI, 240, .inl SH))]) ([(m0, .inr (5, [.int mfa, .int mho, .ref m2, .ref m3, .ref m4, .int mra, .int mrh, .ref m7, .ref m8, .ref m9, .ref m10, .ref m11, .ref m12, .int mch, .int mfr, .int mfw, .int mrd, .ref m17, .ref m18, .ref m19, .ref m20, .ref m21, .ref m22, .ref m23, .int mtr])), (m20, .inl (cI, 4, .inl SZ)), (m21, .inl (cI, 4, .inl LN)), (m22, .inl (cI, 240, .inl SH))]) ([(m0, .inr (5, [.int mfa, .int mho, .ref m2, .ref m3, .ref m4, .int mra, .int mrh, .ref m7, .ref m8, .ref m9, .ref m10, .ref m11, .ref m12, .int mch, .int mfr, .int mfw, .int mrd, .ref m17, .ref m18, .ref m19, .ref m20, .ref m21, .ref m22, .ref m23, .int mtr])), (m20, .inl (cI, 4, .inl SZ))]) ([(m0, .inr (5, [.int mfa, .int mho, .ref m2, .ref m3, .ref m4, .int mra, .int mrh, .ref m7, .ref m8, .ref m9, .ref m10, .ref m11, .ref m12, .int mch, .int mfr, .int mfw, .int mrd, .ref m17, .ref m18, .ref m19, .ref m20, .ref m21, .ref m22, .ref m23, .int mtr])), (m20, .inl (cI, 4, .inl SZ))]) ([(m21, .inl (cI, 4, .inl LN)), (m22, .inl (cI, 240, .inl SH))]) hP hD [0, 1] [2, 3] [m0, m20, m21, m22] 4 rfl rfl rfl rfl rfl (by decide) rfl rfl hk1 hB
      have hPc := hP.sub (ws' := [(m0, .inr (5, [.int mfa, .int mho, .ref m2, .ref m3, .ref m4, .int mra, .int mrh, .ref m7, .ref m8, .ref m9, .ref m10, .ref m11, .ref m12, .int mch, .int mfr, .int mfw, .int mrd, .ref m17, .ref m18, .ref m19, .ref m20, .ref m21, .ref m22, .ref m23, .int mtr]))]) [0] rfl
      have hDc := hD.sub (ws' := [(m0, .inr (5, [.int mfa, .int mho, .ref m2, .ref m3, .ref m4, .int mra, .int mrh, .ref m7, .ref m8, .ref m9, .ref m10, .ref m11, .ref m12, .int mch, .int mfr, .int mfw, .int mrd, .ref m17, .ref m18, .ref m19, .ref m20, .ref m21, .ref m22, .ref m23, .int mtr]))]) [0] (by decide) rfl
      have hKc := hK.sub (tys' := [(cI, .int)]) [0] rfl
      have hFc := va_free (wc := [(m0, .inr (5, [.int mfa, .int mho, .ref m2, .ref m3, .ref m4, .int mra, .int mrh, .ref m7, .ref m8, .ref m9, .ref m10, .ref m11, .ref m12, .int mch, .int mfr, .int mfw, .int mrd, .ref m17, .ref m18, .ref m19, .ref m20, .ref m21, .ref m22, .ref m23, .int mtr]))]) hD hS hA [0] rfl
      refine va_calli (va_runV (As := [.int (p5_noCell SZ i1 i2)]) (rest := []) ⟨hx, hb, hml, hown, hts⟩ (ctX5_failed l dC dI cI m0 m2 m3 m4 m7 m8 m9 m10 m11 m12 m17 m18 m19 m20 m21 m22 m23 H.size mfa mho mra mrh mch mfr mfw mrd mtr (p5_noCell SZ i1 i2)) (cwV 1 hts gX5_put_X5_failed rfl rfl rfl (by decide +kernel) ⟨Nat.le_of_ble_eq_true rfl, Nat.le_of_ble_eq_true rfl⟩) (pre_V hKc hN hPc hDc (RX5, TX5, 25) 5 0 rfl rfl) rfl rfl hl.1 rfl (lv_room (Nat.le_of_ble_eq_true rfl)) dX5_put_29 ⟨Nat.le_of_ble_eq_true rfl, Nat.le_of_ble_eq_true rfl⟩) hS (fun q _ h => hFc q h) hFc (fun r_29 _ t H locs ht hvm hw hB hz1 hk1 hS => ?_)
      try dsimp only at hw
      have er_29 := hw.symm
      rw [ht] at hB
      refine nm_gen ((p5_failed mfa (p5_noCell SZ i1 i2)).2) (fun mfa_29 emfa_29 => ?_)
      rw [emfa_29] at hB
      obtain ⟨hP, hD⟩ := rw_join ([(m0, .inr (5, [.int mfa, .int mho, .ref m2, .ref m3, .ref m4, .int mra, .int mrh, .ref m7, .ref m8, .ref m9, .ref m10, .ref m11, .ref m12, .int mch, .int mfr, .int mfw, .int mrd, .ref m17, .ref m18, .ref m19, .ref m20, .ref m21, .ref m22, .ref m23, .int mtr])), (m20, .inl (cI, 4, .inl SZ)), (m21, .inl (cI, 4, .inl LN)), (m22, .inl (cI, 240, .inl SH))]) ([(m0, .inr (5, [.int mfa_29, .int mho, .ref m2, .ref m3, .ref m4, .int mra, .int mrh, .ref m7, .ref m8, .ref m9, .ref m10, .ref m11, .ref m12, .int mch, .int mfr, .int mfw, .int mrd, .ref m17, .ref m18, .ref m19, .ref m20, .ref m21, .ref m22, .ref m23, .int mtr])), (m20, .inl (cI, 4, .inl SZ)), (m21, .inl (cI, 4, .inl LN)), (m22, .inl (cI, 240, .inl SH))]) ([(m0, .inr (5, [.int mfa, .int mho, .ref m2, .ref m3, .ref m4, .int mra, .int mrh, .ref m7, .ref m8, .ref m9, .ref m10, .ref m11, .ref m12, .int mch, .int mfr, .int mfw, .int mrd, .ref m17, .ref m18, .ref m19, .ref m20, .ref m21, .ref m22, .ref m23, .int mtr]))]) ([(m0, .inr (5, [.int mfa_29, .int mho, .ref m2, .ref m3, .ref m4, .int mra, .int mrh, .ref m7, .ref m8, .ref m9, .ref m10, .ref m11, .ref m12, .int mch, .int mfr, .int mfw, .int mrd, .ref m17, .ref m18, .ref m19, .ref m20, .ref m21, .ref m22, .ref m23, .int mtr]))]) ([(m20, .inl (cI, 4, .inl SZ)), (m21, .inl (cI, 4, .inl LN)), (m22, .inl (cI, 240, .inl SH))]) hP hD [0] [1, 2, 3] [m0, m20, m21, m22] 4 rfl rfl rfl rfl rfl (by decide) rfl rfl hk1 hB
      have hE9 : p5_put mfa SZ LN SH i1 i2 i3 = (r_29, mfa_29, SH) := by unfold p5_put; simp only [er_29, emfa_29]; rw [if_pos c_4, if_neg c_19]
      exact W.iret (v := r_29) hx hb hr (fun t ht hW => ⟨⟨_, (), rfl, by rw [hE9], by show va_P (dC, dI) vwCl _ t.heap; rw [ht, hE9]; exact hP⟩, hS.F ht⟩) hS.2.2 dX5_put_32
  · skip
    refine lv_aload_n hx hb dX5_put_7 rfl (lv_at hl 0 rfl) ?_
    refine lv_iconst (v := (-1)) hx hb dX5_put_8 (by decide) ?_
    have hPc := hP.sub (ws' := [(m0, .inr (5, [.int mfa, .int mho, .ref m2, .ref m3, .ref m4, .int mra, .int mrh, .ref m7, .ref m8, .ref m9, .ref m10, .ref m11, .ref m12, .int mch, .int mfr, .int mfw, .int mrd, .ref m17, .ref m18, .ref m19, .ref m20, .ref m21, .ref m22, .ref m23, .int mtr]))]) [0] rfl
    have hDc := hD.sub (ws' := [(m0, .inr (5, [.int mfa, .int mho, .ref m2, .ref m3, .ref m4, .int mra, .int mrh, .ref m7, .ref m8, .ref m9, .ref m10, .ref m11, .ref m12, .int mch, .int mfr, .int mfw, .int mrd, .ref m17, .ref m18, .ref m19, .ref m20, .ref m21, .ref m22, .ref m23, .int mtr]))]) [0] (by decide) rfl
    have hKc := hK.sub (tys' := [(cI, .int)]) [0] rfl
    have hFc := va_free (wc := [(m0, .inr (5, [.int mfa, .int mho, .ref m2, .ref m3, .ref m4, .int mra, .int mrh, .ref m7, .ref m8, .ref m9, .ref m10, .ref m11, .ref m12, .int mch, .int mfr, .int mfw, .int mrd, .ref m17, .ref m18, .ref m19, .ref m20, .ref m21, .ref m22, .ref m23, .int mtr]))]) hD hS hA [0] rfl
    refine va_calli (va_runV (As := [.int (-1)]) (rest := []) ⟨hx, hb, hml, hown, hts⟩ (ctX5_refused l dC dI cI m0 m2 m3 m4 m7 m8 m9 m10 m11 m12 m17 m18 m19 m20 m21 m22 m23 H.size mfa mho mra mrh mch mfr mfw mrd mtr (-1)) (cwV 1 hts gX5_put_X5_refused rfl rfl rfl (by decide +kernel) ⟨Nat.le_of_ble_eq_true rfl, Nat.le_of_ble_eq_true rfl⟩) (pre_V hKc hN hPc hDc (RX5, TX5, 25) 5 0 rfl rfl) rfl rfl hl.1 rfl (lv_room (Nat.le_of_ble_eq_true rfl)) dX5_put_9 ⟨Nat.le_of_ble_eq_true rfl, Nat.le_of_ble_eq_true rfl⟩) hS (fun q _ h => hFc q h) hFc (fun r_9 _ t H locs ht hvm hw hB hz1 hk1 hS => ?_)
    try dsimp only at hw
    have er_9 := hw.symm
    rw [ht] at hB
    refine nm_gen ((p5_refused mfa (-1)).2) (fun mfa_9 emfa_9 => ?_)
    rw [emfa_9] at hB
    obtain ⟨hP, hD⟩ := rw_join ([(m0, .inr (5, [.int mfa, .int mho, .ref m2, .ref m3, .ref m4, .int mra, .int mrh, .ref m7, .ref m8, .ref m9, .ref m10, .ref m11, .ref m12, .int mch, .int mfr, .int mfw, .int mrd, .ref m17, .ref m18, .ref m19, .ref m20, .ref m21, .ref m22, .ref m23, .int mtr])), (m20, .inl (cI, 4, .inl SZ)), (m21, .inl (cI, 4, .inl LN)), (m22, .inl (cI, 240, .inl SH))]) ([(m0, .inr (5, [.int mfa_9, .int mho, .ref m2, .ref m3, .ref m4, .int mra, .int mrh, .ref m7, .ref m8, .ref m9, .ref m10, .ref m11, .ref m12, .int mch, .int mfr, .int mfw, .int mrd, .ref m17, .ref m18, .ref m19, .ref m20, .ref m21, .ref m22, .ref m23, .int mtr])), (m20, .inl (cI, 4, .inl SZ)), (m21, .inl (cI, 4, .inl LN)), (m22, .inl (cI, 240, .inl SH))]) ([(m0, .inr (5, [.int mfa, .int mho, .ref m2, .ref m3, .ref m4, .int mra, .int mrh, .ref m7, .ref m8, .ref m9, .ref m10, .ref m11, .ref m12, .int mch, .int mfr, .int mfw, .int mrd, .ref m17, .ref m18, .ref m19, .ref m20, .ref m21, .ref m22, .ref m23, .int mtr]))]) ([(m0, .inr (5, [.int mfa_9, .int mho, .ref m2, .ref m3, .ref m4, .int mra, .int mrh, .ref m7, .ref m8, .ref m9, .ref m10, .ref m11, .ref m12, .int mch, .int mfr, .int mfw, .int mrd, .ref m17, .ref m18, .ref m19, .ref m20, .ref m21, .ref m22, .ref m23, .int mtr]))]) ([(m20, .inl (cI, 4, .inl SZ)), (m21, .inl (cI, 4, .inl LN)), (m22, .inl (cI, 240, .inl SH))]) hP hD [0] [1, 2, 3] [m0, m20, m21, m22] 4 rfl rfl rfl rfl rfl (by decide) rfl rfl hk1 hB
    have hE9 : p5_put mfa SZ LN SH i1 i2 i3 = (r_9, mfa_9, SH) := by unfold p5_put; simp only [er_9, emfa_9]; rw [if_neg c_4]
    exact W.iret (v := r_9) hx hb hr (fun t ht hW => ⟨⟨_, (), rfl, by rw [hE9], by show va_P (dC, dI) vwCl _ t.heap; rw [ht, hE9]; exact hP⟩, hS.F ht⟩) hS.2.2 dX5_put_12

def p5_cell (mfa : Int32) (SZ : Nat → Int32) (LN : Nat → Int32) (SH : Nat → Int32) (i1 : Int32) (i2 : Int32) (i3 : Int32) : Int64 × Int32 :=
  if (p5_noSheet i1) = 0 then
    if (p5_in i3.toInt64 0 2) = 0 then
      (p5_lost, 0)
    else
      if (SZ i1.toNatClampNeg) < 0 then
        if (p5_noCell SZ i1 i2) ≤ 0 then
          ((SH ((60 * i1) + i2).toNatClampNeg).toInt64, 0)
        else
          (((p5_failedLong 0 (p5_noCell SZ i1 i2)).1), ((p5_failedLong 0 (p5_noCell SZ i1 i2)).2))
      else
        if (LN i1.toNatClampNeg) = i3 then
          if (p5_noCell SZ i1 i2) ≤ 0 then
            ((SH ((60 * i1) + i2).toNatClampNeg).toInt64, 0)
          else
            (((p5_failedLong 0 (p5_noCell SZ i1 i2)).1), ((p5_failedLong 0 (p5_noCell SZ i1 i2)).2))
        else
          (((p5_failedLong 0 2).1), ((p5_failedLong 0 2).2))
  else
    (p5_lost, 0)
abbrev rmX5_cell : Room := { frames := 2, cells := 0, slots := 0, locals := 47 }
abbrev QX5_cell (dC : Nat → ClassId) (dI : Nat → Nat → Nat) (A : Nat → Prop) (cI : ClassId) (m0 : Nat) (m2 : Nat) (m3 : Nat) (m4 : Nat) (m7 : Nat) (m8 : Nat) (m9 : Nat) (m10 : Nat) (m11 : Nat) (m12 : Nat) (m17 : Nat) (m18 : Nat) (m19 : Nat) (m20 : Nat) (m21 : Nat) (m22 : Nat) (m23 : Nat) (mfa : Int32) (mho : Int32) (mra : Int32) (mrh : Int32) (mch : Int32) (mfr : Int32) (mfw : Int32) (mrd : Int32) (mtr : Int32) (SZ : Nat → Int32) (LN : Nat → Int32) (SH : Nat → Int32) (i1 : Int32) (i2 : Int32) (i3 : Int32) : Array Value → State → Outcome → State → Prop := va_Ql (fun (r : Int64) (_ : Unit) => r = (p5_cell mfa SZ LN SH i1 i2 i3).1) (fun (_ : Unit) (t : State) => va_P (dC, dI) vwCl ([(m0, .inr (5, [.int ((p5_cell mfa SZ LN SH i1 i2 i3).2), .int mho, .ref m2, .ref m3, .ref m4, .int mra, .int mrh, .ref m7, .ref m8, .ref m9, .ref m10, .ref m11, .ref m12, .int mch, .int mfr, .int mfw, .int mrd, .ref m17, .ref m18, .ref m19, .ref m20, .ref m21, .ref m22, .ref m23, .int mtr])), (m20, .inl (cI, 4, .inl SZ)), (m21, .inl (cI, 4, .inl LN)), (m22, .inl (cI, 240, .inl SH))]) t.heap) A
set_option maxHeartbeats 4000000 in
set_option maxRecDepth 100000 in
theorem ctX5_cell (l : Launch) (dC : Nat → ClassId) (dI : Nat → Nat → Nat) (cI : ClassId) (m0 : Nat) (m2 : Nat) (m3 : Nat) (m4 : Nat) (m7 : Nat) (m8 : Nat) (m9 : Nat) (m10 : Nat) (m11 : Nat) (m12 : Nat) (m17 : Nat) (m18 : Nat) (m19 : Nat) (m20 : Nat) (m21 : Nat) (m22 : Nat) (m23 : Nat) (sz : Nat) (mfa : Int32) (mho : Int32) (mra : Int32) (mrh : Int32) (mch : Int32) (mfr : Int32) (mfw : Int32) (mrd : Int32) (mtr : Int32) (SZ : Nat → Int32) (LN : Nat → Int32) (SH : Nat → Int32) (i1 : Int32) (i2 : Int32) (i3 : Int32) (hSZ : ∀ j : Nat, (SZ j).toInt ≤ 60) : Met l yX5_cell wsX5_cell rmX5_cell (va_Pc [.ref m0, .int i1, .int i2, .int i3] (cP dC dI [(cI, .int)] ([(m0, .inr (5, [.int mfa, .int mho, .ref m2, .ref m3, .ref m4, .int mra, .int mrh, .ref m7, .ref m8, .ref m9, .ref m10, .ref m11, .ref m12, .int mch, .int mfr, .int mfw, .int mrd, .ref m17, .ref m18, .ref m19, .ref m20, .ref m21, .ref m22, .ref m23, .int mtr])), (m20, .inl (cI, 4, .inl SZ)), (m21, .inl (cI, 4, .inl LN)), (m22, .inl (cI, 240, .inl SH))]) sz)) (QX5_cell dC dI (va_A ([(m0, .inr (5, [.int mfa, .int mho, .ref m2, .ref m3, .ref m4, .int mra, .int mrh, .ref m7, .ref m8, .ref m9, .ref m10, .ref m11, .ref m12, .int mch, .int mfr, .int mfw, .int mrd, .ref m17, .ref m18, .ref m19, .ref m20, .ref m21, .ref m22, .ref m23, .int mtr])), (m20, .inl (cI, 4, .inl SZ)), (m21, .inl (cI, 4, .inl LN)), (m22, .inl (cI, 240, .inl SH))]) sz) cI m0 m2 m3 m4 m7 m8 m9 m10 m11 m12 m17 m18 m19 m20 m21 m22 m23 mfa mho mra mrh mch mfr mfw mrd mtr SZ LN SH i1 i2 i3) 0 0 (va_A ([(m0, .inr (5, [.int mfa, .int mho, .ref m2, .ref m3, .ref m4, .int mra, .int mrh, .ref m7, .ref m8, .ref m9, .ref m10, .ref m11, .ref m12, .int mch, .int mfr, .int mfw, .int mrd, .ref m17, .ref m18, .ref m19, .ref m20, .ref m21, .ref m22, .ref m23, .int mtr])), (m20, .inl (cI, 4, .inl SZ)), (m21, .inl (cI, 4, .inl LN)), (m22, .inl (cI, 240, .inl SH))]) sz) := by
  refine Met.ofW (cc := cX5_cell) (maxL := 4) (ret := (some .long)) (by decide) rfl ?_
  intro p e s m args below meth c s₁ B hml hv
  obtain ⟨rfl, hsz, hP, hK, hD0, hN⟩ := hv
  have hx := B.exec
  have hb := B.bytes
  have hr := B.returns
  have hts := atoms_spec (ws := wsX5_cell) B.pre
  have hown : s.vm.findClass RX5 = some m.cls := findClass_of_methodNamed B.named
  have hlocks := B.notSynchronized
  subst hsz
  have hD := hD0.self (sz := s.heap.size)
  generalize hAe : va_A ([(m0, .inr (5, [.int mfa, .int mho, .ref m2, .ref m3, .ref m4, .int mra, .int mrh, .ref m7, .ref m8, .ref m9, .ref m10, .ref m11, .ref m12, .int mch, .int mfr, .int mfw, .int mrd, .ref m17, .ref m18, .ref m19, .ref m20, .ref m21, .ref m22, .ref m23, .int mtr])), (m20, .inl (cI, 4, .inl SZ)), (m21, .inl (cI, 4, .inl LN)), (m22, .inl (cI, 240, .inl SH))]) s.heap.size = A at hD ⊢
  have hA : ∀ q : Nat, s.heap.size ≤ q → A q := fun q h => by rw [← hAe]; exact Or.inr h
  have hS : va_S A s.heap s.heap [] := va_S.rf
  have hP : va_P (dC, dI) vwCl ([(m0, .inr (5, [.int mfa, .int mho, .ref m2, .ref m3, .ref m4, .int mra, .int mrh, .ref m7, .ref m8, .ref m9, .ref m10, .ref m11, .ref m12, .int mch, .int mfr, .int mfw, .int mrd, .ref m17, .ref m18, .ref m19, .ref m20, .ref m21, .ref m22, .ref m23, .int mtr])), (m20, .inl (cI, 4, .inl SZ)), (m21, .inl (cI, 4, .inl LN)), (m22, .inl (cI, 240, .inl SH))]) s.heap := hP
  have hin5 : ∀ w ∈ wsX50, w ∈ wsX5_cell := by decide +kernel
  have kl_109 := hts (.constantLong RX5 109 2) (by decide +kernel)
  have kf_46 := hts (.fieldLink RX5 46 "RicherChangeModel" "sheetSize" "[I") (by decide +kernel)
  have kf_49 := hts (.fieldLink RX5 49 "RicherChangeModel" "sheetLane" "[I") (by decide +kernel)
  have kf_52 := hts (.fieldLink RX5 52 "RicherChangeModel" "sheet" "[I") (by decide +kernel)
  have kf_60 := hts (.fieldLink RX5 60 "RicherChangeModel" "fault" "I") (by decide +kernel)
  have hl := lv_entry ([.ref m0, .int i1, .int i2, .int i3]) (n := 4) (Nat.le_of_ble_eq_true rfl)
  rw [lg_entry_eq]
  generalize (lg_sl ([.ref m0, .int i1, .int i2, .int i3]) ++ List.replicate (4 - (lg_sl ([.ref m0, .int i1, .int i2, .int i3])).length) Slot.unset).toArray = ls at hl ⊢
  have hl : lv_has ls 4 [(0, .ref m0), (1, .int i1), (2, .int i2), (3, .int i3)] := hl
  refine lv_aload_n hx hb dX5_cell_0 rfl (lv_at hl 0 rfl) ?_
  refine lv_iconst (v := 0) hx hb dX5_cell_1 (by decide) ?_
  refine va_put (D := (dC, dI)) (ci := 5) (v := .int 0) (ty := .int) (C := RX5) (T := TX5) (N := 25) hx hb hts hin5 tyX5 tyX5_ok nmX5 hown hK hP hD hS 0 rfl rfl 0 (by decide) kf_60 (fun _ h9 => h9) rfl (by decide +kernel) rfl rfl (Nat.le_of_ble_eq_true rfl) dX5_cell_2 (fun H locs hP hD hS => ?_)
  have hP : va_P (dC, dI) vwCl ([(m0, .inr (5, [.int 0, .int mho, .ref m2, .ref m3, .ref m4, .int mra, .int mrh, .ref m7, .ref m8, .ref m9, .ref m10, .ref m11, .ref m12, .int mch, .int mfr, .int mfw, .int mrd, .ref m17, .ref m18, .ref m19, .ref m20, .ref m21, .ref m22, .ref m23, .int mtr])), (m20, .inl (cI, 4, .inl SZ)), (m21, .inl (cI, 4, .inl LN)), (m22, .inl (cI, 240, .inl SH))]) H := hP
  have hD : va_D A ([(m0, .inr (5, [.int 0, .int mho, .ref m2, .ref m3, .ref m4, .int mra, .int mrh, .ref m7, .ref m8, .ref m9, .ref m10, .ref m11, .ref m12, .int mch, .int mfr, .int mfw, .int mrd, .ref m17, .ref m18, .ref m19, .ref m20, .ref m21, .ref m22, .ref m23, .int mtr])), (m20, .inl (cI, 4, .inl SZ)), (m21, .inl (cI, 4, .inl LN)), (m22, .inl (cI, 240, .inl SH))]) := hD
  refine lv_iload_n hx hb dX5_cell_5 rfl (lv_at hl 1 rfl) ?_
  have hPc : va_P (dC, dI) vwCl [] H := hP.sub (ws' := []) [] rfl
  have hDc : va_D A [] := hD.sub (ws' := []) [] (by decide) rfl
  have hKc := hK.sub (tys' := [(cI, .int)]) [0] rfl
  have hFc := va_free (wc := []) hD hS hA [] rfl
  refine va_calli (va_runS (As := [.int i1]) (rest := []) ⟨hx, hb, hml, hown, hts⟩ (ctX5_noSheet l dC dI cI H.size i1) (va_cwS 1 hts gX5_cell_X5_noSheet rfl rfl rfl (by decide +kernel) ⟨Nat.le_of_ble_eq_true rfl, Nat.le_of_ble_eq_true rfl⟩) (pre_S hKc hN hPc hDc) rfl rfl hl.1 rfl (lv_room (Nat.le_of_ble_eq_true rfl)) dX5_cell_6 ⟨Nat.le_of_ble_eq_true rfl, Nat.le_of_ble_eq_true rfl⟩) hS (fun q _ h => hFc q h) hFc (fun r _ t H locs ht hvm hw hB hz1 hk1 hS => ?_)
  try dsimp only at hw
  subst hw
  rw [ht] at hB
  obtain ⟨hP, hD⟩ := rw_join ([(m0, .inr (5, [.int 0, .int mho, .ref m2, .ref m3, .ref m4, .int mra, .int mrh, .ref m7, .ref m8, .ref m9, .ref m10, .ref m11, .ref m12, .int mch, .int mfr, .int mfw, .int mrd, .ref m17, .ref m18, .ref m19, .ref m20, .ref m21, .ref m22, .ref m23, .int mtr])), (m20, .inl (cI, 4, .inl SZ)), (m21, .inl (cI, 4, .inl LN)), (m22, .inl (cI, 240, .inl SH))]) ([(m0, .inr (5, [.int 0, .int mho, .ref m2, .ref m3, .ref m4, .int mra, .int mrh, .ref m7, .ref m8, .ref m9, .ref m10, .ref m11, .ref m12, .int mch, .int mfr, .int mfw, .int mrd, .ref m17, .ref m18, .ref m19, .ref m20, .ref m21, .ref m22, .ref m23, .int mtr])), (m20, .inl (cI, 4, .inl SZ)), (m21, .inl (cI, 4, .inl LN)), (m22, .inl (cI, 240, .inl SH))]) ([]) ([]) ([(m0, .inr (5, [.int 0, .int mho, .ref m2, .ref m3, .ref m4, .int mra, .int mrh, .ref m7, .ref m8, .ref m9, .ref m10, .ref m11, .ref m12, .int mch, .int mfr, .int mfw, .int mrd, .ref m17, .ref m18, .ref m19, .ref m20, .ref m21, .ref m22, .ref m23, .int mtr])), (m20, .inl (cI, 4, .inl SZ)), (m21, .inl (cI, 4, .inl LN)), (m22, .inl (cI, 240, .inl SH))]) hP hD [] [0, 1, 2, 3] [m0, m20, m21, m22] 4 rfl rfl rfl rfl rfl (by decide) rfl rfl hk1 hB
  refine lv_if_ne (tgt := 24) hx hb dX5_cell_9 (by decide) (fun c_9 => ?_) (fun c_9 => ?_)
  · skip
    have hPc : va_P (dC, dI) vwCl [] H := hP.sub (ws' := []) [] rfl
    have hDc : va_D A [] := hD.sub (ws' := []) [] (by decide) rfl
    have hKc := hK.sub (tys' := [(cI, .int)]) [0] rfl
    have hFc := va_free (wc := []) hD hS hA [] rfl
    refine va_calll (va_runS (As := []) (rest := []) ⟨hx, hb, hml, hown, hts⟩ (ctX5_lost l dC dI cI H.size) (va_cwS 0 hts gX5_cell_X5_lost rfl rfl rfl (by decide +kernel) ⟨Nat.le_of_ble_eq_true rfl, Nat.le_of_ble_eq_true rfl⟩) (pre_S hKc hN hPc hDc) rfl rfl hl.1 rfl (lv_room (Nat.le_of_ble_eq_true rfl)) dX5_cell_24 ⟨Nat.le_of_ble_eq_true rfl, Nat.le_of_ble_eq_true rfl⟩) hS (fun q _ h => hFc q h) hFc (fun r _ t H locs ht hvm hw hB hz1 hk1 hS => ?_)
    try dsimp only at hw
    subst hw
    rw [ht] at hB
    obtain ⟨hP, hD⟩ := rw_join ([(m0, .inr (5, [.int 0, .int mho, .ref m2, .ref m3, .ref m4, .int mra, .int mrh, .ref m7, .ref m8, .ref m9, .ref m10, .ref m11, .ref m12, .int mch, .int mfr, .int mfw, .int mrd, .ref m17, .ref m18, .ref m19, .ref m20, .ref m21, .ref m22, .ref m23, .int mtr])), (m20, .inl (cI, 4, .inl SZ)), (m21, .inl (cI, 4, .inl LN)), (m22, .inl (cI, 240, .inl SH))]) ([(m0, .inr (5, [.int 0, .int mho, .ref m2, .ref m3, .ref m4, .int mra, .int mrh, .ref m7, .ref m8, .ref m9, .ref m10, .ref m11, .ref m12, .int mch, .int mfr, .int mfw, .int mrd, .ref m17, .ref m18, .ref m19, .ref m20, .ref m21, .ref m22, .ref m23, .int mtr])), (m20, .inl (cI, 4, .inl SZ)), (m21, .inl (cI, 4, .inl LN)), (m22, .inl (cI, 240, .inl SH))]) ([]) ([]) ([(m0, .inr (5, [.int 0, .int mho, .ref m2, .ref m3, .ref m4, .int mra, .int mrh, .ref m7, .ref m8, .ref m9, .ref m10, .ref m11, .ref m12, .int mch, .int mfr, .int mfw, .int mrd, .ref m17, .ref m18, .ref m19, .ref m20, .ref m21, .ref m22, .ref m23, .int mtr])), (m20, .inl (cI, 4, .inl SZ)), (m21, .inl (cI, 4, .inl LN)), (m22, .inl (cI, 240, .inl SH))]) hP hD [] [0, 1, 2, 3] [m0, m20, m21, m22] 4 rfl rfl rfl rfl rfl (by decide) rfl rfl hk1 hB
    have hE9 : p5_cell mfa SZ LN SH i1 i2 i3 = (p5_lost, 0) := by unfold p5_cell; rw [if_neg c_9]
    exact W.lret (v := p5_lost) hx hb hr (fun t ht hW => ⟨⟨_, (), rfl, by rw [hE9], by show va_P (dC, dI) vwCl _ t.heap; rw [ht, hE9]; exact hP⟩, hS.F ht⟩) hS.2.2 dX5_cell_27
  · skip
    have j1 : vp_in i1 4 := noSheet_in c_9
    refine lv_iload_n hx hb dX5_cell_12 rfl (lv_at hl 3 rfl) ?_
    refine lv_i2l (v := i3.toInt64) hx hb dX5_cell_13 rfl ?_
    refine lv_lconst (v := 0) hx hb dX5_cell_14 (by decide) ?_
    refine lv_ldc2 (v := 2) hx hb hown kl_109 dX5_cell_15 ?_
    have hPc : va_P (dC, dI) vwCl [] H := hP.sub (ws' := []) [] rfl
    have hDc : va_D A [] := hD.sub (ws' := []) [] (by decide) rfl
    have hKc := hK.sub (tys' := [(cI, .int)]) [0] rfl
    have hFc := va_free (wc := []) hD hS hA [] rfl
    refine va_calli (va_runS (As := [.long i3.toInt64, .long 0, .long 2]) (rest := []) ⟨hx, hb, hml, hown, hts⟩ (ctX5_in l dC dI cI H.size i3.toInt64 0 2) (va_cwS 3 hts gX5_cell_X5_in rfl rfl rfl (by decide +kernel) ⟨Nat.le_of_ble_eq_true rfl, Nat.le_of_ble_eq_true rfl⟩) (pre_S hKc hN hPc hDc) rfl rfl hl.1 rfl (lv_room (Nat.le_of_ble_eq_true rfl)) dX5_cell_18 ⟨Nat.le_of_ble_eq_true rfl, Nat.le_of_ble_eq_true rfl⟩) hS (fun q _ h => hFc q h) hFc (fun r _ t H locs ht hvm hw hB hz1 hk1 hS => ?_)
    try dsimp only at hw
    subst hw
    rw [ht] at hB
    obtain ⟨hP, hD⟩ := rw_join ([(m0, .inr (5, [.int 0, .int mho, .ref m2, .ref m3, .ref m4, .int mra, .int mrh, .ref m7, .ref m8, .ref m9, .ref m10, .ref m11, .ref m12, .int mch, .int mfr, .int mfw, .int mrd, .ref m17, .ref m18, .ref m19, .ref m20, .ref m21, .ref m22, .ref m23, .int mtr])), (m20, .inl (cI, 4, .inl SZ)), (m21, .inl (cI, 4, .inl LN)), (m22, .inl (cI, 240, .inl SH))]) ([(m0, .inr (5, [.int 0, .int mho, .ref m2, .ref m3, .ref m4, .int mra, .int mrh, .ref m7, .ref m8, .ref m9, .ref m10, .ref m11, .ref m12, .int mch, .int mfr, .int mfw, .int mrd, .ref m17, .ref m18, .ref m19, .ref m20, .ref m21, .ref m22, .ref m23, .int mtr])), (m20, .inl (cI, 4, .inl SZ)), (m21, .inl (cI, 4, .inl LN)), (m22, .inl (cI, 240, .inl SH))]) ([]) ([]) ([(m0, .inr (5, [.int 0, .int mho, .ref m2, .ref m3, .ref m4, .int mra, .int mrh, .ref m7, .ref m8, .ref m9, .ref m10, .ref m11, .ref m12, .int mch, .int mfr, .int mfw, .int mrd, .ref m17, .ref m18, .ref m19, .ref m20, .ref m21, .ref m22, .ref m23, .int mtr])), (m20, .inl (cI, 4, .inl SZ)), (m21, .inl (cI, 4, .inl LN)), (m22, .inl (cI, 240, .inl SH))]) hP hD [] [0, 1, 2, 3] [m0, m20, m21, m22] 4 rfl rfl rfl rfl rfl (by decide) rfl rfl hk1 hB
    refine lv_if_ne (tgt := 28) hx hb dX5_cell_21 (by decide) (fun c_21 => ?_) (fun c_21 => ?_)
    · skip
      refine lv_aload_n hx hb dX5_cell_28 rfl (lv_at hl 0 rfl) ?_
      refine va_get (D := (dC, dI)) (ci := 5) (v := .ref m20) (C := RX5) (T := TX5) (N := 25) hx hb hts hin5 hown hK hP 0 rfl rfl 20 (by decide) kf_46 (fun _ h9 => h9) rfl dX5_cell_29 ?_
      refine lv_iload_n hx hb dX5_cell_32 rfl (lv_at hl 1 rfl) ?_
      refine va_iald hx hb hK hP 1 0 rfl rfl (by assumption) dX5_cell_33 ?_
      refine lv_if_lt (tgt := 53) hx hb dX5_cell_34 (by decide) (fun c_34 => ?_) (fun c_34 => ?_)
      · skip
        refine lv_aload_n hx hb dX5_cell_53 rfl (lv_at hl 0 rfl) ?_
        refine lv_iload_n hx hb dX5_cell_54 rfl (lv_at hl 1 rfl) ?_
        refine lv_iload_n hx hb dX5_cell_55 rfl (lv_at hl 2 rfl) ?_
        have hPc := hP.sub (ws' := [(m0, .inr (5, [.int 0, .int mho, .ref m2, .ref m3, .ref m4, .int mra, .int mrh, .ref m7, .ref m8, .ref m9, .ref m10, .ref m11, .ref m12, .int mch, .int mfr, .int mfw, .int mrd, .ref m17, .ref m18, .ref m19, .ref m20, .ref m21, .ref m22, .ref m23, .int mtr])), (m20, .inl (cI, 4, .inl SZ))]) [0, 1] rfl
        have hDc := hD.sub (ws' := [(m0, .inr (5, [.int 0, .int mho, .ref m2, .ref m3, .ref m4, .int mra, .int mrh, .ref m7, .ref m8, .ref m9, .ref m10, .ref m11, .ref m12, .int mch, .int mfr, .int mfw, .int mrd, .ref m17, .ref m18, .ref m19, .ref m20, .ref m21, .ref m22, .ref m23, .int mtr])), (m20, .inl (cI, 4, .inl SZ))]) [0, 1] (by decide) rfl
        have hKc := hK.sub (tys' := [(cI, .int)]) [0] rfl
        have hFc := va_free (wc := [(m0, .inr (5, [.int 0, .int mho, .ref m2, .ref m3, .ref m4, .int mra, .int mrh, .ref m7, .ref m8, .ref m9, .ref m10, .ref m11, .ref m12, .int mch, .int mfr, .int mfw, .int mrd, .ref m17, .ref m18, .ref m19, .ref m20, .ref m21, .ref m22, .ref m23, .int mtr])), (m20, .inl (cI, 4, .inl SZ))]) hD hS hA [0, 1] rfl
        refine va_calli (va_runV (As := [.int i1, .int i2]) (rest := []) ⟨hx, hb, hml, hown, hts⟩ (ctX5_noCell l dC dI cI m0 m2 m3 m4 m7 m8 m9 m10 m11 m12 m17 m18 m19 m20 m21 m22 m23 H.size 0 mho mra mrh mch mfr mfw mrd mtr SZ i1 i2 (by assumption)) (cwV 2 hts gX5_cell_X5_noCell rfl rfl rfl (by decide +kernel) ⟨Nat.le_of_ble_eq_true rfl, Nat.le_of_ble_eq_true rfl⟩) (pre_V hKc hN hPc hDc (RX5, TX5, 25) 5 0 rfl rfl) rfl rfl hl.1 rfl (lv_room (Nat.le_of_ble_eq_true rfl)) dX5_cell_56 ⟨Nat.le_of_ble_eq_true rfl, Nat.le_of_ble_eq_true rfl⟩) hS (fun q _ h => hFc q h) hFc (fun r _ t H locs ht hvm hw hB hz1 hk1 hS => ?_)
        try dsimp only at hw
        subst hw
        rw [ht] at hB
        obtain ⟨hP, hD⟩ := rw_join ([(m0, .inr (5, [.int 0, .int mho, .ref m2, .ref m3, .ref m4, .int mra, .int mrh, .ref m7, .ref m8, .ref m9, .ref m10, .ref m11, .ref m12, .int mch, .int mfr, .int mfw, .int mrd, .ref m17, .ref m18, .ref m19, .ref m20, .ref m21, .ref m22, .ref m23, .int mtr])), (m20, .inl (cI, 4, .inl SZ)), (m21, .inl (cI, 4, .inl LN)), (m22, .inl (cI, 240, .inl SH))]) ([(m0, .inr (5, [.int 0, .int mho, .ref m2, .ref m3, .ref m4, .int mra, .int mrh, .ref m7, .ref m8, .ref m9, .ref m10, .ref m11, .ref m12, .int mch, .int mfr, .int mfw, .int mrd, .ref m17, .ref m18, .ref m19, .ref m20, .ref m21, .ref m22, .ref m23, .int mtr])), (m20, .inl (cI, 4, .inl SZ)), (m21, .inl (cI, 4, .inl LN)), (m22, .inl (cI, 240, .inl SH))]) ([(m0, .inr (5, [.int 0, .int mho, .ref m2, .ref m3, .ref m4, .int mra, .int mrh, .ref m7, .ref m8, .ref m9, .ref m10, .ref m11, .ref m12, .int mch, .int mfr, .int mfw, .int mrd, .ref m17, .ref m18, .ref m19, .ref m20, .ref m21, .ref m22, .ref m23, .int mtr])), (m20, .inl (cI, 4, .inl SZ))]) ([(m0, .inr (5, [.int 0, .int mho, .ref m2, .ref m3, .ref m4, .int mra, .int mrh, .ref m7, .ref m8, .ref m9, .ref m10, .ref m11, .ref m12, .int mch, .int mfr, .int mfw, .int mrd, .ref m17, .ref m18, .ref m19, .ref m20, .ref m21, .ref m22, .ref m23, .int mtr])), (m20, .inl (cI, 4, .inl SZ))]) ([(m21, .inl (cI, 4, .inl LN)), (m22, .inl (cI, 240, .inl SH))]) hP hD [0, 1] [2, 3] [m0, m20, m21, m22] 4 rfl rfl rfl rfl rfl (by decide) rfl rfl hk1 hB
        refine lv_if_le (tgt := 75) hx hb dX5_cell_59 (by decide) (fun c_59 => ?_) (fun c_59 => ?_)
        · skip
          refine lv_aload_n hx hb dX5_cell_75 rfl (lv_at hl 0 rfl) ?_
          refine va_get (D := (dC, dI)) (ci := 5) (v := .ref m22) (C := RX5) (T := TX5) (N := 25) hx hb hts hin5 hown hK hP 0 rfl rfl 22 (by decide) kf_52 (fun _ h9 => h9) rfl dX5_cell_76 ?_
          refine lv_bipush (v := 60) hx hb dX5_cell_79 (by decide) ?_
          refine lv_iload_n hx hb dX5_cell_81 rfl (lv_at hl 1 rfl) ?_
          refine lv_imul hx hb dX5_cell_82 ?_
          refine lv_iload_n hx hb dX5_cell_83 rfl (lv_at hl 2 rfl) ?_
          refine lv_iadd hx hb dX5_cell_84 ?_
          refine va_iald hx hb hK hP 3 0 rfl rfl (put_ix j1 (hSZ _) c_59) dX5_cell_85 ?_
          refine lv_i2l (v := (SH ((60 * i1) + i2).toNatClampNeg).toInt64) hx hb dX5_cell_86 rfl ?_
          have hE9 : p5_cell mfa SZ LN SH i1 i2 i3 = ((SH ((60 * i1) + i2).toNatClampNeg).toInt64, 0) := by unfold p5_cell; rw [if_pos c_9, if_neg c_21, if_pos c_34, if_pos c_59]
          exact W.lret (v := (SH ((60 * i1) + i2).toNatClampNeg).toInt64) hx hb hr (fun t ht hW => ⟨⟨_, (), rfl, by rw [hE9], by show va_P (dC, dI) vwCl _ t.heap; rw [ht, hE9]; exact hP⟩, hS.F ht⟩) hS.2.2 dX5_cell_87
        · skip
          refine lv_aload_n hx hb dX5_cell_62 rfl (lv_at hl 0 rfl) ?_
          refine lv_aload_n hx hb dX5_cell_63 rfl (lv_at hl 0 rfl) ?_
          refine lv_iload_n hx hb dX5_cell_64 rfl (lv_at hl 1 rfl) ?_
          refine lv_iload_n hx hb dX5_cell_65 rfl (lv_at hl 2 rfl) ?_
          have hPc := hP.sub (ws' := [(m0, .inr (5, [.int 0, .int mho, .ref m2, .ref m3, .ref m4, .int mra, .int mrh, .ref m7, .ref m8, .ref m9, .ref m10, .ref m11, .ref m12, .int mch, .int mfr, .int mfw, .int mrd, .ref m17, .ref m18, .ref m19, .ref m20, .ref m21, .ref m22, .ref m23, .int mtr])), (m20, .inl (cI, 4, .inl SZ))]) [0, 1] rfl
          have hDc := hD.sub (ws' := [(m0, .inr (5, [.int 0, .int mho, .ref m2, .ref m3, .ref m4, .int mra, .int mrh, .ref m7, .ref m8, .ref m9, .ref m10, .ref m11, .ref m12, .int mch, .int mfr, .int mfw, .int mrd, .ref m17, .ref m18, .ref m19, .ref m20, .ref m21, .ref m22, .ref m23, .int mtr])), (m20, .inl (cI, 4, .inl SZ))]) [0, 1] (by decide) rfl
          have hKc := hK.sub (tys' := [(cI, .int)]) [0] rfl
          have hFc := va_free (wc := [(m0, .inr (5, [.int 0, .int mho, .ref m2, .ref m3, .ref m4, .int mra, .int mrh, .ref m7, .ref m8, .ref m9, .ref m10, .ref m11, .ref m12, .int mch, .int mfr, .int mfw, .int mrd, .ref m17, .ref m18, .ref m19, .ref m20, .ref m21, .ref m22, .ref m23, .int mtr])), (m20, .inl (cI, 4, .inl SZ))]) hD hS hA [0, 1] rfl
          refine va_calli (va_runV (As := [.int i1, .int i2]) (rest := [.ref m0]) ⟨hx, hb, hml, hown, hts⟩ (ctX5_noCell l dC dI cI m0 m2 m3 m4 m7 m8 m9 m10 m11 m12 m17 m18 m19 m20 m21 m22 m23 H.size 0 mho mra mrh mch mfr mfw mrd mtr SZ i1 i2 (by assumption)) (cwV 2 hts gX5_cell_X5_noCell rfl rfl rfl (by decide +kernel) ⟨Nat.le_of_ble_eq_true rfl, Nat.le_of_ble_eq_true rfl⟩) (pre_V hKc hN hPc hDc (RX5, TX5, 25) 5 0 rfl rfl) rfl rfl hl.1 rfl (lv_room (Nat.le_of_ble_eq_true rfl)) dX5_cell_66 ⟨Nat.le_of_ble_eq_true rfl, Nat.le_of_ble_eq_true rfl⟩) hS (fun q _ h => hFc q h) hFc (fun r _ t H locs ht hvm hw hB hz1 hk1 hS => ?_)
          try dsimp only at hw
          subst hw
          rw [ht] at hB
          obtain ⟨hP, hD⟩ := rw_join ([(m0, .inr (5, [.int 0, .int mho, .ref m2, .ref m3, .ref m4, .int mra, .int mrh, .ref m7, .ref m8, .ref m9, .ref m10, .ref m11, .ref m12, .int mch, .int mfr, .int mfw, .int mrd, .ref m17, .ref m18, .ref m19, .ref m20, .ref m21, .ref m22, .ref m23, .int mtr])), (m20, .inl (cI, 4, .inl SZ)), (m21, .inl (cI, 4, .inl LN)), (m22, .inl (cI, 240, .inl SH))]) ([(m0, .inr (5, [.int 0, .int mho, .ref m2, .ref m3, .ref m4, .int mra, .int mrh, .ref m7, .ref m8, .ref m9, .ref m10, .ref m11, .ref m12, .int mch, .int mfr, .int mfw, .int mrd, .ref m17, .ref m18, .ref m19, .ref m20, .ref m21, .ref m22, .ref m23, .int mtr])), (m20, .inl (cI, 4, .inl SZ)), (m21, .inl (cI, 4, .inl LN)), (m22, .inl (cI, 240, .inl SH))]) ([(m0, .inr (5, [.int 0, .int mho, .ref m2, .ref m3, .ref m4, .int mra, .int mrh, .ref m7, .ref m8, .ref m9, .ref m10, .ref m11, .ref m12, .int mch, .int mfr, .int mfw, .int mrd, .ref m17, .ref m18, .ref m19, .ref m20, .ref m21, .ref m22, .ref m23, .int mtr])), (m20, .inl (cI, 4, .inl SZ))]) ([(m0, .inr (5, [.int 0, .int mho, .ref m2, .ref m3, .ref m4, .int mra, .int mrh, .ref m7, .ref m8, .ref m9, .ref m10, .ref m11, .ref m12, .int mch, .int mfr, .int mfw, .int mrd, .ref m17, .ref m18, .ref m19, .ref m20, .ref m21, .ref m22, .ref m23, .int mtr])), (m20, .inl (cI, 4, .inl SZ))]) ([(m21, .inl (cI, 4, .inl LN)), (m22, .inl (cI, 240, .inl SH))]) hP hD [0, 1] [2, 3] [m0, m20, m21, m22] 4 rfl rfl rfl rfl rfl (by decide) rfl rfl hk1 hB
          have hPc := hP.sub (ws' := [(m0, .inr (5, [.int 0, .int mho, .ref m2, .ref m3, .ref m4, .int mra, .int mrh, .ref m7, .ref m8, .ref m9, .ref m10, .ref m11, .ref m12, .int mch, .int mfr, .int mfw, .int mrd, .ref m17, .ref m18, .ref m19, .ref m20, .ref m21, .ref m22, .ref m23, .int mtr]))]) [0] rfl
          have hDc := hD.sub (ws' := [(m0, .inr (5, [.int 0, .int mho, .ref m2, .ref m3, .ref m4, .int mra, .int mrh, .ref m7, .ref m8, .ref m9, .ref m10, .ref m11, .ref m12, .int mch, .int mfr, .int mfw, .int mrd, .ref m17, .ref m18, .ref m19, .ref m20, .ref m21, .ref m22, .ref m23, .int mtr]))]) [0] (by decide) rfl
          have hKc := hK.sub (tys' := [(cI, .int)]) [0] rfl
          have hFc := va_free (wc := [(m0, .inr (5, [.int 0, .int mho, .ref m2, .ref m3, .ref m4, .int mra, .int mrh, .ref m7, .ref m8, .ref m9, .ref m10, .ref m11, .ref m12, .int mch, .int mfr, .int mfw, .int mrd, .ref m17, .ref m18, .ref m19, .ref m20, .ref m21, .ref m22, .ref m23, .int mtr]))]) hD hS hA [0] rfl
          refine va_calll (va_runV (As := [.int (p5_noCell SZ i1 i2)]) (rest := []) ⟨hx, hb, hml, hown, hts⟩ (ctX5_failedLong l dC dI cI m0 m2 m3 m4 m7 m8 m9 m10 m11 m12 m17 m18 m19 m20 m21 m22 m23 H.size 0 mho mra mrh mch mfr mfw mrd mtr (p5_noCell SZ i1 i2)) (cwV 1 hts gX5_cell_X5_failedLong rfl rfl rfl (by decide +kernel) ⟨Nat.le_of_ble_eq_true rfl, Nat.le_of_ble_eq_true rfl⟩) (pre_V hKc hN hPc hDc (RX5, TX5, 25) 5 0 rfl rfl) rfl rfl hl.1 rfl (lv_room (Nat.le_of_ble_eq_true rfl)) dX5_cell_69 ⟨Nat.le_of_ble_eq_true rfl, Nat.le_of_ble_eq_true rfl⟩) hS (fun q _ h => hFc q h) hFc (fun r_69 _ t H locs ht hvm hw hB hz1 hk1 hS => ?_)
          try dsimp only at hw
          have er_69 := hw.symm
          rw [ht] at hB
          refine nm_gen ((p5_failedLong 0 (p5_noCell SZ i1 i2)).2) (fun mfa_69 emfa_69 => ?_)
          rw [emfa_69] at hB
          obtain ⟨hP, hD⟩ := rw_join ([(m0, .inr (5, [.int 0, .int mho, .ref m2, .ref m3, .ref m4, .int mra, .int mrh, .ref m7, .ref m8, .ref m9, .ref m10, .ref m11, .ref m12, .int mch, .int mfr, .int mfw, .int mrd, .ref m17, .ref m18, .ref m19, .ref m20, .ref m21, .ref m22, .ref m23, .int mtr])), (m20, .inl (cI, 4, .inl SZ)), (m21, .inl (cI, 4, .inl LN)), (m22, .inl (cI, 240, .inl SH))]) ([(m0, .inr (5, [.int mfa_69, .int mho, .ref m2, .ref m3, .ref m4, .int mra, .int mrh, .ref m7, .ref m8, .ref m9, .ref m10, .ref m11, .ref m12, .int mch, .int mfr, .int mfw, .int mrd, .ref m17, .ref m18, .ref m19, .ref m20, .ref m21, .ref m22, .ref m23, .int mtr])), (m20, .inl (cI, 4, .inl SZ)), (m21, .inl (cI, 4, .inl LN)), (m22, .inl (cI, 240, .inl SH))]) ([(m0, .inr (5, [.int 0, .int mho, .ref m2, .ref m3, .ref m4, .int mra, .int mrh, .ref m7, .ref m8, .ref m9, .ref m10, .ref m11, .ref m12, .int mch, .int mfr, .int mfw, .int mrd, .ref m17, .ref m18, .ref m19, .ref m20, .ref m21, .ref m22, .ref m23, .int mtr]))]) ([(m0, .inr (5, [.int mfa_69, .int mho, .ref m2, .ref m3, .ref m4, .int mra, .int mrh, .ref m7, .ref m8, .ref m9, .ref m10, .ref m11, .ref m12, .int mch, .int mfr, .int mfw, .int mrd, .ref m17, .ref m18, .ref m19, .ref m20, .ref m21, .ref m22, .ref m23, .int mtr]))]) ([(m20, .inl (cI, 4, .inl SZ)), (m21, .inl (cI, 4, .inl LN)), (m22, .inl (cI, 240, .inl SH))]) hP hD [0] [1, 2, 3] [m0, m20, m21, m22] 4 rfl rfl rfl rfl rfl (by decide) rfl rfl hk1 hB
          refine lv_goto (tgt := 87) hx hb dX5_cell_72 (by decide) ?_
          have hE9 : p5_cell mfa SZ LN SH i1 i2 i3 = (r_69, mfa_69) := by unfold p5_cell; simp only [er_69, emfa_69]; rw [if_pos c_9, if_neg c_21, if_pos c_34, if_neg c_59]
          exact W.lret (v := r_69) hx hb hr (fun t ht hW => ⟨⟨_, (), rfl, by rw [hE9], by show va_P (dC, dI) vwCl _ t.heap; rw [ht, hE9]; exact hP⟩, hS.F ht⟩) hS.2.2 dX5_cell_87
      · skip
        refine lv_aload_n hx hb dX5_cell_37 rfl (lv_at hl 0 rfl) ?_
        refine va_get (D := (dC, dI)) (ci := 5) (v := .ref m21) (C := RX5) (T := TX5) (N := 25) hx hb hts hin5 hown hK hP 0 rfl rfl 21 (by decide) kf_49 (fun _ h9 => h9) rfl dX5_cell_38 ?_
        refine lv_iload_n hx hb dX5_cell_41 rfl (lv_at hl 1 rfl) ?_
        refine va_iald hx hb hK hP 2 0 rfl rfl (by assumption) dX5_cell_42 ?_
        refine lv_iload_n hx hb dX5_cell_43 rfl (lv_at hl 3 rfl) ?_
        refine lv_icmp_eq (tgt := 53) hx hb dX5_cell_44 (by decide) (fun c_44 => ?_) (fun c_44 => ?_)
        · skip
          refine lv_aload_n hx hb dX5_cell_53 rfl (lv_at hl 0 rfl) ?_
          refine lv_iload_n hx hb dX5_cell_54 rfl (lv_at hl 1 rfl) ?_
          refine lv_iload_n hx hb dX5_cell_55 rfl (lv_at hl 2 rfl) ?_
          have hPc := hP.sub (ws' := [(m0, .inr (5, [.int 0, .int mho, .ref m2, .ref m3, .ref m4, .int mra, .int mrh, .ref m7, .ref m8, .ref m9, .ref m10, .ref m11, .ref m12, .int mch, .int mfr, .int mfw, .int mrd, .ref m17, .ref m18, .ref m19, .ref m20, .ref m21, .ref m22, .ref m23, .int mtr])), (m20, .inl (cI, 4, .inl SZ))]) [0, 1] rfl
          have hDc := hD.sub (ws' := [(m0, .inr (5, [.int 0, .int mho, .ref m2, .ref m3, .ref m4, .int mra, .int mrh, .ref m7, .ref m8, .ref m9, .ref m10, .ref m11, .ref m12, .int mch, .int mfr, .int mfw, .int mrd, .ref m17, .ref m18, .ref m19, .ref m20, .ref m21, .ref m22, .ref m23, .int mtr])), (m20, .inl (cI, 4, .inl SZ))]) [0, 1] (by decide) rfl
          have hKc := hK.sub (tys' := [(cI, .int)]) [0] rfl
          have hFc := va_free (wc := [(m0, .inr (5, [.int 0, .int mho, .ref m2, .ref m3, .ref m4, .int mra, .int mrh, .ref m7, .ref m8, .ref m9, .ref m10, .ref m11, .ref m12, .int mch, .int mfr, .int mfw, .int mrd, .ref m17, .ref m18, .ref m19, .ref m20, .ref m21, .ref m22, .ref m23, .int mtr])), (m20, .inl (cI, 4, .inl SZ))]) hD hS hA [0, 1] rfl
          refine va_calli (va_runV (As := [.int i1, .int i2]) (rest := []) ⟨hx, hb, hml, hown, hts⟩ (ctX5_noCell l dC dI cI m0 m2 m3 m4 m7 m8 m9 m10 m11 m12 m17 m18 m19 m20 m21 m22 m23 H.size 0 mho mra mrh mch mfr mfw mrd mtr SZ i1 i2 (by assumption)) (cwV 2 hts gX5_cell_X5_noCell rfl rfl rfl (by decide +kernel) ⟨Nat.le_of_ble_eq_true rfl, Nat.le_of_ble_eq_true rfl⟩) (pre_V hKc hN hPc hDc (RX5, TX5, 25) 5 0 rfl rfl) rfl rfl hl.1 rfl (lv_room (Nat.le_of_ble_eq_true rfl)) dX5_cell_56 ⟨Nat.le_of_ble_eq_true rfl, Nat.le_of_ble_eq_true rfl⟩) hS (fun q _ h => hFc q h) hFc (fun r _ t H locs ht hvm hw hB hz1 hk1 hS => ?_)
          try dsimp only at hw
          subst hw
          rw [ht] at hB
          obtain ⟨hP, hD⟩ := rw_join ([(m0, .inr (5, [.int 0, .int mho, .ref m2, .ref m3, .ref m4, .int mra, .int mrh, .ref m7, .ref m8, .ref m9, .ref m10, .ref m11, .ref m12, .int mch, .int mfr, .int mfw, .int mrd, .ref m17, .ref m18, .ref m19, .ref m20, .ref m21, .ref m22, .ref m23, .int mtr])), (m20, .inl (cI, 4, .inl SZ)), (m21, .inl (cI, 4, .inl LN)), (m22, .inl (cI, 240, .inl SH))]) ([(m0, .inr (5, [.int 0, .int mho, .ref m2, .ref m3, .ref m4, .int mra, .int mrh, .ref m7, .ref m8, .ref m9, .ref m10, .ref m11, .ref m12, .int mch, .int mfr, .int mfw, .int mrd, .ref m17, .ref m18, .ref m19, .ref m20, .ref m21, .ref m22, .ref m23, .int mtr])), (m20, .inl (cI, 4, .inl SZ)), (m21, .inl (cI, 4, .inl LN)), (m22, .inl (cI, 240, .inl SH))]) ([(m0, .inr (5, [.int 0, .int mho, .ref m2, .ref m3, .ref m4, .int mra, .int mrh, .ref m7, .ref m8, .ref m9, .ref m10, .ref m11, .ref m12, .int mch, .int mfr, .int mfw, .int mrd, .ref m17, .ref m18, .ref m19, .ref m20, .ref m21, .ref m22, .ref m23, .int mtr])), (m20, .inl (cI, 4, .inl SZ))]) ([(m0, .inr (5, [.int 0, .int mho, .ref m2, .ref m3, .ref m4, .int mra, .int mrh, .ref m7, .ref m8, .ref m9, .ref m10, .ref m11, .ref m12, .int mch, .int mfr, .int mfw, .int mrd, .ref m17, .ref m18, .ref m19, .ref m20, .ref m21, .ref m22, .ref m23, .int mtr])), (m20, .inl (cI, 4, .inl SZ))]) ([(m21, .inl (cI, 4, .inl LN)), (m22, .inl (cI, 240, .inl SH))]) hP hD [0, 1] [2, 3] [m0, m20, m21, m22] 4 rfl rfl rfl rfl rfl (by decide) rfl rfl hk1 hB
          refine lv_if_le (tgt := 75) hx hb dX5_cell_59 (by decide) (fun c_59 => ?_) (fun c_59 => ?_)
          · skip
            refine lv_aload_n hx hb dX5_cell_75 rfl (lv_at hl 0 rfl) ?_
            refine va_get (D := (dC, dI)) (ci := 5) (v := .ref m22) (C := RX5) (T := TX5) (N := 25) hx hb hts hin5 hown hK hP 0 rfl rfl 22 (by decide) kf_52 (fun _ h9 => h9) rfl dX5_cell_76 ?_
            refine lv_bipush (v := 60) hx hb dX5_cell_79 (by decide) ?_
            refine lv_iload_n hx hb dX5_cell_81 rfl (lv_at hl 1 rfl) ?_
            refine lv_imul hx hb dX5_cell_82 ?_
            refine lv_iload_n hx hb dX5_cell_83 rfl (lv_at hl 2 rfl) ?_
            refine lv_iadd hx hb dX5_cell_84 ?_
            refine va_iald hx hb hK hP 3 0 rfl rfl (put_ix j1 (hSZ _) c_59) dX5_cell_85 ?_
            refine lv_i2l (v := (SH ((60 * i1) + i2).toNatClampNeg).toInt64) hx hb dX5_cell_86 rfl ?_
            have hE9 : p5_cell mfa SZ LN SH i1 i2 i3 = ((SH ((60 * i1) + i2).toNatClampNeg).toInt64, 0) := by unfold p5_cell; rw [if_pos c_9, if_neg c_21, if_neg c_34, if_pos c_44, if_pos c_59]
            exact W.lret (v := (SH ((60 * i1) + i2).toNatClampNeg).toInt64) hx hb hr (fun t ht hW => ⟨⟨_, (), rfl, by rw [hE9], by show va_P (dC, dI) vwCl _ t.heap; rw [ht, hE9]; exact hP⟩, hS.F ht⟩) hS.2.2 dX5_cell_87
          · skip
            refine lv_aload_n hx hb dX5_cell_62 rfl (lv_at hl 0 rfl) ?_
            refine lv_aload_n hx hb dX5_cell_63 rfl (lv_at hl 0 rfl) ?_
            refine lv_iload_n hx hb dX5_cell_64 rfl (lv_at hl 1 rfl) ?_
            refine lv_iload_n hx hb dX5_cell_65 rfl (lv_at hl 2 rfl) ?_
            have hPc := hP.sub (ws' := [(m0, .inr (5, [.int 0, .int mho, .ref m2, .ref m3, .ref m4, .int mra, .int mrh, .ref m7, .ref m8, .ref m9, .ref m10, .ref m11, .ref m12, .int mch, .int mfr, .int mfw, .int mrd, .ref m17, .ref m18, .ref m19, .ref m20, .ref m21, .ref m22, .ref m23, .int mtr])), (m20, .inl (cI, 4, .inl SZ))]) [0, 1] rfl
            have hDc := hD.sub (ws' := [(m0, .inr (5, [.int 0, .int mho, .ref m2, .ref m3, .ref m4, .int mra, .int mrh, .ref m7, .ref m8, .ref m9, .ref m10, .ref m11, .ref m12, .int mch, .int mfr, .int mfw, .int mrd, .ref m17, .ref m18, .ref m19, .ref m20, .ref m21, .ref m22, .ref m23, .int mtr])), (m20, .inl (cI, 4, .inl SZ))]) [0, 1] (by decide) rfl
            have hKc := hK.sub (tys' := [(cI, .int)]) [0] rfl
            have hFc := va_free (wc := [(m0, .inr (5, [.int 0, .int mho, .ref m2, .ref m3, .ref m4, .int mra, .int mrh, .ref m7, .ref m8, .ref m9, .ref m10, .ref m11, .ref m12, .int mch, .int mfr, .int mfw, .int mrd, .ref m17, .ref m18, .ref m19, .ref m20, .ref m21, .ref m22, .ref m23, .int mtr])), (m20, .inl (cI, 4, .inl SZ))]) hD hS hA [0, 1] rfl
            refine va_calli (va_runV (As := [.int i1, .int i2]) (rest := [.ref m0]) ⟨hx, hb, hml, hown, hts⟩ (ctX5_noCell l dC dI cI m0 m2 m3 m4 m7 m8 m9 m10 m11 m12 m17 m18 m19 m20 m21 m22 m23 H.size 0 mho mra mrh mch mfr mfw mrd mtr SZ i1 i2 (by assumption)) (cwV 2 hts gX5_cell_X5_noCell rfl rfl rfl (by decide +kernel) ⟨Nat.le_of_ble_eq_true rfl, Nat.le_of_ble_eq_true rfl⟩) (pre_V hKc hN hPc hDc (RX5, TX5, 25) 5 0 rfl rfl) rfl rfl hl.1 rfl (lv_room (Nat.le_of_ble_eq_true rfl)) dX5_cell_66 ⟨Nat.le_of_ble_eq_true rfl, Nat.le_of_ble_eq_true rfl⟩) hS (fun q _ h => hFc q h) hFc (fun r _ t H locs ht hvm hw hB hz1 hk1 hS => ?_)
            try dsimp only at hw
            subst hw
            rw [ht] at hB
            obtain ⟨hP, hD⟩ := rw_join ([(m0, .inr (5, [.int 0, .int mho, .ref m2, .ref m3, .ref m4, .int mra, .int mrh, .ref m7, .ref m8, .ref m9, .ref m10, .ref m11, .ref m12, .int mch, .int mfr, .int mfw, .int mrd, .ref m17, .ref m18, .ref m19, .ref m20, .ref m21, .ref m22, .ref m23, .int mtr])), (m20, .inl (cI, 4, .inl SZ)), (m21, .inl (cI, 4, .inl LN)), (m22, .inl (cI, 240, .inl SH))]) ([(m0, .inr (5, [.int 0, .int mho, .ref m2, .ref m3, .ref m4, .int mra, .int mrh, .ref m7, .ref m8, .ref m9, .ref m10, .ref m11, .ref m12, .int mch, .int mfr, .int mfw, .int mrd, .ref m17, .ref m18, .ref m19, .ref m20, .ref m21, .ref m22, .ref m23, .int mtr])), (m20, .inl (cI, 4, .inl SZ)), (m21, .inl (cI, 4, .inl LN)), (m22, .inl (cI, 240, .inl SH))]) ([(m0, .inr (5, [.int 0, .int mho, .ref m2, .ref m3, .ref m4, .int mra, .int mrh, .ref m7, .ref m8, .ref m9, .ref m10, .ref m11, .ref m12, .int mch, .int mfr, .int mfw, .int mrd, .ref m17, .ref m18, .ref m19, .ref m20, .ref m21, .ref m22, .ref m23, .int mtr])), (m20, .inl (cI, 4, .inl SZ))]) ([(m0, .inr (5, [.int 0, .int mho, .ref m2, .ref m3, .ref m4, .int mra, .int mrh, .ref m7, .ref m8, .ref m9, .ref m10, .ref m11, .ref m12, .int mch, .int mfr, .int mfw, .int mrd, .ref m17, .ref m18, .ref m19, .ref m20, .ref m21, .ref m22, .ref m23, .int mtr])), (m20, .inl (cI, 4, .inl SZ))]) ([(m21, .inl (cI, 4, .inl LN)), (m22, .inl (cI, 240, .inl SH))]) hP hD [0, 1] [2, 3] [m0, m20, m21, m22] 4 rfl rfl rfl rfl rfl (by decide) rfl rfl hk1 hB
            have hPc := hP.sub (ws' := [(m0, .inr (5, [.int 0, .int mho, .ref m2, .ref m3, .ref m4, .int mra, .int mrh, .ref m7, .ref m8, .ref m9, .ref m10, .ref m11, .ref m12, .int mch, .int mfr, .int mfw, .int mrd, .ref m17, .ref m18, .ref m19, .ref m20, .ref m21, .ref m22, .ref m23, .int mtr]))]) [0] rfl
            have hDc := hD.sub (ws' := [(m0, .inr (5, [.int 0, .int mho, .ref m2, .ref m3, .ref m4, .int mra, .int mrh, .ref m7, .ref m8, .ref m9, .ref m10, .ref m11, .ref m12, .int mch, .int mfr, .int mfw, .int mrd, .ref m17, .ref m18, .ref m19, .ref m20, .ref m21, .ref m22, .ref m23, .int mtr]))]) [0] (by decide) rfl
            have hKc := hK.sub (tys' := [(cI, .int)]) [0] rfl
            have hFc := va_free (wc := [(m0, .inr (5, [.int 0, .int mho, .ref m2, .ref m3, .ref m4, .int mra, .int mrh, .ref m7, .ref m8, .ref m9, .ref m10, .ref m11, .ref m12, .int mch, .int mfr, .int mfw, .int mrd, .ref m17, .ref m18, .ref m19, .ref m20, .ref m21, .ref m22, .ref m23, .int mtr]))]) hD hS hA [0] rfl
            refine va_calll (va_runV (As := [.int (p5_noCell SZ i1 i2)]) (rest := []) ⟨hx, hb, hml, hown, hts⟩ (ctX5_failedLong l dC dI cI m0 m2 m3 m4 m7 m8 m9 m10 m11 m12 m17 m18 m19 m20 m21 m22 m23 H.size 0 mho mra mrh mch mfr mfw mrd mtr (p5_noCell SZ i1 i2)) (cwV 1 hts gX5_cell_X5_failedLong rfl rfl rfl (by decide +kernel) ⟨Nat.le_of_ble_eq_true rfl, Nat.le_of_ble_eq_true rfl⟩) (pre_V hKc hN hPc hDc (RX5, TX5, 25) 5 0 rfl rfl) rfl rfl hl.1 rfl (lv_room (Nat.le_of_ble_eq_true rfl)) dX5_cell_69 ⟨Nat.le_of_ble_eq_true rfl, Nat.le_of_ble_eq_true rfl⟩) hS (fun q _ h => hFc q h) hFc (fun r_69 _ t H locs ht hvm hw hB hz1 hk1 hS => ?_)
            try dsimp only at hw
            have er_69 := hw.symm
            rw [ht] at hB
            refine nm_gen ((p5_failedLong 0 (p5_noCell SZ i1 i2)).2) (fun mfa_69 emfa_69 => ?_)
            rw [emfa_69] at hB
            obtain ⟨hP, hD⟩ := rw_join ([(m0, .inr (5, [.int 0, .int mho, .ref m2, .ref m3, .ref m4, .int mra, .int mrh, .ref m7, .ref m8, .ref m9, .ref m10, .ref m11, .ref m12, .int mch, .int mfr, .int mfw, .int mrd, .ref m17, .ref m18, .ref m19, .ref m20, .ref m21, .ref m22, .ref m23, .int mtr])), (m20, .inl (cI, 4, .inl SZ)), (m21, .inl (cI, 4, .inl LN)), (m22, .inl (cI, 240, .inl SH))]) ([(m0, .inr (5, [.int mfa_69, .int mho, .ref m2, .ref m3, .ref m4, .int mra, .int mrh, .ref m7, .ref m8, .ref m9, .ref m10, .ref m11, .ref m12, .int mch, .int mfr, .int mfw, .int mrd, .ref m17, .ref m18, .ref m19, .ref m20, .ref m21, .ref m22, .ref m23, .int mtr])), (m20, .inl (cI, 4, .inl SZ)), (m21, .inl (cI, 4, .inl LN)), (m22, .inl (cI, 240, .inl SH))]) ([(m0, .inr (5, [.int 0, .int mho, .ref m2, .ref m3, .ref m4, .int mra, .int mrh, .ref m7, .ref m8, .ref m9, .ref m10, .ref m11, .ref m12, .int mch, .int mfr, .int mfw, .int mrd, .ref m17, .ref m18, .ref m19, .ref m20, .ref m21, .ref m22, .ref m23, .int mtr]))]) ([(m0, .inr (5, [.int mfa_69, .int mho, .ref m2, .ref m3, .ref m4, .int mra, .int mrh, .ref m7, .ref m8, .ref m9, .ref m10, .ref m11, .ref m12, .int mch, .int mfr, .int mfw, .int mrd, .ref m17, .ref m18, .ref m19, .ref m20, .ref m21, .ref m22, .ref m23, .int mtr]))]) ([(m20, .inl (cI, 4, .inl SZ)), (m21, .inl (cI, 4, .inl LN)), (m22, .inl (cI, 240, .inl SH))]) hP hD [0] [1, 2, 3] [m0, m20, m21, m22] 4 rfl rfl rfl rfl rfl (by decide) rfl rfl hk1 hB
            refine lv_goto (tgt := 87) hx hb dX5_cell_72 (by decide) ?_
            have hE9 : p5_cell mfa SZ LN SH i1 i2 i3 = (r_69, mfa_69) := by unfold p5_cell; simp only [er_69, emfa_69]; rw [if_pos c_9, if_neg c_21, if_neg c_34, if_pos c_44, if_neg c_59]
            exact W.lret (v := r_69) hx hb hr (fun t ht hW => ⟨⟨_, (), rfl, by rw [hE9], by show va_P (dC, dI) vwCl _ t.heap; rw [ht, hE9]; exact hP⟩, hS.F ht⟩) hS.2.2 dX5_cell_87
        · skip
          refine lv_aload_n hx hb dX5_cell_47 rfl (lv_at hl 0 rfl) ?_
          refine lv_iconst (v := 2) hx hb dX5_cell_48 (by decide) ?_
          have hPc := hP.sub (ws' := [(m0, .inr (5, [.int 0, .int mho, .ref m2, .ref m3, .ref m4, .int mra, .int mrh, .ref m7, .ref m8, .ref m9, .ref m10, .ref m11, .ref m12, .int mch, .int mfr, .int mfw, .int mrd, .ref m17, .ref m18, .ref m19, .ref m20, .ref m21, .ref m22, .ref m23, .int mtr]))]) [0] rfl
          have hDc := hD.sub (ws' := [(m0, .inr (5, [.int 0, .int mho, .ref m2, .ref m3, .ref m4, .int mra, .int mrh, .ref m7, .ref m8, .ref m9, .ref m10, .ref m11, .ref m12, .int mch, .int mfr, .int mfw, .int mrd, .ref m17, .ref m18, .ref m19, .ref m20, .ref m21, .ref m22, .ref m23, .int mtr]))]) [0] (by decide) rfl
          have hKc := hK.sub (tys' := [(cI, .int)]) [0] rfl
          have hFc := va_free (wc := [(m0, .inr (5, [.int 0, .int mho, .ref m2, .ref m3, .ref m4, .int mra, .int mrh, .ref m7, .ref m8, .ref m9, .ref m10, .ref m11, .ref m12, .int mch, .int mfr, .int mfw, .int mrd, .ref m17, .ref m18, .ref m19, .ref m20, .ref m21, .ref m22, .ref m23, .int mtr]))]) hD hS hA [0] rfl
          refine va_calll (va_runV (As := [.int 2]) (rest := []) ⟨hx, hb, hml, hown, hts⟩ (ctX5_failedLong l dC dI cI m0 m2 m3 m4 m7 m8 m9 m10 m11 m12 m17 m18 m19 m20 m21 m22 m23 H.size 0 mho mra mrh mch mfr mfw mrd mtr 2) (cwV 1 hts gX5_cell_X5_failedLong rfl rfl rfl (by decide +kernel) ⟨Nat.le_of_ble_eq_true rfl, Nat.le_of_ble_eq_true rfl⟩) (pre_V hKc hN hPc hDc (RX5, TX5, 25) 5 0 rfl rfl) rfl rfl hl.1 rfl (lv_room (Nat.le_of_ble_eq_true rfl)) dX5_cell_49 ⟨Nat.le_of_ble_eq_true rfl, Nat.le_of_ble_eq_true rfl⟩) hS (fun q _ h => hFc q h) hFc (fun r_49 _ t H locs ht hvm hw hB hz1 hk1 hS => ?_)
          try dsimp only at hw
          have er_49 := hw.symm
          rw [ht] at hB
          refine nm_gen ((p5_failedLong 0 2).2) (fun mfa_49 emfa_49 => ?_)
          rw [emfa_49] at hB
          obtain ⟨hP, hD⟩ := rw_join ([(m0, .inr (5, [.int 0, .int mho, .ref m2, .ref m3, .ref m4, .int mra, .int mrh, .ref m7, .ref m8, .ref m9, .ref m10, .ref m11, .ref m12, .int mch, .int mfr, .int mfw, .int mrd, .ref m17, .ref m18, .ref m19, .ref m20, .ref m21, .ref m22, .ref m23, .int mtr])), (m20, .inl (cI, 4, .inl SZ)), (m21, .inl (cI, 4, .inl LN)), (m22, .inl (cI, 240, .inl SH))]) ([(m0, .inr (5, [.int mfa_49, .int mho, .ref m2, .ref m3, .ref m4, .int mra, .int mrh, .ref m7, .ref m8, .ref m9, .ref m10, .ref m11, .ref m12, .int mch, .int mfr, .int mfw, .int mrd, .ref m17, .ref m18, .ref m19, .ref m20, .ref m21, .ref m22, .ref m23, .int mtr])), (m20, .inl (cI, 4, .inl SZ)), (m21, .inl (cI, 4, .inl LN)), (m22, .inl (cI, 240, .inl SH))]) ([(m0, .inr (5, [.int 0, .int mho, .ref m2, .ref m3, .ref m4, .int mra, .int mrh, .ref m7, .ref m8, .ref m9, .ref m10, .ref m11, .ref m12, .int mch, .int mfr, .int mfw, .int mrd, .ref m17, .ref m18, .ref m19, .ref m20, .ref m21, .ref m22, .ref m23, .int mtr]))]) ([(m0, .inr (5, [.int mfa_49, .int mho, .ref m2, .ref m3, .ref m4, .int mra, .int mrh, .ref m7, .ref m8, .ref m9, .ref m10, .ref m11, .ref m12, .int mch, .int mfr, .int mfw, .int mrd, .ref m17, .ref m18, .ref m19, .ref m20, .ref m21, .ref m22, .ref m23, .int mtr]))]) ([(m20, .inl (cI, 4, .inl SZ)), (m21, .inl (cI, 4, .inl LN)), (m22, .inl (cI, 240, .inl SH))]) hP hD [0] [1, 2, 3] [m0, m20, m21, m22] 4 rfl rfl rfl rfl rfl (by decide) rfl rfl hk1 hB
          have hE9 : p5_cell mfa SZ LN SH i1 i2 i3 = (r_49, mfa_49) := by unfold p5_cell; simp only [er_49, emfa_49]; rw [if_pos c_9, if_neg c_21, if_neg c_34, if_neg c_44]
          exact W.lret (v := r_49) hx hb hr (fun t ht hW => ⟨⟨_, (), rfl, by rw [hE9], by show va_P (dC, dI) vwCl _ t.heap; rw [ht, hE9]; exact hP⟩, hS.F ht⟩) hS.2.2 dX5_cell_52
    · skip
      have hPc : va_P (dC, dI) vwCl [] H := hP.sub (ws' := []) [] rfl
      have hDc : va_D A [] := hD.sub (ws' := []) [] (by decide) rfl
      have hKc := hK.sub (tys' := [(cI, .int)]) [0] rfl
      have hFc := va_free (wc := []) hD hS hA [] rfl
      refine va_calll (va_runS (As := []) (rest := []) ⟨hx, hb, hml, hown, hts⟩ (ctX5_lost l dC dI cI H.size) (va_cwS 0 hts gX5_cell_X5_lost rfl rfl rfl (by decide +kernel) ⟨Nat.le_of_ble_eq_true rfl, Nat.le_of_ble_eq_true rfl⟩) (pre_S hKc hN hPc hDc) rfl rfl hl.1 rfl (lv_room (Nat.le_of_ble_eq_true rfl)) dX5_cell_24 ⟨Nat.le_of_ble_eq_true rfl, Nat.le_of_ble_eq_true rfl⟩) hS (fun q _ h => hFc q h) hFc (fun r _ t H locs ht hvm hw hB hz1 hk1 hS => ?_)
      try dsimp only at hw
      subst hw
      rw [ht] at hB
      obtain ⟨hP, hD⟩ := rw_join ([(m0, .inr (5, [.int 0, .int mho, .ref m2, .ref m3, .ref m4, .int mra, .int mrh, .ref m7, .ref m8, .ref m9, .ref m10, .ref m11, .ref m12, .int mch, .int mfr, .int mfw, .int mrd, .ref m17, .ref m18, .ref m19, .ref m20, .ref m21, .ref m22, .ref m23, .int mtr])), (m20, .inl (cI, 4, .inl SZ)), (m21, .inl (cI, 4, .inl LN)), (m22, .inl (cI, 240, .inl SH))]) ([(m0, .inr (5, [.int 0, .int mho, .ref m2, .ref m3, .ref m4, .int mra, .int mrh, .ref m7, .ref m8, .ref m9, .ref m10, .ref m11, .ref m12, .int mch, .int mfr, .int mfw, .int mrd, .ref m17, .ref m18, .ref m19, .ref m20, .ref m21, .ref m22, .ref m23, .int mtr])), (m20, .inl (cI, 4, .inl SZ)), (m21, .inl (cI, 4, .inl LN)), (m22, .inl (cI, 240, .inl SH))]) ([]) ([]) ([(m0, .inr (5, [.int 0, .int mho, .ref m2, .ref m3, .ref m4, .int mra, .int mrh, .ref m7, .ref m8, .ref m9, .ref m10, .ref m11, .ref m12, .int mch, .int mfr, .int mfw, .int mrd, .ref m17, .ref m18, .ref m19, .ref m20, .ref m21, .ref m22, .ref m23, .int mtr])), (m20, .inl (cI, 4, .inl SZ)), (m21, .inl (cI, 4, .inl LN)), (m22, .inl (cI, 240, .inl SH))]) hP hD [] [0, 1, 2, 3] [m0, m20, m21, m22] 4 rfl rfl rfl rfl rfl (by decide) rfl rfl hk1 hB
      have hE9 : p5_cell mfa SZ LN SH i1 i2 i3 = (p5_lost, 0) := by unfold p5_cell; rw [if_pos c_9, if_pos c_21]
      exact W.lret (v := p5_lost) hx hb hr (fun t ht hW => ⟨⟨_, (), rfl, by rw [hE9], by show va_P (dC, dI) vwCl _ t.heap; rw [ht, hE9]; exact hP⟩, hS.F ht⟩) hS.2.2 dX5_cell_27

def p5_tell (mho : Int32) (mtr : Int32) (K : Nat → Int32) (L : Nat → Int32) (i1 : Int32) : Int32 × Int32 :=
  if (p5_noHouse mho i1) = 0 then
    if (K i1.toNatClampNeg) = 2 then
      if (K i1.toNatClampNeg) ≤ 0 then
        if (K i1.toNatClampNeg) = 0 then
          ((L i1.toNatClampNeg), (p5_traced (p5_traced (p5_traced mtr 3) 1) 1))
        else
          if (K i1.toNatClampNeg) = 1 then
            (((L i1.toNatClampNeg) + 100), (p5_traced (p5_traced (p5_traced mtr 3) 1) 1))
          else
            (((2 * (L i1.toNatClampNeg)) + 100), (p5_traced (p5_traced (p5_traced mtr 3) 1) 1))
      else
        if (K i1.toNatClampNeg) = 0 then
          ((L i1.toNatClampNeg), (p5_traced (p5_traced (p5_traced (p5_traced mtr 3) 2) 1) 1))
        else
          if (K i1.toNatClampNeg) = 1 then
            (((L i1.toNatClampNeg) + 100), (p5_traced (p5_traced (p5_traced (p5_traced mtr 3) 2) 1) 1))
          else
            (((2 * (L i1.toNatClampNeg)) + 100), (p5_traced (p5_traced (p5_traced (p5_traced mtr 3) 2) 1) 1))
    else
      if (K i1.toNatClampNeg) ≤ 0 then
        if (K i1.toNatClampNeg) = 0 then
          ((L i1.toNatClampNeg), (p5_traced mtr 1))
        else
          if (K i1.toNatClampNeg) = 1 then
            (((L i1.toNatClampNeg) + 100), (p5_traced mtr 1))
          else
            (((2 * (L i1.toNatClampNeg)) + 100), (p5_traced mtr 1))
      else
        if (K i1.toNatClampNeg) = 0 then
          ((L i1.toNatClampNeg), (p5_traced (p5_traced mtr 2) 1))
        else
          if (K i1.toNatClampNeg) = 1 then
            (((L i1.toNatClampNeg) + 100), (p5_traced (p5_traced mtr 2) 1))
          else
            (((2 * (L i1.toNatClampNeg)) + 100), (p5_traced (p5_traced mtr 2) 1))
  else
    ((-1), mtr)
abbrev rmX5_tell : Room := { frames := 2, cells := 0, slots := 0, locals := 46 }
abbrev QX5_tell (dC : Nat → ClassId) (dI : Nat → Nat → Nat) (A : Nat → Prop) (cI : ClassId) (m0 : Nat) (m2 : Nat) (m3 : Nat) (m4 : Nat) (m7 : Nat) (m8 : Nat) (m9 : Nat) (m10 : Nat) (m11 : Nat) (m12 : Nat) (m17 : Nat) (m18 : Nat) (m19 : Nat) (m20 : Nat) (m21 : Nat) (m22 : Nat) (m23 : Nat) (mfa : Int32) (mho : Int32) (mra : Int32) (mrh : Int32) (mch : Int32) (mfr : Int32) (mfw : Int32) (mrd : Int32) (mtr : Int32) (K : Nat → Int32) (L : Nat → Int32) (i1 : Int32) : Array Value → State → Outcome → State → Prop := va_Qi (fun (r : Int32) (_ : Unit) => r = (p5_tell mho mtr K L i1).1) (fun (_ : Unit) (t : State) => va_P (dC, dI) vwCl ([(m0, .inr (5, [.int mfa, .int mho, .ref m2, .ref m3, .ref m4, .int mra, .int mrh, .ref m7, .ref m8, .ref m9, .ref m10, .ref m11, .ref m12, .int mch, .int mfr, .int mfw, .int mrd, .ref m17, .ref m18, .ref m19, .ref m20, .ref m21, .ref m22, .ref m23, .int ((p5_tell mho mtr K L i1).2)])), (m2, .inl (cI, 6, .inl K)), (m3, .inl (cI, 6, .inl L))]) t.heap) A
set_option maxHeartbeats 4000000 in
set_option maxRecDepth 100000 in
theorem ctX5_tell (l : Launch) (dC : Nat → ClassId) (dI : Nat → Nat → Nat) (cI : ClassId) (m0 : Nat) (m2 : Nat) (m3 : Nat) (m4 : Nat) (m7 : Nat) (m8 : Nat) (m9 : Nat) (m10 : Nat) (m11 : Nat) (m12 : Nat) (m17 : Nat) (m18 : Nat) (m19 : Nat) (m20 : Nat) (m21 : Nat) (m22 : Nat) (m23 : Nat) (sz : Nat) (mfa : Int32) (mho : Int32) (mra : Int32) (mrh : Int32) (mch : Int32) (mfr : Int32) (mfw : Int32) (mrd : Int32) (mtr : Int32) (K : Nat → Int32) (L : Nat → Int32) (i1 : Int32) (hNb : mho.toInt ≤ 6) : Met l yX5_tell wsX5_tell rmX5_tell (va_Pc [.ref m0, .int i1] (cP dC dI [(cI, .int)] ([(m0, .inr (5, [.int mfa, .int mho, .ref m2, .ref m3, .ref m4, .int mra, .int mrh, .ref m7, .ref m8, .ref m9, .ref m10, .ref m11, .ref m12, .int mch, .int mfr, .int mfw, .int mrd, .ref m17, .ref m18, .ref m19, .ref m20, .ref m21, .ref m22, .ref m23, .int mtr])), (m2, .inl (cI, 6, .inl K)), (m3, .inl (cI, 6, .inl L))]) sz)) (QX5_tell dC dI (va_A ([(m0, .inr (5, [.int mfa, .int mho, .ref m2, .ref m3, .ref m4, .int mra, .int mrh, .ref m7, .ref m8, .ref m9, .ref m10, .ref m11, .ref m12, .int mch, .int mfr, .int mfw, .int mrd, .ref m17, .ref m18, .ref m19, .ref m20, .ref m21, .ref m22, .ref m23, .int mtr])), (m2, .inl (cI, 6, .inl K)), (m3, .inl (cI, 6, .inl L))]) sz) cI m0 m2 m3 m4 m7 m8 m9 m10 m11 m12 m17 m18 m19 m20 m21 m22 m23 mfa mho mra mrh mch mfr mfw mrd mtr K L i1) 0 0 (va_A ([(m0, .inr (5, [.int mfa, .int mho, .ref m2, .ref m3, .ref m4, .int mra, .int mrh, .ref m7, .ref m8, .ref m9, .ref m10, .ref m11, .ref m12, .int mch, .int mfr, .int mfw, .int mrd, .ref m17, .ref m18, .ref m19, .ref m20, .ref m21, .ref m22, .ref m23, .int mtr])), (m2, .inl (cI, 6, .inl K)), (m3, .inl (cI, 6, .inl L))]) sz) := by
  refine Met.ofW (cc := cX5_tell) (maxL := 4) (ret := (some .int)) (by decide) rfl ?_
  intro p e s m args below meth c s₁ B hml hv
  obtain ⟨rfl, hsz, hP, hK, hD0, hN⟩ := hv
  have hx := B.exec
  have hb := B.bytes
  have hr := B.returns
  have hts := atoms_spec (ws := wsX5_tell) B.pre
  have hown : s.vm.findClass RX5 = some m.cls := findClass_of_methodNamed B.named
  have hlocks := B.notSynchronized
  subst hsz
  have hD := hD0.self (sz := s.heap.size)
  generalize hAe : va_A ([(m0, .inr (5, [.int mfa, .int mho, .ref m2, .ref m3, .ref m4, .int mra, .int mrh, .ref m7, .ref m8, .ref m9, .ref m10, .ref m11, .ref m12, .int mch, .int mfr, .int mfw, .int mrd, .ref m17, .ref m18, .ref m19, .ref m20, .ref m21, .ref m22, .ref m23, .int mtr])), (m2, .inl (cI, 6, .inl K)), (m3, .inl (cI, 6, .inl L))]) s.heap.size = A at hD ⊢
  have hA : ∀ q : Nat, s.heap.size ≤ q → A q := fun q h => by rw [← hAe]; exact Or.inr h
  have hS : va_S A s.heap s.heap [] := va_S.rf
  have hP : va_P (dC, dI) vwCl ([(m0, .inr (5, [.int mfa, .int mho, .ref m2, .ref m3, .ref m4, .int mra, .int mrh, .ref m7, .ref m8, .ref m9, .ref m10, .ref m11, .ref m12, .int mch, .int mfr, .int mfw, .int mrd, .ref m17, .ref m18, .ref m19, .ref m20, .ref m21, .ref m22, .ref m23, .int mtr])), (m2, .inl (cI, 6, .inl K)), (m3, .inl (cI, 6, .inl L))]) s.heap := hP
  have hin5 : ∀ w ∈ wsX50, w ∈ wsX5_tell := by decide +kernel
  have kf_13 := hts (.fieldLink RX5 13 "RicherChangeModel" "landOf" "[I") (by decide +kernel)
  have kf_7 := hts (.fieldLink RX5 7 "RicherChangeModel" "kindOf" "[I") (by decide +kernel)
  have hl := lv_entry ([.ref m0, .int i1]) (n := 4) (Nat.le_of_ble_eq_true rfl)
  rw [lg_entry_eq]
  generalize (lg_sl ([.ref m0, .int i1]) ++ List.replicate (4 - (lg_sl ([.ref m0, .int i1])).length) Slot.unset).toArray = ls at hl ⊢
  have hl : lv_has ls 4 [(0, .ref m0), (1, .int i1)] := hl
  refine lv_aload_n hx hb dX5_tell_0 rfl (lv_at hl 0 rfl) ?_
  refine lv_iload_n hx hb dX5_tell_1 rfl (lv_at hl 1 rfl) ?_
  have hPc := hP.sub (ws' := [(m0, .inr (5, [.int mfa, .int mho, .ref m2, .ref m3, .ref m4, .int mra, .int mrh, .ref m7, .ref m8, .ref m9, .ref m10, .ref m11, .ref m12, .int mch, .int mfr, .int mfw, .int mrd, .ref m17, .ref m18, .ref m19, .ref m20, .ref m21, .ref m22, .ref m23, .int mtr]))]) [0] rfl
  have hDc := hD.sub (ws' := [(m0, .inr (5, [.int mfa, .int mho, .ref m2, .ref m3, .ref m4, .int mra, .int mrh, .ref m7, .ref m8, .ref m9, .ref m10, .ref m11, .ref m12, .int mch, .int mfr, .int mfw, .int mrd, .ref m17, .ref m18, .ref m19, .ref m20, .ref m21, .ref m22, .ref m23, .int mtr]))]) [0] (by decide) rfl
  have hKc := hK.sub (tys' := [(cI, .int)]) [0] rfl
  have hFc := va_free (wc := [(m0, .inr (5, [.int mfa, .int mho, .ref m2, .ref m3, .ref m4, .int mra, .int mrh, .ref m7, .ref m8, .ref m9, .ref m10, .ref m11, .ref m12, .int mch, .int mfr, .int mfw, .int mrd, .ref m17, .ref m18, .ref m19, .ref m20, .ref m21, .ref m22, .ref m23, .int mtr]))]) hD hS hA [0] rfl
  refine va_calli (va_runV (As := [.int i1]) (rest := []) ⟨hx, hb, hml, hown, hts⟩ (ctX5_noHouse l dC dI cI m0 m2 m3 m4 m7 m8 m9 m10 m11 m12 m17 m18 m19 m20 m21 m22 m23 s.heap.size mfa mho mra mrh mch mfr mfw mrd mtr i1) (cwV 1 hts gX5_tell_X5_noHouse rfl rfl rfl (by decide +kernel) ⟨Nat.le_of_ble_eq_true rfl, Nat.le_of_ble_eq_true rfl⟩) (pre_V hKc hN hPc hDc (RX5, TX5, 25) 5 0 rfl rfl) rfl rfl hl.1 rfl (lv_room (Nat.le_of_ble_eq_true rfl)) dX5_tell_2 ⟨Nat.le_of_ble_eq_true rfl, Nat.le_of_ble_eq_true rfl⟩) hS (fun q _ h => hFc q h) hFc (fun r _ t H locs ht hvm hw hB hz1 hk1 hS => ?_)
  try dsimp only at hw
  subst hw
  rw [ht] at hB
  obtain ⟨hP, hD⟩ := rw_join ([(m0, .inr (5, [.int mfa, .int mho, .ref m2, .ref m3, .ref m4, .int mra, .int mrh, .ref m7, .ref m8, .ref m9, .ref m10, .ref m11, .ref m12, .int mch, .int mfr, .int mfw, .int mrd, .ref m17, .ref m18, .ref m19, .ref m20, .ref m21, .ref m22, .ref m23, .int mtr])), (m2, .inl (cI, 6, .inl K)), (m3, .inl (cI, 6, .inl L))]) ([(m0, .inr (5, [.int mfa, .int mho, .ref m2, .ref m3, .ref m4, .int mra, .int mrh, .ref m7, .ref m8, .ref m9, .ref m10, .ref m11, .ref m12, .int mch, .int mfr, .int mfw, .int mrd, .ref m17, .ref m18, .ref m19, .ref m20, .ref m21, .ref m22, .ref m23, .int mtr])), (m2, .inl (cI, 6, .inl K)), (m3, .inl (cI, 6, .inl L))]) ([(m0, .inr (5, [.int mfa, .int mho, .ref m2, .ref m3, .ref m4, .int mra, .int mrh, .ref m7, .ref m8, .ref m9, .ref m10, .ref m11, .ref m12, .int mch, .int mfr, .int mfw, .int mrd, .ref m17, .ref m18, .ref m19, .ref m20, .ref m21, .ref m22, .ref m23, .int mtr]))]) ([(m0, .inr (5, [.int mfa, .int mho, .ref m2, .ref m3, .ref m4, .int mra, .int mrh, .ref m7, .ref m8, .ref m9, .ref m10, .ref m11, .ref m12, .int mch, .int mfr, .int mfw, .int mrd, .ref m17, .ref m18, .ref m19, .ref m20, .ref m21, .ref m22, .ref m23, .int mtr]))]) ([(m2, .inl (cI, 6, .inl K)), (m3, .inl (cI, 6, .inl L))]) hP hD [0] [1, 2] [m0, m2, m3] 3 rfl rfl rfl rfl rfl (by decide) rfl rfl hk1 hB
  refine lv_if_eq (tgt := 10) hx hb dX5_tell_5 (by decide) (fun c_5 => ?_) (fun c_5 => ?_)
  · skip
    have j1 : vp_in i1 6 := noHouse_in hNb c_5
    refine lv_aload_n hx hb dX5_tell_10 rfl (lv_at hl 0 rfl) ?_
    refine va_get (D := (dC, dI)) (ci := 5) (v := .ref m2) (C := RX5) (T := TX5) (N := 25) hx hb hts hin5 hown hK hP 0 rfl rfl 2 (by decide) kf_7 (fun _ h9 => h9) rfl dX5_tell_11 ?_
    refine lv_iload_n hx hb dX5_tell_14 rfl (lv_at hl 1 rfl) ?_
    refine va_iald hx hb hK hP 1 0 rfl rfl (by assumption) dX5_tell_15 ?_
    refine lv_istore_n (lv' := [(2, .int (K i1.toNatClampNeg)), (0, .ref m0), (1, .int i1)]) hx hb dX5_tell_16 rfl hl (by decide) rfl (fun ls hl => ?_)
    refine lv_iload_n hx hb dX5_tell_17 rfl (lv_at hl 0 rfl) ?_
    refine lv_iconst (v := 2) hx hb dX5_tell_18 (by decide) ?_
    refine lv_icmp_ne (tgt := 27) hx hb dX5_tell_19 (by decide) (fun c_19 => ?_) (fun c_19 => ?_)
    · skip
      refine lv_iload_n hx hb dX5_tell_27 rfl (lv_at hl 0 rfl) ?_
      refine lv_if_le (tgt := 36) hx hb dX5_tell_28 (by decide) (fun c_28 => ?_) (fun c_28 => ?_)
      · skip
        refine lv_aload_n hx hb dX5_tell_36 rfl (lv_at hl 1 rfl) ?_
        refine lv_iconst (v := 1) hx hb dX5_tell_37 (by decide) ?_
        have hPc := hP.sub (ws' := [(m0, .inr (5, [.int mfa, .int mho, .ref m2, .ref m3, .ref m4, .int mra, .int mrh, .ref m7, .ref m8, .ref m9, .ref m10, .ref m11, .ref m12, .int mch, .int mfr, .int mfw, .int mrd, .ref m17, .ref m18, .ref m19, .ref m20, .ref m21, .ref m22, .ref m23, .int mtr]))]) [0] rfl
        have hDc := hD.sub (ws' := [(m0, .inr (5, [.int mfa, .int mho, .ref m2, .ref m3, .ref m4, .int mra, .int mrh, .ref m7, .ref m8, .ref m9, .ref m10, .ref m11, .ref m12, .int mch, .int mfr, .int mfw, .int mrd, .ref m17, .ref m18, .ref m19, .ref m20, .ref m21, .ref m22, .ref m23, .int mtr]))]) [0] (by decide) rfl
        have hKc := hK.sub (tys' := [(cI, .int)]) [0] rfl
        have hFc := va_free (wc := [(m0, .inr (5, [.int mfa, .int mho, .ref m2, .ref m3, .ref m4, .int mra, .int mrh, .ref m7, .ref m8, .ref m9, .ref m10, .ref m11, .ref m12, .int mch, .int mfr, .int mfw, .int mrd, .ref m17, .ref m18, .ref m19, .ref m20, .ref m21, .ref m22, .ref m23, .int mtr]))]) hD hS hA [0] rfl
        refine va_callv (va_runV (As := [.int 1]) (rest := []) ⟨hx, hb, hml, hown, hts⟩ (ctX5_traced l dC dI cI m0 m2 m3 m4 m7 m8 m9 m10 m11 m12 m17 m18 m19 m20 m21 m22 m23 H.size mfa mho mra mrh mch mfr mfw mrd mtr 1) (cwV 1 hts gX5_tell_X5_traced rfl rfl rfl (by decide +kernel) ⟨Nat.le_of_ble_eq_true rfl, Nat.le_of_ble_eq_true rfl⟩) (pre_V hKc hN hPc hDc (RX5, TX5, 25) 5 0 rfl rfl) rfl rfl hl.1 rfl (lv_room (Nat.le_of_ble_eq_true rfl)) dX5_tell_38 ⟨Nat.le_of_ble_eq_true rfl, Nat.le_of_ble_eq_true rfl⟩) hS (fun q _ h => hFc q h) hFc (fun _ t H locs ht hvm hw hB hz1 hk1 hS => ?_)
        rw [ht] at hB
        refine nm_gen ((p5_traced mtr 1)) (fun mtr_38 emtr_38 => ?_)
        rw [emtr_38] at hB
        obtain ⟨hP, hD⟩ := rw_join ([(m0, .inr (5, [.int mfa, .int mho, .ref m2, .ref m3, .ref m4, .int mra, .int mrh, .ref m7, .ref m8, .ref m9, .ref m10, .ref m11, .ref m12, .int mch, .int mfr, .int mfw, .int mrd, .ref m17, .ref m18, .ref m19, .ref m20, .ref m21, .ref m22, .ref m23, .int mtr])), (m2, .inl (cI, 6, .inl K)), (m3, .inl (cI, 6, .inl L))]) ([(m0, .inr (5, [.int mfa, .int mho, .ref m2, .ref m3, .ref m4, .int mra, .int mrh, .ref m7, .ref m8, .ref m9, .ref m10, .ref m11, .ref m12, .int mch, .int mfr, .int mfw, .int mrd, .ref m17, .ref m18, .ref m19, .ref m20, .ref m21, .ref m22, .ref m23, .int mtr_38])), (m2, .inl (cI, 6, .inl K)), (m3, .inl (cI, 6, .inl L))]) ([(m0, .inr (5, [.int mfa, .int mho, .ref m2, .ref m3, .ref m4, .int mra, .int mrh, .ref m7, .ref m8, .ref m9, .ref m10, .ref m11, .ref m12, .int mch, .int mfr, .int mfw, .int mrd, .ref m17, .ref m18, .ref m19, .ref m20, .ref m21, .ref m22, .ref m23, .int mtr]))]) ([(m0, .inr (5, [.int mfa, .int mho, .ref m2, .ref m3, .ref m4, .int mra, .int mrh, .ref m7, .ref m8, .ref m9, .ref m10, .ref m11, .ref m12, .int mch, .int mfr, .int mfw, .int mrd, .ref m17, .ref m18, .ref m19, .ref m20, .ref m21, .ref m22, .ref m23, .int mtr_38]))]) ([(m2, .inl (cI, 6, .inl K)), (m3, .inl (cI, 6, .inl L))]) hP hD [0] [1, 2] [m0, m2, m3] 3 rfl rfl rfl rfl rfl (by decide) rfl rfl hk1 hB
        refine lv_iload_n hx hb dX5_tell_41 rfl (lv_at hl 0 rfl) ?_
        refine lv_iconst (v := 2) hx hb dX5_tell_42 (by decide) ?_
        refine lv_icmp_ne (tgt := 51) hx hb dX5_tell_43 (by decide) (fun c_43 => ?_) (fun c_43 => ?_)
        · skip
          refine lv_aload_n hx hb dX5_tell_51 rfl (lv_at hl 1 rfl) ?_
          refine va_get (D := (dC, dI)) (ci := 5) (v := .ref m3) (C := RX5) (T := TX5) (N := 25) hx hb hts hin5 hown hK hP 0 rfl rfl 3 (by decide) kf_13 (fun _ h9 => h9) rfl dX5_tell_52 ?_
          refine lv_iload_n hx hb dX5_tell_55 rfl (lv_at hl 2 rfl) ?_
          refine va_iald hx hb hK hP 2 0 rfl rfl (by assumption) dX5_tell_56 ?_
          refine lv_istore_n (lv' := [(3, .int (L i1.toNatClampNeg)), (2, .int (K i1.toNatClampNeg)), (0, .ref m0), (1, .int i1)]) hx hb dX5_tell_57 rfl hl (by decide) rfl (fun ls hl => ?_)
          refine lv_iload_n hx hb dX5_tell_58 rfl (lv_at hl 1 rfl) ?_
          refine lv_if_ne (tgt := 66) hx hb dX5_tell_59 (by decide) (fun c_59 => ?_) (fun c_59 => ?_)
          · skip
            refine lv_iload_n hx hb dX5_tell_66 rfl (lv_at hl 1 rfl) ?_
            refine lv_iconst (v := 1) hx hb dX5_tell_67 (by decide) ?_
            refine lv_icmp_ne (tgt := 78) hx hb dX5_tell_68 (by decide) (fun c_68 => ?_) (fun c_68 => ?_)
            · skip
              refine lv_iconst (v := 2) hx hb dX5_tell_78 (by decide) ?_
              refine lv_iload_n hx hb dX5_tell_79 rfl (lv_at hl 0 rfl) ?_
              refine lv_imul hx hb dX5_tell_80 ?_
              refine lv_bipush (v := 100) hx hb dX5_tell_81 (by decide) ?_
              refine lv_iadd hx hb dX5_tell_83 ?_
              have hE9 : p5_tell mho mtr K L i1 = (((2 * (L i1.toNatClampNeg)) + 100), mtr_38) := by unfold p5_tell; simp only [emtr_38]; rw [if_pos c_5, if_neg c_19, if_pos c_28, if_neg c_59, if_neg c_68]
              exact W.iret (v := ((2 * (L i1.toNatClampNeg)) + 100)) hx hb hr (fun t ht hW => ⟨⟨_, (), rfl, by rw [hE9], by show va_P (dC, dI) vwCl _ t.heap; rw [ht, hE9]; exact hP⟩, hS.F ht⟩) hS.2.2 dX5_tell_84
            · skip
              refine lv_iload_n hx hb dX5_tell_71 rfl (lv_at hl 0 rfl) ?_
              refine lv_bipush (v := 100) hx hb dX5_tell_72 (by decide) ?_
              refine lv_iadd hx hb dX5_tell_74 ?_
              refine lv_goto (tgt := 84) hx hb dX5_tell_75 (by decide) ?_
              have hE9 : p5_tell mho mtr K L i1 = (((L i1.toNatClampNeg) + 100), mtr_38) := by unfold p5_tell; simp only [emtr_38]; rw [if_pos c_5, if_neg c_19, if_pos c_28, if_neg c_59, if_pos c_68]
              exact W.iret (v := ((L i1.toNatClampNeg) + 100)) hx hb hr (fun t ht hW => ⟨⟨_, (), rfl, by rw [hE9], by show va_P (dC, dI) vwCl _ t.heap; rw [ht, hE9]; exact hP⟩, hS.F ht⟩) hS.2.2 dX5_tell_84
          · skip
            refine lv_iload_n hx hb dX5_tell_62 rfl (lv_at hl 0 rfl) ?_
            refine lv_goto (tgt := 84) hx hb dX5_tell_63 (by decide) ?_
            have hE9 : p5_tell mho mtr K L i1 = ((L i1.toNatClampNeg), mtr_38) := by unfold p5_tell; simp only [emtr_38]; rw [if_pos c_5, if_neg c_19, if_pos c_28, if_pos c_59]
            exact W.iret (v := (L i1.toNatClampNeg)) hx hb hr (fun t ht hW => ⟨⟨_, (), rfl, by rw [hE9], by show va_P (dC, dI) vwCl _ t.heap; rw [ht, hE9]; exact hP⟩, hS.F ht⟩) hS.2.2 dX5_tell_84
        · exact absurd c_43 c_19
      · skip
        refine lv_aload_n hx hb dX5_tell_31 rfl (lv_at hl 1 rfl) ?_
        refine lv_iconst (v := 2) hx hb dX5_tell_32 (by decide) ?_
        have hPc := hP.sub (ws' := [(m0, .inr (5, [.int mfa, .int mho, .ref m2, .ref m3, .ref m4, .int mra, .int mrh, .ref m7, .ref m8, .ref m9, .ref m10, .ref m11, .ref m12, .int mch, .int mfr, .int mfw, .int mrd, .ref m17, .ref m18, .ref m19, .ref m20, .ref m21, .ref m22, .ref m23, .int mtr]))]) [0] rfl
        have hDc := hD.sub (ws' := [(m0, .inr (5, [.int mfa, .int mho, .ref m2, .ref m3, .ref m4, .int mra, .int mrh, .ref m7, .ref m8, .ref m9, .ref m10, .ref m11, .ref m12, .int mch, .int mfr, .int mfw, .int mrd, .ref m17, .ref m18, .ref m19, .ref m20, .ref m21, .ref m22, .ref m23, .int mtr]))]) [0] (by decide) rfl
        have hKc := hK.sub (tys' := [(cI, .int)]) [0] rfl
        have hFc := va_free (wc := [(m0, .inr (5, [.int mfa, .int mho, .ref m2, .ref m3, .ref m4, .int mra, .int mrh, .ref m7, .ref m8, .ref m9, .ref m10, .ref m11, .ref m12, .int mch, .int mfr, .int mfw, .int mrd, .ref m17, .ref m18, .ref m19, .ref m20, .ref m21, .ref m22, .ref m23, .int mtr]))]) hD hS hA [0] rfl
        refine va_callv (va_runV (As := [.int 2]) (rest := []) ⟨hx, hb, hml, hown, hts⟩ (ctX5_traced l dC dI cI m0 m2 m3 m4 m7 m8 m9 m10 m11 m12 m17 m18 m19 m20 m21 m22 m23 H.size mfa mho mra mrh mch mfr mfw mrd mtr 2) (cwV 1 hts gX5_tell_X5_traced rfl rfl rfl (by decide +kernel) ⟨Nat.le_of_ble_eq_true rfl, Nat.le_of_ble_eq_true rfl⟩) (pre_V hKc hN hPc hDc (RX5, TX5, 25) 5 0 rfl rfl) rfl rfl hl.1 rfl (lv_room (Nat.le_of_ble_eq_true rfl)) dX5_tell_33 ⟨Nat.le_of_ble_eq_true rfl, Nat.le_of_ble_eq_true rfl⟩) hS (fun q _ h => hFc q h) hFc (fun _ t H locs ht hvm hw hB hz1 hk1 hS => ?_)
        rw [ht] at hB
        refine nm_gen ((p5_traced mtr 2)) (fun mtr_33 emtr_33 => ?_)
        rw [emtr_33] at hB
        obtain ⟨hP, hD⟩ := rw_join ([(m0, .inr (5, [.int mfa, .int mho, .ref m2, .ref m3, .ref m4, .int mra, .int mrh, .ref m7, .ref m8, .ref m9, .ref m10, .ref m11, .ref m12, .int mch, .int mfr, .int mfw, .int mrd, .ref m17, .ref m18, .ref m19, .ref m20, .ref m21, .ref m22, .ref m23, .int mtr])), (m2, .inl (cI, 6, .inl K)), (m3, .inl (cI, 6, .inl L))]) ([(m0, .inr (5, [.int mfa, .int mho, .ref m2, .ref m3, .ref m4, .int mra, .int mrh, .ref m7, .ref m8, .ref m9, .ref m10, .ref m11, .ref m12, .int mch, .int mfr, .int mfw, .int mrd, .ref m17, .ref m18, .ref m19, .ref m20, .ref m21, .ref m22, .ref m23, .int mtr_33])), (m2, .inl (cI, 6, .inl K)), (m3, .inl (cI, 6, .inl L))]) ([(m0, .inr (5, [.int mfa, .int mho, .ref m2, .ref m3, .ref m4, .int mra, .int mrh, .ref m7, .ref m8, .ref m9, .ref m10, .ref m11, .ref m12, .int mch, .int mfr, .int mfw, .int mrd, .ref m17, .ref m18, .ref m19, .ref m20, .ref m21, .ref m22, .ref m23, .int mtr]))]) ([(m0, .inr (5, [.int mfa, .int mho, .ref m2, .ref m3, .ref m4, .int mra, .int mrh, .ref m7, .ref m8, .ref m9, .ref m10, .ref m11, .ref m12, .int mch, .int mfr, .int mfw, .int mrd, .ref m17, .ref m18, .ref m19, .ref m20, .ref m21, .ref m22, .ref m23, .int mtr_33]))]) ([(m2, .inl (cI, 6, .inl K)), (m3, .inl (cI, 6, .inl L))]) hP hD [0] [1, 2] [m0, m2, m3] 3 rfl rfl rfl rfl rfl (by decide) rfl rfl hk1 hB
        refine lv_aload_n hx hb dX5_tell_36 rfl (lv_at hl 1 rfl) ?_
        refine lv_iconst (v := 1) hx hb dX5_tell_37 (by decide) ?_
        have hPc := hP.sub (ws' := [(m0, .inr (5, [.int mfa, .int mho, .ref m2, .ref m3, .ref m4, .int mra, .int mrh, .ref m7, .ref m8, .ref m9, .ref m10, .ref m11, .ref m12, .int mch, .int mfr, .int mfw, .int mrd, .ref m17, .ref m18, .ref m19, .ref m20, .ref m21, .ref m22, .ref m23, .int mtr_33]))]) [0] rfl
        have hDc := hD.sub (ws' := [(m0, .inr (5, [.int mfa, .int mho, .ref m2, .ref m3, .ref m4, .int mra, .int mrh, .ref m7, .ref m8, .ref m9, .ref m10, .ref m11, .ref m12, .int mch, .int mfr, .int mfw, .int mrd, .ref m17, .ref m18, .ref m19, .ref m20, .ref m21, .ref m22, .ref m23, .int mtr_33]))]) [0] (by decide) rfl
        have hKc := hK.sub (tys' := [(cI, .int)]) [0] rfl
        have hFc := va_free (wc := [(m0, .inr (5, [.int mfa, .int mho, .ref m2, .ref m3, .ref m4, .int mra, .int mrh, .ref m7, .ref m8, .ref m9, .ref m10, .ref m11, .ref m12, .int mch, .int mfr, .int mfw, .int mrd, .ref m17, .ref m18, .ref m19, .ref m20, .ref m21, .ref m22, .ref m23, .int mtr_33]))]) hD hS hA [0] rfl
        refine va_callv (va_runV (As := [.int 1]) (rest := []) ⟨hx, hb, hml, hown, hts⟩ (ctX5_traced l dC dI cI m0 m2 m3 m4 m7 m8 m9 m10 m11 m12 m17 m18 m19 m20 m21 m22 m23 H.size mfa mho mra mrh mch mfr mfw mrd mtr_33 1) (cwV 1 hts gX5_tell_X5_traced rfl rfl rfl (by decide +kernel) ⟨Nat.le_of_ble_eq_true rfl, Nat.le_of_ble_eq_true rfl⟩) (pre_V hKc hN hPc hDc (RX5, TX5, 25) 5 0 rfl rfl) rfl rfl hl.1 rfl (lv_room (Nat.le_of_ble_eq_true rfl)) dX5_tell_38 ⟨Nat.le_of_ble_eq_true rfl, Nat.le_of_ble_eq_true rfl⟩) hS (fun q _ h => hFc q h) hFc (fun _ t H locs ht hvm hw hB hz1 hk1 hS => ?_)
        rw [ht] at hB
        refine nm_gen ((p5_traced mtr_33 1)) (fun mtr_38 emtr_38 => ?_)
        rw [emtr_38] at hB
        obtain ⟨hP, hD⟩ := rw_join ([(m0, .inr (5, [.int mfa, .int mho, .ref m2, .ref m3, .ref m4, .int mra, .int mrh, .ref m7, .ref m8, .ref m9, .ref m10, .ref m11, .ref m12, .int mch, .int mfr, .int mfw, .int mrd, .ref m17, .ref m18, .ref m19, .ref m20, .ref m21, .ref m22, .ref m23, .int mtr_33])), (m2, .inl (cI, 6, .inl K)), (m3, .inl (cI, 6, .inl L))]) ([(m0, .inr (5, [.int mfa, .int mho, .ref m2, .ref m3, .ref m4, .int mra, .int mrh, .ref m7, .ref m8, .ref m9, .ref m10, .ref m11, .ref m12, .int mch, .int mfr, .int mfw, .int mrd, .ref m17, .ref m18, .ref m19, .ref m20, .ref m21, .ref m22, .ref m23, .int mtr_38])), (m2, .inl (cI, 6, .inl K)), (m3, .inl (cI, 6, .inl L))]) ([(m0, .inr (5, [.int mfa, .int mho, .ref m2, .ref m3, .ref m4, .int mra, .int mrh, .ref m7, .ref m8, .ref m9, .ref m10, .ref m11, .ref m12, .int mch, .int mfr, .int mfw, .int mrd, .ref m17, .ref m18, .ref m19, .ref m20, .ref m21, .ref m22, .ref m23, .int mtr_33]))]) ([(m0, .inr (5, [.int mfa, .int mho, .ref m2, .ref m3, .ref m4, .int mra, .int mrh, .ref m7, .ref m8, .ref m9, .ref m10, .ref m11, .ref m12, .int mch, .int mfr, .int mfw, .int mrd, .ref m17, .ref m18, .ref m19, .ref m20, .ref m21, .ref m22, .ref m23, .int mtr_38]))]) ([(m2, .inl (cI, 6, .inl K)), (m3, .inl (cI, 6, .inl L))]) hP hD [0] [1, 2] [m0, m2, m3] 3 rfl rfl rfl rfl rfl (by decide) rfl rfl hk1 hB
        refine lv_iload_n hx hb dX5_tell_41 rfl (lv_at hl 0 rfl) ?_
        refine lv_iconst (v := 2) hx hb dX5_tell_42 (by decide) ?_
        refine lv_icmp_ne (tgt := 51) hx hb dX5_tell_43 (by decide) (fun c_43 => ?_) (fun c_43 => ?_)
        · skip
          refine lv_aload_n hx hb dX5_tell_51 rfl (lv_at hl 1 rfl) ?_
          refine va_get (D := (dC, dI)) (ci := 5) (v := .ref m3) (C := RX5) (T := TX5) (N := 25) hx hb hts hin5 hown hK hP 0 rfl rfl 3 (by decide) kf_13 (fun _ h9 => h9) rfl dX5_tell_52 ?_
          refine lv_iload_n hx hb dX5_tell_55 rfl (lv_at hl 2 rfl) ?_
          refine va_iald hx hb hK hP 2 0 rfl rfl (by assumption) dX5_tell_56 ?_
          refine lv_istore_n (lv' := [(3, .int (L i1.toNatClampNeg)), (2, .int (K i1.toNatClampNeg)), (0, .ref m0), (1, .int i1)]) hx hb dX5_tell_57 rfl hl (by decide) rfl (fun ls hl => ?_)
          refine lv_iload_n hx hb dX5_tell_58 rfl (lv_at hl 1 rfl) ?_
          refine lv_if_ne (tgt := 66) hx hb dX5_tell_59 (by decide) (fun c_59 => ?_) (fun c_59 => ?_)
          · skip
            refine lv_iload_n hx hb dX5_tell_66 rfl (lv_at hl 1 rfl) ?_
            refine lv_iconst (v := 1) hx hb dX5_tell_67 (by decide) ?_
            refine lv_icmp_ne (tgt := 78) hx hb dX5_tell_68 (by decide) (fun c_68 => ?_) (fun c_68 => ?_)
            · skip
              refine lv_iconst (v := 2) hx hb dX5_tell_78 (by decide) ?_
              refine lv_iload_n hx hb dX5_tell_79 rfl (lv_at hl 0 rfl) ?_
              refine lv_imul hx hb dX5_tell_80 ?_
              refine lv_bipush (v := 100) hx hb dX5_tell_81 (by decide) ?_
              refine lv_iadd hx hb dX5_tell_83 ?_
              have hE9 : p5_tell mho mtr K L i1 = (((2 * (L i1.toNatClampNeg)) + 100), mtr_38) := by unfold p5_tell; simp only [emtr_33, emtr_38]; rw [if_pos c_5, if_neg c_19, if_neg c_28, if_neg c_59, if_neg c_68]
              exact W.iret (v := ((2 * (L i1.toNatClampNeg)) + 100)) hx hb hr (fun t ht hW => ⟨⟨_, (), rfl, by rw [hE9], by show va_P (dC, dI) vwCl _ t.heap; rw [ht, hE9]; exact hP⟩, hS.F ht⟩) hS.2.2 dX5_tell_84
            · skip
              refine lv_iload_n hx hb dX5_tell_71 rfl (lv_at hl 0 rfl) ?_
              refine lv_bipush (v := 100) hx hb dX5_tell_72 (by decide) ?_
              refine lv_iadd hx hb dX5_tell_74 ?_
              refine lv_goto (tgt := 84) hx hb dX5_tell_75 (by decide) ?_
              have hE9 : p5_tell mho mtr K L i1 = (((L i1.toNatClampNeg) + 100), mtr_38) := by unfold p5_tell; simp only [emtr_33, emtr_38]; rw [if_pos c_5, if_neg c_19, if_neg c_28, if_neg c_59, if_pos c_68]
              exact W.iret (v := ((L i1.toNatClampNeg) + 100)) hx hb hr (fun t ht hW => ⟨⟨_, (), rfl, by rw [hE9], by show va_P (dC, dI) vwCl _ t.heap; rw [ht, hE9]; exact hP⟩, hS.F ht⟩) hS.2.2 dX5_tell_84
          · skip
            refine lv_iload_n hx hb dX5_tell_62 rfl (lv_at hl 0 rfl) ?_
            refine lv_goto (tgt := 84) hx hb dX5_tell_63 (by decide) ?_
            have hE9 : p5_tell mho mtr K L i1 = ((L i1.toNatClampNeg), mtr_38) := by unfold p5_tell; simp only [emtr_33, emtr_38]; rw [if_pos c_5, if_neg c_19, if_neg c_28, if_pos c_59]
            exact W.iret (v := (L i1.toNatClampNeg)) hx hb hr (fun t ht hW => ⟨⟨_, (), rfl, by rw [hE9], by show va_P (dC, dI) vwCl _ t.heap; rw [ht, hE9]; exact hP⟩, hS.F ht⟩) hS.2.2 dX5_tell_84
        · exact absurd c_43 c_19
    · skip
      refine lv_aload_n hx hb dX5_tell_22 rfl (lv_at hl 1 rfl) ?_
      refine lv_iconst (v := 3) hx hb dX5_tell_23 (by decide) ?_
      have hPc := hP.sub (ws' := [(m0, .inr (5, [.int mfa, .int mho, .ref m2, .ref m3, .ref m4, .int mra, .int mrh, .ref m7, .ref m8, .ref m9, .ref m10, .ref m11, .ref m12, .int mch, .int mfr, .int mfw, .int mrd, .ref m17, .ref m18, .ref m19, .ref m20, .ref m21, .ref m22, .ref m23, .int mtr]))]) [0] rfl
      have hDc := hD.sub (ws' := [(m0, .inr (5, [.int mfa, .int mho, .ref m2, .ref m3, .ref m4, .int mra, .int mrh, .ref m7, .ref m8, .ref m9, .ref m10, .ref m11, .ref m12, .int mch, .int mfr, .int mfw, .int mrd, .ref m17, .ref m18, .ref m19, .ref m20, .ref m21, .ref m22, .ref m23, .int mtr]))]) [0] (by decide) rfl
      have hKc := hK.sub (tys' := [(cI, .int)]) [0] rfl
      have hFc := va_free (wc := [(m0, .inr (5, [.int mfa, .int mho, .ref m2, .ref m3, .ref m4, .int mra, .int mrh, .ref m7, .ref m8, .ref m9, .ref m10, .ref m11, .ref m12, .int mch, .int mfr, .int mfw, .int mrd, .ref m17, .ref m18, .ref m19, .ref m20, .ref m21, .ref m22, .ref m23, .int mtr]))]) hD hS hA [0] rfl
      refine va_callv (va_runV (As := [.int 3]) (rest := []) ⟨hx, hb, hml, hown, hts⟩ (ctX5_traced l dC dI cI m0 m2 m3 m4 m7 m8 m9 m10 m11 m12 m17 m18 m19 m20 m21 m22 m23 H.size mfa mho mra mrh mch mfr mfw mrd mtr 3) (cwV 1 hts gX5_tell_X5_traced rfl rfl rfl (by decide +kernel) ⟨Nat.le_of_ble_eq_true rfl, Nat.le_of_ble_eq_true rfl⟩) (pre_V hKc hN hPc hDc (RX5, TX5, 25) 5 0 rfl rfl) rfl rfl hl.1 rfl (lv_room (Nat.le_of_ble_eq_true rfl)) dX5_tell_24 ⟨Nat.le_of_ble_eq_true rfl, Nat.le_of_ble_eq_true rfl⟩) hS (fun q _ h => hFc q h) hFc (fun _ t H locs ht hvm hw hB hz1 hk1 hS => ?_)
      rw [ht] at hB
      refine nm_gen ((p5_traced mtr 3)) (fun mtr_24 emtr_24 => ?_)
      rw [emtr_24] at hB
      obtain ⟨hP, hD⟩ := rw_join ([(m0, .inr (5, [.int mfa, .int mho, .ref m2, .ref m3, .ref m4, .int mra, .int mrh, .ref m7, .ref m8, .ref m9, .ref m10, .ref m11, .ref m12, .int mch, .int mfr, .int mfw, .int mrd, .ref m17, .ref m18, .ref m19, .ref m20, .ref m21, .ref m22, .ref m23, .int mtr])), (m2, .inl (cI, 6, .inl K)), (m3, .inl (cI, 6, .inl L))]) ([(m0, .inr (5, [.int mfa, .int mho, .ref m2, .ref m3, .ref m4, .int mra, .int mrh, .ref m7, .ref m8, .ref m9, .ref m10, .ref m11, .ref m12, .int mch, .int mfr, .int mfw, .int mrd, .ref m17, .ref m18, .ref m19, .ref m20, .ref m21, .ref m22, .ref m23, .int mtr_24])), (m2, .inl (cI, 6, .inl K)), (m3, .inl (cI, 6, .inl L))]) ([(m0, .inr (5, [.int mfa, .int mho, .ref m2, .ref m3, .ref m4, .int mra, .int mrh, .ref m7, .ref m8, .ref m9, .ref m10, .ref m11, .ref m12, .int mch, .int mfr, .int mfw, .int mrd, .ref m17, .ref m18, .ref m19, .ref m20, .ref m21, .ref m22, .ref m23, .int mtr]))]) ([(m0, .inr (5, [.int mfa, .int mho, .ref m2, .ref m3, .ref m4, .int mra, .int mrh, .ref m7, .ref m8, .ref m9, .ref m10, .ref m11, .ref m12, .int mch, .int mfr, .int mfw, .int mrd, .ref m17, .ref m18, .ref m19, .ref m20, .ref m21, .ref m22, .ref m23, .int mtr_24]))]) ([(m2, .inl (cI, 6, .inl K)), (m3, .inl (cI, 6, .inl L))]) hP hD [0] [1, 2] [m0, m2, m3] 3 rfl rfl rfl rfl rfl (by decide) rfl rfl hk1 hB
      refine lv_iload_n hx hb dX5_tell_27 rfl (lv_at hl 0 rfl) ?_
      refine lv_if_le (tgt := 36) hx hb dX5_tell_28 (by decide) (fun c_28 => ?_) (fun c_28 => ?_)
      · skip
        refine lv_aload_n hx hb dX5_tell_36 rfl (lv_at hl 1 rfl) ?_
        refine lv_iconst (v := 1) hx hb dX5_tell_37 (by decide) ?_
        have hPc := hP.sub (ws' := [(m0, .inr (5, [.int mfa, .int mho, .ref m2, .ref m3, .ref m4, .int mra, .int mrh, .ref m7, .ref m8, .ref m9, .ref m10, .ref m11, .ref m12, .int mch, .int mfr, .int mfw, .int mrd, .ref m17, .ref m18, .ref m19, .ref m20, .ref m21, .ref m22, .ref m23, .int mtr_24]))]) [0] rfl
        have hDc := hD.sub (ws' := [(m0, .inr (5, [.int mfa, .int mho, .ref m2, .ref m3, .ref m4, .int mra, .int mrh, .ref m7, .ref m8, .ref m9, .ref m10, .ref m11, .ref m12, .int mch, .int mfr, .int mfw, .int mrd, .ref m17, .ref m18, .ref m19, .ref m20, .ref m21, .ref m22, .ref m23, .int mtr_24]))]) [0] (by decide) rfl
        have hKc := hK.sub (tys' := [(cI, .int)]) [0] rfl
        have hFc := va_free (wc := [(m0, .inr (5, [.int mfa, .int mho, .ref m2, .ref m3, .ref m4, .int mra, .int mrh, .ref m7, .ref m8, .ref m9, .ref m10, .ref m11, .ref m12, .int mch, .int mfr, .int mfw, .int mrd, .ref m17, .ref m18, .ref m19, .ref m20, .ref m21, .ref m22, .ref m23, .int mtr_24]))]) hD hS hA [0] rfl
        refine va_callv (va_runV (As := [.int 1]) (rest := []) ⟨hx, hb, hml, hown, hts⟩ (ctX5_traced l dC dI cI m0 m2 m3 m4 m7 m8 m9 m10 m11 m12 m17 m18 m19 m20 m21 m22 m23 H.size mfa mho mra mrh mch mfr mfw mrd mtr_24 1) (cwV 1 hts gX5_tell_X5_traced rfl rfl rfl (by decide +kernel) ⟨Nat.le_of_ble_eq_true rfl, Nat.le_of_ble_eq_true rfl⟩) (pre_V hKc hN hPc hDc (RX5, TX5, 25) 5 0 rfl rfl) rfl rfl hl.1 rfl (lv_room (Nat.le_of_ble_eq_true rfl)) dX5_tell_38 ⟨Nat.le_of_ble_eq_true rfl, Nat.le_of_ble_eq_true rfl⟩) hS (fun q _ h => hFc q h) hFc (fun _ t H locs ht hvm hw hB hz1 hk1 hS => ?_)
        rw [ht] at hB
        refine nm_gen ((p5_traced mtr_24 1)) (fun mtr_38 emtr_38 => ?_)
        rw [emtr_38] at hB
        obtain ⟨hP, hD⟩ := rw_join ([(m0, .inr (5, [.int mfa, .int mho, .ref m2, .ref m3, .ref m4, .int mra, .int mrh, .ref m7, .ref m8, .ref m9, .ref m10, .ref m11, .ref m12, .int mch, .int mfr, .int mfw, .int mrd, .ref m17, .ref m18, .ref m19, .ref m20, .ref m21, .ref m22, .ref m23, .int mtr_24])), (m2, .inl (cI, 6, .inl K)), (m3, .inl (cI, 6, .inl L))]) ([(m0, .inr (5, [.int mfa, .int mho, .ref m2, .ref m3, .ref m4, .int mra, .int mrh, .ref m7, .ref m8, .ref m9, .ref m10, .ref m11, .ref m12, .int mch, .int mfr, .int mfw, .int mrd, .ref m17, .ref m18, .ref m19, .ref m20, .ref m21, .ref m22, .ref m23, .int mtr_38])), (m2, .inl (cI, 6, .inl K)), (m3, .inl (cI, 6, .inl L))]) ([(m0, .inr (5, [.int mfa, .int mho, .ref m2, .ref m3, .ref m4, .int mra, .int mrh, .ref m7, .ref m8, .ref m9, .ref m10, .ref m11, .ref m12, .int mch, .int mfr, .int mfw, .int mrd, .ref m17, .ref m18, .ref m19, .ref m20, .ref m21, .ref m22, .ref m23, .int mtr_24]))]) ([(m0, .inr (5, [.int mfa, .int mho, .ref m2, .ref m3, .ref m4, .int mra, .int mrh, .ref m7, .ref m8, .ref m9, .ref m10, .ref m11, .ref m12, .int mch, .int mfr, .int mfw, .int mrd, .ref m17, .ref m18, .ref m19, .ref m20, .ref m21, .ref m22, .ref m23, .int mtr_38]))]) ([(m2, .inl (cI, 6, .inl K)), (m3, .inl (cI, 6, .inl L))]) hP hD [0] [1, 2] [m0, m2, m3] 3 rfl rfl rfl rfl rfl (by decide) rfl rfl hk1 hB
        refine lv_iload_n hx hb dX5_tell_41 rfl (lv_at hl 0 rfl) ?_
        refine lv_iconst (v := 2) hx hb dX5_tell_42 (by decide) ?_
        refine lv_icmp_ne (tgt := 51) hx hb dX5_tell_43 (by decide) (fun c_43 => ?_) (fun c_43 => ?_)
        · exact absurd c_19 c_43
        · skip
          refine lv_aload_n hx hb dX5_tell_46 rfl (lv_at hl 1 rfl) ?_
          refine lv_iconst (v := 1) hx hb dX5_tell_47 (by decide) ?_
          have hPc := hP.sub (ws' := [(m0, .inr (5, [.int mfa, .int mho, .ref m2, .ref m3, .ref m4, .int mra, .int mrh, .ref m7, .ref m8, .ref m9, .ref m10, .ref m11, .ref m12, .int mch, .int mfr, .int mfw, .int mrd, .ref m17, .ref m18, .ref m19, .ref m20, .ref m21, .ref m22, .ref m23, .int mtr_38]))]) [0] rfl
          have hDc := hD.sub (ws' := [(m0, .inr (5, [.int mfa, .int mho, .ref m2, .ref m3, .ref m4, .int mra, .int mrh, .ref m7, .ref m8, .ref m9, .ref m10, .ref m11, .ref m12, .int mch, .int mfr, .int mfw, .int mrd, .ref m17, .ref m18, .ref m19, .ref m20, .ref m21, .ref m22, .ref m23, .int mtr_38]))]) [0] (by decide) rfl
          have hKc := hK.sub (tys' := [(cI, .int)]) [0] rfl
          have hFc := va_free (wc := [(m0, .inr (5, [.int mfa, .int mho, .ref m2, .ref m3, .ref m4, .int mra, .int mrh, .ref m7, .ref m8, .ref m9, .ref m10, .ref m11, .ref m12, .int mch, .int mfr, .int mfw, .int mrd, .ref m17, .ref m18, .ref m19, .ref m20, .ref m21, .ref m22, .ref m23, .int mtr_38]))]) hD hS hA [0] rfl
          refine va_callv (va_runV (As := [.int 1]) (rest := []) ⟨hx, hb, hml, hown, hts⟩ (ctX5_traced l dC dI cI m0 m2 m3 m4 m7 m8 m9 m10 m11 m12 m17 m18 m19 m20 m21 m22 m23 H.size mfa mho mra mrh mch mfr mfw mrd mtr_38 1) (cwV 1 hts gX5_tell_X5_traced rfl rfl rfl (by decide +kernel) ⟨Nat.le_of_ble_eq_true rfl, Nat.le_of_ble_eq_true rfl⟩) (pre_V hKc hN hPc hDc (RX5, TX5, 25) 5 0 rfl rfl) rfl rfl hl.1 rfl (lv_room (Nat.le_of_ble_eq_true rfl)) dX5_tell_48 ⟨Nat.le_of_ble_eq_true rfl, Nat.le_of_ble_eq_true rfl⟩) hS (fun q _ h => hFc q h) hFc (fun _ t H locs ht hvm hw hB hz1 hk1 hS => ?_)
          rw [ht] at hB
          refine nm_gen ((p5_traced mtr_38 1)) (fun mtr_48 emtr_48 => ?_)
          rw [emtr_48] at hB
          obtain ⟨hP, hD⟩ := rw_join ([(m0, .inr (5, [.int mfa, .int mho, .ref m2, .ref m3, .ref m4, .int mra, .int mrh, .ref m7, .ref m8, .ref m9, .ref m10, .ref m11, .ref m12, .int mch, .int mfr, .int mfw, .int mrd, .ref m17, .ref m18, .ref m19, .ref m20, .ref m21, .ref m22, .ref m23, .int mtr_38])), (m2, .inl (cI, 6, .inl K)), (m3, .inl (cI, 6, .inl L))]) ([(m0, .inr (5, [.int mfa, .int mho, .ref m2, .ref m3, .ref m4, .int mra, .int mrh, .ref m7, .ref m8, .ref m9, .ref m10, .ref m11, .ref m12, .int mch, .int mfr, .int mfw, .int mrd, .ref m17, .ref m18, .ref m19, .ref m20, .ref m21, .ref m22, .ref m23, .int mtr_48])), (m2, .inl (cI, 6, .inl K)), (m3, .inl (cI, 6, .inl L))]) ([(m0, .inr (5, [.int mfa, .int mho, .ref m2, .ref m3, .ref m4, .int mra, .int mrh, .ref m7, .ref m8, .ref m9, .ref m10, .ref m11, .ref m12, .int mch, .int mfr, .int mfw, .int mrd, .ref m17, .ref m18, .ref m19, .ref m20, .ref m21, .ref m22, .ref m23, .int mtr_38]))]) ([(m0, .inr (5, [.int mfa, .int mho, .ref m2, .ref m3, .ref m4, .int mra, .int mrh, .ref m7, .ref m8, .ref m9, .ref m10, .ref m11, .ref m12, .int mch, .int mfr, .int mfw, .int mrd, .ref m17, .ref m18, .ref m19, .ref m20, .ref m21, .ref m22, .ref m23, .int mtr_48]))]) ([(m2, .inl (cI, 6, .inl K)), (m3, .inl (cI, 6, .inl L))]) hP hD [0] [1, 2] [m0, m2, m3] 3 rfl rfl rfl rfl rfl (by decide) rfl rfl hk1 hB
          refine lv_aload_n hx hb dX5_tell_51 rfl (lv_at hl 1 rfl) ?_
          refine va_get (D := (dC, dI)) (ci := 5) (v := .ref m3) (C := RX5) (T := TX5) (N := 25) hx hb hts hin5 hown hK hP 0 rfl rfl 3 (by decide) kf_13 (fun _ h9 => h9) rfl dX5_tell_52 ?_
          refine lv_iload_n hx hb dX5_tell_55 rfl (lv_at hl 2 rfl) ?_
          refine va_iald hx hb hK hP 2 0 rfl rfl (by assumption) dX5_tell_56 ?_
          refine lv_istore_n (lv' := [(3, .int (L i1.toNatClampNeg)), (2, .int (K i1.toNatClampNeg)), (0, .ref m0), (1, .int i1)]) hx hb dX5_tell_57 rfl hl (by decide) rfl (fun ls hl => ?_)
          refine lv_iload_n hx hb dX5_tell_58 rfl (lv_at hl 1 rfl) ?_
          refine lv_if_ne (tgt := 66) hx hb dX5_tell_59 (by decide) (fun c_59 => ?_) (fun c_59 => ?_)
          · skip
            refine lv_iload_n hx hb dX5_tell_66 rfl (lv_at hl 1 rfl) ?_
            refine lv_iconst (v := 1) hx hb dX5_tell_67 (by decide) ?_
            refine lv_icmp_ne (tgt := 78) hx hb dX5_tell_68 (by decide) (fun c_68 => ?_) (fun c_68 => ?_)
            · skip
              refine lv_iconst (v := 2) hx hb dX5_tell_78 (by decide) ?_
              refine lv_iload_n hx hb dX5_tell_79 rfl (lv_at hl 0 rfl) ?_
              refine lv_imul hx hb dX5_tell_80 ?_
              refine lv_bipush (v := 100) hx hb dX5_tell_81 (by decide) ?_
              refine lv_iadd hx hb dX5_tell_83 ?_
              have hE9 : p5_tell mho mtr K L i1 = (((2 * (L i1.toNatClampNeg)) + 100), mtr_48) := by unfold p5_tell; simp only [emtr_24, emtr_38, emtr_48]; rw [if_pos c_5, if_pos c_19, if_pos c_28, if_neg c_59, if_neg c_68]
              exact W.iret (v := ((2 * (L i1.toNatClampNeg)) + 100)) hx hb hr (fun t ht hW => ⟨⟨_, (), rfl, by rw [hE9], by show va_P (dC, dI) vwCl _ t.heap; rw [ht, hE9]; exact hP⟩, hS.F ht⟩) hS.2.2 dX5_tell_84
            · skip
              refine lv_iload_n hx hb dX5_tell_71 rfl (lv_at hl 0 rfl) ?_
              refine lv_bipush (v := 100) hx hb dX5_tell_72 (by decide) ?_
              refine lv_iadd hx hb dX5_tell_74 ?_
              refine lv_goto (tgt := 84) hx hb dX5_tell_75 (by decide) ?_
              have hE9 : p5_tell mho mtr K L i1 = (((L i1.toNatClampNeg) + 100), mtr_48) := by unfold p5_tell; simp only [emtr_24, emtr_38, emtr_48]; rw [if_pos c_5, if_pos c_19, if_pos c_28, if_neg c_59, if_pos c_68]
              exact W.iret (v := ((L i1.toNatClampNeg) + 100)) hx hb hr (fun t ht hW => ⟨⟨_, (), rfl, by rw [hE9], by show va_P (dC, dI) vwCl _ t.heap; rw [ht, hE9]; exact hP⟩, hS.F ht⟩) hS.2.2 dX5_tell_84
          · skip
            refine lv_iload_n hx hb dX5_tell_62 rfl (lv_at hl 0 rfl) ?_
            refine lv_goto (tgt := 84) hx hb dX5_tell_63 (by decide) ?_
            have hE9 : p5_tell mho mtr K L i1 = ((L i1.toNatClampNeg), mtr_48) := by unfold p5_tell; simp only [emtr_24, emtr_38, emtr_48]; rw [if_pos c_5, if_pos c_19, if_pos c_28, if_pos c_59]
            exact W.iret (v := (L i1.toNatClampNeg)) hx hb hr (fun t ht hW => ⟨⟨_, (), rfl, by rw [hE9], by show va_P (dC, dI) vwCl _ t.heap; rw [ht, hE9]; exact hP⟩, hS.F ht⟩) hS.2.2 dX5_tell_84
      · skip
        refine lv_aload_n hx hb dX5_tell_31 rfl (lv_at hl 1 rfl) ?_
        refine lv_iconst (v := 2) hx hb dX5_tell_32 (by decide) ?_
        have hPc := hP.sub (ws' := [(m0, .inr (5, [.int mfa, .int mho, .ref m2, .ref m3, .ref m4, .int mra, .int mrh, .ref m7, .ref m8, .ref m9, .ref m10, .ref m11, .ref m12, .int mch, .int mfr, .int mfw, .int mrd, .ref m17, .ref m18, .ref m19, .ref m20, .ref m21, .ref m22, .ref m23, .int mtr_24]))]) [0] rfl
        have hDc := hD.sub (ws' := [(m0, .inr (5, [.int mfa, .int mho, .ref m2, .ref m3, .ref m4, .int mra, .int mrh, .ref m7, .ref m8, .ref m9, .ref m10, .ref m11, .ref m12, .int mch, .int mfr, .int mfw, .int mrd, .ref m17, .ref m18, .ref m19, .ref m20, .ref m21, .ref m22, .ref m23, .int mtr_24]))]) [0] (by decide) rfl
        have hKc := hK.sub (tys' := [(cI, .int)]) [0] rfl
        have hFc := va_free (wc := [(m0, .inr (5, [.int mfa, .int mho, .ref m2, .ref m3, .ref m4, .int mra, .int mrh, .ref m7, .ref m8, .ref m9, .ref m10, .ref m11, .ref m12, .int mch, .int mfr, .int mfw, .int mrd, .ref m17, .ref m18, .ref m19, .ref m20, .ref m21, .ref m22, .ref m23, .int mtr_24]))]) hD hS hA [0] rfl
        refine va_callv (va_runV (As := [.int 2]) (rest := []) ⟨hx, hb, hml, hown, hts⟩ (ctX5_traced l dC dI cI m0 m2 m3 m4 m7 m8 m9 m10 m11 m12 m17 m18 m19 m20 m21 m22 m23 H.size mfa mho mra mrh mch mfr mfw mrd mtr_24 2) (cwV 1 hts gX5_tell_X5_traced rfl rfl rfl (by decide +kernel) ⟨Nat.le_of_ble_eq_true rfl, Nat.le_of_ble_eq_true rfl⟩) (pre_V hKc hN hPc hDc (RX5, TX5, 25) 5 0 rfl rfl) rfl rfl hl.1 rfl (lv_room (Nat.le_of_ble_eq_true rfl)) dX5_tell_33 ⟨Nat.le_of_ble_eq_true rfl, Nat.le_of_ble_eq_true rfl⟩) hS (fun q _ h => hFc q h) hFc (fun _ t H locs ht hvm hw hB hz1 hk1 hS => ?_)
        rw [ht] at hB
        refine nm_gen ((p5_traced mtr_24 2)) (fun mtr_33 emtr_33 => ?_)
        rw [emtr_33] at hB
        obtain ⟨hP, hD⟩ := rw_join ([(m0, .inr (5, [.int mfa, .int mho, .ref m2, .ref m3, .ref m4, .int mra, .int mrh, .ref m7, .ref m8, .ref m9, .ref m10, .ref m11, .ref m12, .int mch, .int mfr, .int mfw, .int mrd, .ref m17, .ref m18, .ref m19, .ref m20, .ref m21, .ref m22, .ref m23, .int mtr_24])), (m2, .inl (cI, 6, .inl K)), (m3, .inl (cI, 6, .inl L))]) ([(m0, .inr (5, [.int mfa, .int mho, .ref m2, .ref m3, .ref m4, .int mra, .int mrh, .ref m7, .ref m8, .ref m9, .ref m10, .ref m11, .ref m12, .int mch, .int mfr, .int mfw, .int mrd, .ref m17, .ref m18, .ref m19, .ref m20, .ref m21, .ref m22, .ref m23, .int mtr_33])), (m2, .inl (cI, 6, .inl K)), (m3, .inl (cI, 6, .inl L))]) ([(m0, .inr (5, [.int mfa, .int mho, .ref m2, .ref m3, .ref m4, .int mra, .int mrh, .ref m7, .ref m8, .ref m9, .ref m10, .ref m11, .ref m12, .int mch, .int mfr, .int mfw, .int mrd, .ref m17, .ref m18, .ref m19, .ref m20, .ref m21, .ref m22, .ref m23, .int mtr_24]))]) ([(m0, .inr (5, [.int mfa, .int mho, .ref m2, .ref m3, .ref m4, .int mra, .int mrh, .ref m7, .ref m8, .ref m9, .ref m10, .ref m11, .ref m12, .int mch, .int mfr, .int mfw, .int mrd, .ref m17, .ref m18, .ref m19, .ref m20, .ref m21, .ref m22, .ref m23, .int mtr_33]))]) ([(m2, .inl (cI, 6, .inl K)), (m3, .inl (cI, 6, .inl L))]) hP hD [0] [1, 2] [m0, m2, m3] 3 rfl rfl rfl rfl rfl (by decide) rfl rfl hk1 hB
        refine lv_aload_n hx hb dX5_tell_36 rfl (lv_at hl 1 rfl) ?_
        refine lv_iconst (v := 1) hx hb dX5_tell_37 (by decide) ?_
        have hPc := hP.sub (ws' := [(m0, .inr (5, [.int mfa, .int mho, .ref m2, .ref m3, .ref m4, .int mra, .int mrh, .ref m7, .ref m8, .ref m9, .ref m10, .ref m11, .ref m12, .int mch, .int mfr, .int mfw, .int mrd, .ref m17, .ref m18, .ref m19, .ref m20, .ref m21, .ref m22, .ref m23, .int mtr_33]))]) [0] rfl
        have hDc := hD.sub (ws' := [(m0, .inr (5, [.int mfa, .int mho, .ref m2, .ref m3, .ref m4, .int mra, .int mrh, .ref m7, .ref m8, .ref m9, .ref m10, .ref m11, .ref m12, .int mch, .int mfr, .int mfw, .int mrd, .ref m17, .ref m18, .ref m19, .ref m20, .ref m21, .ref m22, .ref m23, .int mtr_33]))]) [0] (by decide) rfl
        have hKc := hK.sub (tys' := [(cI, .int)]) [0] rfl
        have hFc := va_free (wc := [(m0, .inr (5, [.int mfa, .int mho, .ref m2, .ref m3, .ref m4, .int mra, .int mrh, .ref m7, .ref m8, .ref m9, .ref m10, .ref m11, .ref m12, .int mch, .int mfr, .int mfw, .int mrd, .ref m17, .ref m18, .ref m19, .ref m20, .ref m21, .ref m22, .ref m23, .int mtr_33]))]) hD hS hA [0] rfl
        refine va_callv (va_runV (As := [.int 1]) (rest := []) ⟨hx, hb, hml, hown, hts⟩ (ctX5_traced l dC dI cI m0 m2 m3 m4 m7 m8 m9 m10 m11 m12 m17 m18 m19 m20 m21 m22 m23 H.size mfa mho mra mrh mch mfr mfw mrd mtr_33 1) (cwV 1 hts gX5_tell_X5_traced rfl rfl rfl (by decide +kernel) ⟨Nat.le_of_ble_eq_true rfl, Nat.le_of_ble_eq_true rfl⟩) (pre_V hKc hN hPc hDc (RX5, TX5, 25) 5 0 rfl rfl) rfl rfl hl.1 rfl (lv_room (Nat.le_of_ble_eq_true rfl)) dX5_tell_38 ⟨Nat.le_of_ble_eq_true rfl, Nat.le_of_ble_eq_true rfl⟩) hS (fun q _ h => hFc q h) hFc (fun _ t H locs ht hvm hw hB hz1 hk1 hS => ?_)
        rw [ht] at hB
        refine nm_gen ((p5_traced mtr_33 1)) (fun mtr_38 emtr_38 => ?_)
        rw [emtr_38] at hB
        obtain ⟨hP, hD⟩ := rw_join ([(m0, .inr (5, [.int mfa, .int mho, .ref m2, .ref m3, .ref m4, .int mra, .int mrh, .ref m7, .ref m8, .ref m9, .ref m10, .ref m11, .ref m12, .int mch, .int mfr, .int mfw, .int mrd, .ref m17, .ref m18, .ref m19, .ref m20, .ref m21, .ref m22, .ref m23, .int mtr_33])), (m2, .inl (cI, 6, .inl K)), (m3, .inl (cI, 6, .inl L))]) ([(m0, .inr (5, [.int mfa, .int mho, .ref m2, .ref m3, .ref m4, .int mra, .int mrh, .ref m7, .ref m8, .ref m9, .ref m10, .ref m11, .ref m12, .int mch, .int mfr, .int mfw, .int mrd, .ref m17, .ref m18, .ref m19, .ref m20, .ref m21, .ref m22, .ref m23, .int mtr_38])), (m2, .inl (cI, 6, .inl K)), (m3, .inl (cI, 6, .inl L))]) ([(m0, .inr (5, [.int mfa, .int mho, .ref m2, .ref m3, .ref m4, .int mra, .int mrh, .ref m7, .ref m8, .ref m9, .ref m10, .ref m11, .ref m12, .int mch, .int mfr, .int mfw, .int mrd, .ref m17, .ref m18, .ref m19, .ref m20, .ref m21, .ref m22, .ref m23, .int mtr_33]))]) ([(m0, .inr (5, [.int mfa, .int mho, .ref m2, .ref m3, .ref m4, .int mra, .int mrh, .ref m7, .ref m8, .ref m9, .ref m10, .ref m11, .ref m12, .int mch, .int mfr, .int mfw, .int mrd, .ref m17, .ref m18, .ref m19, .ref m20, .ref m21, .ref m22, .ref m23, .int mtr_38]))]) ([(m2, .inl (cI, 6, .inl K)), (m3, .inl (cI, 6, .inl L))]) hP hD [0] [1, 2] [m0, m2, m3] 3 rfl rfl rfl rfl rfl (by decide) rfl rfl hk1 hB
        refine lv_iload_n hx hb dX5_tell_41 rfl (lv_at hl 0 rfl) ?_
        refine lv_iconst (v := 2) hx hb dX5_tell_42 (by decide) ?_
        refine lv_icmp_ne (tgt := 51) hx hb dX5_tell_43 (by decide) (fun c_43 => ?_) (fun c_43 => ?_)
        · exact absurd c_19 c_43
        · skip
          refine lv_aload_n hx hb dX5_tell_46 rfl (lv_at hl 1 rfl) ?_
          refine lv_iconst (v := 1) hx hb dX5_tell_47 (by decide) ?_
          have hPc := hP.sub (ws' := [(m0, .inr (5, [.int mfa, .int mho, .ref m2, .ref m3, .ref m4, .int mra, .int mrh, .ref m7, .ref m8, .ref m9, .ref m10, .ref m11, .ref m12, .int mch, .int mfr, .int mfw, .int mrd, .ref m17, .ref m18, .ref m19, .ref m20, .ref m21, .ref m22, .ref m23, .int mtr_38]))]) [0] rfl
          have hDc := hD.sub (ws' := [(m0, .inr (5, [.int mfa, .int mho, .ref m2, .ref m3, .ref m4, .int mra, .int mrh, .ref m7, .ref m8, .ref m9, .ref m10, .ref m11, .ref m12, .int mch, .int mfr, .int mfw, .int mrd, .ref m17, .ref m18, .ref m19, .ref m20, .ref m21, .ref m22, .ref m23, .int mtr_38]))]) [0] (by decide) rfl
          have hKc := hK.sub (tys' := [(cI, .int)]) [0] rfl
          have hFc := va_free (wc := [(m0, .inr (5, [.int mfa, .int mho, .ref m2, .ref m3, .ref m4, .int mra, .int mrh, .ref m7, .ref m8, .ref m9, .ref m10, .ref m11, .ref m12, .int mch, .int mfr, .int mfw, .int mrd, .ref m17, .ref m18, .ref m19, .ref m20, .ref m21, .ref m22, .ref m23, .int mtr_38]))]) hD hS hA [0] rfl
          refine va_callv (va_runV (As := [.int 1]) (rest := []) ⟨hx, hb, hml, hown, hts⟩ (ctX5_traced l dC dI cI m0 m2 m3 m4 m7 m8 m9 m10 m11 m12 m17 m18 m19 m20 m21 m22 m23 H.size mfa mho mra mrh mch mfr mfw mrd mtr_38 1) (cwV 1 hts gX5_tell_X5_traced rfl rfl rfl (by decide +kernel) ⟨Nat.le_of_ble_eq_true rfl, Nat.le_of_ble_eq_true rfl⟩) (pre_V hKc hN hPc hDc (RX5, TX5, 25) 5 0 rfl rfl) rfl rfl hl.1 rfl (lv_room (Nat.le_of_ble_eq_true rfl)) dX5_tell_48 ⟨Nat.le_of_ble_eq_true rfl, Nat.le_of_ble_eq_true rfl⟩) hS (fun q _ h => hFc q h) hFc (fun _ t H locs ht hvm hw hB hz1 hk1 hS => ?_)
          rw [ht] at hB
          refine nm_gen ((p5_traced mtr_38 1)) (fun mtr_48 emtr_48 => ?_)
          rw [emtr_48] at hB
          obtain ⟨hP, hD⟩ := rw_join ([(m0, .inr (5, [.int mfa, .int mho, .ref m2, .ref m3, .ref m4, .int mra, .int mrh, .ref m7, .ref m8, .ref m9, .ref m10, .ref m11, .ref m12, .int mch, .int mfr, .int mfw, .int mrd, .ref m17, .ref m18, .ref m19, .ref m20, .ref m21, .ref m22, .ref m23, .int mtr_38])), (m2, .inl (cI, 6, .inl K)), (m3, .inl (cI, 6, .inl L))]) ([(m0, .inr (5, [.int mfa, .int mho, .ref m2, .ref m3, .ref m4, .int mra, .int mrh, .ref m7, .ref m8, .ref m9, .ref m10, .ref m11, .ref m12, .int mch, .int mfr, .int mfw, .int mrd, .ref m17, .ref m18, .ref m19, .ref m20, .ref m21, .ref m22, .ref m23, .int mtr_48])), (m2, .inl (cI, 6, .inl K)), (m3, .inl (cI, 6, .inl L))]) ([(m0, .inr (5, [.int mfa, .int mho, .ref m2, .ref m3, .ref m4, .int mra, .int mrh, .ref m7, .ref m8, .ref m9, .ref m10, .ref m11, .ref m12, .int mch, .int mfr, .int mfw, .int mrd, .ref m17, .ref m18, .ref m19, .ref m20, .ref m21, .ref m22, .ref m23, .int mtr_38]))]) ([(m0, .inr (5, [.int mfa, .int mho, .ref m2, .ref m3, .ref m4, .int mra, .int mrh, .ref m7, .ref m8, .ref m9, .ref m10, .ref m11, .ref m12, .int mch, .int mfr, .int mfw, .int mrd, .ref m17, .ref m18, .ref m19, .ref m20, .ref m21, .ref m22, .ref m23, .int mtr_48]))]) ([(m2, .inl (cI, 6, .inl K)), (m3, .inl (cI, 6, .inl L))]) hP hD [0] [1, 2] [m0, m2, m3] 3 rfl rfl rfl rfl rfl (by decide) rfl rfl hk1 hB
          refine lv_aload_n hx hb dX5_tell_51 rfl (lv_at hl 1 rfl) ?_
          refine va_get (D := (dC, dI)) (ci := 5) (v := .ref m3) (C := RX5) (T := TX5) (N := 25) hx hb hts hin5 hown hK hP 0 rfl rfl 3 (by decide) kf_13 (fun _ h9 => h9) rfl dX5_tell_52 ?_
          refine lv_iload_n hx hb dX5_tell_55 rfl (lv_at hl 2 rfl) ?_
          refine va_iald hx hb hK hP 2 0 rfl rfl (by assumption) dX5_tell_56 ?_
          refine lv_istore_n (lv' := [(3, .int (L i1.toNatClampNeg)), (2, .int (K i1.toNatClampNeg)), (0, .ref m0), (1, .int i1)]) hx hb dX5_tell_57 rfl hl (by decide) rfl (fun ls hl => ?_)
          refine lv_iload_n hx hb dX5_tell_58 rfl (lv_at hl 1 rfl) ?_
          refine lv_if_ne (tgt := 66) hx hb dX5_tell_59 (by decide) (fun c_59 => ?_) (fun c_59 => ?_)
          · skip
            refine lv_iload_n hx hb dX5_tell_66 rfl (lv_at hl 1 rfl) ?_
            refine lv_iconst (v := 1) hx hb dX5_tell_67 (by decide) ?_
            refine lv_icmp_ne (tgt := 78) hx hb dX5_tell_68 (by decide) (fun c_68 => ?_) (fun c_68 => ?_)
            · skip
              refine lv_iconst (v := 2) hx hb dX5_tell_78 (by decide) ?_
              refine lv_iload_n hx hb dX5_tell_79 rfl (lv_at hl 0 rfl) ?_
              refine lv_imul hx hb dX5_tell_80 ?_
              refine lv_bipush (v := 100) hx hb dX5_tell_81 (by decide) ?_
              refine lv_iadd hx hb dX5_tell_83 ?_
              have hE9 : p5_tell mho mtr K L i1 = (((2 * (L i1.toNatClampNeg)) + 100), mtr_48) := by unfold p5_tell; simp only [emtr_24, emtr_33, emtr_38, emtr_48]; rw [if_pos c_5, if_pos c_19, if_neg c_28, if_neg c_59, if_neg c_68]
              exact W.iret (v := ((2 * (L i1.toNatClampNeg)) + 100)) hx hb hr (fun t ht hW => ⟨⟨_, (), rfl, by rw [hE9], by show va_P (dC, dI) vwCl _ t.heap; rw [ht, hE9]; exact hP⟩, hS.F ht⟩) hS.2.2 dX5_tell_84
            · skip
              refine lv_iload_n hx hb dX5_tell_71 rfl (lv_at hl 0 rfl) ?_
              refine lv_bipush (v := 100) hx hb dX5_tell_72 (by decide) ?_
              refine lv_iadd hx hb dX5_tell_74 ?_
              refine lv_goto (tgt := 84) hx hb dX5_tell_75 (by decide) ?_
              have hE9 : p5_tell mho mtr K L i1 = (((L i1.toNatClampNeg) + 100), mtr_48) := by unfold p5_tell; simp only [emtr_24, emtr_33, emtr_38, emtr_48]; rw [if_pos c_5, if_pos c_19, if_neg c_28, if_neg c_59, if_pos c_68]
              exact W.iret (v := ((L i1.toNatClampNeg) + 100)) hx hb hr (fun t ht hW => ⟨⟨_, (), rfl, by rw [hE9], by show va_P (dC, dI) vwCl _ t.heap; rw [ht, hE9]; exact hP⟩, hS.F ht⟩) hS.2.2 dX5_tell_84
          · skip
            refine lv_iload_n hx hb dX5_tell_62 rfl (lv_at hl 0 rfl) ?_
            refine lv_goto (tgt := 84) hx hb dX5_tell_63 (by decide) ?_
            have hE9 : p5_tell mho mtr K L i1 = ((L i1.toNatClampNeg), mtr_48) := by unfold p5_tell; simp only [emtr_24, emtr_33, emtr_38, emtr_48]; rw [if_pos c_5, if_pos c_19, if_neg c_28, if_pos c_59]
            exact W.iret (v := (L i1.toNatClampNeg)) hx hb hr (fun t ht hW => ⟨⟨_, (), rfl, by rw [hE9], by show va_P (dC, dI) vwCl _ t.heap; rw [ht, hE9]; exact hP⟩, hS.F ht⟩) hS.2.2 dX5_tell_84
  · skip
    refine lv_iconst (v := (-1)) hx hb dX5_tell_8 (by decide) ?_
    have hE9 : p5_tell mho mtr K L i1 = ((-1), mtr) := by unfold p5_tell; rw [if_neg c_5]
    exact W.iret (v := (-1)) hx hb hr (fun t ht hW => ⟨⟨_, (), rfl, by rw [hE9], by show va_P (dC, dI) vwCl _ t.heap; rw [ht, hE9]; exact hP⟩, hS.F ht⟩) hS.2.2 dX5_tell_9

def p5_seal (mho : Int32) (mtr : Int32) (K : Nat → Int32) (i1 : Int32) : Int32 × Int32 :=
  if (p5_noHouse mho i1) = 0 then
    if (K i1.toNatClampNeg) = 2 then
      (90, (p5_traced mtr 5))
    else
      (i1, (p5_traced mtr 4))
  else
    ((-1), mtr)
abbrev rmX5_seal : Room := { frames := 2, cells := 0, slots := 0, locals := 46 }
abbrev QX5_seal (dC : Nat → ClassId) (dI : Nat → Nat → Nat) (A : Nat → Prop) (cI : ClassId) (m0 : Nat) (m2 : Nat) (m3 : Nat) (m4 : Nat) (m7 : Nat) (m8 : Nat) (m9 : Nat) (m10 : Nat) (m11 : Nat) (m12 : Nat) (m17 : Nat) (m18 : Nat) (m19 : Nat) (m20 : Nat) (m21 : Nat) (m22 : Nat) (m23 : Nat) (mfa : Int32) (mho : Int32) (mra : Int32) (mrh : Int32) (mch : Int32) (mfr : Int32) (mfw : Int32) (mrd : Int32) (mtr : Int32) (K : Nat → Int32) (i1 : Int32) : Array Value → State → Outcome → State → Prop := va_Qi (fun (r : Int32) (_ : Unit) => r = (p5_seal mho mtr K i1).1) (fun (_ : Unit) (t : State) => va_P (dC, dI) vwCl ([(m0, .inr (5, [.int mfa, .int mho, .ref m2, .ref m3, .ref m4, .int mra, .int mrh, .ref m7, .ref m8, .ref m9, .ref m10, .ref m11, .ref m12, .int mch, .int mfr, .int mfw, .int mrd, .ref m17, .ref m18, .ref m19, .ref m20, .ref m21, .ref m22, .ref m23, .int ((p5_seal mho mtr K i1).2)])), (m2, .inl (cI, 6, .inl K))]) t.heap) A
set_option maxHeartbeats 4000000 in
set_option maxRecDepth 100000 in
theorem ctX5_seal (l : Launch) (dC : Nat → ClassId) (dI : Nat → Nat → Nat) (cI : ClassId) (m0 : Nat) (m2 : Nat) (m3 : Nat) (m4 : Nat) (m7 : Nat) (m8 : Nat) (m9 : Nat) (m10 : Nat) (m11 : Nat) (m12 : Nat) (m17 : Nat) (m18 : Nat) (m19 : Nat) (m20 : Nat) (m21 : Nat) (m22 : Nat) (m23 : Nat) (sz : Nat) (mfa : Int32) (mho : Int32) (mra : Int32) (mrh : Int32) (mch : Int32) (mfr : Int32) (mfw : Int32) (mrd : Int32) (mtr : Int32) (K : Nat → Int32) (i1 : Int32) (hNb : mho.toInt ≤ 6) : Met l yX5_seal wsX5_seal rmX5_seal (va_Pc [.ref m0, .int i1] (cP dC dI [(cI, .int)] ([(m0, .inr (5, [.int mfa, .int mho, .ref m2, .ref m3, .ref m4, .int mra, .int mrh, .ref m7, .ref m8, .ref m9, .ref m10, .ref m11, .ref m12, .int mch, .int mfr, .int mfw, .int mrd, .ref m17, .ref m18, .ref m19, .ref m20, .ref m21, .ref m22, .ref m23, .int mtr])), (m2, .inl (cI, 6, .inl K))]) sz)) (QX5_seal dC dI (va_A ([(m0, .inr (5, [.int mfa, .int mho, .ref m2, .ref m3, .ref m4, .int mra, .int mrh, .ref m7, .ref m8, .ref m9, .ref m10, .ref m11, .ref m12, .int mch, .int mfr, .int mfw, .int mrd, .ref m17, .ref m18, .ref m19, .ref m20, .ref m21, .ref m22, .ref m23, .int mtr])), (m2, .inl (cI, 6, .inl K))]) sz) cI m0 m2 m3 m4 m7 m8 m9 m10 m11 m12 m17 m18 m19 m20 m21 m22 m23 mfa mho mra mrh mch mfr mfw mrd mtr K i1) 0 0 (va_A ([(m0, .inr (5, [.int mfa, .int mho, .ref m2, .ref m3, .ref m4, .int mra, .int mrh, .ref m7, .ref m8, .ref m9, .ref m10, .ref m11, .ref m12, .int mch, .int mfr, .int mfw, .int mrd, .ref m17, .ref m18, .ref m19, .ref m20, .ref m21, .ref m22, .ref m23, .int mtr])), (m2, .inl (cI, 6, .inl K))]) sz) := by
  refine Met.ofW (cc := cX5_seal) (maxL := 2) (ret := (some .int)) (by decide) rfl ?_
  intro p e s m args below meth c s₁ B hml hv
  obtain ⟨rfl, hsz, hP, hK, hD0, hN⟩ := hv
  have hx := B.exec
  have hb := B.bytes
  have hr := B.returns
  have hts := atoms_spec (ws := wsX5_seal) B.pre
  have hown : s.vm.findClass RX5 = some m.cls := findClass_of_methodNamed B.named
  have hlocks := B.notSynchronized
  subst hsz
  have hD := hD0.self (sz := s.heap.size)
  generalize hAe : va_A ([(m0, .inr (5, [.int mfa, .int mho, .ref m2, .ref m3, .ref m4, .int mra, .int mrh, .ref m7, .ref m8, .ref m9, .ref m10, .ref m11, .ref m12, .int mch, .int mfr, .int mfw, .int mrd, .ref m17, .ref m18, .ref m19, .ref m20, .ref m21, .ref m22, .ref m23, .int mtr])), (m2, .inl (cI, 6, .inl K))]) s.heap.size = A at hD ⊢
  have hA : ∀ q : Nat, s.heap.size ≤ q → A q := fun q h => by rw [← hAe]; exact Or.inr h
  have hS : va_S A s.heap s.heap [] := va_S.rf
  have hP : va_P (dC, dI) vwCl ([(m0, .inr (5, [.int mfa, .int mho, .ref m2, .ref m3, .ref m4, .int mra, .int mrh, .ref m7, .ref m8, .ref m9, .ref m10, .ref m11, .ref m12, .int mch, .int mfr, .int mfw, .int mrd, .ref m17, .ref m18, .ref m19, .ref m20, .ref m21, .ref m22, .ref m23, .int mtr])), (m2, .inl (cI, 6, .inl K))]) s.heap := hP
  have hin5 : ∀ w ∈ wsX50, w ∈ wsX5_seal := by decide +kernel
  have kf_7 := hts (.fieldLink RX5 7 "RicherChangeModel" "kindOf" "[I") (by decide +kernel)
  have hl := lv_entry ([.ref m0, .int i1]) (n := 2) (Nat.le_of_ble_eq_true rfl)
  rw [lg_entry_eq]
  generalize (lg_sl ([.ref m0, .int i1]) ++ List.replicate (2 - (lg_sl ([.ref m0, .int i1])).length) Slot.unset).toArray = ls at hl ⊢
  have hl : lv_has ls 2 [(0, .ref m0), (1, .int i1)] := hl
  refine lv_aload_n hx hb dX5_seal_0 rfl (lv_at hl 0 rfl) ?_
  refine lv_iload_n hx hb dX5_seal_1 rfl (lv_at hl 1 rfl) ?_
  have hPc := hP.sub (ws' := [(m0, .inr (5, [.int mfa, .int mho, .ref m2, .ref m3, .ref m4, .int mra, .int mrh, .ref m7, .ref m8, .ref m9, .ref m10, .ref m11, .ref m12, .int mch, .int mfr, .int mfw, .int mrd, .ref m17, .ref m18, .ref m19, .ref m20, .ref m21, .ref m22, .ref m23, .int mtr]))]) [0] rfl
  have hDc := hD.sub (ws' := [(m0, .inr (5, [.int mfa, .int mho, .ref m2, .ref m3, .ref m4, .int mra, .int mrh, .ref m7, .ref m8, .ref m9, .ref m10, .ref m11, .ref m12, .int mch, .int mfr, .int mfw, .int mrd, .ref m17, .ref m18, .ref m19, .ref m20, .ref m21, .ref m22, .ref m23, .int mtr]))]) [0] (by decide) rfl
  have hKc := hK.sub (tys' := [(cI, .int)]) [0] rfl
  have hFc := va_free (wc := [(m0, .inr (5, [.int mfa, .int mho, .ref m2, .ref m3, .ref m4, .int mra, .int mrh, .ref m7, .ref m8, .ref m9, .ref m10, .ref m11, .ref m12, .int mch, .int mfr, .int mfw, .int mrd, .ref m17, .ref m18, .ref m19, .ref m20, .ref m21, .ref m22, .ref m23, .int mtr]))]) hD hS hA [0] rfl
  refine va_calli (va_runV (As := [.int i1]) (rest := []) ⟨hx, hb, hml, hown, hts⟩ (ctX5_noHouse l dC dI cI m0 m2 m3 m4 m7 m8 m9 m10 m11 m12 m17 m18 m19 m20 m21 m22 m23 s.heap.size mfa mho mra mrh mch mfr mfw mrd mtr i1) (cwV 1 hts gX5_seal_X5_noHouse rfl rfl rfl (by decide +kernel) ⟨Nat.le_of_ble_eq_true rfl, Nat.le_of_ble_eq_true rfl⟩) (pre_V hKc hN hPc hDc (RX5, TX5, 25) 5 0 rfl rfl) rfl rfl hl.1 rfl (lv_room (Nat.le_of_ble_eq_true rfl)) dX5_seal_2 ⟨Nat.le_of_ble_eq_true rfl, Nat.le_of_ble_eq_true rfl⟩) hS (fun q _ h => hFc q h) hFc (fun r _ t H locs ht hvm hw hB hz1 hk1 hS => ?_)
  try dsimp only at hw
  subst hw
  rw [ht] at hB
  obtain ⟨hP, hD⟩ := rw_join ([(m0, .inr (5, [.int mfa, .int mho, .ref m2, .ref m3, .ref m4, .int mra, .int mrh, .ref m7, .ref m8, .ref m9, .ref m10, .ref m11, .ref m12, .int mch, .int mfr, .int mfw, .int mrd, .ref m17, .ref m18, .ref m19, .ref m20, .ref m21, .ref m22, .ref m23, .int mtr])), (m2, .inl (cI, 6, .inl K))]) ([(m0, .inr (5, [.int mfa, .int mho, .ref m2, .ref m3, .ref m4, .int mra, .int mrh, .ref m7, .ref m8, .ref m9, .ref m10, .ref m11, .ref m12, .int mch, .int mfr, .int mfw, .int mrd, .ref m17, .ref m18, .ref m19, .ref m20, .ref m21, .ref m22, .ref m23, .int mtr])), (m2, .inl (cI, 6, .inl K))]) ([(m0, .inr (5, [.int mfa, .int mho, .ref m2, .ref m3, .ref m4, .int mra, .int mrh, .ref m7, .ref m8, .ref m9, .ref m10, .ref m11, .ref m12, .int mch, .int mfr, .int mfw, .int mrd, .ref m17, .ref m18, .ref m19, .ref m20, .ref m21, .ref m22, .ref m23, .int mtr]))]) ([(m0, .inr (5, [.int mfa, .int mho, .ref m2, .ref m3, .ref m4, .int mra, .int mrh, .ref m7, .ref m8, .ref m9, .ref m10, .ref m11, .ref m12, .int mch, .int mfr, .int mfw, .int mrd, .ref m17, .ref m18, .ref m19, .ref m20, .ref m21, .ref m22, .ref m23, .int mtr]))]) ([(m2, .inl (cI, 6, .inl K))]) hP hD [0] [1] [m0, m2] 2 rfl rfl rfl rfl rfl (by decide) rfl rfl hk1 hB
  refine lv_if_eq (tgt := 10) hx hb dX5_seal_5 (by decide) (fun c_5 => ?_) (fun c_5 => ?_)
  · skip
    have j1 : vp_in i1 6 := noHouse_in hNb c_5
    refine lv_aload_n hx hb dX5_seal_10 rfl (lv_at hl 0 rfl) ?_
    refine lv_aload_n hx hb dX5_seal_11 rfl (lv_at hl 0 rfl) ?_
    refine va_get (D := (dC, dI)) (ci := 5) (v := .ref m2) (C := RX5) (T := TX5) (N := 25) hx hb hts hin5 hown hK hP 0 rfl rfl 2 (by decide) kf_7 (fun _ h9 => h9) rfl dX5_seal_12 ?_
    refine lv_iload_n hx hb dX5_seal_15 rfl (lv_at hl 1 rfl) ?_
    refine va_iald hx hb hK hP 1 0 rfl rfl (by assumption) dX5_seal_16 ?_
    refine lv_iconst (v := 2) hx hb dX5_seal_17 (by decide) ?_
    refine lv_icmp_ne (tgt := 25) hx hb dX5_seal_18 (by decide) (fun c_18 => ?_) (fun c_18 => ?_)
    · skip
      refine lv_iconst (v := 4) hx hb dX5_seal_25 (by decide) ?_
      have hPc := hP.sub (ws' := [(m0, .inr (5, [.int mfa, .int mho, .ref m2, .ref m3, .ref m4, .int mra, .int mrh, .ref m7, .ref m8, .ref m9, .ref m10, .ref m11, .ref m12, .int mch, .int mfr, .int mfw, .int mrd, .ref m17, .ref m18, .ref m19, .ref m20, .ref m21, .ref m22, .ref m23, .int mtr]))]) [0] rfl
      have hDc := hD.sub (ws' := [(m0, .inr (5, [.int mfa, .int mho, .ref m2, .ref m3, .ref m4, .int mra, .int mrh, .ref m7, .ref m8, .ref m9, .ref m10, .ref m11, .ref m12, .int mch, .int mfr, .int mfw, .int mrd, .ref m17, .ref m18, .ref m19, .ref m20, .ref m21, .ref m22, .ref m23, .int mtr]))]) [0] (by decide) rfl
      have hKc := hK.sub (tys' := [(cI, .int)]) [0] rfl
      have hFc := va_free (wc := [(m0, .inr (5, [.int mfa, .int mho, .ref m2, .ref m3, .ref m4, .int mra, .int mrh, .ref m7, .ref m8, .ref m9, .ref m10, .ref m11, .ref m12, .int mch, .int mfr, .int mfw, .int mrd, .ref m17, .ref m18, .ref m19, .ref m20, .ref m21, .ref m22, .ref m23, .int mtr]))]) hD hS hA [0] rfl
      refine va_callv (va_runV (As := [.int 4]) (rest := []) ⟨hx, hb, hml, hown, hts⟩ (ctX5_traced l dC dI cI m0 m2 m3 m4 m7 m8 m9 m10 m11 m12 m17 m18 m19 m20 m21 m22 m23 H.size mfa mho mra mrh mch mfr mfw mrd mtr 4) (cwV 1 hts gX5_seal_X5_traced rfl rfl rfl (by decide +kernel) ⟨Nat.le_of_ble_eq_true rfl, Nat.le_of_ble_eq_true rfl⟩) (pre_V hKc hN hPc hDc (RX5, TX5, 25) 5 0 rfl rfl) rfl rfl hl.1 rfl (lv_room (Nat.le_of_ble_eq_true rfl)) dX5_seal_26 ⟨Nat.le_of_ble_eq_true rfl, Nat.le_of_ble_eq_true rfl⟩) hS (fun q _ h => hFc q h) hFc (fun _ t H locs ht hvm hw hB hz1 hk1 hS => ?_)
      rw [ht] at hB
      refine nm_gen ((p5_traced mtr 4)) (fun mtr_26 emtr_26 => ?_)
      rw [emtr_26] at hB
      obtain ⟨hP, hD⟩ := rw_join ([(m0, .inr (5, [.int mfa, .int mho, .ref m2, .ref m3, .ref m4, .int mra, .int mrh, .ref m7, .ref m8, .ref m9, .ref m10, .ref m11, .ref m12, .int mch, .int mfr, .int mfw, .int mrd, .ref m17, .ref m18, .ref m19, .ref m20, .ref m21, .ref m22, .ref m23, .int mtr])), (m2, .inl (cI, 6, .inl K))]) ([(m0, .inr (5, [.int mfa, .int mho, .ref m2, .ref m3, .ref m4, .int mra, .int mrh, .ref m7, .ref m8, .ref m9, .ref m10, .ref m11, .ref m12, .int mch, .int mfr, .int mfw, .int mrd, .ref m17, .ref m18, .ref m19, .ref m20, .ref m21, .ref m22, .ref m23, .int mtr_26])), (m2, .inl (cI, 6, .inl K))]) ([(m0, .inr (5, [.int mfa, .int mho, .ref m2, .ref m3, .ref m4, .int mra, .int mrh, .ref m7, .ref m8, .ref m9, .ref m10, .ref m11, .ref m12, .int mch, .int mfr, .int mfw, .int mrd, .ref m17, .ref m18, .ref m19, .ref m20, .ref m21, .ref m22, .ref m23, .int mtr]))]) ([(m0, .inr (5, [.int mfa, .int mho, .ref m2, .ref m3, .ref m4, .int mra, .int mrh, .ref m7, .ref m8, .ref m9, .ref m10, .ref m11, .ref m12, .int mch, .int mfr, .int mfw, .int mrd, .ref m17, .ref m18, .ref m19, .ref m20, .ref m21, .ref m22, .ref m23, .int mtr_26]))]) ([(m2, .inl (cI, 6, .inl K))]) hP hD [0] [1] [m0, m2] 2 rfl rfl rfl rfl rfl (by decide) rfl rfl hk1 hB
      refine lv_aload_n hx hb dX5_seal_29 rfl (lv_at hl 0 rfl) ?_
      refine va_get (D := (dC, dI)) (ci := 5) (v := .ref m2) (C := RX5) (T := TX5) (N := 25) hx hb hts hin5 hown hK hP 0 rfl rfl 2 (by decide) kf_7 (fun _ h9 => h9) rfl dX5_seal_30 ?_
      refine lv_iload_n hx hb dX5_seal_33 rfl (lv_at hl 1 rfl) ?_
      refine va_iald hx hb hK hP 1 0 rfl rfl (by assumption) dX5_seal_34 ?_
      refine lv_iconst (v := 2) hx hb dX5_seal_35 (by decide) ?_
      refine lv_icmp_ne (tgt := 44) hx hb dX5_seal_36 (by decide) (fun c_36 => ?_) (fun c_36 => ?_)
      · skip
        refine lv_iload_n hx hb dX5_seal_44 rfl (lv_at hl 1 rfl) ?_
        have hE9 : p5_seal mho mtr K i1 = (i1, mtr_26) := by unfold p5_seal; simp only [emtr_26]; rw [if_pos c_5, if_neg c_18]
        exact W.iret (v := i1) hx hb hr (fun t ht hW => ⟨⟨_, (), rfl, by rw [hE9], by show va_P (dC, dI) vwCl _ t.heap; rw [ht, hE9]; exact hP⟩, hS.F ht⟩) hS.2.2 dX5_seal_45
      · exact absurd c_36 c_18
    · skip
      refine lv_iconst (v := 5) hx hb dX5_seal_21 (by decide) ?_
      refine lv_goto (tgt := 26) hx hb dX5_seal_22 (by decide) ?_
      have hPc := hP.sub (ws' := [(m0, .inr (5, [.int mfa, .int mho, .ref m2, .ref m3, .ref m4, .int mra, .int mrh, .ref m7, .ref m8, .ref m9, .ref m10, .ref m11, .ref m12, .int mch, .int mfr, .int mfw, .int mrd, .ref m17, .ref m18, .ref m19, .ref m20, .ref m21, .ref m22, .ref m23, .int mtr]))]) [0] rfl
      have hDc := hD.sub (ws' := [(m0, .inr (5, [.int mfa, .int mho, .ref m2, .ref m3, .ref m4, .int mra, .int mrh, .ref m7, .ref m8, .ref m9, .ref m10, .ref m11, .ref m12, .int mch, .int mfr, .int mfw, .int mrd, .ref m17, .ref m18, .ref m19, .ref m20, .ref m21, .ref m22, .ref m23, .int mtr]))]) [0] (by decide) rfl
      have hKc := hK.sub (tys' := [(cI, .int)]) [0] rfl
      have hFc := va_free (wc := [(m0, .inr (5, [.int mfa, .int mho, .ref m2, .ref m3, .ref m4, .int mra, .int mrh, .ref m7, .ref m8, .ref m9, .ref m10, .ref m11, .ref m12, .int mch, .int mfr, .int mfw, .int mrd, .ref m17, .ref m18, .ref m19, .ref m20, .ref m21, .ref m22, .ref m23, .int mtr]))]) hD hS hA [0] rfl
      refine va_callv (va_runV (As := [.int 5]) (rest := []) ⟨hx, hb, hml, hown, hts⟩ (ctX5_traced l dC dI cI m0 m2 m3 m4 m7 m8 m9 m10 m11 m12 m17 m18 m19 m20 m21 m22 m23 H.size mfa mho mra mrh mch mfr mfw mrd mtr 5) (cwV 1 hts gX5_seal_X5_traced rfl rfl rfl (by decide +kernel) ⟨Nat.le_of_ble_eq_true rfl, Nat.le_of_ble_eq_true rfl⟩) (pre_V hKc hN hPc hDc (RX5, TX5, 25) 5 0 rfl rfl) rfl rfl hl.1 rfl (lv_room (Nat.le_of_ble_eq_true rfl)) dX5_seal_26 ⟨Nat.le_of_ble_eq_true rfl, Nat.le_of_ble_eq_true rfl⟩) hS (fun q _ h => hFc q h) hFc (fun _ t H locs ht hvm hw hB hz1 hk1 hS => ?_)
      rw [ht] at hB
      refine nm_gen ((p5_traced mtr 5)) (fun mtr_26 emtr_26 => ?_)
      rw [emtr_26] at hB
      obtain ⟨hP, hD⟩ := rw_join ([(m0, .inr (5, [.int mfa, .int mho, .ref m2, .ref m3, .ref m4, .int mra, .int mrh, .ref m7, .ref m8, .ref m9, .ref m10, .ref m11, .ref m12, .int mch, .int mfr, .int mfw, .int mrd, .ref m17, .ref m18, .ref m19, .ref m20, .ref m21, .ref m22, .ref m23, .int mtr])), (m2, .inl (cI, 6, .inl K))]) ([(m0, .inr (5, [.int mfa, .int mho, .ref m2, .ref m3, .ref m4, .int mra, .int mrh, .ref m7, .ref m8, .ref m9, .ref m10, .ref m11, .ref m12, .int mch, .int mfr, .int mfw, .int mrd, .ref m17, .ref m18, .ref m19, .ref m20, .ref m21, .ref m22, .ref m23, .int mtr_26])), (m2, .inl (cI, 6, .inl K))]) ([(m0, .inr (5, [.int mfa, .int mho, .ref m2, .ref m3, .ref m4, .int mra, .int mrh, .ref m7, .ref m8, .ref m9, .ref m10, .ref m11, .ref m12, .int mch, .int mfr, .int mfw, .int mrd, .ref m17, .ref m18, .ref m19, .ref m20, .ref m21, .ref m22, .ref m23, .int mtr]))]) ([(m0, .inr (5, [.int mfa, .int mho, .ref m2, .ref m3, .ref m4, .int mra, .int mrh, .ref m7, .ref m8, .ref m9, .ref m10, .ref m11, .ref m12, .int mch, .int mfr, .int mfw, .int mrd, .ref m17, .ref m18, .ref m19, .ref m20, .ref m21, .ref m22, .ref m23, .int mtr_26]))]) ([(m2, .inl (cI, 6, .inl K))]) hP hD [0] [1] [m0, m2] 2 rfl rfl rfl rfl rfl (by decide) rfl rfl hk1 hB
      refine lv_aload_n hx hb dX5_seal_29 rfl (lv_at hl 0 rfl) ?_
      refine va_get (D := (dC, dI)) (ci := 5) (v := .ref m2) (C := RX5) (T := TX5) (N := 25) hx hb hts hin5 hown hK hP 0 rfl rfl 2 (by decide) kf_7 (fun _ h9 => h9) rfl dX5_seal_30 ?_
      refine lv_iload_n hx hb dX5_seal_33 rfl (lv_at hl 1 rfl) ?_
      refine va_iald hx hb hK hP 1 0 rfl rfl (by assumption) dX5_seal_34 ?_
      refine lv_iconst (v := 2) hx hb dX5_seal_35 (by decide) ?_
      refine lv_icmp_ne (tgt := 44) hx hb dX5_seal_36 (by decide) (fun c_36 => ?_) (fun c_36 => ?_)
      · exact absurd c_18 c_36
      · skip
        refine lv_bipush (v := 90) hx hb dX5_seal_39 (by decide) ?_
        refine lv_goto (tgt := 45) hx hb dX5_seal_41 (by decide) ?_
        have hE9 : p5_seal mho mtr K i1 = (90, mtr_26) := by unfold p5_seal; simp only [emtr_26]; rw [if_pos c_5, if_pos c_18]
        exact W.iret (v := 90) hx hb hr (fun t ht hW => ⟨⟨_, (), rfl, by rw [hE9], by show va_P (dC, dI) vwCl _ t.heap; rw [ht, hE9]; exact hP⟩, hS.F ht⟩) hS.2.2 dX5_seal_45
  · skip
    refine lv_iconst (v := (-1)) hx hb dX5_seal_8 (by decide) ?_
    have hE9 : p5_seal mho mtr K i1 = ((-1), mtr) := by unfold p5_seal; rw [if_neg c_5]
    exact W.iret (v := (-1)) hx hb hr (fun t ht hW => ⟨⟨_, (), rfl, by rw [hE9], by show va_P (dC, dI) vwCl _ t.heap; rw [ht, hE9]; exact hP⟩, hS.F ht⟩) hS.2.2 dX5_seal_9

def p5_as (mfa : Int32) (mho : Int32) (K : Nat → Int32) (i1 : Int32) (i2 : Int32) : Int32 × Int32 :=
  if (p5_noHouse mho i1) = 0 then
    if (p5_in i2.toInt64 0 2) = 0 then
      (((p5_refused mfa (-2)).1), ((p5_refused mfa (-2)).2))
    else
      if (K i1.toNatClampNeg) < i2 then
        (((p5_failed mfa 2).1), ((p5_failed mfa 2).2))
      else
        (((p5_refused mfa 1).1), ((p5_refused mfa 1).2))
  else
    (((p5_refused mfa (-1)).1), ((p5_refused mfa (-1)).2))
abbrev rmX5_as : Room := { frames := 2, cells := 0, slots := 0, locals := 46 }
abbrev QX5_as (dC : Nat → ClassId) (dI : Nat → Nat → Nat) (A : Nat → Prop) (cI : ClassId) (m0 : Nat) (m2 : Nat) (m3 : Nat) (m4 : Nat) (m7 : Nat) (m8 : Nat) (m9 : Nat) (m10 : Nat) (m11 : Nat) (m12 : Nat) (m17 : Nat) (m18 : Nat) (m19 : Nat) (m20 : Nat) (m21 : Nat) (m22 : Nat) (m23 : Nat) (mfa : Int32) (mho : Int32) (mra : Int32) (mrh : Int32) (mch : Int32) (mfr : Int32) (mfw : Int32) (mrd : Int32) (mtr : Int32) (K : Nat → Int32) (i1 : Int32) (i2 : Int32) : Array Value → State → Outcome → State → Prop := va_Qi (fun (r : Int32) (_ : Unit) => r = (p5_as mfa mho K i1 i2).1) (fun (_ : Unit) (t : State) => va_P (dC, dI) vwCl ([(m0, .inr (5, [.int ((p5_as mfa mho K i1 i2).2), .int mho, .ref m2, .ref m3, .ref m4, .int mra, .int mrh, .ref m7, .ref m8, .ref m9, .ref m10, .ref m11, .ref m12, .int mch, .int mfr, .int mfw, .int mrd, .ref m17, .ref m18, .ref m19, .ref m20, .ref m21, .ref m22, .ref m23, .int mtr])), (m2, .inl (cI, 6, .inl K))]) t.heap) A
set_option maxHeartbeats 4000000 in
set_option maxRecDepth 100000 in
theorem ctX5_as (l : Launch) (dC : Nat → ClassId) (dI : Nat → Nat → Nat) (cI : ClassId) (m0 : Nat) (m2 : Nat) (m3 : Nat) (m4 : Nat) (m7 : Nat) (m8 : Nat) (m9 : Nat) (m10 : Nat) (m11 : Nat) (m12 : Nat) (m17 : Nat) (m18 : Nat) (m19 : Nat) (m20 : Nat) (m21 : Nat) (m22 : Nat) (m23 : Nat) (sz : Nat) (mfa : Int32) (mho : Int32) (mra : Int32) (mrh : Int32) (mch : Int32) (mfr : Int32) (mfw : Int32) (mrd : Int32) (mtr : Int32) (K : Nat → Int32) (i1 : Int32) (i2 : Int32) (hNb : mho.toInt ≤ 6) : Met l yX5_as wsX5_as rmX5_as (va_Pc [.ref m0, .int i1, .int i2] (cP dC dI [(cI, .int)] ([(m0, .inr (5, [.int mfa, .int mho, .ref m2, .ref m3, .ref m4, .int mra, .int mrh, .ref m7, .ref m8, .ref m9, .ref m10, .ref m11, .ref m12, .int mch, .int mfr, .int mfw, .int mrd, .ref m17, .ref m18, .ref m19, .ref m20, .ref m21, .ref m22, .ref m23, .int mtr])), (m2, .inl (cI, 6, .inl K))]) sz)) (QX5_as dC dI (va_A ([(m0, .inr (5, [.int mfa, .int mho, .ref m2, .ref m3, .ref m4, .int mra, .int mrh, .ref m7, .ref m8, .ref m9, .ref m10, .ref m11, .ref m12, .int mch, .int mfr, .int mfw, .int mrd, .ref m17, .ref m18, .ref m19, .ref m20, .ref m21, .ref m22, .ref m23, .int mtr])), (m2, .inl (cI, 6, .inl K))]) sz) cI m0 m2 m3 m4 m7 m8 m9 m10 m11 m12 m17 m18 m19 m20 m21 m22 m23 mfa mho mra mrh mch mfr mfw mrd mtr K i1 i2) 0 0 (va_A ([(m0, .inr (5, [.int mfa, .int mho, .ref m2, .ref m3, .ref m4, .int mra, .int mrh, .ref m7, .ref m8, .ref m9, .ref m10, .ref m11, .ref m12, .int mch, .int mfr, .int mfw, .int mrd, .ref m17, .ref m18, .ref m19, .ref m20, .ref m21, .ref m22, .ref m23, .int mtr])), (m2, .inl (cI, 6, .inl K))]) sz) := by
  refine Met.ofW (cc := cX5_as) (maxL := 3) (ret := (some .int)) (by decide) rfl ?_
  intro p e s m args below meth c s₁ B hml hv
  obtain ⟨rfl, hsz, hP, hK, hD0, hN⟩ := hv
  have hx := B.exec
  have hb := B.bytes
  have hr := B.returns
  have hts := atoms_spec (ws := wsX5_as) B.pre
  have hown : s.vm.findClass RX5 = some m.cls := findClass_of_methodNamed B.named
  have hlocks := B.notSynchronized
  subst hsz
  have hD := hD0.self (sz := s.heap.size)
  generalize hAe : va_A ([(m0, .inr (5, [.int mfa, .int mho, .ref m2, .ref m3, .ref m4, .int mra, .int mrh, .ref m7, .ref m8, .ref m9, .ref m10, .ref m11, .ref m12, .int mch, .int mfr, .int mfw, .int mrd, .ref m17, .ref m18, .ref m19, .ref m20, .ref m21, .ref m22, .ref m23, .int mtr])), (m2, .inl (cI, 6, .inl K))]) s.heap.size = A at hD ⊢
  have hA : ∀ q : Nat, s.heap.size ≤ q → A q := fun q h => by rw [← hAe]; exact Or.inr h
  have hS : va_S A s.heap s.heap [] := va_S.rf
  have hP : va_P (dC, dI) vwCl ([(m0, .inr (5, [.int mfa, .int mho, .ref m2, .ref m3, .ref m4, .int mra, .int mrh, .ref m7, .ref m8, .ref m9, .ref m10, .ref m11, .ref m12, .int mch, .int mfr, .int mfw, .int mrd, .ref m17, .ref m18, .ref m19, .ref m20, .ref m21, .ref m22, .ref m23, .int mtr])), (m2, .inl (cI, 6, .inl K))]) s.heap := hP
  have hin5 : ∀ w ∈ wsX50, w ∈ wsX5_as := by decide +kernel
  have kl_109 := hts (.constantLong RX5 109 2) (by decide +kernel)
  have kf_7 := hts (.fieldLink RX5 7 "RicherChangeModel" "kindOf" "[I") (by decide +kernel)
  have hl := lv_entry ([.ref m0, .int i1, .int i2]) (n := 3) (Nat.le_of_ble_eq_true rfl)
  rw [lg_entry_eq]
  generalize (lg_sl ([.ref m0, .int i1, .int i2]) ++ List.replicate (3 - (lg_sl ([.ref m0, .int i1, .int i2])).length) Slot.unset).toArray = ls at hl ⊢
  have hl : lv_has ls 3 [(0, .ref m0), (1, .int i1), (2, .int i2)] := hl
  refine lv_aload_n hx hb dX5_as_0 rfl (lv_at hl 0 rfl) ?_
  refine lv_iload_n hx hb dX5_as_1 rfl (lv_at hl 1 rfl) ?_
  have hPc := hP.sub (ws' := [(m0, .inr (5, [.int mfa, .int mho, .ref m2, .ref m3, .ref m4, .int mra, .int mrh, .ref m7, .ref m8, .ref m9, .ref m10, .ref m11, .ref m12, .int mch, .int mfr, .int mfw, .int mrd, .ref m17, .ref m18, .ref m19, .ref m20, .ref m21, .ref m22, .ref m23, .int mtr]))]) [0] rfl
  have hDc := hD.sub (ws' := [(m0, .inr (5, [.int mfa, .int mho, .ref m2, .ref m3, .ref m4, .int mra, .int mrh, .ref m7, .ref m8, .ref m9, .ref m10, .ref m11, .ref m12, .int mch, .int mfr, .int mfw, .int mrd, .ref m17, .ref m18, .ref m19, .ref m20, .ref m21, .ref m22, .ref m23, .int mtr]))]) [0] (by decide) rfl
  have hKc := hK.sub (tys' := [(cI, .int)]) [0] rfl
  have hFc := va_free (wc := [(m0, .inr (5, [.int mfa, .int mho, .ref m2, .ref m3, .ref m4, .int mra, .int mrh, .ref m7, .ref m8, .ref m9, .ref m10, .ref m11, .ref m12, .int mch, .int mfr, .int mfw, .int mrd, .ref m17, .ref m18, .ref m19, .ref m20, .ref m21, .ref m22, .ref m23, .int mtr]))]) hD hS hA [0] rfl
  refine va_calli (va_runV (As := [.int i1]) (rest := []) ⟨hx, hb, hml, hown, hts⟩ (ctX5_noHouse l dC dI cI m0 m2 m3 m4 m7 m8 m9 m10 m11 m12 m17 m18 m19 m20 m21 m22 m23 s.heap.size mfa mho mra mrh mch mfr mfw mrd mtr i1) (cwV 1 hts gX5_as_X5_noHouse rfl rfl rfl (by decide +kernel) ⟨Nat.le_of_ble_eq_true rfl, Nat.le_of_ble_eq_true rfl⟩) (pre_V hKc hN hPc hDc (RX5, TX5, 25) 5 0 rfl rfl) rfl rfl hl.1 rfl (lv_room (Nat.le_of_ble_eq_true rfl)) dX5_as_2 ⟨Nat.le_of_ble_eq_true rfl, Nat.le_of_ble_eq_true rfl⟩) hS (fun q _ h => hFc q h) hFc (fun r _ t H locs ht hvm hw hB hz1 hk1 hS => ?_)
  try dsimp only at hw
  subst hw
  rw [ht] at hB
  obtain ⟨hP, hD⟩ := rw_join ([(m0, .inr (5, [.int mfa, .int mho, .ref m2, .ref m3, .ref m4, .int mra, .int mrh, .ref m7, .ref m8, .ref m9, .ref m10, .ref m11, .ref m12, .int mch, .int mfr, .int mfw, .int mrd, .ref m17, .ref m18, .ref m19, .ref m20, .ref m21, .ref m22, .ref m23, .int mtr])), (m2, .inl (cI, 6, .inl K))]) ([(m0, .inr (5, [.int mfa, .int mho, .ref m2, .ref m3, .ref m4, .int mra, .int mrh, .ref m7, .ref m8, .ref m9, .ref m10, .ref m11, .ref m12, .int mch, .int mfr, .int mfw, .int mrd, .ref m17, .ref m18, .ref m19, .ref m20, .ref m21, .ref m22, .ref m23, .int mtr])), (m2, .inl (cI, 6, .inl K))]) ([(m0, .inr (5, [.int mfa, .int mho, .ref m2, .ref m3, .ref m4, .int mra, .int mrh, .ref m7, .ref m8, .ref m9, .ref m10, .ref m11, .ref m12, .int mch, .int mfr, .int mfw, .int mrd, .ref m17, .ref m18, .ref m19, .ref m20, .ref m21, .ref m22, .ref m23, .int mtr]))]) ([(m0, .inr (5, [.int mfa, .int mho, .ref m2, .ref m3, .ref m4, .int mra, .int mrh, .ref m7, .ref m8, .ref m9, .ref m10, .ref m11, .ref m12, .int mch, .int mfr, .int mfw, .int mrd, .ref m17, .ref m18, .ref m19, .ref m20, .ref m21, .ref m22, .ref m23, .int mtr]))]) ([(m2, .inl (cI, 6, .inl K))]) hP hD [0] [1] [m0, m2] 2 rfl rfl rfl rfl rfl (by decide) rfl rfl hk1 hB
  refine lv_if_eq (tgt := 14) hx hb dX5_as_5 (by decide) (fun c_5 => ?_) (fun c_5 => ?_)
  · skip
    have j1 : vp_in i1 6 := noHouse_in hNb c_5
    refine lv_iload_n hx hb dX5_as_14 rfl (lv_at hl 2 rfl) ?_
    refine lv_i2l (v := i2.toInt64) hx hb dX5_as_15 rfl ?_
    refine lv_lconst (v := 0) hx hb dX5_as_16 (by decide) ?_
    refine lv_ldc2 (v := 2) hx hb hown kl_109 dX5_as_17 ?_
    have hPc : va_P (dC, dI) vwCl [] H := hP.sub (ws' := []) [] rfl
    have hDc : va_D A [] := hD.sub (ws' := []) [] (by decide) rfl
    have hKc := hK.sub (tys' := [(cI, .int)]) [0] rfl
    have hFc := va_free (wc := []) hD hS hA [] rfl
    refine va_calli (va_runS (As := [.long i2.toInt64, .long 0, .long 2]) (rest := []) ⟨hx, hb, hml, hown, hts⟩ (ctX5_in l dC dI cI H.size i2.toInt64 0 2) (va_cwS 3 hts gX5_as_X5_in rfl rfl rfl (by decide +kernel) ⟨Nat.le_of_ble_eq_true rfl, Nat.le_of_ble_eq_true rfl⟩) (pre_S hKc hN hPc hDc) rfl rfl hl.1 rfl (lv_room (Nat.le_of_ble_eq_true rfl)) dX5_as_20 ⟨Nat.le_of_ble_eq_true rfl, Nat.le_of_ble_eq_true rfl⟩) hS (fun q _ h => hFc q h) hFc (fun r _ t H locs ht hvm hw hB hz1 hk1 hS => ?_)
    try dsimp only at hw
    subst hw
    rw [ht] at hB
    obtain ⟨hP, hD⟩ := rw_join ([(m0, .inr (5, [.int mfa, .int mho, .ref m2, .ref m3, .ref m4, .int mra, .int mrh, .ref m7, .ref m8, .ref m9, .ref m10, .ref m11, .ref m12, .int mch, .int mfr, .int mfw, .int mrd, .ref m17, .ref m18, .ref m19, .ref m20, .ref m21, .ref m22, .ref m23, .int mtr])), (m2, .inl (cI, 6, .inl K))]) ([(m0, .inr (5, [.int mfa, .int mho, .ref m2, .ref m3, .ref m4, .int mra, .int mrh, .ref m7, .ref m8, .ref m9, .ref m10, .ref m11, .ref m12, .int mch, .int mfr, .int mfw, .int mrd, .ref m17, .ref m18, .ref m19, .ref m20, .ref m21, .ref m22, .ref m23, .int mtr])), (m2, .inl (cI, 6, .inl K))]) ([]) ([]) ([(m0, .inr (5, [.int mfa, .int mho, .ref m2, .ref m3, .ref m4, .int mra, .int mrh, .ref m7, .ref m8, .ref m9, .ref m10, .ref m11, .ref m12, .int mch, .int mfr, .int mfw, .int mrd, .ref m17, .ref m18, .ref m19, .ref m20, .ref m21, .ref m22, .ref m23, .int mtr])), (m2, .inl (cI, 6, .inl K))]) hP hD [] [0, 1] [m0, m2] 2 rfl rfl rfl rfl rfl (by decide) rfl rfl hk1 hB
    refine lv_if_ne (tgt := 33) hx hb dX5_as_23 (by decide) (fun c_23 => ?_) (fun c_23 => ?_)
    · skip
      refine lv_aload_n hx hb dX5_as_33 rfl (lv_at hl 0 rfl) ?_
      refine va_get (D := (dC, dI)) (ci := 5) (v := .ref m2) (C := RX5) (T := TX5) (N := 25) hx hb hts hin5 hown hK hP 0 rfl rfl 2 (by decide) kf_7 (fun _ h9 => h9) rfl dX5_as_34 ?_
      refine lv_iload_n hx hb dX5_as_37 rfl (lv_at hl 1 rfl) ?_
      refine va_iald hx hb hK hP 1 0 rfl rfl (by assumption) dX5_as_38 ?_
      refine lv_iload_n hx hb dX5_as_39 rfl (lv_at hl 2 rfl) ?_
      refine lv_icmp_lt (tgt := 51) hx hb dX5_as_40 (by decide) (fun c_40 => ?_) (fun c_40 => ?_)
      · skip
        refine lv_aload_n hx hb dX5_as_51 rfl (lv_at hl 0 rfl) ?_
        refine lv_iconst (v := 2) hx hb dX5_as_52 (by decide) ?_
        have hPc := hP.sub (ws' := [(m0, .inr (5, [.int mfa, .int mho, .ref m2, .ref m3, .ref m4, .int mra, .int mrh, .ref m7, .ref m8, .ref m9, .ref m10, .ref m11, .ref m12, .int mch, .int mfr, .int mfw, .int mrd, .ref m17, .ref m18, .ref m19, .ref m20, .ref m21, .ref m22, .ref m23, .int mtr]))]) [0] rfl
        have hDc := hD.sub (ws' := [(m0, .inr (5, [.int mfa, .int mho, .ref m2, .ref m3, .ref m4, .int mra, .int mrh, .ref m7, .ref m8, .ref m9, .ref m10, .ref m11, .ref m12, .int mch, .int mfr, .int mfw, .int mrd, .ref m17, .ref m18, .ref m19, .ref m20, .ref m21, .ref m22, .ref m23, .int mtr]))]) [0] (by decide) rfl
        have hKc := hK.sub (tys' := [(cI, .int)]) [0] rfl
        have hFc := va_free (wc := [(m0, .inr (5, [.int mfa, .int mho, .ref m2, .ref m3, .ref m4, .int mra, .int mrh, .ref m7, .ref m8, .ref m9, .ref m10, .ref m11, .ref m12, .int mch, .int mfr, .int mfw, .int mrd, .ref m17, .ref m18, .ref m19, .ref m20, .ref m21, .ref m22, .ref m23, .int mtr]))]) hD hS hA [0] rfl
        refine va_calli (va_runV (As := [.int 2]) (rest := []) ⟨hx, hb, hml, hown, hts⟩ (ctX5_failed l dC dI cI m0 m2 m3 m4 m7 m8 m9 m10 m11 m12 m17 m18 m19 m20 m21 m22 m23 H.size mfa mho mra mrh mch mfr mfw mrd mtr 2) (cwV 1 hts gX5_as_X5_failed rfl rfl rfl (by decide +kernel) ⟨Nat.le_of_ble_eq_true rfl, Nat.le_of_ble_eq_true rfl⟩) (pre_V hKc hN hPc hDc (RX5, TX5, 25) 5 0 rfl rfl) rfl rfl hl.1 rfl (lv_room (Nat.le_of_ble_eq_true rfl)) dX5_as_53 ⟨Nat.le_of_ble_eq_true rfl, Nat.le_of_ble_eq_true rfl⟩) hS (fun q _ h => hFc q h) hFc (fun r_53 _ t H locs ht hvm hw hB hz1 hk1 hS => ?_)
        try dsimp only at hw
        have er_53 := hw.symm
        rw [ht] at hB
        refine nm_gen ((p5_failed mfa 2).2) (fun mfa_53 emfa_53 => ?_)
        rw [emfa_53] at hB
        obtain ⟨hP, hD⟩ := rw_join ([(m0, .inr (5, [.int mfa, .int mho, .ref m2, .ref m3, .ref m4, .int mra, .int mrh, .ref m7, .ref m8, .ref m9, .ref m10, .ref m11, .ref m12, .int mch, .int mfr, .int mfw, .int mrd, .ref m17, .ref m18, .ref m19, .ref m20, .ref m21, .ref m22, .ref m23, .int mtr])), (m2, .inl (cI, 6, .inl K))]) ([(m0, .inr (5, [.int mfa_53, .int mho, .ref m2, .ref m3, .ref m4, .int mra, .int mrh, .ref m7, .ref m8, .ref m9, .ref m10, .ref m11, .ref m12, .int mch, .int mfr, .int mfw, .int mrd, .ref m17, .ref m18, .ref m19, .ref m20, .ref m21, .ref m22, .ref m23, .int mtr])), (m2, .inl (cI, 6, .inl K))]) ([(m0, .inr (5, [.int mfa, .int mho, .ref m2, .ref m3, .ref m4, .int mra, .int mrh, .ref m7, .ref m8, .ref m9, .ref m10, .ref m11, .ref m12, .int mch, .int mfr, .int mfw, .int mrd, .ref m17, .ref m18, .ref m19, .ref m20, .ref m21, .ref m22, .ref m23, .int mtr]))]) ([(m0, .inr (5, [.int mfa_53, .int mho, .ref m2, .ref m3, .ref m4, .int mra, .int mrh, .ref m7, .ref m8, .ref m9, .ref m10, .ref m11, .ref m12, .int mch, .int mfr, .int mfw, .int mrd, .ref m17, .ref m18, .ref m19, .ref m20, .ref m21, .ref m22, .ref m23, .int mtr]))]) ([(m2, .inl (cI, 6, .inl K))]) hP hD [0] [1] [m0, m2] 2 rfl rfl rfl rfl rfl (by decide) rfl rfl hk1 hB
        have hE9 : p5_as mfa mho K i1 i2 = (r_53, mfa_53) := by unfold p5_as; simp only [er_53, emfa_53]; rw [if_pos c_5, if_neg c_23, if_pos c_40]
        exact W.iret (v := r_53) hx hb hr (fun t ht hW => ⟨⟨_, (), rfl, by rw [hE9], by show va_P (dC, dI) vwCl _ t.heap; rw [ht, hE9]; exact hP⟩, hS.F ht⟩) hS.2.2 dX5_as_56
      · skip
        refine lv_aload_n hx hb dX5_as_43 rfl (lv_at hl 0 rfl) ?_
        refine lv_iconst (v := 1) hx hb dX5_as_44 (by decide) ?_
        have hPc := hP.sub (ws' := [(m0, .inr (5, [.int mfa, .int mho, .ref m2, .ref m3, .ref m4, .int mra, .int mrh, .ref m7, .ref m8, .ref m9, .ref m10, .ref m11, .ref m12, .int mch, .int mfr, .int mfw, .int mrd, .ref m17, .ref m18, .ref m19, .ref m20, .ref m21, .ref m22, .ref m23, .int mtr]))]) [0] rfl
        have hDc := hD.sub (ws' := [(m0, .inr (5, [.int mfa, .int mho, .ref m2, .ref m3, .ref m4, .int mra, .int mrh, .ref m7, .ref m8, .ref m9, .ref m10, .ref m11, .ref m12, .int mch, .int mfr, .int mfw, .int mrd, .ref m17, .ref m18, .ref m19, .ref m20, .ref m21, .ref m22, .ref m23, .int mtr]))]) [0] (by decide) rfl
        have hKc := hK.sub (tys' := [(cI, .int)]) [0] rfl
        have hFc := va_free (wc := [(m0, .inr (5, [.int mfa, .int mho, .ref m2, .ref m3, .ref m4, .int mra, .int mrh, .ref m7, .ref m8, .ref m9, .ref m10, .ref m11, .ref m12, .int mch, .int mfr, .int mfw, .int mrd, .ref m17, .ref m18, .ref m19, .ref m20, .ref m21, .ref m22, .ref m23, .int mtr]))]) hD hS hA [0] rfl
        refine va_calli (va_runV (As := [.int 1]) (rest := []) ⟨hx, hb, hml, hown, hts⟩ (ctX5_refused l dC dI cI m0 m2 m3 m4 m7 m8 m9 m10 m11 m12 m17 m18 m19 m20 m21 m22 m23 H.size mfa mho mra mrh mch mfr mfw mrd mtr 1) (cwV 1 hts gX5_as_X5_refused rfl rfl rfl (by decide +kernel) ⟨Nat.le_of_ble_eq_true rfl, Nat.le_of_ble_eq_true rfl⟩) (pre_V hKc hN hPc hDc (RX5, TX5, 25) 5 0 rfl rfl) rfl rfl hl.1 rfl (lv_room (Nat.le_of_ble_eq_true rfl)) dX5_as_45 ⟨Nat.le_of_ble_eq_true rfl, Nat.le_of_ble_eq_true rfl⟩) hS (fun q _ h => hFc q h) hFc (fun r_45 _ t H locs ht hvm hw hB hz1 hk1 hS => ?_)
        try dsimp only at hw
        have er_45 := hw.symm
        rw [ht] at hB
        refine nm_gen ((p5_refused mfa 1).2) (fun mfa_45 emfa_45 => ?_)
        rw [emfa_45] at hB
        obtain ⟨hP, hD⟩ := rw_join ([(m0, .inr (5, [.int mfa, .int mho, .ref m2, .ref m3, .ref m4, .int mra, .int mrh, .ref m7, .ref m8, .ref m9, .ref m10, .ref m11, .ref m12, .int mch, .int mfr, .int mfw, .int mrd, .ref m17, .ref m18, .ref m19, .ref m20, .ref m21, .ref m22, .ref m23, .int mtr])), (m2, .inl (cI, 6, .inl K))]) ([(m0, .inr (5, [.int mfa_45, .int mho, .ref m2, .ref m3, .ref m4, .int mra, .int mrh, .ref m7, .ref m8, .ref m9, .ref m10, .ref m11, .ref m12, .int mch, .int mfr, .int mfw, .int mrd, .ref m17, .ref m18, .ref m19, .ref m20, .ref m21, .ref m22, .ref m23, .int mtr])), (m2, .inl (cI, 6, .inl K))]) ([(m0, .inr (5, [.int mfa, .int mho, .ref m2, .ref m3, .ref m4, .int mra, .int mrh, .ref m7, .ref m8, .ref m9, .ref m10, .ref m11, .ref m12, .int mch, .int mfr, .int mfw, .int mrd, .ref m17, .ref m18, .ref m19, .ref m20, .ref m21, .ref m22, .ref m23, .int mtr]))]) ([(m0, .inr (5, [.int mfa_45, .int mho, .ref m2, .ref m3, .ref m4, .int mra, .int mrh, .ref m7, .ref m8, .ref m9, .ref m10, .ref m11, .ref m12, .int mch, .int mfr, .int mfw, .int mrd, .ref m17, .ref m18, .ref m19, .ref m20, .ref m21, .ref m22, .ref m23, .int mtr]))]) ([(m2, .inl (cI, 6, .inl K))]) hP hD [0] [1] [m0, m2] 2 rfl rfl rfl rfl rfl (by decide) rfl rfl hk1 hB
        refine lv_goto (tgt := 56) hx hb dX5_as_48 (by decide) ?_
        have hE9 : p5_as mfa mho K i1 i2 = (r_45, mfa_45) := by unfold p5_as; simp only [er_45, emfa_45]; rw [if_pos c_5, if_neg c_23, if_neg c_40]
        exact W.iret (v := r_45) hx hb hr (fun t ht hW => ⟨⟨_, (), rfl, by rw [hE9], by show va_P (dC, dI) vwCl _ t.heap; rw [ht, hE9]; exact hP⟩, hS.F ht⟩) hS.2.2 dX5_as_56
    · skip
      refine lv_aload_n hx hb dX5_as_26 rfl (lv_at hl 0 rfl) ?_
      refine lv_bipush (v := (-2)) hx hb dX5_as_27 (by decide) ?_
      have hPc := hP.sub (ws' := [(m0, .inr (5, [.int mfa, .int mho, .ref m2, .ref m3, .ref m4, .int mra, .int mrh, .ref m7, .ref m8, .ref m9, .ref m10, .ref m11, .ref m12, .int mch, .int mfr, .int mfw, .int mrd, .ref m17, .ref m18, .ref m19, .ref m20, .ref m21, .ref m22, .ref m23, .int mtr]))]) [0] rfl
      have hDc := hD.sub (ws' := [(m0, .inr (5, [.int mfa, .int mho, .ref m2, .ref m3, .ref m4, .int mra, .int mrh, .ref m7, .ref m8, .ref m9, .ref m10, .ref m11, .ref m12, .int mch, .int mfr, .int mfw, .int mrd, .ref m17, .ref m18, .ref m19, .ref m20, .ref m21, .ref m22, .ref m23, .int mtr]))]) [0] (by decide) rfl
      have hKc := hK.sub (tys' := [(cI, .int)]) [0] rfl
      have hFc := va_free (wc := [(m0, .inr (5, [.int mfa, .int mho, .ref m2, .ref m3, .ref m4, .int mra, .int mrh, .ref m7, .ref m8, .ref m9, .ref m10, .ref m11, .ref m12, .int mch, .int mfr, .int mfw, .int mrd, .ref m17, .ref m18, .ref m19, .ref m20, .ref m21, .ref m22, .ref m23, .int mtr]))]) hD hS hA [0] rfl
      refine va_calli (va_runV (As := [.int (-2)]) (rest := []) ⟨hx, hb, hml, hown, hts⟩ (ctX5_refused l dC dI cI m0 m2 m3 m4 m7 m8 m9 m10 m11 m12 m17 m18 m19 m20 m21 m22 m23 H.size mfa mho mra mrh mch mfr mfw mrd mtr (-2)) (cwV 1 hts gX5_as_X5_refused rfl rfl rfl (by decide +kernel) ⟨Nat.le_of_ble_eq_true rfl, Nat.le_of_ble_eq_true rfl⟩) (pre_V hKc hN hPc hDc (RX5, TX5, 25) 5 0 rfl rfl) rfl rfl hl.1 rfl (lv_room (Nat.le_of_ble_eq_true rfl)) dX5_as_29 ⟨Nat.le_of_ble_eq_true rfl, Nat.le_of_ble_eq_true rfl⟩) hS (fun q _ h => hFc q h) hFc (fun r_29 _ t H locs ht hvm hw hB hz1 hk1 hS => ?_)
      try dsimp only at hw
      have er_29 := hw.symm
      rw [ht] at hB
      refine nm_gen ((p5_refused mfa (-2)).2) (fun mfa_29 emfa_29 => ?_)
      rw [emfa_29] at hB
      obtain ⟨hP, hD⟩ := rw_join ([(m0, .inr (5, [.int mfa, .int mho, .ref m2, .ref m3, .ref m4, .int mra, .int mrh, .ref m7, .ref m8, .ref m9, .ref m10, .ref m11, .ref m12, .int mch, .int mfr, .int mfw, .int mrd, .ref m17, .ref m18, .ref m19, .ref m20, .ref m21, .ref m22, .ref m23, .int mtr])), (m2, .inl (cI, 6, .inl K))]) ([(m0, .inr (5, [.int mfa_29, .int mho, .ref m2, .ref m3, .ref m4, .int mra, .int mrh, .ref m7, .ref m8, .ref m9, .ref m10, .ref m11, .ref m12, .int mch, .int mfr, .int mfw, .int mrd, .ref m17, .ref m18, .ref m19, .ref m20, .ref m21, .ref m22, .ref m23, .int mtr])), (m2, .inl (cI, 6, .inl K))]) ([(m0, .inr (5, [.int mfa, .int mho, .ref m2, .ref m3, .ref m4, .int mra, .int mrh, .ref m7, .ref m8, .ref m9, .ref m10, .ref m11, .ref m12, .int mch, .int mfr, .int mfw, .int mrd, .ref m17, .ref m18, .ref m19, .ref m20, .ref m21, .ref m22, .ref m23, .int mtr]))]) ([(m0, .inr (5, [.int mfa_29, .int mho, .ref m2, .ref m3, .ref m4, .int mra, .int mrh, .ref m7, .ref m8, .ref m9, .ref m10, .ref m11, .ref m12, .int mch, .int mfr, .int mfw, .int mrd, .ref m17, .ref m18, .ref m19, .ref m20, .ref m21, .ref m22, .ref m23, .int mtr]))]) ([(m2, .inl (cI, 6, .inl K))]) hP hD [0] [1] [m0, m2] 2 rfl rfl rfl rfl rfl (by decide) rfl rfl hk1 hB
      have hE9 : p5_as mfa mho K i1 i2 = (r_29, mfa_29) := by unfold p5_as; simp only [er_29, emfa_29]; rw [if_pos c_5, if_pos c_23]
      exact W.iret (v := r_29) hx hb hr (fun t ht hW => ⟨⟨_, (), rfl, by rw [hE9], by show va_P (dC, dI) vwCl _ t.heap; rw [ht, hE9]; exact hP⟩, hS.F ht⟩) hS.2.2 dX5_as_32
  · skip
    refine lv_aload_n hx hb dX5_as_8 rfl (lv_at hl 0 rfl) ?_
    refine lv_iconst (v := (-1)) hx hb dX5_as_9 (by decide) ?_
    have hPc := hP.sub (ws' := [(m0, .inr (5, [.int mfa, .int mho, .ref m2, .ref m3, .ref m4, .int mra, .int mrh, .ref m7, .ref m8, .ref m9, .ref m10, .ref m11, .ref m12, .int mch, .int mfr, .int mfw, .int mrd, .ref m17, .ref m18, .ref m19, .ref m20, .ref m21, .ref m22, .ref m23, .int mtr]))]) [0] rfl
    have hDc := hD.sub (ws' := [(m0, .inr (5, [.int mfa, .int mho, .ref m2, .ref m3, .ref m4, .int mra, .int mrh, .ref m7, .ref m8, .ref m9, .ref m10, .ref m11, .ref m12, .int mch, .int mfr, .int mfw, .int mrd, .ref m17, .ref m18, .ref m19, .ref m20, .ref m21, .ref m22, .ref m23, .int mtr]))]) [0] (by decide) rfl
    have hKc := hK.sub (tys' := [(cI, .int)]) [0] rfl
    have hFc := va_free (wc := [(m0, .inr (5, [.int mfa, .int mho, .ref m2, .ref m3, .ref m4, .int mra, .int mrh, .ref m7, .ref m8, .ref m9, .ref m10, .ref m11, .ref m12, .int mch, .int mfr, .int mfw, .int mrd, .ref m17, .ref m18, .ref m19, .ref m20, .ref m21, .ref m22, .ref m23, .int mtr]))]) hD hS hA [0] rfl
    refine va_calli (va_runV (As := [.int (-1)]) (rest := []) ⟨hx, hb, hml, hown, hts⟩ (ctX5_refused l dC dI cI m0 m2 m3 m4 m7 m8 m9 m10 m11 m12 m17 m18 m19 m20 m21 m22 m23 H.size mfa mho mra mrh mch mfr mfw mrd mtr (-1)) (cwV 1 hts gX5_as_X5_refused rfl rfl rfl (by decide +kernel) ⟨Nat.le_of_ble_eq_true rfl, Nat.le_of_ble_eq_true rfl⟩) (pre_V hKc hN hPc hDc (RX5, TX5, 25) 5 0 rfl rfl) rfl rfl hl.1 rfl (lv_room (Nat.le_of_ble_eq_true rfl)) dX5_as_10 ⟨Nat.le_of_ble_eq_true rfl, Nat.le_of_ble_eq_true rfl⟩) hS (fun q _ h => hFc q h) hFc (fun r_10 _ t H locs ht hvm hw hB hz1 hk1 hS => ?_)
    try dsimp only at hw
    have er_10 := hw.symm
    rw [ht] at hB
    refine nm_gen ((p5_refused mfa (-1)).2) (fun mfa_10 emfa_10 => ?_)
    rw [emfa_10] at hB
    obtain ⟨hP, hD⟩ := rw_join ([(m0, .inr (5, [.int mfa, .int mho, .ref m2, .ref m3, .ref m4, .int mra, .int mrh, .ref m7, .ref m8, .ref m9, .ref m10, .ref m11, .ref m12, .int mch, .int mfr, .int mfw, .int mrd, .ref m17, .ref m18, .ref m19, .ref m20, .ref m21, .ref m22, .ref m23, .int mtr])), (m2, .inl (cI, 6, .inl K))]) ([(m0, .inr (5, [.int mfa_10, .int mho, .ref m2, .ref m3, .ref m4, .int mra, .int mrh, .ref m7, .ref m8, .ref m9, .ref m10, .ref m11, .ref m12, .int mch, .int mfr, .int mfw, .int mrd, .ref m17, .ref m18, .ref m19, .ref m20, .ref m21, .ref m22, .ref m23, .int mtr])), (m2, .inl (cI, 6, .inl K))]) ([(m0, .inr (5, [.int mfa, .int mho, .ref m2, .ref m3, .ref m4, .int mra, .int mrh, .ref m7, .ref m8, .ref m9, .ref m10, .ref m11, .ref m12, .int mch, .int mfr, .int mfw, .int mrd, .ref m17, .ref m18, .ref m19, .ref m20, .ref m21, .ref m22, .ref m23, .int mtr]))]) ([(m0, .inr (5, [.int mfa_10, .int mho, .ref m2, .ref m3, .ref m4, .int mra, .int mrh, .ref m7, .ref m8, .ref m9, .ref m10, .ref m11, .ref m12, .int mch, .int mfr, .int mfw, .int mrd, .ref m17, .ref m18, .ref m19, .ref m20, .ref m21, .ref m22, .ref m23, .int mtr]))]) ([(m2, .inl (cI, 6, .inl K))]) hP hD [0] [1] [m0, m2] 2 rfl rfl rfl rfl rfl (by decide) rfl rfl hk1 hB
    have hE9 : p5_as mfa mho K i1 i2 = (r_10, mfa_10) := by unfold p5_as; simp only [er_10, emfa_10]; rw [if_neg c_5]
    exact W.iret (v := r_10) hx hb hr (fun t ht hW => ⟨⟨_, (), rfl, by rw [hE9], by show va_P (dC, dI) vwCl _ t.heap; rw [ht, hE9]; exact hP⟩, hS.F ht⟩) hS.2.2 dX5_as_13

def p5_trace (mtr : Int32) : Int32 :=
  mtr
abbrev rmX5_trace : Room := { frames := 0, cells := 0, slots := 0, locals := 0 }
abbrev QX5_trace (dC : Nat → ClassId) (dI : Nat → Nat → Nat) (A : Nat → Prop) (cI : ClassId) (m0 : Nat) (m2 : Nat) (m3 : Nat) (m4 : Nat) (m7 : Nat) (m8 : Nat) (m9 : Nat) (m10 : Nat) (m11 : Nat) (m12 : Nat) (m17 : Nat) (m18 : Nat) (m19 : Nat) (m20 : Nat) (m21 : Nat) (m22 : Nat) (m23 : Nat) (mfa : Int32) (mho : Int32) (mra : Int32) (mrh : Int32) (mch : Int32) (mfr : Int32) (mfw : Int32) (mrd : Int32) (mtr : Int32) : Array Value → State → Outcome → State → Prop := va_Qi (fun (r : Int32) (_ : Unit) => r = p5_trace mtr) (fun (_ : Unit) (t : State) => va_P (dC, dI) vwCl ([(m0, .inr (5, [.int mfa, .int mho, .ref m2, .ref m3, .ref m4, .int mra, .int mrh, .ref m7, .ref m8, .ref m9, .ref m10, .ref m11, .ref m12, .int mch, .int mfr, .int mfw, .int mrd, .ref m17, .ref m18, .ref m19, .ref m20, .ref m21, .ref m22, .ref m23, .int mtr]))]) t.heap) A
set_option maxHeartbeats 4000000 in
set_option maxRecDepth 100000 in
theorem ctX5_trace (l : Launch) (dC : Nat → ClassId) (dI : Nat → Nat → Nat) (cI : ClassId) (m0 : Nat) (m2 : Nat) (m3 : Nat) (m4 : Nat) (m7 : Nat) (m8 : Nat) (m9 : Nat) (m10 : Nat) (m11 : Nat) (m12 : Nat) (m17 : Nat) (m18 : Nat) (m19 : Nat) (m20 : Nat) (m21 : Nat) (m22 : Nat) (m23 : Nat) (sz : Nat) (mfa : Int32) (mho : Int32) (mra : Int32) (mrh : Int32) (mch : Int32) (mfr : Int32) (mfw : Int32) (mrd : Int32) (mtr : Int32) : Met l yX5_trace wsX5_trace rmX5_trace (va_Pc [.ref m0] (cP dC dI [(cI, .int)] ([(m0, .inr (5, [.int mfa, .int mho, .ref m2, .ref m3, .ref m4, .int mra, .int mrh, .ref m7, .ref m8, .ref m9, .ref m10, .ref m11, .ref m12, .int mch, .int mfr, .int mfw, .int mrd, .ref m17, .ref m18, .ref m19, .ref m20, .ref m21, .ref m22, .ref m23, .int mtr]))]) sz)) (QX5_trace dC dI (va_A ([(m0, .inr (5, [.int mfa, .int mho, .ref m2, .ref m3, .ref m4, .int mra, .int mrh, .ref m7, .ref m8, .ref m9, .ref m10, .ref m11, .ref m12, .int mch, .int mfr, .int mfw, .int mrd, .ref m17, .ref m18, .ref m19, .ref m20, .ref m21, .ref m22, .ref m23, .int mtr]))]) sz) cI m0 m2 m3 m4 m7 m8 m9 m10 m11 m12 m17 m18 m19 m20 m21 m22 m23 mfa mho mra mrh mch mfr mfw mrd mtr ) 0 0 (va_A ([(m0, .inr (5, [.int mfa, .int mho, .ref m2, .ref m3, .ref m4, .int mra, .int mrh, .ref m7, .ref m8, .ref m9, .ref m10, .ref m11, .ref m12, .int mch, .int mfr, .int mfw, .int mrd, .ref m17, .ref m18, .ref m19, .ref m20, .ref m21, .ref m22, .ref m23, .int mtr]))]) sz) := by
  refine Met.ofW (cc := cX5_trace) (maxL := 1) (ret := (some .int)) (by decide) rfl ?_
  intro p e s m args below meth c s₁ B hml hv
  obtain ⟨rfl, hsz, hP, hK, hD0, hN⟩ := hv
  have hx := B.exec
  have hb := B.bytes
  have hr := B.returns
  have hts := atoms_spec (ws := wsX5_trace) B.pre
  have hown : s.vm.findClass RX5 = some m.cls := findClass_of_methodNamed B.named
  have hlocks := B.notSynchronized
  subst hsz
  have hD := hD0.self (sz := s.heap.size)
  generalize hAe : va_A ([(m0, .inr (5, [.int mfa, .int mho, .ref m2, .ref m3, .ref m4, .int mra, .int mrh, .ref m7, .ref m8, .ref m9, .ref m10, .ref m11, .ref m12, .int mch, .int mfr, .int mfw, .int mrd, .ref m17, .ref m18, .ref m19, .ref m20, .ref m21, .ref m22, .ref m23, .int mtr]))]) s.heap.size = A at hD ⊢
  have hA : ∀ q : Nat, s.heap.size ≤ q → A q := fun q h => by rw [← hAe]; exact Or.inr h
  have hS : va_S A s.heap s.heap [] := va_S.rf
  have hP : va_P (dC, dI) vwCl ([(m0, .inr (5, [.int mfa, .int mho, .ref m2, .ref m3, .ref m4, .int mra, .int mrh, .ref m7, .ref m8, .ref m9, .ref m10, .ref m11, .ref m12, .int mch, .int mfr, .int mfw, .int mrd, .ref m17, .ref m18, .ref m19, .ref m20, .ref m21, .ref m22, .ref m23, .int mtr]))]) s.heap := hP
  have hin5 : ∀ w ∈ wsX50, w ∈ wsX5_trace := by decide +kernel
  have kf_228 := hts (.fieldLink RX5 228 "RicherChangeModel" "traceNow" "I") (by decide +kernel)
  have hl := lv_entry ([.ref m0]) (n := 1) (Nat.le_of_ble_eq_true rfl)
  rw [lg_entry_eq]
  generalize (lg_sl ([.ref m0]) ++ List.replicate (1 - (lg_sl ([.ref m0])).length) Slot.unset).toArray = ls at hl ⊢
  have hl : lv_has ls 1 [(0, .ref m0)] := hl
  refine lv_aload_n hx hb dX5_trace_0 rfl (lv_at hl 0 rfl) ?_
  refine va_get (D := (dC, dI)) (ci := 5) (v := .int mtr) (C := RX5) (T := TX5) (N := 25) hx hb hts hin5 hown hK hP 0 rfl rfl 24 (by decide) kf_228 (fun _ h9 => h9) rfl dX5_trace_1 ?_
  have hE9 : p5_trace mtr = mtr := rfl
  exact W.iret (v := mtr) hx hb hr (fun t ht hW => ⟨⟨_, (), rfl, by rw [hE9], by show va_P (dC, dI) vwCl _ t.heap; rw [ht]; exact hP⟩, hS.F ht⟩) hS.2.2 dX5_trace_4

def p5_fault (mfa : Int32) : Int32 :=
  mfa
abbrev rmX5_fault : Room := { frames := 0, cells := 0, slots := 0, locals := 0 }
abbrev QX5_fault (dC : Nat → ClassId) (dI : Nat → Nat → Nat) (A : Nat → Prop) (cI : ClassId) (m0 : Nat) (m2 : Nat) (m3 : Nat) (m4 : Nat) (m7 : Nat) (m8 : Nat) (m9 : Nat) (m10 : Nat) (m11 : Nat) (m12 : Nat) (m17 : Nat) (m18 : Nat) (m19 : Nat) (m20 : Nat) (m21 : Nat) (m22 : Nat) (m23 : Nat) (mfa : Int32) (mho : Int32) (mra : Int32) (mrh : Int32) (mch : Int32) (mfr : Int32) (mfw : Int32) (mrd : Int32) (mtr : Int32) : Array Value → State → Outcome → State → Prop := va_Qi (fun (r : Int32) (_ : Unit) => r = p5_fault mfa) (fun (_ : Unit) (t : State) => va_P (dC, dI) vwCl ([(m0, .inr (5, [.int mfa, .int mho, .ref m2, .ref m3, .ref m4, .int mra, .int mrh, .ref m7, .ref m8, .ref m9, .ref m10, .ref m11, .ref m12, .int mch, .int mfr, .int mfw, .int mrd, .ref m17, .ref m18, .ref m19, .ref m20, .ref m21, .ref m22, .ref m23, .int mtr]))]) t.heap) A
set_option maxHeartbeats 4000000 in
set_option maxRecDepth 100000 in
theorem ctX5_fault (l : Launch) (dC : Nat → ClassId) (dI : Nat → Nat → Nat) (cI : ClassId) (m0 : Nat) (m2 : Nat) (m3 : Nat) (m4 : Nat) (m7 : Nat) (m8 : Nat) (m9 : Nat) (m10 : Nat) (m11 : Nat) (m12 : Nat) (m17 : Nat) (m18 : Nat) (m19 : Nat) (m20 : Nat) (m21 : Nat) (m22 : Nat) (m23 : Nat) (sz : Nat) (mfa : Int32) (mho : Int32) (mra : Int32) (mrh : Int32) (mch : Int32) (mfr : Int32) (mfw : Int32) (mrd : Int32) (mtr : Int32) : Met l yX5_fault wsX5_fault rmX5_fault (va_Pc [.ref m0] (cP dC dI [(cI, .int)] ([(m0, .inr (5, [.int mfa, .int mho, .ref m2, .ref m3, .ref m4, .int mra, .int mrh, .ref m7, .ref m8, .ref m9, .ref m10, .ref m11, .ref m12, .int mch, .int mfr, .int mfw, .int mrd, .ref m17, .ref m18, .ref m19, .ref m20, .ref m21, .ref m22, .ref m23, .int mtr]))]) sz)) (QX5_fault dC dI (va_A ([(m0, .inr (5, [.int mfa, .int mho, .ref m2, .ref m3, .ref m4, .int mra, .int mrh, .ref m7, .ref m8, .ref m9, .ref m10, .ref m11, .ref m12, .int mch, .int mfr, .int mfw, .int mrd, .ref m17, .ref m18, .ref m19, .ref m20, .ref m21, .ref m22, .ref m23, .int mtr]))]) sz) cI m0 m2 m3 m4 m7 m8 m9 m10 m11 m12 m17 m18 m19 m20 m21 m22 m23 mfa mho mra mrh mch mfr mfw mrd mtr ) 0 0 (va_A ([(m0, .inr (5, [.int mfa, .int mho, .ref m2, .ref m3, .ref m4, .int mra, .int mrh, .ref m7, .ref m8, .ref m9, .ref m10, .ref m11, .ref m12, .int mch, .int mfr, .int mfw, .int mrd, .ref m17, .ref m18, .ref m19, .ref m20, .ref m21, .ref m22, .ref m23, .int mtr]))]) sz) := by
  refine Met.ofW (cc := cX5_fault) (maxL := 1) (ret := (some .int)) (by decide) rfl ?_
  intro p e s m args below meth c s₁ B hml hv
  obtain ⟨rfl, hsz, hP, hK, hD0, hN⟩ := hv
  have hx := B.exec
  have hb := B.bytes
  have hr := B.returns
  have hts := atoms_spec (ws := wsX5_fault) B.pre
  have hown : s.vm.findClass RX5 = some m.cls := findClass_of_methodNamed B.named
  have hlocks := B.notSynchronized
  subst hsz
  have hD := hD0.self (sz := s.heap.size)
  generalize hAe : va_A ([(m0, .inr (5, [.int mfa, .int mho, .ref m2, .ref m3, .ref m4, .int mra, .int mrh, .ref m7, .ref m8, .ref m9, .ref m10, .ref m11, .ref m12, .int mch, .int mfr, .int mfw, .int mrd, .ref m17, .ref m18, .ref m19, .ref m20, .ref m21, .ref m22, .ref m23, .int mtr]))]) s.heap.size = A at hD ⊢
  have hA : ∀ q : Nat, s.heap.size ≤ q → A q := fun q h => by rw [← hAe]; exact Or.inr h
  have hS : va_S A s.heap s.heap [] := va_S.rf
  have hP : va_P (dC, dI) vwCl ([(m0, .inr (5, [.int mfa, .int mho, .ref m2, .ref m3, .ref m4, .int mra, .int mrh, .ref m7, .ref m8, .ref m9, .ref m10, .ref m11, .ref m12, .int mch, .int mfr, .int mfw, .int mrd, .ref m17, .ref m18, .ref m19, .ref m20, .ref m21, .ref m22, .ref m23, .int mtr]))]) s.heap := hP
  have hin5 : ∀ w ∈ wsX50, w ∈ wsX5_fault := by decide +kernel
  have kf_60 := hts (.fieldLink RX5 60 "RicherChangeModel" "fault" "I") (by decide +kernel)
  have hl := lv_entry ([.ref m0]) (n := 1) (Nat.le_of_ble_eq_true rfl)
  rw [lg_entry_eq]
  generalize (lg_sl ([.ref m0]) ++ List.replicate (1 - (lg_sl ([.ref m0])).length) Slot.unset).toArray = ls at hl ⊢
  have hl : lv_has ls 1 [(0, .ref m0)] := hl
  refine lv_aload_n hx hb dX5_fault_0 rfl (lv_at hl 0 rfl) ?_
  refine va_get (D := (dC, dI)) (ci := 5) (v := .int mfa) (C := RX5) (T := TX5) (N := 25) hx hb hts hin5 hown hK hP 0 rfl rfl 0 (by decide) kf_60 (fun _ h9 => h9) rfl dX5_fault_1 ?_
  have hE9 : p5_fault mfa = mfa := rfl
  exact W.iret (v := mfa) hx hb hr (fun t ht hW => ⟨⟨_, (), rfl, by rw [hE9], by show va_P (dC, dI) vwCl _ t.heap; rw [ht]; exact hP⟩, hS.F ht⟩) hS.2.2 dX5_fault_4

def p5_many (mho : Int32) (mrd : Int32) (L : Nat → Int32) (C : Nat → Int32) (i1 : Int32) : Int32 :=
  if i1 = 0 then
    mho
  else
    if i1 = 1 then
      (p5_sumOf mho L C 1)
    else
      if i1 = 2 then
        (p5_sumOf mho L C 0)
      else
        if i1 = 3 then
          mrd
        else
          (-2)
abbrev rmX5_many : Room := { frames := 1, cells := 0, slots := 0, locals := 23 }
abbrev QX5_many (dC : Nat → ClassId) (dI : Nat → Nat → Nat) (A : Nat → Prop) (cI : ClassId) (m0 : Nat) (m2 : Nat) (m3 : Nat) (m4 : Nat) (m7 : Nat) (m8 : Nat) (m9 : Nat) (m10 : Nat) (m11 : Nat) (m12 : Nat) (m17 : Nat) (m18 : Nat) (m19 : Nat) (m20 : Nat) (m21 : Nat) (m22 : Nat) (m23 : Nat) (mfa : Int32) (mho : Int32) (mra : Int32) (mrh : Int32) (mch : Int32) (mfr : Int32) (mfw : Int32) (mrd : Int32) (mtr : Int32) (L : Nat → Int32) (C : Nat → Int32) (i1 : Int32) : Array Value → State → Outcome → State → Prop := va_Qi (fun (r : Int32) (_ : Unit) => r = p5_many mho mrd L C i1) (fun (_ : Unit) (t : State) => va_P (dC, dI) vwCl ([(m0, .inr (5, [.int mfa, .int mho, .ref m2, .ref m3, .ref m4, .int mra, .int mrh, .ref m7, .ref m8, .ref m9, .ref m10, .ref m11, .ref m12, .int mch, .int mfr, .int mfw, .int mrd, .ref m17, .ref m18, .ref m19, .ref m20, .ref m21, .ref m22, .ref m23, .int mtr])), (m3, .inl (cI, 6, .inl L)), (m4, .inl (cI, 6, .inl C))]) t.heap) A
set_option maxHeartbeats 4000000 in
set_option maxRecDepth 100000 in
theorem ctX5_many (l : Launch) (dC : Nat → ClassId) (dI : Nat → Nat → Nat) (cI : ClassId) (m0 : Nat) (m2 : Nat) (m3 : Nat) (m4 : Nat) (m7 : Nat) (m8 : Nat) (m9 : Nat) (m10 : Nat) (m11 : Nat) (m12 : Nat) (m17 : Nat) (m18 : Nat) (m19 : Nat) (m20 : Nat) (m21 : Nat) (m22 : Nat) (m23 : Nat) (sz : Nat) (mfa : Int32) (mho : Int32) (mra : Int32) (mrh : Int32) (mch : Int32) (mfr : Int32) (mfw : Int32) (mrd : Int32) (mtr : Int32) (L : Nat → Int32) (C : Nat → Int32) (i1 : Int32) (hNb : mho.toInt ≤ 6) : Met l yX5_many wsX5_many rmX5_many (va_Pc [.ref m0, .int i1] (cP dC dI [(cI, .int)] ([(m0, .inr (5, [.int mfa, .int mho, .ref m2, .ref m3, .ref m4, .int mra, .int mrh, .ref m7, .ref m8, .ref m9, .ref m10, .ref m11, .ref m12, .int mch, .int mfr, .int mfw, .int mrd, .ref m17, .ref m18, .ref m19, .ref m20, .ref m21, .ref m22, .ref m23, .int mtr])), (m3, .inl (cI, 6, .inl L)), (m4, .inl (cI, 6, .inl C))]) sz)) (QX5_many dC dI (va_A ([(m0, .inr (5, [.int mfa, .int mho, .ref m2, .ref m3, .ref m4, .int mra, .int mrh, .ref m7, .ref m8, .ref m9, .ref m10, .ref m11, .ref m12, .int mch, .int mfr, .int mfw, .int mrd, .ref m17, .ref m18, .ref m19, .ref m20, .ref m21, .ref m22, .ref m23, .int mtr])), (m3, .inl (cI, 6, .inl L)), (m4, .inl (cI, 6, .inl C))]) sz) cI m0 m2 m3 m4 m7 m8 m9 m10 m11 m12 m17 m18 m19 m20 m21 m22 m23 mfa mho mra mrh mch mfr mfw mrd mtr L C i1) 0 0 (va_A ([(m0, .inr (5, [.int mfa, .int mho, .ref m2, .ref m3, .ref m4, .int mra, .int mrh, .ref m7, .ref m8, .ref m9, .ref m10, .ref m11, .ref m12, .int mch, .int mfr, .int mfw, .int mrd, .ref m17, .ref m18, .ref m19, .ref m20, .ref m21, .ref m22, .ref m23, .int mtr])), (m3, .inl (cI, 6, .inl L)), (m4, .inl (cI, 6, .inl C))]) sz) := by
  refine Met.ofW (cc := cX5_many) (maxL := 2) (ret := (some .int)) (by decide) rfl ?_
  intro p e s m args below meth c s₁ B hml hv
  obtain ⟨rfl, hsz, hP, hK, hD0, hN⟩ := hv
  have hx := B.exec
  have hb := B.bytes
  have hr := B.returns
  have hts := atoms_spec (ws := wsX5_many) B.pre
  have hown : s.vm.findClass RX5 = some m.cls := findClass_of_methodNamed B.named
  have hlocks := B.notSynchronized
  subst hsz
  have hD := hD0.self (sz := s.heap.size)
  generalize hAe : va_A ([(m0, .inr (5, [.int mfa, .int mho, .ref m2, .ref m3, .ref m4, .int mra, .int mrh, .ref m7, .ref m8, .ref m9, .ref m10, .ref m11, .ref m12, .int mch, .int mfr, .int mfw, .int mrd, .ref m17, .ref m18, .ref m19, .ref m20, .ref m21, .ref m22, .ref m23, .int mtr])), (m3, .inl (cI, 6, .inl L)), (m4, .inl (cI, 6, .inl C))]) s.heap.size = A at hD ⊢
  have hA : ∀ q : Nat, s.heap.size ≤ q → A q := fun q h => by rw [← hAe]; exact Or.inr h
  have hS : va_S A s.heap s.heap [] := va_S.rf
  have hP : va_P (dC, dI) vwCl ([(m0, .inr (5, [.int mfa, .int mho, .ref m2, .ref m3, .ref m4, .int mra, .int mrh, .ref m7, .ref m8, .ref m9, .ref m10, .ref m11, .ref m12, .int mch, .int mfr, .int mfw, .int mrd, .ref m17, .ref m18, .ref m19, .ref m20, .ref m21, .ref m22, .ref m23, .int mtr])), (m3, .inl (cI, 6, .inl L)), (m4, .inl (cI, 6, .inl C))]) s.heap := hP
  have hin5 : ∀ w ∈ wsX50, w ∈ wsX5_many := by decide +kernel
  have kf_118 := hts (.fieldLink RX5 118 "RicherChangeModel" "readings" "I") (by decide +kernel)
  have kf_68 := hts (.fieldLink RX5 68 "RicherChangeModel" "houses" "I") (by decide +kernel)
  have hl := lv_entry ([.ref m0, .int i1]) (n := 2) (Nat.le_of_ble_eq_true rfl)
  rw [lg_entry_eq]
  generalize (lg_sl ([.ref m0, .int i1]) ++ List.replicate (2 - (lg_sl ([.ref m0, .int i1])).length) Slot.unset).toArray = ls at hl ⊢
  have hl : lv_has ls 2 [(0, .ref m0), (1, .int i1)] := hl
  refine lv_iload_n hx hb dX5_many_0 rfl (lv_at hl 1 rfl) ?_
  by_cases c_1_0 : i1 = 0
  · skip
    refine lv_tableIn (off := 31) (tgt := 32) hx hb dX5_many_1 (by rw [c_1_0]; decide) (by rw [c_1_0]; decide) (by rw [c_1_0]; decide) (by decide) ?_
    refine lv_aload_n hx hb dX5_many_32 rfl (lv_at hl 0 rfl) ?_
    refine va_get (D := (dC, dI)) (ci := 5) (v := .int mho) (C := RX5) (T := TX5) (N := 25) hx hb hts hin5 hown hK hP 0 rfl rfl 1 (by decide) kf_68 (fun _ h9 => h9) rfl dX5_many_33 ?_
    have hE9 : p5_many mho mrd L C i1 = mho := by unfold p5_many; rw [if_pos c_1_0]
    exact W.iret (v := mho) hx hb hr (fun t ht hW => ⟨⟨_, (), rfl, by rw [hE9], by show va_P (dC, dI) vwCl _ t.heap; rw [ht]; exact hP⟩, hS.F ht⟩) hS.2.2 dX5_many_36
  · skip
    by_cases c_1_1 : i1 = 1
    · skip
      refine lv_tableIn (off := 36) (tgt := 37) hx hb dX5_many_1 (by rw [c_1_1]; decide) (by rw [c_1_1]; decide) (by rw [c_1_1]; decide) (by decide) ?_
      refine lv_aload_n hx hb dX5_many_37 rfl (lv_at hl 0 rfl) ?_
      refine lv_iconst (v := 1) hx hb dX5_many_38 (by decide) ?_
      have hPc := hP.sub (ws' := [(m0, .inr (5, [.int mfa, .int mho, .ref m2, .ref m3, .ref m4, .int mra, .int mrh, .ref m7, .ref m8, .ref m9, .ref m10, .ref m11, .ref m12, .int mch, .int mfr, .int mfw, .int mrd, .ref m17, .ref m18, .ref m19, .ref m20, .ref m21, .ref m22, .ref m23, .int mtr])), (m3, .inl (cI, 6, .inl L)), (m4, .inl (cI, 6, .inl C))]) [0, 1, 2] rfl
      have hDc := hD.sub (ws' := [(m0, .inr (5, [.int mfa, .int mho, .ref m2, .ref m3, .ref m4, .int mra, .int mrh, .ref m7, .ref m8, .ref m9, .ref m10, .ref m11, .ref m12, .int mch, .int mfr, .int mfw, .int mrd, .ref m17, .ref m18, .ref m19, .ref m20, .ref m21, .ref m22, .ref m23, .int mtr])), (m3, .inl (cI, 6, .inl L)), (m4, .inl (cI, 6, .inl C))]) [0, 1, 2] (by decide) rfl
      have hKc := hK.sub (tys' := [(cI, .int)]) [0] rfl
      have hFc := va_free (wc := [(m0, .inr (5, [.int mfa, .int mho, .ref m2, .ref m3, .ref m4, .int mra, .int mrh, .ref m7, .ref m8, .ref m9, .ref m10, .ref m11, .ref m12, .int mch, .int mfr, .int mfw, .int mrd, .ref m17, .ref m18, .ref m19, .ref m20, .ref m21, .ref m22, .ref m23, .int mtr])), (m3, .inl (cI, 6, .inl L)), (m4, .inl (cI, 6, .inl C))]) hD hS hA [0, 1, 2] rfl
      refine va_calli (va_runV (As := [.int 1]) (rest := []) ⟨hx, hb, hml, hown, hts⟩ (ctX5_sumOf l dC dI cI m0 m2 m3 m4 m7 m8 m9 m10 m11 m12 m17 m18 m19 m20 m21 m22 m23 s.heap.size mfa mho mra mrh mch mfr mfw mrd mtr L C 1 (by assumption)) (cwV 1 hts gX5_many_X5_sumOf rfl rfl rfl (by decide +kernel) ⟨Nat.le_of_ble_eq_true rfl, Nat.le_of_ble_eq_true rfl⟩) (pre_V hKc hN hPc hDc (RX5, TX5, 25) 5 0 rfl rfl) rfl rfl hl.1 rfl (lv_room (Nat.le_of_ble_eq_true rfl)) dX5_many_39 ⟨Nat.le_of_ble_eq_true rfl, Nat.le_of_ble_eq_true rfl⟩) hS (fun q _ h => hFc q h) hFc (fun r _ t H locs ht hvm hw hB hz1 hk1 hS => ?_)
      try dsimp only at hw
      subst hw
      rw [ht] at hB
      obtain ⟨hP, hD⟩ := rw_join ([(m0, .inr (5, [.int mfa, .int mho, .ref m2, .ref m3, .ref m4, .int mra, .int mrh, .ref m7, .ref m8, .ref m9, .ref m10, .ref m11, .ref m12, .int mch, .int mfr, .int mfw, .int mrd, .ref m17, .ref m18, .ref m19, .ref m20, .ref m21, .ref m22, .ref m23, .int mtr])), (m3, .inl (cI, 6, .inl L)), (m4, .inl (cI, 6, .inl C))]) ([(m0, .inr (5, [.int mfa, .int mho, .ref m2, .ref m3, .ref m4, .int mra, .int mrh, .ref m7, .ref m8, .ref m9, .ref m10, .ref m11, .ref m12, .int mch, .int mfr, .int mfw, .int mrd, .ref m17, .ref m18, .ref m19, .ref m20, .ref m21, .ref m22, .ref m23, .int mtr])), (m3, .inl (cI, 6, .inl L)), (m4, .inl (cI, 6, .inl C))]) ([(m0, .inr (5, [.int mfa, .int mho, .ref m2, .ref m3, .ref m4, .int mra, .int mrh, .ref m7, .ref m8, .ref m9, .ref m10, .ref m11, .ref m12, .int mch, .int mfr, .int mfw, .int mrd, .ref m17, .ref m18, .ref m19, .ref m20, .ref m21, .ref m22, .ref m23, .int mtr])), (m3, .inl (cI, 6, .inl L)), (m4, .inl (cI, 6, .inl C))]) ([(m0, .inr (5, [.int mfa, .int mho, .ref m2, .ref m3, .ref m4, .int mra, .int mrh, .ref m7, .ref m8, .ref m9, .ref m10, .ref m11, .ref m12, .int mch, .int mfr, .int mfw, .int mrd, .ref m17, .ref m18, .ref m19, .ref m20, .ref m21, .ref m22, .ref m23, .int mtr])), (m3, .inl (cI, 6, .inl L)), (m4, .inl (cI, 6, .inl C))]) ([]) hP hD [0, 1, 2] [] [m0, m3, m4] 3 rfl rfl rfl rfl rfl (by decide) rfl rfl hk1 hB
      have hE9 : p5_many mho mrd L C i1 = (p5_sumOf mho L C 1) := by unfold p5_many; rw [if_neg c_1_0, if_pos c_1_1]
      exact W.iret (v := (p5_sumOf mho L C 1)) hx hb hr (fun t ht hW => ⟨⟨_, (), rfl, by rw [hE9], by show va_P (dC, dI) vwCl _ t.heap; rw [ht]; exact hP⟩, hS.F ht⟩) hS.2.2 dX5_many_42
    · skip
      by_cases c_1_2 : i1 = 2
      · skip
        refine lv_tableIn (off := 42) (tgt := 43) hx hb dX5_many_1 (by rw [c_1_2]; decide) (by rw [c_1_2]; decide) (by rw [c_1_2]; decide) (by decide) ?_
        refine lv_aload_n hx hb dX5_many_43 rfl (lv_at hl 0 rfl) ?_
        refine lv_iconst (v := 0) hx hb dX5_many_44 (by decide) ?_
        have hPc := hP.sub (ws' := [(m0, .inr (5, [.int mfa, .int mho, .ref m2, .ref m3, .ref m4, .int mra, .int mrh, .ref m7, .ref m8, .ref m9, .ref m10, .ref m11, .ref m12, .int mch, .int mfr, .int mfw, .int mrd, .ref m17, .ref m18, .ref m19, .ref m20, .ref m21, .ref m22, .ref m23, .int mtr])), (m3, .inl (cI, 6, .inl L)), (m4, .inl (cI, 6, .inl C))]) [0, 1, 2] rfl
        have hDc := hD.sub (ws' := [(m0, .inr (5, [.int mfa, .int mho, .ref m2, .ref m3, .ref m4, .int mra, .int mrh, .ref m7, .ref m8, .ref m9, .ref m10, .ref m11, .ref m12, .int mch, .int mfr, .int mfw, .int mrd, .ref m17, .ref m18, .ref m19, .ref m20, .ref m21, .ref m22, .ref m23, .int mtr])), (m3, .inl (cI, 6, .inl L)), (m4, .inl (cI, 6, .inl C))]) [0, 1, 2] (by decide) rfl
        have hKc := hK.sub (tys' := [(cI, .int)]) [0] rfl
        have hFc := va_free (wc := [(m0, .inr (5, [.int mfa, .int mho, .ref m2, .ref m3, .ref m4, .int mra, .int mrh, .ref m7, .ref m8, .ref m9, .ref m10, .ref m11, .ref m12, .int mch, .int mfr, .int mfw, .int mrd, .ref m17, .ref m18, .ref m19, .ref m20, .ref m21, .ref m22, .ref m23, .int mtr])), (m3, .inl (cI, 6, .inl L)), (m4, .inl (cI, 6, .inl C))]) hD hS hA [0, 1, 2] rfl
        refine va_calli (va_runV (As := [.int 0]) (rest := []) ⟨hx, hb, hml, hown, hts⟩ (ctX5_sumOf l dC dI cI m0 m2 m3 m4 m7 m8 m9 m10 m11 m12 m17 m18 m19 m20 m21 m22 m23 s.heap.size mfa mho mra mrh mch mfr mfw mrd mtr L C 0 (by assumption)) (cwV 1 hts gX5_many_X5_sumOf rfl rfl rfl (by decide +kernel) ⟨Nat.le_of_ble_eq_true rfl, Nat.le_of_ble_eq_true rfl⟩) (pre_V hKc hN hPc hDc (RX5, TX5, 25) 5 0 rfl rfl) rfl rfl hl.1 rfl (lv_room (Nat.le_of_ble_eq_true rfl)) dX5_many_45 ⟨Nat.le_of_ble_eq_true rfl, Nat.le_of_ble_eq_true rfl⟩) hS (fun q _ h => hFc q h) hFc (fun r _ t H locs ht hvm hw hB hz1 hk1 hS => ?_)
        try dsimp only at hw
        subst hw
        rw [ht] at hB
        obtain ⟨hP, hD⟩ := rw_join ([(m0, .inr (5, [.int mfa, .int mho, .ref m2, .ref m3, .ref m4, .int mra, .int mrh, .ref m7, .ref m8, .ref m9, .ref m10, .ref m11, .ref m12, .int mch, .int mfr, .int mfw, .int mrd, .ref m17, .ref m18, .ref m19, .ref m20, .ref m21, .ref m22, .ref m23, .int mtr])), (m3, .inl (cI, 6, .inl L)), (m4, .inl (cI, 6, .inl C))]) ([(m0, .inr (5, [.int mfa, .int mho, .ref m2, .ref m3, .ref m4, .int mra, .int mrh, .ref m7, .ref m8, .ref m9, .ref m10, .ref m11, .ref m12, .int mch, .int mfr, .int mfw, .int mrd, .ref m17, .ref m18, .ref m19, .ref m20, .ref m21, .ref m22, .ref m23, .int mtr])), (m3, .inl (cI, 6, .inl L)), (m4, .inl (cI, 6, .inl C))]) ([(m0, .inr (5, [.int mfa, .int mho, .ref m2, .ref m3, .ref m4, .int mra, .int mrh, .ref m7, .ref m8, .ref m9, .ref m10, .ref m11, .ref m12, .int mch, .int mfr, .int mfw, .int mrd, .ref m17, .ref m18, .ref m19, .ref m20, .ref m21, .ref m22, .ref m23, .int mtr])), (m3, .inl (cI, 6, .inl L)), (m4, .inl (cI, 6, .inl C))]) ([(m0, .inr (5, [.int mfa, .int mho, .ref m2, .ref m3, .ref m4, .int mra, .int mrh, .ref m7, .ref m8, .ref m9, .ref m10, .ref m11, .ref m12, .int mch, .int mfr, .int mfw, .int mrd, .ref m17, .ref m18, .ref m19, .ref m20, .ref m21, .ref m22, .ref m23, .int mtr])), (m3, .inl (cI, 6, .inl L)), (m4, .inl (cI, 6, .inl C))]) ([]) hP hD [0, 1, 2] [] [m0, m3, m4] 3 rfl rfl rfl rfl rfl (by decide) rfl rfl hk1 hB
        have hE9 : p5_many mho mrd L C i1 = (p5_sumOf mho L C 0) := by unfold p5_many; rw [if_neg c_1_0, if_neg c_1_1, if_pos c_1_2]
        exact W.iret (v := (p5_sumOf mho L C 0)) hx hb hr (fun t ht hW => ⟨⟨_, (), rfl, by rw [hE9], by show va_P (dC, dI) vwCl _ t.heap; rw [ht]; exact hP⟩, hS.F ht⟩) hS.2.2 dX5_many_48
      · skip
        by_cases c_1_3 : i1 = 3
        · skip
          refine lv_tableIn (off := 48) (tgt := 49) hx hb dX5_many_1 (by rw [c_1_3]; decide) (by rw [c_1_3]; decide) (by rw [c_1_3]; decide) (by decide) ?_
          refine lv_aload_n hx hb dX5_many_49 rfl (lv_at hl 0 rfl) ?_
          refine va_get (D := (dC, dI)) (ci := 5) (v := .int mrd) (C := RX5) (T := TX5) (N := 25) hx hb hts hin5 hown hK hP 0 rfl rfl 16 (by decide) kf_118 (fun _ h9 => h9) rfl dX5_many_50 ?_
          have hE9 : p5_many mho mrd L C i1 = mrd := by unfold p5_many; rw [if_neg c_1_0, if_neg c_1_1, if_neg c_1_2, if_pos c_1_3]
          exact W.iret (v := mrd) hx hb hr (fun t ht hW => ⟨⟨_, (), rfl, by rw [hE9], by show va_P (dC, dI) vwCl _ t.heap; rw [ht]; exact hP⟩, hS.F ht⟩) hS.2.2 dX5_many_53
        · skip
          refine lv_tableOut (tgt := 54) hx hb dX5_many_1 (sw_out4 c_1_0 c_1_1 c_1_2 c_1_3) (by decide) ?_
          refine lv_bipush (v := (-2)) hx hb dX5_many_54 (by decide) ?_
          have hE9 : p5_many mho mrd L C i1 = (-2) := by unfold p5_many; rw [if_neg c_1_0, if_neg c_1_1, if_neg c_1_2, if_neg c_1_3]
          exact W.iret (v := (-2)) hx hb hr (fun t ht hW => ⟨⟨_, (), rfl, by rw [hE9], by show va_P (dC, dI) vwCl _ t.heap; rw [ht]; exact hP⟩, hS.F ht⟩) hS.2.2 dX5_many_56

def p5_copy_l144 (mfa : Int32) (SZ : Nat → Int32) (LN : Nat → Int32) (SH : Nat → Int32) (HD : Nat → Int32) (i1 : Int32) (i2 : Int32) (i3 : Int32) (i4 : Int32) (i5 : Int32) : Nat → Int32 → (Nat → Int32) → (Nat → Int32) → Int32 × Int32 × (Nat → Int32) × (Nat → Int32)
  | 0, _, _, _ => (0, 0, fun _ => 0, fun _ => 0)
  | n + 1, v6, SH_, HD_ =>
    if i5 ≤ v6 then
      (((p5_refused mfa i5).1), ((p5_refused mfa i5).2), SH_, HD_)
    else
      p5_copy_l144 mfa SZ LN SH HD i1 i2 i3 i4 i5 n (v6 + 1) (upd SH_ (((60 * i3) + i4) + v6).toNatClampNeg (HD_ v6.toNatClampNeg)) HD_
theorem p5_copy_l144_s (mfa : Int32) (SZ : Nat → Int32) (LN : Nat → Int32) (SH : Nat → Int32) (HD : Nat → Int32) (i1 : Int32) (i2 : Int32) (i3 : Int32) (i4 : Int32) (i5 : Int32) (n : Nat) (v6 : Int32) (SH_ : Nat → Int32) (HD_ : Nat → Int32) : p5_copy_l144 mfa SZ LN SH HD i1 i2 i3 i4 i5 (n + 1) v6 SH_ HD_ =
    (if i5 ≤ v6 then
      (((p5_refused mfa i5).1), ((p5_refused mfa i5).2), SH_, HD_)
    else
      p5_copy_l144 mfa SZ LN SH HD i1 i2 i3 i4 i5 n (v6 + 1) (upd SH_ (((60 * i3) + i4) + v6).toNatClampNeg (HD_ v6.toNatClampNeg)) HD_) := rfl
def p5_copy_l107 (mfa : Int32) (SZ : Nat → Int32) (LN : Nat → Int32) (SH : Nat → Int32) (HD : Nat → Int32) (i1 : Int32) (i2 : Int32) (i3 : Int32) (i4 : Int32) (i5 : Int32) : Nat → Int32 → (Nat → Int32) → Int32 × Int32 × (Nat → Int32) × (Nat → Int32)
  | 0, _, _ => (0, 0, fun _ => 0, fun _ => 0)
  | n + 1, v6, HD_ =>
    if i5 ≤ v6 then
      p5_copy_l144 mfa SZ LN SH HD i1 i2 i3 i4 i5 61 0 SH HD_
    else
      p5_copy_l107 mfa SZ LN SH HD i1 i2 i3 i4 i5 n (v6 + 1) (upd HD_ v6.toNatClampNeg (SH (((60 * i1) + i2) + v6).toNatClampNeg))
theorem p5_copy_l107_s (mfa : Int32) (SZ : Nat → Int32) (LN : Nat → Int32) (SH : Nat → Int32) (HD : Nat → Int32) (i1 : Int32) (i2 : Int32) (i3 : Int32) (i4 : Int32) (i5 : Int32) (n : Nat) (v6 : Int32) (HD_ : Nat → Int32) : p5_copy_l107 mfa SZ LN SH HD i1 i2 i3 i4 i5 (n + 1) v6 HD_ =
    (if i5 ≤ v6 then
      p5_copy_l144 mfa SZ LN SH HD i1 i2 i3 i4 i5 61 0 SH HD_
    else
      p5_copy_l107 mfa SZ LN SH HD i1 i2 i3 i4 i5 n (v6 + 1) (upd HD_ v6.toNatClampNeg (SH (((60 * i1) + i2) + v6).toNatClampNeg))) := rfl
def p5_copy (mfa : Int32) (SZ : Nat → Int32) (LN : Nat → Int32) (SH : Nat → Int32) (HD : Nat → Int32) (i1 : Int32) (i2 : Int32) (i3 : Int32) (i4 : Int32) (i5 : Int32) : Int32 × Int32 × (Nat → Int32) × (Nat → Int32) :=
  if (p5_noSheet i1) = 0 then
    if (p5_noSheet i3) = 0 then
      if (SZ i1.toNatClampNeg) < 0 then
        (((p5_failed mfa 1).1), ((p5_failed mfa 1).2), SH, HD)
      else
        if 0 ≤ (SZ i3.toNatClampNeg) then
          if (LN i1.toNatClampNeg) = (LN i3.toNatClampNeg) then
            if (p5_isBeyond i2 i5.toInt64 (SZ i1.toNatClampNeg)) = 0 then
              if (p5_isBeyond i4 i5.toInt64 (SZ i3.toNatClampNeg)) = 0 then
                p5_copy_l107 mfa SZ LN SH HD i1 i2 i3 i4 i5 61 0 HD
              else
                (((p5_failed mfa 3).1), ((p5_failed mfa 3).2), SH, HD)
            else
              (((p5_failed mfa 3).1), ((p5_failed mfa 3).2), SH, HD)
          else
            (((p5_failed mfa 2).1), ((p5_failed mfa 2).2), SH, HD)
        else
          (((p5_failed mfa 1).1), ((p5_failed mfa 1).2), SH, HD)
    else
      (((p5_refused mfa (-1)).1), ((p5_refused mfa (-1)).2), SH, HD)
  else
    (((p5_refused mfa (-1)).1), ((p5_refused mfa (-1)).2), SH, HD)
abbrev rmX5_copy : Room := { frames := 2, cells := 0, slots := 0, locals := 45 }
abbrev QX5_copy (dC : Nat → ClassId) (dI : Nat → Nat → Nat) (A : Nat → Prop) (cI : ClassId) (m0 : Nat) (m2 : Nat) (m3 : Nat) (m4 : Nat) (m7 : Nat) (m8 : Nat) (m9 : Nat) (m10 : Nat) (m11 : Nat) (m12 : Nat) (m17 : Nat) (m18 : Nat) (m19 : Nat) (m20 : Nat) (m21 : Nat) (m22 : Nat) (m23 : Nat) (mfa : Int32) (mho : Int32) (mra : Int32) (mrh : Int32) (mch : Int32) (mfr : Int32) (mfw : Int32) (mrd : Int32) (mtr : Int32) (SZ : Nat → Int32) (LN : Nat → Int32) (SH : Nat → Int32) (HD : Nat → Int32) (i1 : Int32) (i2 : Int32) (i3 : Int32) (i4 : Int32) (i5 : Int32) : Array Value → State → Outcome → State → Prop := va_Qi (fun (r : Int32) (_ : Unit) => r = (p5_copy mfa SZ LN SH HD i1 i2 i3 i4 i5).1) (fun (_ : Unit) (t : State) => va_P (dC, dI) vwCl ([(m0, .inr (5, [.int ((p5_copy mfa SZ LN SH HD i1 i2 i3 i4 i5).2.1), .int mho, .ref m2, .ref m3, .ref m4, .int mra, .int mrh, .ref m7, .ref m8, .ref m9, .ref m10, .ref m11, .ref m12, .int mch, .int mfr, .int mfw, .int mrd, .ref m17, .ref m18, .ref m19, .ref m20, .ref m21, .ref m22, .ref m23, .int mtr])), (m20, .inl (cI, 4, .inl SZ)), (m21, .inl (cI, 4, .inl LN)), (m22, .inl (cI, 240, .inl ((p5_copy mfa SZ LN SH HD i1 i2 i3 i4 i5).2.2.1))), (m23, .inl (cI, 60, .inl ((p5_copy mfa SZ LN SH HD i1 i2 i3 i4 i5).2.2.2)))]) t.heap) A
set_option maxHeartbeats 4000000 in
set_option maxRecDepth 100000 in
theorem ctX5_copy (l : Launch) (dC : Nat → ClassId) (dI : Nat → Nat → Nat) (cI : ClassId) (m0 : Nat) (m2 : Nat) (m3 : Nat) (m4 : Nat) (m7 : Nat) (m8 : Nat) (m9 : Nat) (m10 : Nat) (m11 : Nat) (m12 : Nat) (m17 : Nat) (m18 : Nat) (m19 : Nat) (m20 : Nat) (m21 : Nat) (m22 : Nat) (m23 : Nat) (sz : Nat) (mfa : Int32) (mho : Int32) (mra : Int32) (mrh : Int32) (mch : Int32) (mfr : Int32) (mfw : Int32) (mrd : Int32) (mtr : Int32) (SZ : Nat → Int32) (LN : Nat → Int32) (SH : Nat → Int32) (HD : Nat → Int32) (i1 : Int32) (i2 : Int32) (i3 : Int32) (i4 : Int32) (i5 : Int32) (hSZ : ∀ j : Nat, (SZ j).toInt ≤ 60) : Met l yX5_copy wsX5_copy rmX5_copy (va_Pc [.ref m0, .int i1, .int i2, .int i3, .int i4, .int i5] (cP dC dI [(cI, .int)] ([(m0, .inr (5, [.int mfa, .int mho, .ref m2, .ref m3, .ref m4, .int mra, .int mrh, .ref m7, .ref m8, .ref m9, .ref m10, .ref m11, .ref m12, .int mch, .int mfr, .int mfw, .int mrd, .ref m17, .ref m18, .ref m19, .ref m20, .ref m21, .ref m22, .ref m23, .int mtr])), (m20, .inl (cI, 4, .inl SZ)), (m21, .inl (cI, 4, .inl LN)), (m22, .inl (cI, 240, .inl SH)), (m23, .inl (cI, 60, .inl HD))]) sz)) (QX5_copy dC dI (va_A ([(m0, .inr (5, [.int mfa, .int mho, .ref m2, .ref m3, .ref m4, .int mra, .int mrh, .ref m7, .ref m8, .ref m9, .ref m10, .ref m11, .ref m12, .int mch, .int mfr, .int mfw, .int mrd, .ref m17, .ref m18, .ref m19, .ref m20, .ref m21, .ref m22, .ref m23, .int mtr])), (m20, .inl (cI, 4, .inl SZ)), (m21, .inl (cI, 4, .inl LN)), (m22, .inl (cI, 240, .inl SH)), (m23, .inl (cI, 60, .inl HD))]) sz) cI m0 m2 m3 m4 m7 m8 m9 m10 m11 m12 m17 m18 m19 m20 m21 m22 m23 mfa mho mra mrh mch mfr mfw mrd mtr SZ LN SH HD i1 i2 i3 i4 i5) 0 0 (va_A ([(m0, .inr (5, [.int mfa, .int mho, .ref m2, .ref m3, .ref m4, .int mra, .int mrh, .ref m7, .ref m8, .ref m9, .ref m10, .ref m11, .ref m12, .int mch, .int mfr, .int mfw, .int mrd, .ref m17, .ref m18, .ref m19, .ref m20, .ref m21, .ref m22, .ref m23, .int mtr])), (m20, .inl (cI, 4, .inl SZ)), (m21, .inl (cI, 4, .inl LN)), (m22, .inl (cI, 240, .inl SH)), (m23, .inl (cI, 60, .inl HD))]) sz) := by
  refine Met.ofW (cc := cX5_copy) (maxL := 7) (ret := (some .int)) (by decide) rfl ?_
  intro p e s m args below meth c s₁ B hml hv
  obtain ⟨rfl, hsz, hP, hK, hD0, hN⟩ := hv
  have hx := B.exec
  have hb := B.bytes
  have hr := B.returns
  have hts := atoms_spec (ws := wsX5_copy) B.pre
  have hown : s.vm.findClass RX5 = some m.cls := findClass_of_methodNamed B.named
  have hlocks := B.notSynchronized
  subst hsz
  have hD := hD0.self (sz := s.heap.size)
  generalize hAe : va_A ([(m0, .inr (5, [.int mfa, .int mho, .ref m2, .ref m3, .ref m4, .int mra, .int mrh, .ref m7, .ref m8, .ref m9, .ref m10, .ref m11, .ref m12, .int mch, .int mfr, .int mfw, .int mrd, .ref m17, .ref m18, .ref m19, .ref m20, .ref m21, .ref m22, .ref m23, .int mtr])), (m20, .inl (cI, 4, .inl SZ)), (m21, .inl (cI, 4, .inl LN)), (m22, .inl (cI, 240, .inl SH)), (m23, .inl (cI, 60, .inl HD))]) s.heap.size = A at hD ⊢
  have hA : ∀ q : Nat, s.heap.size ≤ q → A q := fun q h => by rw [← hAe]; exact Or.inr h
  have hS : va_S A s.heap s.heap [] := va_S.rf
  have hP : va_P (dC, dI) vwCl ([(m0, .inr (5, [.int mfa, .int mho, .ref m2, .ref m3, .ref m4, .int mra, .int mrh, .ref m7, .ref m8, .ref m9, .ref m10, .ref m11, .ref m12, .int mch, .int mfr, .int mfw, .int mrd, .ref m17, .ref m18, .ref m19, .ref m20, .ref m21, .ref m22, .ref m23, .int mtr])), (m20, .inl (cI, 4, .inl SZ)), (m21, .inl (cI, 4, .inl LN)), (m22, .inl (cI, 240, .inl SH)), (m23, .inl (cI, 60, .inl HD))]) s.heap := hP
  have hin5 : ∀ w ∈ wsX50, w ∈ wsX5_copy := by decide +kernel
  have kf_46 := hts (.fieldLink RX5 46 "RicherChangeModel" "sheetSize" "[I") (by decide +kernel)
  have kf_49 := hts (.fieldLink RX5 49 "RicherChangeModel" "sheetLane" "[I") (by decide +kernel)
  have kf_52 := hts (.fieldLink RX5 52 "RicherChangeModel" "sheet" "[I") (by decide +kernel)
  have kf_55 := hts (.fieldLink RX5 55 "RicherChangeModel" "hands" "[I") (by decide +kernel)
  have hl := lv_entry ([.ref m0, .int i1, .int i2, .int i3, .int i4, .int i5]) (n := 7) (Nat.le_of_ble_eq_true rfl)
  rw [lg_entry_eq]
  generalize (lg_sl ([.ref m0, .int i1, .int i2, .int i3, .int i4, .int i5]) ++ List.replicate (7 - (lg_sl ([.ref m0, .int i1, .int i2, .int i3, .int i4, .int i5])).length) Slot.unset).toArray = ls at hl ⊢
  have hl : lv_has ls 7 [(0, .ref m0), (1, .int i1), (2, .int i2), (3, .int i3), (4, .int i4), (5, .int i5)] := hl
  have lp_144 : ∀ (n : Nat) (v6 : Int32) (SH_ : Nat → Int32) (HD_ : Nat → Int32) (H : Heap) (locs : List Loc) (ls : Array Slot), (up v6 i5 n) → (cq i1 i2 i3 i4 i5) → va_P (dC, dI) vwCl ([(m0, .inr (5, [.int mfa, .int mho, .ref m2, .ref m3, .ref m4, .int mra, .int mrh, .ref m7, .ref m8, .ref m9, .ref m10, .ref m11, .ref m12, .int mch, .int mfr, .int mfw, .int mrd, .ref m17, .ref m18, .ref m19, .ref m20, .ref m21, .ref m22, .ref m23, .int mtr])), (m20, .inl (cI, 4, .inl SZ)), (m21, .inl (cI, 4, .inl LN)), (m22, .inl (cI, 240, .inl SH_)), (m23, .inl (cI, 60, .inl HD_))]) H → va_D A ([(m0, .inr (5, [.int mfa, .int mho, .ref m2, .ref m3, .ref m4, .int mra, .int mrh, .ref m7, .ref m8, .ref m9, .ref m10, .ref m11, .ref m12, .int mch, .int mfr, .int mfw, .int mrd, .ref m17, .ref m18, .ref m19, .ref m20, .ref m21, .ref m22, .ref m23, .int mtr])), (m20, .inl (cI, 4, .inl SZ)), (m21, .inl (cI, 4, .inl LN)), (m22, .inl (cI, 240, .inl SH_)), (m23, .inl (cI, 60, .inl HD_))]) → va_S A s.heap H locs → lv_has ls 7 [(6, .int v6), (0, .ref m0), (1, .int i1), (2, .int i2), (3, .int i3), (4, .int i4), (5, .int i5)] → p5_copy mfa SZ LN SH HD i1 i2 i3 i4 i5 = p5_copy_l144 mfa SZ LN SH HD i1 i2 i3 i4 i5 n v6 SH_ HD_ → W p l e (headSpec wsX5_copy rmX5_copy).room s m [.ref m0, .int i1, .int i2, .int i3, .int i4, .int i5].toArray below meth c H locs 0 0 (MQ below (QX5_copy dC dI A cI m0 m2 m3 m4 m7 m8 m9 m10 m11 m12 m17 m18 m19 m20 m21 m22 m23 mfa mho mra mrh mch mfr mfw mrd mtr SZ LN SH HD i1 i2 i3 i4 i5) [.ref m0, .int i1, .int i2, .int i3, .int i4, .int i5].toArray s 0 0 A) (F0 m 144 ls []) := by
    intro n
    induction n with
    | zero => intro v6 SH_ HD_ _ _ _ hu hq; exact absurd hu up_no
    | succ n ih =>
      intro v6 SH_ HD_ H locs ls hu hq hP hD hS hl hE
      refine lv_iload hx hb dX5_copy_144 (lv_at hl 0 rfl) ?_
      refine lv_iload hx hb dX5_copy_146 (lv_at hl 6 rfl) ?_
      refine lv_icmp_ge (tgt := 179) hx hb dX5_copy_148 (by decide) (fun c_148 => ?_) (fun c_148 => ?_)
      · skip
        refine lv_aload_n hx hb dX5_copy_179 rfl (lv_at hl 1 rfl) ?_
        refine lv_iload hx hb dX5_copy_180 (lv_at hl 6 rfl) ?_
        have hPc := hP.sub (ws' := [(m0, .inr (5, [.int mfa, .int mho, .ref m2, .ref m3, .ref m4, .int mra, .int mrh, .ref m7, .ref m8, .ref m9, .ref m10, .ref m11, .ref m12, .int mch, .int mfr, .int mfw, .int mrd, .ref m17, .ref m18, .ref m19, .ref m20, .ref m21, .ref m22, .ref m23, .int mtr]))]) [0] rfl
        have hDc := hD.sub (ws' := [(m0, .inr (5, [.int mfa, .int mho, .ref m2, .ref m3, .ref m4, .int mra, .int mrh, .ref m7, .ref m8, .ref m9, .ref m10, .ref m11, .ref m12, .int mch, .int mfr, .int mfw, .int mrd, .ref m17, .ref m18, .ref m19, .ref m20, .ref m21, .ref m22, .ref m23, .int mtr]))]) [0] (by decide) rfl
        have hKc := hK.sub (tys' := [(cI, .int)]) [0] rfl
        have hFc := va_free (wc := [(m0, .inr (5, [.int mfa, .int mho, .ref m2, .ref m3, .ref m4, .int mra, .int mrh, .ref m7, .ref m8, .ref m9, .ref m10, .ref m11, .ref m12, .int mch, .int mfr, .int mfw, .int mrd, .ref m17, .ref m18, .ref m19, .ref m20, .ref m21, .ref m22, .ref m23, .int mtr]))]) hD hS hA [0] rfl
        refine va_calli (va_runV (As := [.int i5]) (rest := []) ⟨hx, hb, hml, hown, hts⟩ (ctX5_refused l dC dI cI m0 m2 m3 m4 m7 m8 m9 m10 m11 m12 m17 m18 m19 m20 m21 m22 m23 H.size mfa mho mra mrh mch mfr mfw mrd mtr i5) (cwV 1 hts gX5_copy_X5_refused rfl rfl rfl (by decide +kernel) ⟨Nat.le_of_ble_eq_true rfl, Nat.le_of_ble_eq_true rfl⟩) (pre_V hKc hN hPc hDc (RX5, TX5, 25) 5 0 rfl rfl) rfl rfl hl.1 rfl (lv_room (Nat.le_of_ble_eq_true rfl)) dX5_copy_182 ⟨Nat.le_of_ble_eq_true rfl, Nat.le_of_ble_eq_true rfl⟩) hS (fun q _ h => hFc q h) hFc (fun r_182 _ t H locs ht hvm hw hB hz1 hk1 hS => ?_)
        try dsimp only at hw
        have er_182 := hw.symm
        rw [ht] at hB
        refine nm_gen ((p5_refused mfa i5).2) (fun mfa_182 emfa_182 => ?_)
        rw [emfa_182] at hB
        obtain ⟨hP, hD⟩ := rw_join ([(m0, .inr (5, [.int mfa, .int mho, .ref m2, .ref m3, .ref m4, .int mra, .int mrh, .ref m7, .ref m8, .ref m9, .ref m10, .ref m11, .ref m12, .int mch, .int mfr, .int mfw, .int mrd, .ref m17, .ref m18, .ref m19, .ref m20, .ref m21, .ref m22, .ref m23, .int mtr])), (m20, .inl (cI, 4, .inl SZ)), (m21, .inl (cI, 4, .inl LN)), (m22, .inl (cI, 240, .inl SH_)), (m23, .inl (cI, 60, .inl HD_))]) ([(m0, .inr (5, [.int mfa_182, .int mho, .ref m2, .ref m3, .ref m4, .int mra, .int mrh, .ref m7, .ref m8, .ref m9, .ref m10, .ref m11, .ref m12, .int mch, .int mfr, .int mfw, .int mrd, .ref m17, .ref m18, .ref m19, .ref m20, .ref m21, .ref m22, .ref m23, .int mtr])), (m20, .inl (cI, 4, .inl SZ)), (m21, .inl (cI, 4, .inl LN)), (m22, .inl (cI, 240, .inl SH_)), (m23, .inl (cI, 60, .inl HD_))]) ([(m0, .inr (5, [.int mfa, .int mho, .ref m2, .ref m3, .ref m4, .int mra, .int mrh, .ref m7, .ref m8, .ref m9, .ref m10, .ref m11, .ref m12, .int mch, .int mfr, .int mfw, .int mrd, .ref m17, .ref m18, .ref m19, .ref m20, .ref m21, .ref m22, .ref m23, .int mtr]))]) ([(m0, .inr (5, [.int mfa_182, .int mho, .ref m2, .ref m3, .ref m4, .int mra, .int mrh, .ref m7, .ref m8, .ref m9, .ref m10, .ref m11, .ref m12, .int mch, .int mfr, .int mfw, .int mrd, .ref m17, .ref m18, .ref m19, .ref m20, .ref m21, .ref m22, .ref m23, .int mtr]))]) ([(m20, .inl (cI, 4, .inl SZ)), (m21, .inl (cI, 4, .inl LN)), (m22, .inl (cI, 240, .inl SH_)), (m23, .inl (cI, 60, .inl HD_))]) hP hD [0] [1, 2, 3, 4] [m0, m20, m21, m22, m23] 5 rfl rfl rfl rfl rfl (by decide) rfl rfl hk1 hB
        have hE9 : p5_copy mfa SZ LN SH HD i1 i2 i3 i4 i5 = (r_182, mfa_182, SH_, HD_) := hE.trans (by rw [p5_copy_l144_s]; simp only [er_182, emfa_182]; rw [if_pos c_148])
        exact W.iret (v := r_182) hx hb hr (fun t ht hW => ⟨⟨_, (), rfl, by rw [hE9], by show va_P (dC, dI) vwCl _ t.heap; rw [ht, hE9]; exact hP⟩, hS.F ht⟩) hS.2.2 dX5_copy_185
      · skip
        refine lv_aload_n hx hb dX5_copy_151 rfl (lv_at hl 1 rfl) ?_
        refine va_get (D := (dC, dI)) (ci := 5) (v := .ref m22) (C := RX5) (T := TX5) (N := 25) hx hb hts hin5 hown hK hP 0 rfl rfl 22 (by decide) kf_52 (fun _ h9 => h9) rfl dX5_copy_152 ?_
        refine lv_bipush (v := 60) hx hb dX5_copy_155 (by decide) ?_
        refine lv_iload_n hx hb dX5_copy_157 rfl (lv_at hl 4 rfl) ?_
        refine lv_imul hx hb dX5_copy_158 ?_
        refine lv_iload hx hb dX5_copy_159 (lv_at hl 5 rfl) ?_
        refine lv_iadd hx hb dX5_copy_161 ?_
        refine lv_iload hx hb dX5_copy_162 (lv_at hl 0 rfl) ?_
        refine lv_iadd hx hb dX5_copy_164 ?_
        refine lv_aload_n hx hb dX5_copy_165 rfl (lv_at hl 1 rfl) ?_
        refine va_get (D := (dC, dI)) (ci := 5) (v := .ref m23) (C := RX5) (T := TX5) (N := 25) hx hb hts hin5 hown hK hP 0 rfl rfl 23 (by decide) kf_55 (fun _ h9 => h9) rfl dX5_copy_166 ?_
        refine lv_iload hx hb dX5_copy_169 (lv_at hl 0 rfl) ?_
        refine va_iald hx hb hK hP 4 0 rfl rfl (cq_h hq hu c_148) dX5_copy_171 ?_
        refine va_iast hx hb hK hP hD hS 3 0 rfl rfl (cq_2 hq hu c_148) dX5_copy_172 (fun H locs hP hD hS => ?_)
        have hP : va_P (dC, dI) vwCl ([(m0, .inr (5, [.int mfa, .int mho, .ref m2, .ref m3, .ref m4, .int mra, .int mrh, .ref m7, .ref m8, .ref m9, .ref m10, .ref m11, .ref m12, .int mch, .int mfr, .int mfw, .int mrd, .ref m17, .ref m18, .ref m19, .ref m20, .ref m21, .ref m22, .ref m23, .int mtr])), (m20, .inl (cI, 4, .inl SZ)), (m21, .inl (cI, 4, .inl LN)), (m22, .inl (cI, 240, .inl (upd SH_ (((60 * i3) + i4) + v6).toNatClampNeg (HD_ v6.toNatClampNeg)))), (m23, .inl (cI, 60, .inl HD_))]) H := hP
        have hD : va_D A ([(m0, .inr (5, [.int mfa, .int mho, .ref m2, .ref m3, .ref m4, .int mra, .int mrh, .ref m7, .ref m8, .ref m9, .ref m10, .ref m11, .ref m12, .int mch, .int mfr, .int mfw, .int mrd, .ref m17, .ref m18, .ref m19, .ref m20, .ref m21, .ref m22, .ref m23, .int mtr])), (m20, .inl (cI, 4, .inl SZ)), (m21, .inl (cI, 4, .inl LN)), (m22, .inl (cI, 240, .inl (upd SH_ (((60 * i3) + i4) + v6).toNatClampNeg (HD_ v6.toNatClampNeg)))), (m23, .inl (cI, 60, .inl HD_))]) := hD
        refine lv_iinc (v := (v6 + 1)) (lv' := [(6, .int (v6 + 1)), (0, .ref m0), (1, .int i1), (2, .int i2), (3, .int i3), (4, .int i4), (5, .int i5)]) hx hb dX5_copy_173 hl (k := 0) rfl rfl (by decide) rfl (fun ls hl => ?_)
        refine lv_goto (tgt := 144) hx hb dX5_copy_176 (by decide) ?_
        exact ih (v6 + 1) (upd SH_ (((60 * i3) + i4) + v6).toNatClampNeg (HD_ v6.toNatClampNeg)) HD_ _ _ _ (up_s hu c_148) hq hP hD hS (lv_sub hl [0, 1, 2, 3, 4, 5, 6] rfl) (hE.trans (by rw [p5_copy_l144_s, if_neg c_148]))
  have lp_107 : ∀ (n : Nat) (v6 : Int32) (HD_ : Nat → Int32) (H : Heap) (locs : List Loc) (ls : Array Slot), (up v6 i5 n) → (cq i1 i2 i3 i4 i5) → va_P (dC, dI) vwCl ([(m0, .inr (5, [.int mfa, .int mho, .ref m2, .ref m3, .ref m4, .int mra, .int mrh, .ref m7, .ref m8, .ref m9, .ref m10, .ref m11, .ref m12, .int mch, .int mfr, .int mfw, .int mrd, .ref m17, .ref m18, .ref m19, .ref m20, .ref m21, .ref m22, .ref m23, .int mtr])), (m20, .inl (cI, 4, .inl SZ)), (m21, .inl (cI, 4, .inl LN)), (m22, .inl (cI, 240, .inl SH)), (m23, .inl (cI, 60, .inl HD_))]) H → va_D A ([(m0, .inr (5, [.int mfa, .int mho, .ref m2, .ref m3, .ref m4, .int mra, .int mrh, .ref m7, .ref m8, .ref m9, .ref m10, .ref m11, .ref m12, .int mch, .int mfr, .int mfw, .int mrd, .ref m17, .ref m18, .ref m19, .ref m20, .ref m21, .ref m22, .ref m23, .int mtr])), (m20, .inl (cI, 4, .inl SZ)), (m21, .inl (cI, 4, .inl LN)), (m22, .inl (cI, 240, .inl SH)), (m23, .inl (cI, 60, .inl HD_))]) → va_S A s.heap H locs → lv_has ls 7 [(6, .int v6), (0, .ref m0), (1, .int i1), (2, .int i2), (3, .int i3), (4, .int i4), (5, .int i5)] → p5_copy mfa SZ LN SH HD i1 i2 i3 i4 i5 = p5_copy_l107 mfa SZ LN SH HD i1 i2 i3 i4 i5 n v6 HD_ → W p l e (headSpec wsX5_copy rmX5_copy).room s m [.ref m0, .int i1, .int i2, .int i3, .int i4, .int i5].toArray below meth c H locs 0 0 (MQ below (QX5_copy dC dI A cI m0 m2 m3 m4 m7 m8 m9 m10 m11 m12 m17 m18 m19 m20 m21 m22 m23 mfa mho mra mrh mch mfr mfw mrd mtr SZ LN SH HD i1 i2 i3 i4 i5) [.ref m0, .int i1, .int i2, .int i3, .int i4, .int i5].toArray s 0 0 A) (F0 m 107 ls []) := by
    intro n
    induction n with
    | zero => intro v6 HD_ _ _ _ hu hq; exact absurd hu up_no
    | succ n ih =>
      intro v6 HD_ H locs ls hu hq hP hD hS hl hE
      refine lv_iload hx hb dX5_copy_107 (lv_at hl 0 rfl) ?_
      refine lv_iload hx hb dX5_copy_109 (lv_at hl 6 rfl) ?_
      refine lv_icmp_ge (tgt := 141) hx hb dX5_copy_111 (by decide) (fun c_111 => ?_) (fun c_111 => ?_)
      · skip
        refine lv_iconst (v := 0) hx hb dX5_copy_141 (by decide) ?_
        refine lv_istore (lv' := [(6, .int 0), (0, .ref m0), (1, .int i1), (2, .int i2), (3, .int i3), (4, .int i4), (5, .int i5)]) hx hb dX5_copy_142 hl (by decide) rfl (fun ls hl => ?_)
        exact lp_144 61 0 SH HD_ _ _ _ (up_i 60 (by decide) (cq_n hq)) hq hP hD hS (lv_sub hl [0, 1, 2, 3, 4, 5, 6] rfl) (hE.trans (by rw [p5_copy_l107_s, if_pos c_111]))
      · skip
        refine lv_aload_n hx hb dX5_copy_114 rfl (lv_at hl 1 rfl) ?_
        refine va_get (D := (dC, dI)) (ci := 5) (v := .ref m23) (C := RX5) (T := TX5) (N := 25) hx hb hts hin5 hown hK hP 0 rfl rfl 23 (by decide) kf_55 (fun _ h9 => h9) rfl dX5_copy_115 ?_
        refine lv_iload hx hb dX5_copy_118 (lv_at hl 0 rfl) ?_
        refine lv_aload_n hx hb dX5_copy_120 rfl (lv_at hl 1 rfl) ?_
        refine va_get (D := (dC, dI)) (ci := 5) (v := .ref m22) (C := RX5) (T := TX5) (N := 25) hx hb hts hin5 hown hK hP 0 rfl rfl 22 (by decide) kf_52 (fun _ h9 => h9) rfl dX5_copy_121 ?_
        refine lv_bipush (v := 60) hx hb dX5_copy_124 (by decide) ?_
        refine lv_iload_n hx hb dX5_copy_126 rfl (lv_at hl 2 rfl) ?_
        refine lv_imul hx hb dX5_copy_127 ?_
        refine lv_iload_n hx hb dX5_copy_128 rfl (lv_at hl 3 rfl) ?_
        refine lv_iadd hx hb dX5_copy_129 ?_
        refine lv_iload hx hb dX5_copy_130 (lv_at hl 0 rfl) ?_
        refine lv_iadd hx hb dX5_copy_132 ?_
        refine va_iald hx hb hK hP 3 0 rfl rfl (cq_1 hq hu c_111) dX5_copy_133 ?_
        refine va_iast hx hb hK hP hD hS 4 0 rfl rfl (cq_h hq hu c_111) dX5_copy_134 (fun H locs hP hD hS => ?_)
        have hP : va_P (dC, dI) vwCl ([(m0, .inr (5, [.int mfa, .int mho, .ref m2, .ref m3, .ref m4, .int mra, .int mrh, .ref m7, .ref m8, .ref m9, .ref m10, .ref m11, .ref m12, .int mch, .int mfr, .int mfw, .int mrd, .ref m17, .ref m18, .ref m19, .ref m20, .ref m21, .ref m22, .ref m23, .int mtr])), (m20, .inl (cI, 4, .inl SZ)), (m21, .inl (cI, 4, .inl LN)), (m22, .inl (cI, 240, .inl SH)), (m23, .inl (cI, 60, .inl (upd HD_ v6.toNatClampNeg (SH (((60 * i1) + i2) + v6).toNatClampNeg))))]) H := hP
        have hD : va_D A ([(m0, .inr (5, [.int mfa, .int mho, .ref m2, .ref m3, .ref m4, .int mra, .int mrh, .ref m7, .ref m8, .ref m9, .ref m10, .ref m11, .ref m12, .int mch, .int mfr, .int mfw, .int mrd, .ref m17, .ref m18, .ref m19, .ref m20, .ref m21, .ref m22, .ref m23, .int mtr])), (m20, .inl (cI, 4, .inl SZ)), (m21, .inl (cI, 4, .inl LN)), (m22, .inl (cI, 240, .inl SH)), (m23, .inl (cI, 60, .inl (upd HD_ v6.toNatClampNeg (SH (((60 * i1) + i2) + v6).toNatClampNeg))))]) := hD
        refine lv_iinc (v := (v6 + 1)) (lv' := [(6, .int (v6 + 1)), (0, .ref m0), (1, .int i1), (2, .int i2), (3, .int i3), (4, .int i4), (5, .int i5)]) hx hb dX5_copy_135 hl (k := 0) rfl rfl (by decide) rfl (fun ls hl => ?_)
        refine lv_goto (tgt := 107) hx hb dX5_copy_138 (by decide) ?_
        exact ih (v6 + 1) (upd HD_ v6.toNatClampNeg (SH (((60 * i1) + i2) + v6).toNatClampNeg)) _ _ _ (up_s hu c_111) hq hP hD hS (lv_sub hl [0, 1, 2, 3, 4, 5, 6] rfl) (hE.trans (by rw [p5_copy_l107_s, if_neg c_111]))
  refine lv_iload_n hx hb dX5_copy_0 rfl (lv_at hl 1 rfl) ?_
  have hPc : va_P (dC, dI) vwCl [] s.heap := hP.sub (ws' := []) [] rfl
  have hDc : va_D A [] := hD.sub (ws' := []) [] (by decide) rfl
  have hKc := hK.sub (tys' := [(cI, .int)]) [0] rfl
  have hFc := va_free (wc := []) hD hS hA [] rfl
  refine va_calli (va_runS (As := [.int i1]) (rest := []) ⟨hx, hb, hml, hown, hts⟩ (ctX5_noSheet l dC dI cI s.heap.size i1) (va_cwS 1 hts gX5_copy_X5_noSheet rfl rfl rfl (by decide +kernel) ⟨Nat.le_of_ble_eq_true rfl, Nat.le_of_ble_eq_true rfl⟩) (pre_S hKc hN hPc hDc) rfl rfl hl.1 rfl (lv_room (Nat.le_of_ble_eq_true rfl)) dX5_copy_1 ⟨Nat.le_of_ble_eq_true rfl, Nat.le_of_ble_eq_true rfl⟩) hS (fun q _ h => hFc q h) hFc (fun r _ t H locs ht hvm hw hB hz1 hk1 hS => ?_)
  try dsimp only at hw
  subst hw
  rw [ht] at hB
  obtain ⟨hP, hD⟩ := rw_join ([(m0, .inr (5, [.int mfa, .int mho, .ref m2, .ref m3, .ref m4, .int mra, .int mrh, .ref m7, .ref m8, .ref m9, .ref m10, .ref m11, .ref m12, .int mch, .int mfr, .int mfw, .int mrd, .ref m17, .ref m18, .ref m19, .ref m20, .ref m21, .ref m22, .ref m23, .int mtr])), (m20, .inl (cI, 4, .inl SZ)), (m21, .inl (cI, 4, .inl LN)), (m22, .inl (cI, 240, .inl SH)), (m23, .inl (cI, 60, .inl HD))]) ([(m0, .inr (5, [.int mfa, .int mho, .ref m2, .ref m3, .ref m4, .int mra, .int mrh, .ref m7, .ref m8, .ref m9, .ref m10, .ref m11, .ref m12, .int mch, .int mfr, .int mfw, .int mrd, .ref m17, .ref m18, .ref m19, .ref m20, .ref m21, .ref m22, .ref m23, .int mtr])), (m20, .inl (cI, 4, .inl SZ)), (m21, .inl (cI, 4, .inl LN)), (m22, .inl (cI, 240, .inl SH)), (m23, .inl (cI, 60, .inl HD))]) ([]) ([]) ([(m0, .inr (5, [.int mfa, .int mho, .ref m2, .ref m3, .ref m4, .int mra, .int mrh, .ref m7, .ref m8, .ref m9, .ref m10, .ref m11, .ref m12, .int mch, .int mfr, .int mfw, .int mrd, .ref m17, .ref m18, .ref m19, .ref m20, .ref m21, .ref m22, .ref m23, .int mtr])), (m20, .inl (cI, 4, .inl SZ)), (m21, .inl (cI, 4, .inl LN)), (m22, .inl (cI, 240, .inl SH)), (m23, .inl (cI, 60, .inl HD))]) hP hD [] [0, 1, 2, 3, 4] [m0, m20, m21, m22, m23] 5 rfl rfl rfl rfl rfl (by decide) rfl rfl hk1 hB
  refine lv_if_ne (tgt := 14) hx hb dX5_copy_4 (by decide) (fun c_4 => ?_) (fun c_4 => ?_)
  · skip
    refine lv_aload_n hx hb dX5_copy_14 rfl (lv_at hl 0 rfl) ?_
    refine lv_iconst (v := (-1)) hx hb dX5_copy_15 (by decide) ?_
    have hPc := hP.sub (ws' := [(m0, .inr (5, [.int mfa, .int mho, .ref m2, .ref m3, .ref m4, .int mra, .int mrh, .ref m7, .ref m8, .ref m9, .ref m10, .ref m11, .ref m12, .int mch, .int mfr, .int mfw, .int mrd, .ref m17, .ref m18, .ref m19, .ref m20, .ref m21, .ref m22, .ref m23, .int mtr]))]) [0] rfl
    have hDc := hD.sub (ws' := [(m0, .inr (5, [.int mfa, .int mho, .ref m2, .ref m3, .ref m4, .int mra, .int mrh, .ref m7, .ref m8, .ref m9, .ref m10, .ref m11, .ref m12, .int mch, .int mfr, .int mfw, .int mrd, .ref m17, .ref m18, .ref m19, .ref m20, .ref m21, .ref m22, .ref m23, .int mtr]))]) [0] (by decide) rfl
    have hKc := hK.sub (tys' := [(cI, .int)]) [0] rfl
    have hFc := va_free (wc := [(m0, .inr (5, [.int mfa, .int mho, .ref m2, .ref m3, .ref m4, .int mra, .int mrh, .ref m7, .ref m8, .ref m9, .ref m10, .ref m11, .ref m12, .int mch, .int mfr, .int mfw, .int mrd, .ref m17, .ref m18, .ref m19, .ref m20, .ref m21, .ref m22, .ref m23, .int mtr]))]) hD hS hA [0] rfl
    refine va_calli (va_runV (As := [.int (-1)]) (rest := []) ⟨hx, hb, hml, hown, hts⟩ (ctX5_refused l dC dI cI m0 m2 m3 m4 m7 m8 m9 m10 m11 m12 m17 m18 m19 m20 m21 m22 m23 H.size mfa mho mra mrh mch mfr mfw mrd mtr (-1)) (cwV 1 hts gX5_copy_X5_refused rfl rfl rfl (by decide +kernel) ⟨Nat.le_of_ble_eq_true rfl, Nat.le_of_ble_eq_true rfl⟩) (pre_V hKc hN hPc hDc (RX5, TX5, 25) 5 0 rfl rfl) rfl rfl hl.1 rfl (lv_room (Nat.le_of_ble_eq_true rfl)) dX5_copy_16 ⟨Nat.le_of_ble_eq_true rfl, Nat.le_of_ble_eq_true rfl⟩) hS (fun q _ h => hFc q h) hFc (fun r_16 _ t H locs ht hvm hw hB hz1 hk1 hS => ?_)
    try dsimp only at hw
    have er_16 := hw.symm
    rw [ht] at hB
    refine nm_gen ((p5_refused mfa (-1)).2) (fun mfa_16 emfa_16 => ?_)
    rw [emfa_16] at hB
    obtain ⟨hP, hD⟩ := rw_join ([(m0, .inr (5, [.int mfa, .int mho, .ref m2, .ref m3, .ref m4, .int mra, .int mrh, .ref m7, .ref m8, .ref m9, .ref m10, .ref m11, .ref m12, .int mch, .int mfr, .int mfw, .int mrd, .ref m17, .ref m18, .ref m19, .ref m20, .ref m21, .ref m22, .ref m23, .int mtr])), (m20, .inl (cI, 4, .inl SZ)), (m21, .inl (cI, 4, .inl LN)), (m22, .inl (cI, 240, .inl SH)), (m23, .inl (cI, 60, .inl HD))]) ([(m0, .inr (5, [.int mfa_16, .int mho, .ref m2, .ref m3, .ref m4, .int mra, .int mrh, .ref m7, .ref m8, .ref m9, .ref m10, .ref m11, .ref m12, .int mch, .int mfr, .int mfw, .int mrd, .ref m17, .ref m18, .ref m19, .ref m20, .ref m21, .ref m22, .ref m23, .int mtr])), (m20, .inl (cI, 4, .inl SZ)), (m21, .inl (cI, 4, .inl LN)), (m22, .inl (cI, 240, .inl SH)), (m23, .inl (cI, 60, .inl HD))]) ([(m0, .inr (5, [.int mfa, .int mho, .ref m2, .ref m3, .ref m4, .int mra, .int mrh, .ref m7, .ref m8, .ref m9, .ref m10, .ref m11, .ref m12, .int mch, .int mfr, .int mfw, .int mrd, .ref m17, .ref m18, .ref m19, .ref m20, .ref m21, .ref m22, .ref m23, .int mtr]))]) ([(m0, .inr (5, [.int mfa_16, .int mho, .ref m2, .ref m3, .ref m4, .int mra, .int mrh, .ref m7, .ref m8, .ref m9, .ref m10, .ref m11, .ref m12, .int mch, .int mfr, .int mfw, .int mrd, .ref m17, .ref m18, .ref m19, .ref m20, .ref m21, .ref m22, .ref m23, .int mtr]))]) ([(m20, .inl (cI, 4, .inl SZ)), (m21, .inl (cI, 4, .inl LN)), (m22, .inl (cI, 240, .inl SH)), (m23, .inl (cI, 60, .inl HD))]) hP hD [0] [1, 2, 3, 4] [m0, m20, m21, m22, m23] 5 rfl rfl rfl rfl rfl (by decide) rfl rfl hk1 hB
    have hE9 : p5_copy mfa SZ LN SH HD i1 i2 i3 i4 i5 = (r_16, mfa_16, SH, HD) := by unfold p5_copy; simp only [er_16, emfa_16]; rw [if_neg c_4]
    exact W.iret (v := r_16) hx hb hr (fun t ht hW => ⟨⟨_, (), rfl, by rw [hE9], by show va_P (dC, dI) vwCl _ t.heap; rw [ht, hE9]; exact hP⟩, hS.F ht⟩) hS.2.2 dX5_copy_19
  · skip
    have j1 : vp_in i1 4 := noSheet_in c_4
    refine lv_iload_n hx hb dX5_copy_7 rfl (lv_at hl 3 rfl) ?_
    have hPc : va_P (dC, dI) vwCl [] H := hP.sub (ws' := []) [] rfl
    have hDc : va_D A [] := hD.sub (ws' := []) [] (by decide) rfl
    have hKc := hK.sub (tys' := [(cI, .int)]) [0] rfl
    have hFc := va_free (wc := []) hD hS hA [] rfl
    refine va_calli (va_runS (As := [.int i3]) (rest := []) ⟨hx, hb, hml, hown, hts⟩ (ctX5_noSheet l dC dI cI H.size i3) (va_cwS 1 hts gX5_copy_X5_noSheet rfl rfl rfl (by decide +kernel) ⟨Nat.le_of_ble_eq_true rfl, Nat.le_of_ble_eq_true rfl⟩) (pre_S hKc hN hPc hDc) rfl rfl hl.1 rfl (lv_room (Nat.le_of_ble_eq_true rfl)) dX5_copy_8 ⟨Nat.le_of_ble_eq_true rfl, Nat.le_of_ble_eq_true rfl⟩) hS (fun q _ h => hFc q h) hFc (fun r _ t H locs ht hvm hw hB hz1 hk1 hS => ?_)
    try dsimp only at hw
    subst hw
    rw [ht] at hB
    obtain ⟨hP, hD⟩ := rw_join ([(m0, .inr (5, [.int mfa, .int mho, .ref m2, .ref m3, .ref m4, .int mra, .int mrh, .ref m7, .ref m8, .ref m9, .ref m10, .ref m11, .ref m12, .int mch, .int mfr, .int mfw, .int mrd, .ref m17, .ref m18, .ref m19, .ref m20, .ref m21, .ref m22, .ref m23, .int mtr])), (m20, .inl (cI, 4, .inl SZ)), (m21, .inl (cI, 4, .inl LN)), (m22, .inl (cI, 240, .inl SH)), (m23, .inl (cI, 60, .inl HD))]) ([(m0, .inr (5, [.int mfa, .int mho, .ref m2, .ref m3, .ref m4, .int mra, .int mrh, .ref m7, .ref m8, .ref m9, .ref m10, .ref m11, .ref m12, .int mch, .int mfr, .int mfw, .int mrd, .ref m17, .ref m18, .ref m19, .ref m20, .ref m21, .ref m22, .ref m23, .int mtr])), (m20, .inl (cI, 4, .inl SZ)), (m21, .inl (cI, 4, .inl LN)), (m22, .inl (cI, 240, .inl SH)), (m23, .inl (cI, 60, .inl HD))]) ([]) ([]) ([(m0, .inr (5, [.int mfa, .int mho, .ref m2, .ref m3, .ref m4, .int mra, .int mrh, .ref m7, .ref m8, .ref m9, .ref m10, .ref m11, .ref m12, .int mch, .int mfr, .int mfw, .int mrd, .ref m17, .ref m18, .ref m19, .ref m20, .ref m21, .ref m22, .ref m23, .int mtr])), (m20, .inl (cI, 4, .inl SZ)), (m21, .inl (cI, 4, .inl LN)), (m22, .inl (cI, 240, .inl SH)), (m23, .inl (cI, 60, .inl HD))]) hP hD [] [0, 1, 2, 3, 4] [m0, m20, m21, m22, m23] 5 rfl rfl rfl rfl rfl (by decide) rfl rfl hk1 hB
    refine lv_if_eq (tgt := 20) hx hb dX5_copy_11 (by decide) (fun c_11 => ?_) (fun c_11 => ?_)
    · skip
      have j3 : vp_in i3 4 := noSheet_in c_11
      refine lv_aload_n hx hb dX5_copy_20 rfl (lv_at hl 0 rfl) ?_
      refine va_get (D := (dC, dI)) (ci := 5) (v := .ref m20) (C := RX5) (T := TX5) (N := 25) hx hb hts hin5 hown hK hP 0 rfl rfl 20 (by decide) kf_46 (fun _ h9 => h9) rfl dX5_copy_21 ?_
      refine lv_iload_n hx hb dX5_copy_24 rfl (lv_at hl 1 rfl) ?_
      refine va_iald hx hb hK hP 1 0 rfl rfl (by assumption) dX5_copy_25 ?_
      refine lv_if_lt (tgt := 38) hx hb dX5_copy_26 (by decide) (fun c_26 => ?_) (fun c_26 => ?_)
      · skip
        refine lv_aload_n hx hb dX5_copy_38 rfl (lv_at hl 0 rfl) ?_
        refine lv_iconst (v := 1) hx hb dX5_copy_39 (by decide) ?_
        have hPc := hP.sub (ws' := [(m0, .inr (5, [.int mfa, .int mho, .ref m2, .ref m3, .ref m4, .int mra, .int mrh, .ref m7, .ref m8, .ref m9, .ref m10, .ref m11, .ref m12, .int mch, .int mfr, .int mfw, .int mrd, .ref m17, .ref m18, .ref m19, .ref m20, .ref m21, .ref m22, .ref m23, .int mtr]))]) [0] rfl
        have hDc := hD.sub (ws' := [(m0, .inr (5, [.int mfa, .int mho, .ref m2, .ref m3, .ref m4, .int mra, .int mrh, .ref m7, .ref m8, .ref m9, .ref m10, .ref m11, .ref m12, .int mch, .int mfr, .int mfw, .int mrd, .ref m17, .ref m18, .ref m19, .ref m20, .ref m21, .ref m22, .ref m23, .int mtr]))]) [0] (by decide) rfl
        have hKc := hK.sub (tys' := [(cI, .int)]) [0] rfl
        have hFc := va_free (wc := [(m0, .inr (5, [.int mfa, .int mho, .ref m2, .ref m3, .ref m4, .int mra, .int mrh, .ref m7, .ref m8, .ref m9, .ref m10, .ref m11, .ref m12, .int mch, .int mfr, .int mfw, .int mrd, .ref m17, .ref m18, .ref m19, .ref m20, .ref m21, .ref m22, .ref m23, .int mtr]))]) hD hS hA [0] rfl
        refine va_calli (va_runV (As := [.int 1]) (rest := []) ⟨hx, hb, hml, hown, hts⟩ (ctX5_failed l dC dI cI m0 m2 m3 m4 m7 m8 m9 m10 m11 m12 m17 m18 m19 m20 m21 m22 m23 H.size mfa mho mra mrh mch mfr mfw mrd mtr 1) (cwV 1 hts gX5_copy_X5_failed rfl rfl rfl (by decide +kernel) ⟨Nat.le_of_ble_eq_true rfl, Nat.le_of_ble_eq_true rfl⟩) (pre_V hKc hN hPc hDc (RX5, TX5, 25) 5 0 rfl rfl) rfl rfl hl.1 rfl (lv_room (Nat.le_of_ble_eq_true rfl)) dX5_copy_40 ⟨Nat.le_of_ble_eq_true rfl, Nat.le_of_ble_eq_true rfl⟩) hS (fun q _ h => hFc q h) hFc (fun r_40 _ t H locs ht hvm hw hB hz1 hk1 hS => ?_)
        try dsimp only at hw
        have er_40 := hw.symm
        rw [ht] at hB
        refine nm_gen ((p5_failed mfa 1).2) (fun mfa_40 emfa_40 => ?_)
        rw [emfa_40] at hB
        obtain ⟨hP, hD⟩ := rw_join ([(m0, .inr (5, [.int mfa, .int mho, .ref m2, .ref m3, .ref m4, .int mra, .int mrh, .ref m7, .ref m8, .ref m9, .ref m10, .ref m11, .ref m12, .int mch, .int mfr, .int mfw, .int mrd, .ref m17, .ref m18, .ref m19, .ref m20, .ref m21, .ref m22, .ref m23, .int mtr])), (m20, .inl (cI, 4, .inl SZ)), (m21, .inl (cI, 4, .inl LN)), (m22, .inl (cI, 240, .inl SH)), (m23, .inl (cI, 60, .inl HD))]) ([(m0, .inr (5, [.int mfa_40, .int mho, .ref m2, .ref m3, .ref m4, .int mra, .int mrh, .ref m7, .ref m8, .ref m9, .ref m10, .ref m11, .ref m12, .int mch, .int mfr, .int mfw, .int mrd, .ref m17, .ref m18, .ref m19, .ref m20, .ref m21, .ref m22, .ref m23, .int mtr])), (m20, .inl (cI, 4, .inl SZ)), (m21, .inl (cI, 4, .inl LN)), (m22, .inl (cI, 240, .inl SH)), (m23, .inl (cI, 60, .inl HD))]) ([(m0, .inr (5, [.int mfa, .int mho, .ref m2, .ref m3, .ref m4, .int mra, .int mrh, .ref m7, .ref m8, .ref m9, .ref m10, .ref m11, .ref m12, .int mch, .int mfr, .int mfw, .int mrd, .ref m17, .ref m18, .ref m19, .ref m20, .ref m21, .ref m22, .ref m23, .int mtr]))]) ([(m0, .inr (5, [.int mfa_40, .int mho, .ref m2, .ref m3, .ref m4, .int mra, .int mrh, .ref m7, .ref m8, .ref m9, .ref m10, .ref m11, .ref m12, .int mch, .int mfr, .int mfw, .int mrd, .ref m17, .ref m18, .ref m19, .ref m20, .ref m21, .ref m22, .ref m23, .int mtr]))]) ([(m20, .inl (cI, 4, .inl SZ)), (m21, .inl (cI, 4, .inl LN)), (m22, .inl (cI, 240, .inl SH)), (m23, .inl (cI, 60, .inl HD))]) hP hD [0] [1, 2, 3, 4] [m0, m20, m21, m22, m23] 5 rfl rfl rfl rfl rfl (by decide) rfl rfl hk1 hB
        have hE9 : p5_copy mfa SZ LN SH HD i1 i2 i3 i4 i5 = (r_40, mfa_40, SH, HD) := by unfold p5_copy; simp only [er_40, emfa_40]; rw [if_pos c_4, if_pos c_11, if_pos c_26]
        exact W.iret (v := r_40) hx hb hr (fun t ht hW => ⟨⟨_, (), rfl, by rw [hE9], by show va_P (dC, dI) vwCl _ t.heap; rw [ht, hE9]; exact hP⟩, hS.F ht⟩) hS.2.2 dX5_copy_43
      · skip
        refine lv_aload_n hx hb dX5_copy_29 rfl (lv_at hl 0 rfl) ?_
        refine va_get (D := (dC, dI)) (ci := 5) (v := .ref m20) (C := RX5) (T := TX5) (N := 25) hx hb hts hin5 hown hK hP 0 rfl rfl 20 (by decide) kf_46 (fun _ h9 => h9) rfl dX5_copy_30 ?_
        refine lv_iload_n hx hb dX5_copy_33 rfl (lv_at hl 3 rfl) ?_
        refine va_iald hx hb hK hP 1 0 rfl rfl (by assumption) dX5_copy_34 ?_
        refine lv_if_ge (tgt := 44) hx hb dX5_copy_35 (by decide) (fun c_35 => ?_) (fun c_35 => ?_)
        · skip
          refine lv_aload_n hx hb dX5_copy_44 rfl (lv_at hl 0 rfl) ?_
          refine va_get (D := (dC, dI)) (ci := 5) (v := .ref m21) (C := RX5) (T := TX5) (N := 25) hx hb hts hin5 hown hK hP 0 rfl rfl 21 (by decide) kf_49 (fun _ h9 => h9) rfl dX5_copy_45 ?_
          refine lv_iload_n hx hb dX5_copy_48 rfl (lv_at hl 1 rfl) ?_
          refine va_iald hx hb hK hP 2 0 rfl rfl (by assumption) dX5_copy_49 ?_
          refine lv_aload_n hx hb dX5_copy_50 rfl (lv_at hl 0 rfl) ?_
          refine va_get (D := (dC, dI)) (ci := 5) (v := .ref m21) (C := RX5) (T := TX5) (N := 25) hx hb hts hin5 hown hK hP 0 rfl rfl 21 (by decide) kf_49 (fun _ h9 => h9) rfl dX5_copy_51 ?_
          refine lv_iload_n hx hb dX5_copy_54 rfl (lv_at hl 3 rfl) ?_
          refine va_iald hx hb hK hP 2 0 rfl rfl (by assumption) dX5_copy_55 ?_
          refine lv_icmp_eq (tgt := 65) hx hb dX5_copy_56 (by decide) (fun c_56 => ?_) (fun c_56 => ?_)
          · skip
            refine lv_iload_n hx hb dX5_copy_65 rfl (lv_at hl 2 rfl) ?_
            refine lv_iload hx hb dX5_copy_66 (lv_at hl 5 rfl) ?_
            refine lv_i2l (v := i5.toInt64) hx hb dX5_copy_68 rfl ?_
            refine lv_aload_n hx hb dX5_copy_69 rfl (lv_at hl 0 rfl) ?_
            refine va_get (D := (dC, dI)) (ci := 5) (v := .ref m20) (C := RX5) (T := TX5) (N := 25) hx hb hts hin5 hown hK hP 0 rfl rfl 20 (by decide) kf_46 (fun _ h9 => h9) rfl dX5_copy_70 ?_
            refine lv_iload_n hx hb dX5_copy_73 rfl (lv_at hl 1 rfl) ?_
            refine va_iald hx hb hK hP 1 0 rfl rfl (by assumption) dX5_copy_74 ?_
            have hPc : va_P (dC, dI) vwCl [] H := hP.sub (ws' := []) [] rfl
            have hDc : va_D A [] := hD.sub (ws' := []) [] (by decide) rfl
            have hKc := hK.sub (tys' := [(cI, .int)]) [0] rfl
            have hFc := va_free (wc := []) hD hS hA [] rfl
            refine va_calli (va_runS (As := [.int i2, .long i5.toInt64, .int (SZ i1.toNatClampNeg)]) (rest := []) ⟨hx, hb, hml, hown, hts⟩ (ctX5_isBeyond l dC dI cI H.size i2 i5.toInt64 (SZ i1.toNatClampNeg)) (va_cwS 3 hts gX5_copy_X5_isBeyond rfl rfl rfl (by decide +kernel) ⟨Nat.le_of_ble_eq_true rfl, Nat.le_of_ble_eq_true rfl⟩) (pre_S hKc hN hPc hDc) rfl rfl hl.1 rfl (lv_room (Nat.le_of_ble_eq_true rfl)) dX5_copy_75 ⟨Nat.le_of_ble_eq_true rfl, Nat.le_of_ble_eq_true rfl⟩) hS (fun q _ h => hFc q h) hFc (fun r _ t H locs ht hvm hw hB hz1 hk1 hS => ?_)
            try dsimp only at hw
            subst hw
            rw [ht] at hB
            obtain ⟨hP, hD⟩ := rw_join ([(m0, .inr (5, [.int mfa, .int mho, .ref m2, .ref m3, .ref m4, .int mra, .int mrh, .ref m7, .ref m8, .ref m9, .ref m10, .ref m11, .ref m12, .int mch, .int mfr, .int mfw, .int mrd, .ref m17, .ref m18, .ref m19, .ref m20, .ref m21, .ref m22, .ref m23, .int mtr])), (m20, .inl (cI, 4, .inl SZ)), (m21, .inl (cI, 4, .inl LN)), (m22, .inl (cI, 240, .inl SH)), (m23, .inl (cI, 60, .inl HD))]) ([(m0, .inr (5, [.int mfa, .int mho, .ref m2, .ref m3, .ref m4, .int mra, .int mrh, .ref m7, .ref m8, .ref m9, .ref m10, .ref m11, .ref m12, .int mch, .int mfr, .int mfw, .int mrd, .ref m17, .ref m18, .ref m19, .ref m20, .ref m21, .ref m22, .ref m23, .int mtr])), (m20, .inl (cI, 4, .inl SZ)), (m21, .inl (cI, 4, .inl LN)), (m22, .inl (cI, 240, .inl SH)), (m23, .inl (cI, 60, .inl HD))]) ([]) ([]) ([(m0, .inr (5, [.int mfa, .int mho, .ref m2, .ref m3, .ref m4, .int mra, .int mrh, .ref m7, .ref m8, .ref m9, .ref m10, .ref m11, .ref m12, .int mch, .int mfr, .int mfw, .int mrd, .ref m17, .ref m18, .ref m19, .ref m20, .ref m21, .ref m22, .ref m23, .int mtr])), (m20, .inl (cI, 4, .inl SZ)), (m21, .inl (cI, 4, .inl LN)), (m22, .inl (cI, 240, .inl SH)), (m23, .inl (cI, 60, .inl HD))]) hP hD [] [0, 1, 2, 3, 4] [m0, m20, m21, m22, m23] 5 rfl rfl rfl rfl rfl (by decide) rfl rfl hk1 hB
            refine lv_if_ne (tgt := 98) hx hb dX5_copy_78 (by decide) (fun c_78 => ?_) (fun c_78 => ?_)
            · skip
              refine lv_aload_n hx hb dX5_copy_98 rfl (lv_at hl 0 rfl) ?_
              refine lv_iconst (v := 3) hx hb dX5_copy_99 (by decide) ?_
              have hPc := hP.sub (ws' := [(m0, .inr (5, [.int mfa, .int mho, .ref m2, .ref m3, .ref m4, .int mra, .int mrh, .ref m7, .ref m8, .ref m9, .ref m10, .ref m11, .ref m12, .int mch, .int mfr, .int mfw, .int mrd, .ref m17, .ref m18, .ref m19, .ref m20, .ref m21, .ref m22, .ref m23, .int mtr]))]) [0] rfl
              have hDc := hD.sub (ws' := [(m0, .inr (5, [.int mfa, .int mho, .ref m2, .ref m3, .ref m4, .int mra, .int mrh, .ref m7, .ref m8, .ref m9, .ref m10, .ref m11, .ref m12, .int mch, .int mfr, .int mfw, .int mrd, .ref m17, .ref m18, .ref m19, .ref m20, .ref m21, .ref m22, .ref m23, .int mtr]))]) [0] (by decide) rfl
              have hKc := hK.sub (tys' := [(cI, .int)]) [0] rfl
              have hFc := va_free (wc := [(m0, .inr (5, [.int mfa, .int mho, .ref m2, .ref m3, .ref m4, .int mra, .int mrh, .ref m7, .ref m8, .ref m9, .ref m10, .ref m11, .ref m12, .int mch, .int mfr, .int mfw, .int mrd, .ref m17, .ref m18, .ref m19, .ref m20, .ref m21, .ref m22, .ref m23, .int mtr]))]) hD hS hA [0] rfl
              refine va_calli (va_runV (As := [.int 3]) (rest := []) ⟨hx, hb, hml, hown, hts⟩ (ctX5_failed l dC dI cI m0 m2 m3 m4 m7 m8 m9 m10 m11 m12 m17 m18 m19 m20 m21 m22 m23 H.size mfa mho mra mrh mch mfr mfw mrd mtr 3) (cwV 1 hts gX5_copy_X5_failed rfl rfl rfl (by decide +kernel) ⟨Nat.le_of_ble_eq_true rfl, Nat.le_of_ble_eq_true rfl⟩) (pre_V hKc hN hPc hDc (RX5, TX5, 25) 5 0 rfl rfl) rfl rfl hl.1 rfl (lv_room (Nat.le_of_ble_eq_true rfl)) dX5_copy_100 ⟨Nat.le_of_ble_eq_true rfl, Nat.le_of_ble_eq_true rfl⟩) hS (fun q _ h => hFc q h) hFc (fun r_100 _ t H locs ht hvm hw hB hz1 hk1 hS => ?_)
              try dsimp only at hw
              have er_100 := hw.symm
              rw [ht] at hB
              refine nm_gen ((p5_failed mfa 3).2) (fun mfa_100 emfa_100 => ?_)
              rw [emfa_100] at hB
              obtain ⟨hP, hD⟩ := rw_join ([(m0, .inr (5, [.int mfa, .int mho, .ref m2, .ref m3, .ref m4, .int mra, .int mrh, .ref m7, .ref m8, .ref m9, .ref m10, .ref m11, .ref m12, .int mch, .int mfr, .int mfw, .int mrd, .ref m17, .ref m18, .ref m19, .ref m20, .ref m21, .ref m22, .ref m23, .int mtr])), (m20, .inl (cI, 4, .inl SZ)), (m21, .inl (cI, 4, .inl LN)), (m22, .inl (cI, 240, .inl SH)), (m23, .inl (cI, 60, .inl HD))]) ([(m0, .inr (5, [.int mfa_100, .int mho, .ref m2, .ref m3, .ref m4, .int mra, .int mrh, .ref m7, .ref m8, .ref m9, .ref m10, .ref m11, .ref m12, .int mch, .int mfr, .int mfw, .int mrd, .ref m17, .ref m18, .ref m19, .ref m20, .ref m21, .ref m22, .ref m23, .int mtr])), (m20, .inl (cI, 4, .inl SZ)), (m21, .inl (cI, 4, .inl LN)), (m22, .inl (cI, 240, .inl SH)), (m23, .inl (cI, 60, .inl HD))]) ([(m0, .inr (5, [.int mfa, .int mho, .ref m2, .ref m3, .ref m4, .int mra, .int mrh, .ref m7, .ref m8, .ref m9, .ref m10, .ref m11, .ref m12, .int mch, .int mfr, .int mfw, .int mrd, .ref m17, .ref m18, .ref m19, .ref m20, .ref m21, .ref m22, .ref m23, .int mtr]))]) ([(m0, .inr (5, [.int mfa_100, .int mho, .ref m2, .ref m3, .ref m4, .int mra, .int mrh, .ref m7, .ref m8, .ref m9, .ref m10, .ref m11, .ref m12, .int mch, .int mfr, .int mfw, .int mrd, .ref m17, .ref m18, .ref m19, .ref m20, .ref m21, .ref m22, .ref m23, .int mtr]))]) ([(m20, .inl (cI, 4, .inl SZ)), (m21, .inl (cI, 4, .inl LN)), (m22, .inl (cI, 240, .inl SH)), (m23, .inl (cI, 60, .inl HD))]) hP hD [0] [1, 2, 3, 4] [m0, m20, m21, m22, m23] 5 rfl rfl rfl rfl rfl (by decide) rfl rfl hk1 hB
              have hE9 : p5_copy mfa SZ LN SH HD i1 i2 i3 i4 i5 = (r_100, mfa_100, SH, HD) := by unfold p5_copy; simp only [er_100, emfa_100]; rw [if_pos c_4, if_pos c_11, if_neg c_26, if_pos c_35, if_pos c_56, if_neg c_78]
              exact W.iret (v := r_100) hx hb hr (fun t ht hW => ⟨⟨_, (), rfl, by rw [hE9], by show va_P (dC, dI) vwCl _ t.heap; rw [ht, hE9]; exact hP⟩, hS.F ht⟩) hS.2.2 dX5_copy_103
            · skip
              refine lv_iload hx hb dX5_copy_81 (lv_at hl 4 rfl) ?_
              refine lv_iload hx hb dX5_copy_83 (lv_at hl 5 rfl) ?_
              refine lv_i2l (v := i5.toInt64) hx hb dX5_copy_85 rfl ?_
              refine lv_aload_n hx hb dX5_copy_86 rfl (lv_at hl 0 rfl) ?_
              refine va_get (D := (dC, dI)) (ci := 5) (v := .ref m20) (C := RX5) (T := TX5) (N := 25) hx hb hts hin5 hown hK hP 0 rfl rfl 20 (by decide) kf_46 (fun _ h9 => h9) rfl dX5_copy_87 ?_
              refine lv_iload_n hx hb dX5_copy_90 rfl (lv_at hl 3 rfl) ?_
              refine va_iald hx hb hK hP 1 0 rfl rfl (by assumption) dX5_copy_91 ?_
              have hPc : va_P (dC, dI) vwCl [] H := hP.sub (ws' := []) [] rfl
              have hDc : va_D A [] := hD.sub (ws' := []) [] (by decide) rfl
              have hKc := hK.sub (tys' := [(cI, .int)]) [0] rfl
              have hFc := va_free (wc := []) hD hS hA [] rfl
              refine va_calli (va_runS (As := [.int i4, .long i5.toInt64, .int (SZ i3.toNatClampNeg)]) (rest := []) ⟨hx, hb, hml, hown, hts⟩ (ctX5_isBeyond l dC dI cI H.size i4 i5.toInt64 (SZ i3.toNatClampNeg)) (va_cwS 3 hts gX5_copy_X5_isBeyond rfl rfl rfl (by decide +kernel) ⟨Nat.le_of_ble_eq_true rfl, Nat.le_of_ble_eq_true rfl⟩) (pre_S hKc hN hPc hDc) rfl rfl hl.1 rfl (lv_room (Nat.le_of_ble_eq_true rfl)) dX5_copy_92 ⟨Nat.le_of_ble_eq_true rfl, Nat.le_of_ble_eq_true rfl⟩) hS (fun q _ h => hFc q h) hFc (fun r _ t H locs ht hvm hw hB hz1 hk1 hS => ?_)
              try dsimp only at hw
              subst hw
              rw [ht] at hB
              obtain ⟨hP, hD⟩ := rw_join ([(m0, .inr (5, [.int mfa, .int mho, .ref m2, .ref m3, .ref m4, .int mra, .int mrh, .ref m7, .ref m8, .ref m9, .ref m10, .ref m11, .ref m12, .int mch, .int mfr, .int mfw, .int mrd, .ref m17, .ref m18, .ref m19, .ref m20, .ref m21, .ref m22, .ref m23, .int mtr])), (m20, .inl (cI, 4, .inl SZ)), (m21, .inl (cI, 4, .inl LN)), (m22, .inl (cI, 240, .inl SH)), (m23, .inl (cI, 60, .inl HD))]) ([(m0, .inr (5, [.int mfa, .int mho, .ref m2, .ref m3, .ref m4, .int mra, .int mrh, .ref m7, .ref m8, .ref m9, .ref m10, .ref m11, .ref m12, .int mch, .int mfr, .int mfw, .int mrd, .ref m17, .ref m18, .ref m19, .ref m20, .ref m21, .ref m22, .ref m23, .int mtr])), (m20, .inl (cI, 4, .inl SZ)), (m21, .inl (cI, 4, .inl LN)), (m22, .inl (cI, 240, .inl SH)), (m23, .inl (cI, 60, .inl HD))]) ([]) ([]) ([(m0, .inr (5, [.int mfa, .int mho, .ref m2, .ref m3, .ref m4, .int mra, .int mrh, .ref m7, .ref m8, .ref m9, .ref m10, .ref m11, .ref m12, .int mch, .int mfr, .int mfw, .int mrd, .ref m17, .ref m18, .ref m19, .ref m20, .ref m21, .ref m22, .ref m23, .int mtr])), (m20, .inl (cI, 4, .inl SZ)), (m21, .inl (cI, 4, .inl LN)), (m22, .inl (cI, 240, .inl SH)), (m23, .inl (cI, 60, .inl HD))]) hP hD [] [0, 1, 2, 3, 4] [m0, m20, m21, m22, m23] 5 rfl rfl rfl rfl rfl (by decide) rfl rfl hk1 hB
              refine lv_if_eq (tgt := 104) hx hb dX5_copy_95 (by decide) (fun c_95 => ?_) (fun c_95 => ?_)
              · skip
                have jq : cq i1 i2 i3 i4 i5 := cq_of j1 j3 (hSZ _) (hSZ _) c_78 c_95
                refine lv_iconst (v := 0) hx hb dX5_copy_104 (by decide) ?_
                refine lv_istore (lv' := [(6, .int 0), (0, .ref m0), (1, .int i1), (2, .int i2), (3, .int i3), (4, .int i4), (5, .int i5)]) hx hb dX5_copy_105 hl (by decide) rfl (fun ls hl => ?_)
                exact lp_107 61 0 HD _ _ _ (up_i 60 (by decide) (cq_n jq)) jq hP hD hS (lv_sub hl [0, 1, 2, 3, 4, 5, 6] rfl) (by unfold p5_copy; rw [if_pos c_4, if_pos c_11, if_neg c_26, if_pos c_35, if_pos c_56, if_pos c_78, if_pos c_95])
              · skip
                refine lv_aload_n hx hb dX5_copy_98 rfl (lv_at hl 0 rfl) ?_
                refine lv_iconst (v := 3) hx hb dX5_copy_99 (by decide) ?_
                have hPc := hP.sub (ws' := [(m0, .inr (5, [.int mfa, .int mho, .ref m2, .ref m3, .ref m4, .int mra, .int mrh, .ref m7, .ref m8, .ref m9, .ref m10, .ref m11, .ref m12, .int mch, .int mfr, .int mfw, .int mrd, .ref m17, .ref m18, .ref m19, .ref m20, .ref m21, .ref m22, .ref m23, .int mtr]))]) [0] rfl
                have hDc := hD.sub (ws' := [(m0, .inr (5, [.int mfa, .int mho, .ref m2, .ref m3, .ref m4, .int mra, .int mrh, .ref m7, .ref m8, .ref m9, .ref m10, .ref m11, .ref m12, .int mch, .int mfr, .int mfw, .int mrd, .ref m17, .ref m18, .ref m19, .ref m20, .ref m21, .ref m22, .ref m23, .int mtr]))]) [0] (by decide) rfl
                have hKc := hK.sub (tys' := [(cI, .int)]) [0] rfl
                have hFc := va_free (wc := [(m0, .inr (5, [.int mfa, .int mho, .ref m2, .ref m3, .ref m4, .int mra, .int mrh, .ref m7, .ref m8, .ref m9, .ref m10, .ref m11, .ref m12, .int mch, .int mfr, .int mfw, .int mrd, .ref m17, .ref m18, .ref m19, .ref m20, .ref m21, .ref m22, .ref m23, .int mtr]))]) hD hS hA [0] rfl
                refine va_calli (va_runV (As := [.int 3]) (rest := []) ⟨hx, hb, hml, hown, hts⟩ (ctX5_failed l dC dI cI m0 m2 m3 m4 m7 m8 m9 m10 m11 m12 m17 m18 m19 m20 m21 m22 m23 H.size mfa mho mra mrh mch mfr mfw mrd mtr 3) (cwV 1 hts gX5_copy_X5_failed rfl rfl rfl (by decide +kernel) ⟨Nat.le_of_ble_eq_true rfl, Nat.le_of_ble_eq_true rfl⟩) (pre_V hKc hN hPc hDc (RX5, TX5, 25) 5 0 rfl rfl) rfl rfl hl.1 rfl (lv_room (Nat.le_of_ble_eq_true rfl)) dX5_copy_100 ⟨Nat.le_of_ble_eq_true rfl, Nat.le_of_ble_eq_true rfl⟩) hS (fun q _ h => hFc q h) hFc (fun r_100 _ t H locs ht hvm hw hB hz1 hk1 hS => ?_)
                try dsimp only at hw
                have er_100 := hw.symm
                rw [ht] at hB
                refine nm_gen ((p5_failed mfa 3).2) (fun mfa_100 emfa_100 => ?_)
                rw [emfa_100] at hB
                obtain ⟨hP, hD⟩ := rw_join ([(m0, .inr (5, [.int mfa, .int mho, .ref m2, .ref m3, .ref m4, .int mra, .int mrh, .ref m7, .ref m8, .ref m9, .ref m10, .ref m11, .ref m12, .int mch, .int mfr, .int mfw, .int mrd, .ref m17, .ref m18, .ref m19, .ref m20, .ref m21, .ref m22, .ref m23, .int mtr])), (m20, .inl (cI, 4, .inl SZ)), (m21, .inl (cI, 4, .inl LN)), (m22, .inl (cI, 240, .inl SH)), (m23, .inl (cI, 60, .inl HD))]) ([(m0, .inr (5, [.int mfa_100, .int mho, .ref m2, .ref m3, .ref m4, .int mra, .int mrh, .ref m7, .ref m8, .ref m9, .ref m10, .ref m11, .ref m12, .int mch, .int mfr, .int mfw, .int mrd, .ref m17, .ref m18, .ref m19, .ref m20, .ref m21, .ref m22, .ref m23, .int mtr])), (m20, .inl (cI, 4, .inl SZ)), (m21, .inl (cI, 4, .inl LN)), (m22, .inl (cI, 240, .inl SH)), (m23, .inl (cI, 60, .inl HD))]) ([(m0, .inr (5, [.int mfa, .int mho, .ref m2, .ref m3, .ref m4, .int mra, .int mrh, .ref m7, .ref m8, .ref m9, .ref m10, .ref m11, .ref m12, .int mch, .int mfr, .int mfw, .int mrd, .ref m17, .ref m18, .ref m19, .ref m20, .ref m21, .ref m22, .ref m23, .int mtr]))]) ([(m0, .inr (5, [.int mfa_100, .int mho, .ref m2, .ref m3, .ref m4, .int mra, .int mrh, .ref m7, .ref m8, .ref m9, .ref m10, .ref m11, .ref m12, .int mch, .int mfr, .int mfw, .int mrd, .ref m17, .ref m18, .ref m19, .ref m20, .ref m21, .ref m22, .ref m23, .int mtr]))]) ([(m20, .inl (cI, 4, .inl SZ)), (m21, .inl (cI, 4, .inl LN)), (m22, .inl (cI, 240, .inl SH)), (m23, .inl (cI, 60, .inl HD))]) hP hD [0] [1, 2, 3, 4] [m0, m20, m21, m22, m23] 5 rfl rfl rfl rfl rfl (by decide) rfl rfl hk1 hB
                have hE9 : p5_copy mfa SZ LN SH HD i1 i2 i3 i4 i5 = (r_100, mfa_100, SH, HD) := by unfold p5_copy; simp only [er_100, emfa_100]; rw [if_pos c_4, if_pos c_11, if_neg c_26, if_pos c_35, if_pos c_56, if_pos c_78, if_neg c_95]
                exact W.iret (v := r_100) hx hb hr (fun t ht hW => ⟨⟨_, (), rfl, by rw [hE9], by show va_P (dC, dI) vwCl _ t.heap; rw [ht, hE9]; exact hP⟩, hS.F ht⟩) hS.2.2 dX5_copy_103
          · skip
            refine lv_aload_n hx hb dX5_copy_59 rfl (lv_at hl 0 rfl) ?_
            refine lv_iconst (v := 2) hx hb dX5_copy_60 (by decide) ?_
            have hPc := hP.sub (ws' := [(m0, .inr (5, [.int mfa, .int mho, .ref m2, .ref m3, .ref m4, .int mra, .int mrh, .ref m7, .ref m8, .ref m9, .ref m10, .ref m11, .ref m12, .int mch, .int mfr, .int mfw, .int mrd, .ref m17, .ref m18, .ref m19, .ref m20, .ref m21, .ref m22, .ref m23, .int mtr]))]) [0] rfl
            have hDc := hD.sub (ws' := [(m0, .inr (5, [.int mfa, .int mho, .ref m2, .ref m3, .ref m4, .int mra, .int mrh, .ref m7, .ref m8, .ref m9, .ref m10, .ref m11, .ref m12, .int mch, .int mfr, .int mfw, .int mrd, .ref m17, .ref m18, .ref m19, .ref m20, .ref m21, .ref m22, .ref m23, .int mtr]))]) [0] (by decide) rfl
            have hKc := hK.sub (tys' := [(cI, .int)]) [0] rfl
            have hFc := va_free (wc := [(m0, .inr (5, [.int mfa, .int mho, .ref m2, .ref m3, .ref m4, .int mra, .int mrh, .ref m7, .ref m8, .ref m9, .ref m10, .ref m11, .ref m12, .int mch, .int mfr, .int mfw, .int mrd, .ref m17, .ref m18, .ref m19, .ref m20, .ref m21, .ref m22, .ref m23, .int mtr]))]) hD hS hA [0] rfl
            refine va_calli (va_runV (As := [.int 2]) (rest := []) ⟨hx, hb, hml, hown, hts⟩ (ctX5_failed l dC dI cI m0 m2 m3 m4 m7 m8 m9 m10 m11 m12 m17 m18 m19 m20 m21 m22 m23 H.size mfa mho mra mrh mch mfr mfw mrd mtr 2) (cwV 1 hts gX5_copy_X5_failed rfl rfl rfl (by decide +kernel) ⟨Nat.le_of_ble_eq_true rfl, Nat.le_of_ble_eq_true rfl⟩) (pre_V hKc hN hPc hDc (RX5, TX5, 25) 5 0 rfl rfl) rfl rfl hl.1 rfl (lv_room (Nat.le_of_ble_eq_true rfl)) dX5_copy_61 ⟨Nat.le_of_ble_eq_true rfl, Nat.le_of_ble_eq_true rfl⟩) hS (fun q _ h => hFc q h) hFc (fun r_61 _ t H locs ht hvm hw hB hz1 hk1 hS => ?_)
            try dsimp only at hw
            have er_61 := hw.symm
            rw [ht] at hB
            refine nm_gen ((p5_failed mfa 2).2) (fun mfa_61 emfa_61 => ?_)
            rw [emfa_61] at hB
            obtain ⟨hP, hD⟩ := rw_join ([(m0, .inr (5, [.int mfa, .int mho, .ref m2, .ref m3, .ref m4, .int mra, .int mrh, .ref m7, .ref m8, .ref m9, .ref m10, .ref m11, .ref m12, .int mch, .int mfr, .int mfw, .int mrd, .ref m17, .ref m18, .ref m19, .ref m20, .ref m21, .ref m22, .ref m23, .int mtr])), (m20, .inl (cI, 4, .inl SZ)), (m21, .inl (cI, 4, .inl LN)), (m22, .inl (cI, 240, .inl SH)), (m23, .inl (cI, 60, .inl HD))]) ([(m0, .inr (5, [.int mfa_61, .int mho, .ref m2, .ref m3, .ref m4, .int mra, .int mrh, .ref m7, .ref m8, .ref m9, .ref m10, .ref m11, .ref m12, .int mch, .int mfr, .int mfw, .int mrd, .ref m17, .ref m18, .ref m19, .ref m20, .ref m21, .ref m22, .ref m23, .int mtr])), (m20, .inl (cI, 4, .inl SZ)), (m21, .inl (cI, 4, .inl LN)), (m22, .inl (cI, 240, .inl SH)), (m23, .inl (cI, 60, .inl HD))]) ([(m0, .inr (5, [.int mfa, .int mho, .ref m2, .ref m3, .ref m4, .int mra, .int mrh, .ref m7, .ref m8, .ref m9, .ref m10, .ref m11, .ref m12, .int mch, .int mfr, .int mfw, .int mrd, .ref m17, .ref m18, .ref m19, .ref m20, .ref m21, .ref m22, .ref m23, .int mtr]))]) ([(m0, .inr (5, [.int mfa_61, .int mho, .ref m2, .ref m3, .ref m4, .int mra, .int mrh, .ref m7, .ref m8, .ref m9, .ref m10, .ref m11, .ref m12, .int mch, .int mfr, .int mfw, .int mrd, .ref m17, .ref m18, .ref m19, .ref m20, .ref m21, .ref m22, .ref m23, .int mtr]))]) ([(m20, .inl (cI, 4, .inl SZ)), (m21, .inl (cI, 4, .inl LN)), (m22, .inl (cI, 240, .inl SH)), (m23, .inl (cI, 60, .inl HD))]) hP hD [0] [1, 2, 3, 4] [m0, m20, m21, m22, m23] 5 rfl rfl rfl rfl rfl (by decide) rfl rfl hk1 hB
            have hE9 : p5_copy mfa SZ LN SH HD i1 i2 i3 i4 i5 = (r_61, mfa_61, SH, HD) := by unfold p5_copy; simp only [er_61, emfa_61]; rw [if_pos c_4, if_pos c_11, if_neg c_26, if_pos c_35, if_neg c_56]
            exact W.iret (v := r_61) hx hb hr (fun t ht hW => ⟨⟨_, (), rfl, by rw [hE9], by show va_P (dC, dI) vwCl _ t.heap; rw [ht, hE9]; exact hP⟩, hS.F ht⟩) hS.2.2 dX5_copy_64
        · skip
          refine lv_aload_n hx hb dX5_copy_38 rfl (lv_at hl 0 rfl) ?_
          refine lv_iconst (v := 1) hx hb dX5_copy_39 (by decide) ?_
          have hPc := hP.sub (ws' := [(m0, .inr (5, [.int mfa, .int mho, .ref m2, .ref m3, .ref m4, .int mra, .int mrh, .ref m7, .ref m8, .ref m9, .ref m10, .ref m11, .ref m12, .int mch, .int mfr, .int mfw, .int mrd, .ref m17, .ref m18, .ref m19, .ref m20, .ref m21, .ref m22, .ref m23, .int mtr]))]) [0] rfl
          have hDc := hD.sub (ws' := [(m0, .inr (5, [.int mfa, .int mho, .ref m2, .ref m3, .ref m4, .int mra, .int mrh, .ref m7, .ref m8, .ref m9, .ref m10, .ref m11, .ref m12, .int mch, .int mfr, .int mfw, .int mrd, .ref m17, .ref m18, .ref m19, .ref m20, .ref m21, .ref m22, .ref m23, .int mtr]))]) [0] (by decide) rfl
          have hKc := hK.sub (tys' := [(cI, .int)]) [0] rfl
          have hFc := va_free (wc := [(m0, .inr (5, [.int mfa, .int mho, .ref m2, .ref m3, .ref m4, .int mra, .int mrh, .ref m7, .ref m8, .ref m9, .ref m10, .ref m11, .ref m12, .int mch, .int mfr, .int mfw, .int mrd, .ref m17, .ref m18, .ref m19, .ref m20, .ref m21, .ref m22, .ref m23, .int mtr]))]) hD hS hA [0] rfl
          refine va_calli (va_runV (As := [.int 1]) (rest := []) ⟨hx, hb, hml, hown, hts⟩ (ctX5_failed l dC dI cI m0 m2 m3 m4 m7 m8 m9 m10 m11 m12 m17 m18 m19 m20 m21 m22 m23 H.size mfa mho mra mrh mch mfr mfw mrd mtr 1) (cwV 1 hts gX5_copy_X5_failed rfl rfl rfl (by decide +kernel) ⟨Nat.le_of_ble_eq_true rfl, Nat.le_of_ble_eq_true rfl⟩) (pre_V hKc hN hPc hDc (RX5, TX5, 25) 5 0 rfl rfl) rfl rfl hl.1 rfl (lv_room (Nat.le_of_ble_eq_true rfl)) dX5_copy_40 ⟨Nat.le_of_ble_eq_true rfl, Nat.le_of_ble_eq_true rfl⟩) hS (fun q _ h => hFc q h) hFc (fun r_40 _ t H locs ht hvm hw hB hz1 hk1 hS => ?_)
          try dsimp only at hw
          have er_40 := hw.symm
          rw [ht] at hB
          refine nm_gen ((p5_failed mfa 1).2) (fun mfa_40 emfa_40 => ?_)
          rw [emfa_40] at hB
          obtain ⟨hP, hD⟩ := rw_join ([(m0, .inr (5, [.int mfa, .int mho, .ref m2, .ref m3, .ref m4, .int mra, .int mrh, .ref m7, .ref m8, .ref m9, .ref m10, .ref m11, .ref m12, .int mch, .int mfr, .int mfw, .int mrd, .ref m17, .ref m18, .ref m19, .ref m20, .ref m21, .ref m22, .ref m23, .int mtr])), (m20, .inl (cI, 4, .inl SZ)), (m21, .inl (cI, 4, .inl LN)), (m22, .inl (cI, 240, .inl SH)), (m23, .inl (cI, 60, .inl HD))]) ([(m0, .inr (5, [.int mfa_40, .int mho, .ref m2, .ref m3, .ref m4, .int mra, .int mrh, .ref m7, .ref m8, .ref m9, .ref m10, .ref m11, .ref m12, .int mch, .int mfr, .int mfw, .int mrd, .ref m17, .ref m18, .ref m19, .ref m20, .ref m21, .ref m22, .ref m23, .int mtr])), (m20, .inl (cI, 4, .inl SZ)), (m21, .inl (cI, 4, .inl LN)), (m22, .inl (cI, 240, .inl SH)), (m23, .inl (cI, 60, .inl HD))]) ([(m0, .inr (5, [.int mfa, .int mho, .ref m2, .ref m3, .ref m4, .int mra, .int mrh, .ref m7, .ref m8, .ref m9, .ref m10, .ref m11, .ref m12, .int mch, .int mfr, .int mfw, .int mrd, .ref m17, .ref m18, .ref m19, .ref m20, .ref m21, .ref m22, .ref m23, .int mtr]))]) ([(m0, .inr (5, [.int mfa_40, .int mho, .ref m2, .ref m3, .ref m4, .int mra, .int mrh, .ref m7, .ref m8, .ref m9, .ref m10, .ref m11, .ref m12, .int mch, .int mfr, .int mfw, .int mrd, .ref m17, .ref m18, .ref m19, .ref m20, .ref m21, .ref m22, .ref m23, .int mtr]))]) ([(m20, .inl (cI, 4, .inl SZ)), (m21, .inl (cI, 4, .inl LN)), (m22, .inl (cI, 240, .inl SH)), (m23, .inl (cI, 60, .inl HD))]) hP hD [0] [1, 2, 3, 4] [m0, m20, m21, m22, m23] 5 rfl rfl rfl rfl rfl (by decide) rfl rfl hk1 hB
          have hE9 : p5_copy mfa SZ LN SH HD i1 i2 i3 i4 i5 = (r_40, mfa_40, SH, HD) := by unfold p5_copy; simp only [er_40, emfa_40]; rw [if_pos c_4, if_pos c_11, if_neg c_26, if_neg c_35]
          exact W.iret (v := r_40) hx hb hr (fun t ht hW => ⟨⟨_, (), rfl, by rw [hE9], by show va_P (dC, dI) vwCl _ t.heap; rw [ht, hE9]; exact hP⟩, hS.F ht⟩) hS.2.2 dX5_copy_43
    · skip
      refine lv_aload_n hx hb dX5_copy_14 rfl (lv_at hl 0 rfl) ?_
      refine lv_iconst (v := (-1)) hx hb dX5_copy_15 (by decide) ?_
      have hPc := hP.sub (ws' := [(m0, .inr (5, [.int mfa, .int mho, .ref m2, .ref m3, .ref m4, .int mra, .int mrh, .ref m7, .ref m8, .ref m9, .ref m10, .ref m11, .ref m12, .int mch, .int mfr, .int mfw, .int mrd, .ref m17, .ref m18, .ref m19, .ref m20, .ref m21, .ref m22, .ref m23, .int mtr]))]) [0] rfl
      have hDc := hD.sub (ws' := [(m0, .inr (5, [.int mfa, .int mho, .ref m2, .ref m3, .ref m4, .int mra, .int mrh, .ref m7, .ref m8, .ref m9, .ref m10, .ref m11, .ref m12, .int mch, .int mfr, .int mfw, .int mrd, .ref m17, .ref m18, .ref m19, .ref m20, .ref m21, .ref m22, .ref m23, .int mtr]))]) [0] (by decide) rfl
      have hKc := hK.sub (tys' := [(cI, .int)]) [0] rfl
      have hFc := va_free (wc := [(m0, .inr (5, [.int mfa, .int mho, .ref m2, .ref m3, .ref m4, .int mra, .int mrh, .ref m7, .ref m8, .ref m9, .ref m10, .ref m11, .ref m12, .int mch, .int mfr, .int mfw, .int mrd, .ref m17, .ref m18, .ref m19, .ref m20, .ref m21, .ref m22, .ref m23, .int mtr]))]) hD hS hA [0] rfl
      refine va_calli (va_runV (As := [.int (-1)]) (rest := []) ⟨hx, hb, hml, hown, hts⟩ (ctX5_refused l dC dI cI m0 m2 m3 m4 m7 m8 m9 m10 m11 m12 m17 m18 m19 m20 m21 m22 m23 H.size mfa mho mra mrh mch mfr mfw mrd mtr (-1)) (cwV 1 hts gX5_copy_X5_refused rfl rfl rfl (by decide +kernel) ⟨Nat.le_of_ble_eq_true rfl, Nat.le_of_ble_eq_true rfl⟩) (pre_V hKc hN hPc hDc (RX5, TX5, 25) 5 0 rfl rfl) rfl rfl hl.1 rfl (lv_room (Nat.le_of_ble_eq_true rfl)) dX5_copy_16 ⟨Nat.le_of_ble_eq_true rfl, Nat.le_of_ble_eq_true rfl⟩) hS (fun q _ h => hFc q h) hFc (fun r_16 _ t H locs ht hvm hw hB hz1 hk1 hS => ?_)
      try dsimp only at hw
      have er_16 := hw.symm
      rw [ht] at hB
      refine nm_gen ((p5_refused mfa (-1)).2) (fun mfa_16 emfa_16 => ?_)
      rw [emfa_16] at hB
      obtain ⟨hP, hD⟩ := rw_join ([(m0, .inr (5, [.int mfa, .int mho, .ref m2, .ref m3, .ref m4, .int mra, .int mrh, .ref m7, .ref m8, .ref m9, .ref m10, .ref m11, .ref m12, .int mch, .int mfr, .int mfw, .int mrd, .ref m17, .ref m18, .ref m19, .ref m20, .ref m21, .ref m22, .ref m23, .int mtr])), (m20, .inl (cI, 4, .inl SZ)), (m21, .inl (cI, 4, .inl LN)), (m22, .inl (cI, 240, .inl SH)), (m23, .inl (cI, 60, .inl HD))]) ([(m0, .inr (5, [.int mfa_16, .int mho, .ref m2, .ref m3, .ref m4, .int mra, .int mrh, .ref m7, .ref m8, .ref m9, .ref m10, .ref m11, .ref m12, .int mch, .int mfr, .int mfw, .int mrd, .ref m17, .ref m18, .ref m19, .ref m20, .ref m21, .ref m22, .ref m23, .int mtr])), (m20, .inl (cI, 4, .inl SZ)), (m21, .inl (cI, 4, .inl LN)), (m22, .inl (cI, 240, .inl SH)), (m23, .inl (cI, 60, .inl HD))]) ([(m0, .inr (5, [.int mfa, .int mho, .ref m2, .ref m3, .ref m4, .int mra, .int mrh, .ref m7, .ref m8, .ref m9, .ref m10, .ref m11, .ref m12, .int mch, .int mfr, .int mfw, .int mrd, .ref m17, .ref m18, .ref m19, .ref m20, .ref m21, .ref m22, .ref m23, .int mtr]))]) ([(m0, .inr (5, [.int mfa_16, .int mho, .ref m2, .ref m3, .ref m4, .int mra, .int mrh, .ref m7, .ref m8, .ref m9, .ref m10, .ref m11, .ref m12, .int mch, .int mfr, .int mfw, .int mrd, .ref m17, .ref m18, .ref m19, .ref m20, .ref m21, .ref m22, .ref m23, .int mtr]))]) ([(m20, .inl (cI, 4, .inl SZ)), (m21, .inl (cI, 4, .inl LN)), (m22, .inl (cI, 240, .inl SH)), (m23, .inl (cI, 60, .inl HD))]) hP hD [0] [1, 2, 3, 4] [m0, m20, m21, m22, m23] 5 rfl rfl rfl rfl rfl (by decide) rfl rfl hk1 hB
      have hE9 : p5_copy mfa SZ LN SH HD i1 i2 i3 i4 i5 = (r_16, mfa_16, SH, HD) := by unfold p5_copy; simp only [er_16, emfa_16]; rw [if_pos c_4, if_neg c_11]
      exact W.iret (v := r_16) hx hb hr (fun t ht hW => ⟨⟨_, (), rfl, by rw [hE9], by show va_P (dC, dI) vwCl _ t.heap; rw [ht, hE9]; exact hP⟩, hS.F ht⟩) hS.2.2 dX5_copy_19

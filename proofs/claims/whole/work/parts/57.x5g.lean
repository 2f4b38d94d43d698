def p5_city_l90 (mfa : Int32) (mho : Int32) (mra : Int32) (mrh : Int32) (mrd : Int32) (K : Nat → Int32) (L : Nat → Int32) (C : Nat → Int32) (RK : Nat → Int32) (RL : Nat → Int32) (RC : Nat → Int32) (SZ : Nat → Int32) (LN : Nat → Int32) (SH : Nat → Int32) (i1 : Int32) (i2 : Int32) (i3 : Int32) (i4 : Int32) : Nat → Int32 → Int32 → Int32 → Int32 → Int32 → (Nat → Int32) → (Nat → Int32) → (Nat → Int32) → (Nat → Int32) → (Nat → Int32) → (Nat → Int32) → Int32 × Int32 × Int32 × Int32 × Int32 × Int32 × (Nat → Int32) × (Nat → Int32) × (Nat → Int32) × (Nat → Int32) × (Nat → Int32) × (Nat → Int32)
  | 0, _, _, _, _, _, _, _, _, _, _, _ => (0, 0, 0, 0, 0, 0, fun _ => 0, fun _ => 0, fun _ => 0, fun _ => 0, fun _ => 0, fun _ => 0)
  | n + 1, v6, mfa_, mho_, mra_, mrh_, K_, L_, C_, RK_, RL_, RC_ =>
    if mho_ ≤ v6 then
      (((p5_refused mfa_ mho_).1), ((p5_refused mfa_ mho_).2), mho_, mra_, mrh_, 0, K_, L_, C_, RK_, RL_, RC_)
    else
      p5_city_l90 mfa mho mra mrh mrd K L C RK RL RC SZ LN SH i1 i2 i3 i4 n (v6 + 1) mfa_ mho_ mra_ mrh_ (upd K_ v6.toNatClampNeg (RK_ v6.toNatClampNeg)) (upd L_ v6.toNatClampNeg (RL_ v6.toNatClampNeg)) (upd C_ v6.toNatClampNeg (RC_ v6.toNatClampNeg)) RK_ RL_ RC_
theorem p5_city_l90_s (mfa : Int32) (mho : Int32) (mra : Int32) (mrh : Int32) (mrd : Int32) (K : Nat → Int32) (L : Nat → Int32) (C : Nat → Int32) (RK : Nat → Int32) (RL : Nat → Int32) (RC : Nat → Int32) (SZ : Nat → Int32) (LN : Nat → Int32) (SH : Nat → Int32) (i1 : Int32) (i2 : Int32) (i3 : Int32) (i4 : Int32) (n : Nat) (v6 : Int32) (mfa_ : Int32) (mho_ : Int32) (mra_ : Int32) (mrh_ : Int32) (K_ : Nat → Int32) (L_ : Nat → Int32) (C_ : Nat → Int32) (RK_ : Nat → Int32) (RL_ : Nat → Int32) (RC_ : Nat → Int32) : p5_city_l90 mfa mho mra mrh mrd K L C RK RL RC SZ LN SH i1 i2 i3 i4 (n + 1) v6 mfa_ mho_ mra_ mrh_ K_ L_ C_ RK_ RL_ RC_ =
    (if mho_ ≤ v6 then
      (((p5_refused mfa_ mho_).1), ((p5_refused mfa_ mho_).2), mho_, mra_, mrh_, 0, K_, L_, C_, RK_, RL_, RC_)
    else
      p5_city_l90 mfa mho mra mrh mrd K L C RK RL RC SZ LN SH i1 i2 i3 i4 n (v6 + 1) mfa_ mho_ mra_ mrh_ (upd K_ v6.toNatClampNeg (RK_ v6.toNatClampNeg)) (upd L_ v6.toNatClampNeg (RL_ v6.toNatClampNeg)) (upd C_ v6.toNatClampNeg (RC_ v6.toNatClampNeg)) RK_ RL_ RC_) := rfl
def p5_city (mfa : Int32) (mho : Int32) (mra : Int32) (mrh : Int32) (mrd : Int32) (K : Nat → Int32) (L : Nat → Int32) (C : Nat → Int32) (RK : Nat → Int32) (RL : Nat → Int32) (RC : Nat → Int32) (SZ : Nat → Int32) (LN : Nat → Int32) (SH : Nat → Int32) (i1 : Int32) (i2 : Int32) (i3 : Int32) (i4 : Int32) : Int32 × Int32 × Int32 × Int32 × Int32 × Int32 × (Nat → Int32) × (Nat → Int32) × (Nat → Int32) × (Nat → Int32) × (Nat → Int32) × (Nat → Int32) :=
  if (p5_noSheet i1) = 0 then
    if (p5_in i2.toInt64 0 2) = 0 then
      (((p5_refused mfa (-2)).1), ((p5_refused mfa (-2)).2), mho, mra, mrh, mrd, K, L, C, RK, RL, RC)
    else
      if 0 ≤ ((p5_cellsBarred mfa SZ LN i1 i2 i3 i4.toInt64).1) then
        if ((p5_readsCity mra mrh RK RL RC SH ((60 * i1) + i3) i4).1) = 0 then
          (((p5_refused ((p5_cellsBarred mfa SZ LN i1 i2 i3 i4.toInt64).2) ((-100) - ((p5_readsCity mra mrh RK RL RC SH ((60 * i1) + i3) i4).2.1))).1), ((p5_refused ((p5_cellsBarred mfa SZ LN i1 i2 i3 i4.toInt64).2) ((-100) - ((p5_readsCity mra mrh RK RL RC SH ((60 * i1) + i3) i4).2.1))).2), mho, ((p5_readsCity mra mrh RK RL RC SH ((60 * i1) + i3) i4).2.1), ((p5_readsCity mra mrh RK RL RC SH ((60 * i1) + i3) i4).2.2.1), mrd, K, L, C, ((p5_readsCity mra mrh RK RL RC SH ((60 * i1) + i3) i4).2.2.2.1), ((p5_readsCity mra mrh RK RL RC SH ((60 * i1) + i3) i4).2.2.2.2.1), ((p5_readsCity mra mrh RK RL RC SH ((60 * i1) + i3) i4).2.2.2.2.2))
        else
          p5_city_l90 mfa mho mra mrh mrd K L C RK RL RC SZ LN SH i1 i2 i3 i4 7 0 ((p5_cellsBarred mfa SZ LN i1 i2 i3 i4.toInt64).2) ((p5_readsCity mra mrh RK RL RC SH ((60 * i1) + i3) i4).2.2.1) ((p5_readsCity mra mrh RK RL RC SH ((60 * i1) + i3) i4).2.1) ((p5_readsCity mra mrh RK RL RC SH ((60 * i1) + i3) i4).2.2.1) K L C ((p5_readsCity mra mrh RK RL RC SH ((60 * i1) + i3) i4).2.2.2.1) ((p5_readsCity mra mrh RK RL RC SH ((60 * i1) + i3) i4).2.2.2.2.1) ((p5_readsCity mra mrh RK RL RC SH ((60 * i1) + i3) i4).2.2.2.2.2)
      else
        (((p5_cellsBarred mfa SZ LN i1 i2 i3 i4.toInt64).1), ((p5_cellsBarred mfa SZ LN i1 i2 i3 i4.toInt64).2), mho, mra, mrh, mrd, K, L, C, RK, RL, RC)
  else
    (((p5_refused mfa (-1)).1), ((p5_refused mfa (-1)).2), mho, mra, mrh, mrd, K, L, C, RK, RL, RC)
abbrev rmX5_city : Room := { frames := 4, cells := 0, slots := 0, locals := 97 }
abbrev QX5_city (dC : Nat → ClassId) (dI : Nat → Nat → Nat) (A : Nat → Prop) (cI : ClassId) (m0 : Nat) (m2 : Nat) (m3 : Nat) (m4 : Nat) (m7 : Nat) (m8 : Nat) (m9 : Nat) (m10 : Nat) (m11 : Nat) (m12 : Nat) (m17 : Nat) (m18 : Nat) (m19 : Nat) (m20 : Nat) (m21 : Nat) (m22 : Nat) (m23 : Nat) (mfa : Int32) (mho : Int32) (mra : Int32) (mrh : Int32) (mch : Int32) (mfr : Int32) (mfw : Int32) (mrd : Int32) (mtr : Int32) (K : Nat → Int32) (L : Nat → Int32) (C : Nat → Int32) (RK : Nat → Int32) (RL : Nat → Int32) (RC : Nat → Int32) (SZ : Nat → Int32) (LN : Nat → Int32) (SH : Nat → Int32) (i1 : Int32) (i2 : Int32) (i3 : Int32) (i4 : Int32) : Array Value → State → Outcome → State → Prop := va_Qi (fun (r : Int32) (_ : Unit) => r = (p5_city mfa mho mra mrh mrd K L C RK RL RC SZ LN SH i1 i2 i3 i4).1) (fun (_ : Unit) (t : State) => va_P (dC, dI) vwCl ([(m0, .inr (5, [.int ((p5_city mfa mho mra mrh mrd K L C RK RL RC SZ LN SH i1 i2 i3 i4).2.1), .int ((p5_city mfa mho mra mrh mrd K L C RK RL RC SZ LN SH i1 i2 i3 i4).2.2.1), .ref m2, .ref m3, .ref m4, .int ((p5_city mfa mho mra mrh mrd K L C RK RL RC SZ LN SH i1 i2 i3 i4).2.2.2.1), .int ((p5_city mfa mho mra mrh mrd K L C RK RL RC SZ LN SH i1 i2 i3 i4).2.2.2.2.1), .ref m7, .ref m8, .ref m9, .ref m10, .ref m11, .ref m12, .int mch, .int mfr, .int mfw, .int ((p5_city mfa mho mra mrh mrd K L C RK RL RC SZ LN SH i1 i2 i3 i4).2.2.2.2.2.1), .ref m17, .ref m18, .ref m19, .ref m20, .ref m21, .ref m22, .ref m23, .int mtr])), (m2, .inl (cI, 6, .inl ((p5_city mfa mho mra mrh mrd K L C RK RL RC SZ LN SH i1 i2 i3 i4).2.2.2.2.2.2.1))), (m3, .inl (cI, 6, .inl ((p5_city mfa mho mra mrh mrd K L C RK RL RC SZ LN SH i1 i2 i3 i4).2.2.2.2.2.2.2.1))), (m4, .inl (cI, 6, .inl ((p5_city mfa mho mra mrh mrd K L C RK RL RC SZ LN SH i1 i2 i3 i4).2.2.2.2.2.2.2.2.1))), (m7, .inl (cI, 6, .inl ((p5_city mfa mho mra mrh mrd K L C RK RL RC SZ LN SH i1 i2 i3 i4).2.2.2.2.2.2.2.2.2.1))), (m8, .inl (cI, 6, .inl ((p5_city mfa mho mra mrh mrd K L C RK RL RC SZ LN SH i1 i2 i3 i4).2.2.2.2.2.2.2.2.2.2.1))), (m9, .inl (cI, 6, .inl ((p5_city mfa mho mra mrh mrd K L C RK RL RC SZ LN SH i1 i2 i3 i4).2.2.2.2.2.2.2.2.2.2.2))), (m20, .inl (cI, 4, .inl SZ)), (m21, .inl (cI, 4, .inl LN)), (m22, .inl (cI, 240, .inl SH))]) t.heap) A
set_option maxHeartbeats 4000000 in
set_option maxRecDepth 100000 in
theorem ctX5_city (l : Launch) (dC : Nat → ClassId) (dI : Nat → Nat → Nat) (cI : ClassId) (m0 : Nat) (m2 : Nat) (m3 : Nat) (m4 : Nat) (m7 : Nat) (m8 : Nat) (m9 : Nat) (m10 : Nat) (m11 : Nat) (m12 : Nat) (m17 : Nat) (m18 : Nat) (m19 : Nat) (m20 : Nat) (m21 : Nat) (m22 : Nat) (m23 : Nat) (sz : Nat) (mfa : Int32) (mho : Int32) (mra : Int32) (mrh : Int32) (mch : Int32) (mfr : Int32) (mfw : Int32) (mrd : Int32) (mtr : Int32) (K : Nat → Int32) (L : Nat → Int32) (C : Nat → Int32) (RK : Nat → Int32) (RL : Nat → Int32) (RC : Nat → Int32) (SZ : Nat → Int32) (LN : Nat → Int32) (SH : Nat → Int32) (i1 : Int32) (i2 : Int32) (i3 : Int32) (i4 : Int32) (hSZ : ∀ j : Nat, (SZ j).toInt ≤ 60) : Met l yX5_city wsX5_city rmX5_city (va_Pc [.ref m0, .int i1, .int i2, .int i3, .int i4] (cP dC dI [(cI, .int)] ([(m0, .inr (5, [.int mfa, .int mho, .ref m2, .ref m3, .ref m4, .int mra, .int mrh, .ref m7, .ref m8, .ref m9, .ref m10, .ref m11, .ref m12, .int mch, .int mfr, .int mfw, .int mrd, .ref m17, .ref m18, .ref m19, .ref m20, .ref m21, .ref m22, .ref m23, .int mtr])), (m2, .inl (cI, 6, .inl K)), (m3, .inl (cI, 6, .inl L)), (m4, .inl (cI, 6, .inl C)), (m7, .inl (cI, 6, .inl RK)), (m8, .inl (cI, 6, .inl RL)), (m9, .inl (cI, 6, .inl RC)), (m20, .inl (cI, 4, .inl SZ)), (m21, .inl (cI, 4, .inl LN)), (m22, .inl (cI, 240, .inl SH))]) sz)) (QX5_city dC dI (va_A ([(m0, .inr (5, [.int mfa, .int mho, .ref m2, .ref m3, .ref m4, .int mra, .int mrh, .ref m7, .ref m8, .ref m9, .ref m10, .ref m11, .ref m12, .int mch, .int mfr, .int mfw, .int mrd, .ref m17, .ref m18, .ref m19, .ref m20, .ref m21, .ref m22, .ref m23, .int mtr])), (m2, .inl (cI, 6, .inl K)), (m3, .inl (cI, 6, .inl L)), (m4, .inl (cI, 6, .inl C)), (m7, .inl (cI, 6, .inl RK)), (m8, .inl (cI, 6, .inl RL)), (m9, .inl (cI, 6, .inl RC)), (m20, .inl (cI, 4, .inl SZ)), (m21, .inl (cI, 4, .inl LN)), (m22, .inl (cI, 240, .inl SH))]) sz) cI m0 m2 m3 m4 m7 m8 m9 m10 m11 m12 m17 m18 m19 m20 m21 m22 m23 mfa mho mra mrh mch mfr mfw mrd mtr K L C RK RL RC SZ LN SH i1 i2 i3 i4) 0 0 (va_A ([(m0, .inr (5, [.int mfa, .int mho, .ref m2, .ref m3, .ref m4, .int mra, .int mrh, .ref m7, .ref m8, .ref m9, .ref m10, .ref m11, .ref m12, .int mch, .int mfr, .int mfw, .int mrd, .ref m17, .ref m18, .ref m19, .ref m20, .ref m21, .ref m22, .ref m23, .int mtr])), (m2, .inl (cI, 6, .inl K)), (m3, .inl (cI, 6, .inl L)), (m4, .inl (cI, 6, .inl C)), (m7, .inl (cI, 6, .inl RK)), (m8, .inl (cI, 6, .inl RL)), (m9, .inl (cI, 6, .inl RC)), (m20, .inl (cI, 4, .inl SZ)), (m21, .inl (cI, 4, .inl LN)), (m22, .inl (cI, 240, .inl SH))]) sz) := by
  refine Met.ofW (cc := cX5_city) (maxL := 7) (ret := (some .int)) (by decide) rfl ?_
  intro p e s m args below meth c s₁ B hml hv
  obtain ⟨rfl, hsz, hP, hK, hD0, hN⟩ := hv
  have hx := B.exec
  have hb := B.bytes
  have hr := B.returns
  have hts := atoms_spec (ws := wsX5_city) B.pre
  have hown : s.vm.findClass RX5 = some m.cls := findClass_of_methodNamed B.named
  have hlocks := B.notSynchronized
  subst hsz
  have hD := hD0.self (sz := s.heap.size)
  generalize hAe : va_A ([(m0, .inr (5, [.int mfa, .int mho, .ref m2, .ref m3, .ref m4, .int mra, .int mrh, .ref m7, .ref m8, .ref m9, .ref m10, .ref m11, .ref m12, .int mch, .int mfr, .int mfw, .int mrd, .ref m17, .ref m18, .ref m19, .ref m20, .ref m21, .ref m22, .ref m23, .int mtr])), (m2, .inl (cI, 6, .inl K)), (m3, .inl (cI, 6, .inl L)), (m4, .inl (cI, 6, .inl C)), (m7, .inl (cI, 6, .inl RK)), (m8, .inl (cI, 6, .inl RL)), (m9, .inl (cI, 6, .inl RC)), (m20, .inl (cI, 4, .inl SZ)), (m21, .inl (cI, 4, .inl LN)), (m22, .inl (cI, 240, .inl SH))]) s.heap.size = A at hD ⊢
  have hA : ∀ q : Nat, s.heap.size ≤ q → A q := fun q h => by rw [← hAe]; exact Or.inr h
  have hS : va_S A s.heap s.heap [] := va_S.rf
  have hP : va_P (dC, dI) vwCl ([(m0, .inr (5, [.int mfa, .int mho, .ref m2, .ref m3, .ref m4, .int mra, .int mrh, .ref m7, .ref m8, .ref m9, .ref m10, .ref m11, .ref m12, .int mch, .int mfr, .int mfw, .int mrd, .ref m17, .ref m18, .ref m19, .ref m20, .ref m21, .ref m22, .ref m23, .int mtr])), (m2, .inl (cI, 6, .inl K)), (m3, .inl (cI, 6, .inl L)), (m4, .inl (cI, 6, .inl C)), (m7, .inl (cI, 6, .inl RK)), (m8, .inl (cI, 6, .inl RL)), (m9, .inl (cI, 6, .inl RC)), (m20, .inl (cI, 4, .inl SZ)), (m21, .inl (cI, 4, .inl LN)), (m22, .inl (cI, 240, .inl SH))]) s.heap := hP
  have hin5 : ∀ w ∈ wsX50, w ∈ wsX5_city := by decide +kernel
  have kl_109 := hts (.constantLong RX5 109 2) (by decide +kernel)
  have kf_118 := hts (.fieldLink RX5 118 "RicherChangeModel" "readings" "I") (by decide +kernel)
  have kf_13 := hts (.fieldLink RX5 13 "RicherChangeModel" "landOf" "[I") (by decide +kernel)
  have kf_16 := hts (.fieldLink RX5 16 "RicherChangeModel" "coinOf" "[I") (by decide +kernel)
  have kf_19 := hts (.fieldLink RX5 19 "RicherChangeModel" "readKind" "[I") (by decide +kernel)
  have kf_22 := hts (.fieldLink RX5 22 "RicherChangeModel" "readLand" "[I") (by decide +kernel)
  have kf_25 := hts (.fieldLink RX5 25 "RicherChangeModel" "readCoin" "[I") (by decide +kernel)
  have kf_68 := hts (.fieldLink RX5 68 "RicherChangeModel" "houses" "I") (by decide +kernel)
  have kf_7 := hts (.fieldLink RX5 7 "RicherChangeModel" "kindOf" "[I") (by decide +kernel)
  have kf_77 := hts (.fieldLink RX5 77 "RicherChangeModel" "readAt" "I") (by decide +kernel)
  have kf_84 := hts (.fieldLink RX5 84 "RicherChangeModel" "readHouses" "I") (by decide +kernel)
  have hl := lv_entry ([.ref m0, .int i1, .int i2, .int i3, .int i4]) (n := 7) (Nat.le_of_ble_eq_true rfl)
  rw [lg_entry_eq]
  generalize (lg_sl ([.ref m0, .int i1, .int i2, .int i3, .int i4]) ++ List.replicate (7 - (lg_sl ([.ref m0, .int i1, .int i2, .int i3, .int i4])).length) Slot.unset).toArray = ls at hl ⊢
  have hl : lv_has ls 7 [(0, .ref m0), (1, .int i1), (2, .int i2), (3, .int i3), (4, .int i4)] := hl
  have lp_90 : ∀ (n : Nat) (v6 : Int32) (mfa_ : Int32) (mho_ : Int32) (mra_ : Int32) (mrh_ : Int32) (K_ : Nat → Int32) (L_ : Nat → Int32) (C_ : Nat → Int32) (RK_ : Nat → Int32) (RL_ : Nat → Int32) (RC_ : Nat → Int32) (H : Heap) (locs : List Loc) (ls : Array Slot), (up v6 mho_ n) → (mho_.toInt ≤ 6) → va_P (dC, dI) vwCl ([(m0, .inr (5, [.int mfa_, .int mho_, .ref m2, .ref m3, .ref m4, .int mra_, .int mrh_, .ref m7, .ref m8, .ref m9, .ref m10, .ref m11, .ref m12, .int mch, .int mfr, .int mfw, .int mrd, .ref m17, .ref m18, .ref m19, .ref m20, .ref m21, .ref m22, .ref m23, .int mtr])), (m2, .inl (cI, 6, .inl K_)), (m3, .inl (cI, 6, .inl L_)), (m4, .inl (cI, 6, .inl C_)), (m7, .inl (cI, 6, .inl RK_)), (m8, .inl (cI, 6, .inl RL_)), (m9, .inl (cI, 6, .inl RC_)), (m20, .inl (cI, 4, .inl SZ)), (m21, .inl (cI, 4, .inl LN)), (m22, .inl (cI, 240, .inl SH))]) H → va_D A ([(m0, .inr (5, [.int mfa_, .int mho_, .ref m2, .ref m3, .ref m4, .int mra_, .int mrh_, .ref m7, .ref m8, .ref m9, .ref m10, .ref m11, .ref m12, .int mch, .int mfr, .int mfw, .int mrd, .ref m17, .ref m18, .ref m19, .ref m20, .ref m21, .ref m22, .ref m23, .int mtr])), (m2, .inl (cI, 6, .inl K_)), (m3, .inl (cI, 6, .inl L_)), (m4, .inl (cI, 6, .inl C_)), (m7, .inl (cI, 6, .inl RK_)), (m8, .inl (cI, 6, .inl RL_)), (m9, .inl (cI, 6, .inl RC_)), (m20, .inl (cI, 4, .inl SZ)), (m21, .inl (cI, 4, .inl LN)), (m22, .inl (cI, 240, .inl SH))]) → va_S A s.heap H locs → lv_has ls 7 [(6, .int v6), (0, .ref m0)] → p5_city mfa mho mra mrh mrd K L C RK RL RC SZ LN SH i1 i2 i3 i4 = p5_city_l90 mfa mho mra mrh mrd K L C RK RL RC SZ LN SH i1 i2 i3 i4 n v6 mfa_ mho_ mra_ mrh_ K_ L_ C_ RK_ RL_ RC_ → W p l e (headSpec wsX5_city rmX5_city).room s m [.ref m0, .int i1, .int i2, .int i3, .int i4].toArray below meth c H locs 0 0 (MQ below (QX5_city dC dI A cI m0 m2 m3 m4 m7 m8 m9 m10 m11 m12 m17 m18 m19 m20 m21 m22 m23 mfa mho mra mrh mch mfr mfw mrd mtr K L C RK RL RC SZ LN SH i1 i2 i3 i4) [.ref m0, .int i1, .int i2, .int i3, .int i4].toArray s 0 0 A) (F0 m 90 ls []) := by
    intro n
    induction n with
    | zero => intro v6 mfa_ mho_ mra_ mrh_ K_ L_ C_ RK_ RL_ RC_ _ _ _ hu hH; exact absurd hu up_no
    | succ n ih =>
      intro v6 mfa_ mho_ mra_ mrh_ K_ L_ C_ RK_ RL_ RC_ H locs ls hu hH hP hD hS hl hE
      refine lv_iload hx hb dX5_city_90 (lv_at hl 0 rfl) ?_
      refine lv_aload_n hx hb dX5_city_92 rfl (lv_at hl 1 rfl) ?_
      refine va_get (D := (dC, dI)) (ci := 5) (v := .int mho_) (C := RX5) (T := TX5) (N := 25) hx hb hts hin5 hown hK hP 0 rfl rfl 1 (by decide) kf_68 (fun _ h9 => h9) rfl dX5_city_93 ?_
      refine lv_icmp_ge (tgt := 147) hx hb dX5_city_96 (by decide) (fun c_96 => ?_) (fun c_96 => ?_)
      · skip
        refine lv_aload_n hx hb dX5_city_147 rfl (lv_at hl 1 rfl) ?_
        refine lv_iconst (v := 0) hx hb dX5_city_148 (by decide) ?_
        refine va_put (D := (dC, dI)) (ci := 5) (v := .int 0) (ty := .int) (C := RX5) (T := TX5) (N := 25) hx hb hts hin5 tyX5 tyX5_ok nmX5 hown hK hP hD hS 0 rfl rfl 16 (by decide) kf_118 (fun _ h9 => h9) rfl (by decide +kernel) rfl rfl (Nat.le_of_ble_eq_true rfl) dX5_city_149 (fun H locs hP hD hS => ?_)
        have hP : va_P (dC, dI) vwCl ([(m0, .inr (5, [.int mfa_, .int mho_, .ref m2, .ref m3, .ref m4, .int mra_, .int mrh_, .ref m7, .ref m8, .ref m9, .ref m10, .ref m11, .ref m12, .int mch, .int mfr, .int mfw, .int 0, .ref m17, .ref m18, .ref m19, .ref m20, .ref m21, .ref m22, .ref m23, .int mtr])), (m2, .inl (cI, 6, .inl K_)), (m3, .inl (cI, 6, .inl L_)), (m4, .inl (cI, 6, .inl C_)), (m7, .inl (cI, 6, .inl RK_)), (m8, .inl (cI, 6, .inl RL_)), (m9, .inl (cI, 6, .inl RC_)), (m20, .inl (cI, 4, .inl SZ)), (m21, .inl (cI, 4, .inl LN)), (m22, .inl (cI, 240, .inl SH))]) H := hP
        have hD : va_D A ([(m0, .inr (5, [.int mfa_, .int mho_, .ref m2, .ref m3, .ref m4, .int mra_, .int mrh_, .ref m7, .ref m8, .ref m9, .ref m10, .ref m11, .ref m12, .int mch, .int mfr, .int mfw, .int 0, .ref m17, .ref m18, .ref m19, .ref m20, .ref m21, .ref m22, .ref m23, .int mtr])), (m2, .inl (cI, 6, .inl K_)), (m3, .inl (cI, 6, .inl L_)), (m4, .inl (cI, 6, .inl C_)), (m7, .inl (cI, 6, .inl RK_)), (m8, .inl (cI, 6, .inl RL_)), (m9, .inl (cI, 6, .inl RC_)), (m20, .inl (cI, 4, .inl SZ)), (m21, .inl (cI, 4, .inl LN)), (m22, .inl (cI, 240, .inl SH))]) := hD
        refine lv_aload_n hx hb dX5_city_152 rfl (lv_at hl 1 rfl) ?_
        refine lv_aload_n hx hb dX5_city_153 rfl (lv_at hl 1 rfl) ?_
        refine va_get (D := (dC, dI)) (ci := 5) (v := .int mho_) (C := RX5) (T := TX5) (N := 25) hx hb hts hin5 hown hK hP 0 rfl rfl 1 (by decide) kf_68 (fun _ h9 => h9) rfl dX5_city_154 ?_
        have hPc := hP.sub (ws' := [(m0, .inr (5, [.int mfa_, .int mho_, .ref m2, .ref m3, .ref m4, .int mra_, .int mrh_, .ref m7, .ref m8, .ref m9, .ref m10, .ref m11, .ref m12, .int mch, .int mfr, .int mfw, .int 0, .ref m17, .ref m18, .ref m19, .ref m20, .ref m21, .ref m22, .ref m23, .int mtr]))]) [0] rfl
        have hDc := hD.sub (ws' := [(m0, .inr (5, [.int mfa_, .int mho_, .ref m2, .ref m3, .ref m4, .int mra_, .int mrh_, .ref m7, .ref m8, .ref m9, .ref m10, .ref m11, .ref m12, .int mch, .int mfr, .int mfw, .int 0, .ref m17, .ref m18, .ref m19, .ref m20, .ref m21, .ref m22, .ref m23, .int mtr]))]) [0] (by decide) rfl
        have hKc := hK.sub (tys' := [(cI, .int)]) [0] rfl
        have hFc := va_free (wc := [(m0, .inr (5, [.int mfa_, .int mho_, .ref m2, .ref m3, .ref m4, .int mra_, .int mrh_, .ref m7, .ref m8, .ref m9, .ref m10, .ref m11, .ref m12, .int mch, .int mfr, .int mfw, .int 0, .ref m17, .ref m18, .ref m19, .ref m20, .ref m21, .ref m22, .ref m23, .int mtr]))]) hD hS hA [0] rfl
        refine va_calli (va_runV (As := [.int mho_]) (rest := []) ⟨hx, hb, hml, hown, hts⟩ (ctX5_refused l dC dI cI m0 m2 m3 m4 m7 m8 m9 m10 m11 m12 m17 m18 m19 m20 m21 m22 m23 H.size mfa_ mho_ mra_ mrh_ mch mfr mfw 0 mtr mho_) (cwV 1 hts gX5_city_X5_refused rfl rfl rfl (by decide +kernel) ⟨Nat.le_of_ble_eq_true rfl, Nat.le_of_ble_eq_true rfl⟩) (pre_V hKc hN hPc hDc (RX5, TX5, 25) 5 0 rfl rfl) rfl rfl hl.1 rfl (lv_room (Nat.le_of_ble_eq_true rfl)) dX5_city_157 ⟨Nat.le_of_ble_eq_true rfl, Nat.le_of_ble_eq_true rfl⟩) hS (fun q _ h => hFc q h) hFc (fun r_157 _ t H locs ht hvm hw hB hz1 hk1 hS => ?_)
        try dsimp only at hw
        have er_157 := hw.symm
        rw [ht] at hB
        refine nm_gen ((p5_refused mfa_ mho_).2) (fun mfa_157 emfa_157 => ?_)
        rw [emfa_157] at hB
        obtain ⟨hP, hD⟩ := rw_join ([(m0, .inr (5, [.int mfa_, .int mho_, .ref m2, .ref m3, .ref m4, .int mra_, .int mrh_, .ref m7, .ref m8, .ref m9, .ref m10, .ref m11, .ref m12, .int mch, .int mfr, .int mfw, .int 0, .ref m17, .ref m18, .ref m19, .ref m20, .ref m21, .ref m22, .ref m23, .int mtr])), (m2, .inl (cI, 6, .inl K_)), (m3, .inl (cI, 6, .inl L_)), (m4, .inl (cI, 6, .inl C_)), (m7, .inl (cI, 6, .inl RK_)), (m8, .inl (cI, 6, .inl RL_)), (m9, .inl (cI, 6, .inl RC_)), (m20, .inl (cI, 4, .inl SZ)), (m21, .inl (cI, 4, .inl LN)), (m22, .inl (cI, 240, .inl SH))]) ([(m0, .inr (5, [.int mfa_157, .int mho_, .ref m2, .ref m3, .ref m4, .int mra_, .int mrh_, .ref m7, .ref m8, .ref m9, .ref m10, .ref m11, .ref m12, .int mch, .int mfr, .int mfw, .int 0, .ref m17, .ref m18, .ref m19, .ref m20, .ref m21, .ref m22, .ref m23, .int mtr])), (m2, .inl (cI, 6, .inl K_)), (m3, .inl (cI, 6, .inl L_)), (m4, .inl (cI, 6, .inl C_)), (m7, .inl (cI, 6, .inl RK_)), (m8, .inl (cI, 6, .inl RL_)), (m9, .inl (cI, 6, .inl RC_)), (m20, .inl (cI, 4, .inl SZ)), (m21, .inl (cI, 4, .inl LN)), (m22, .inl (cI, 240, .inl SH))]) ([(m0, .inr (5, [.int mfa_, .int mho_, .ref m2, .ref m3, .ref m4, .int mra_, .int mrh_, .ref m7, .ref m8, .ref m9, .ref m10, .ref m11, .ref m12, .int mch, .int mfr, .int mfw, .int 0, .ref m17, .ref m18, .ref m19, .ref m20, .ref m21, .ref m22, .ref m23, .int mtr]))]) ([(m0, .inr (5, [.int mfa_157, .int mho_, .ref m2, .ref m3, .ref m4, .int mra_, .int mrh_, .ref m7, .ref m8, .ref m9, .ref m10, .ref m11, .ref m12, .int mch, .int mfr, .int mfw, .int 0, .ref m17, .ref m18, .ref m19, .ref m20, .ref m21, .ref m22, .ref m23, .int mtr]))]) ([(m2, .inl (cI, 6, .inl K_)), (m3, .inl (cI, 6, .inl L_)), (m4, .inl (cI, 6, .inl C_)), (m7, .inl (cI, 6, .inl RK_)), (m8, .inl (cI, 6, .inl RL_)), (m9, .inl (cI, 6, .inl RC_)), (m20, .inl (cI, 4, .inl SZ)), (m21, .inl (cI, 4, .inl LN)), (m22, .inl (cI, 240, .inl SH))]) hP hD [0] [1, 2, 3, 4, 5, 6, 7, 8, 9] [m0, m2, m3, m4, m7, m8, m9, m20, m21, m22] 10 rfl rfl rfl rfl rfl (by decide) rfl rfl hk1 hB
        have hE9 : p5_city mfa mho mra mrh mrd K L C RK RL RC SZ LN SH i1 i2 i3 i4 = (r_157, mfa_157, mho_, mra_, mrh_, 0, K_, L_, C_, RK_, RL_, RC_) := hE.trans (by rw [p5_city_l90_s]; simp only [er_157, emfa_157]; rw [if_pos c_96])
        exact W.iret (v := r_157) hx hb hr (fun t ht hW => ⟨⟨_, (), rfl, by rw [hE9], by show va_P (dC, dI) vwCl _ t.heap; rw [ht, hE9]; exact hP⟩, hS.F ht⟩) hS.2.2 dX5_city_160
      · skip
        have j6 : vp_in v6 6 := up_in 6 hu c_96 hH
        refine lv_aload_n hx hb dX5_city_99 rfl (lv_at hl 1 rfl) ?_
        refine va_get (D := (dC, dI)) (ci := 5) (v := .ref m2) (C := RX5) (T := TX5) (N := 25) hx hb hts hin5 hown hK hP 0 rfl rfl 2 (by decide) kf_7 (fun _ h9 => h9) rfl dX5_city_100 ?_
        refine lv_iload hx hb dX5_city_103 (lv_at hl 0 rfl) ?_
        refine lv_aload_n hx hb dX5_city_105 rfl (lv_at hl 1 rfl) ?_
        refine va_get (D := (dC, dI)) (ci := 5) (v := .ref m7) (C := RX5) (T := TX5) (N := 25) hx hb hts hin5 hown hK hP 0 rfl rfl 7 (by decide) kf_19 (fun _ h9 => h9) rfl dX5_city_106 ?_
        refine lv_iload hx hb dX5_city_109 (lv_at hl 0 rfl) ?_
        refine va_iald hx hb hK hP 4 0 rfl rfl (by assumption) dX5_city_111 ?_
        refine va_iast hx hb hK hP hD hS 1 0 rfl rfl (by assumption) dX5_city_112 (fun H locs hP hD hS => ?_)
        have hP : va_P (dC, dI) vwCl ([(m0, .inr (5, [.int mfa_, .int mho_, .ref m2, .ref m3, .ref m4, .int mra_, .int mrh_, .ref m7, .ref m8, .ref m9, .ref m10, .ref m11, .ref m12, .int mch, .int mfr, .int mfw, .int mrd, .ref m17, .ref m18, .ref m19, .ref m20, .ref m21, .ref m22, .ref m23, .int mtr])), (m2, .inl (cI, 6, .inl (upd K_ v6.toNatClampNeg (RK_ v6.toNatClampNeg)))), (m3, .inl (cI, 6, .inl L_)), (m4, .inl (cI, 6, .inl C_)), (m7, .inl (cI, 6, .inl RK_)), (m8, .inl (cI, 6, .inl RL_)), (m9, .inl (cI, 6, .inl RC_)), (m20, .inl (cI, 4, .inl SZ)), (m21, .inl (cI, 4, .inl LN)), (m22, .inl (cI, 240, .inl SH))]) H := hP
        have hD : va_D A ([(m0, .inr (5, [.int mfa_, .int mho_, .ref m2, .ref m3, .ref m4, .int mra_, .int mrh_, .ref m7, .ref m8, .ref m9, .ref m10, .ref m11, .ref m12, .int mch, .int mfr, .int mfw, .int mrd, .ref m17, .ref m18, .ref m19, .ref m20, .ref m21, .ref m22, .ref m23, .int mtr])), (m2, .inl (cI, 6, .inl (upd K_ v6.toNatClampNeg (RK_ v6.toNatClampNeg)))), (m3, .inl (cI, 6, .inl L_)), (m4, .inl (cI, 6, .inl C_)), (m7, .inl (cI, 6, .inl RK_)), (m8, .inl (cI, 6, .inl RL_)), (m9, .inl (cI, 6, .inl RC_)), (m20, .inl (cI, 4, .inl SZ)), (m21, .inl (cI, 4, .inl LN)), (m22, .inl (cI, 240, .inl SH))]) := hD
        refine lv_aload_n hx hb dX5_city_113 rfl (lv_at hl 1 rfl) ?_
        refine va_get (D := (dC, dI)) (ci := 5) (v := .ref m3) (C := RX5) (T := TX5) (N := 25) hx hb hts hin5 hown hK hP 0 rfl rfl 3 (by decide) kf_13 (fun _ h9 => h9) rfl dX5_city_114 ?_
        refine lv_iload hx hb dX5_city_117 (lv_at hl 0 rfl) ?_
        refine lv_aload_n hx hb dX5_city_119 rfl (lv_at hl 1 rfl) ?_
        refine va_get (D := (dC, dI)) (ci := 5) (v := .ref m8) (C := RX5) (T := TX5) (N := 25) hx hb hts hin5 hown hK hP 0 rfl rfl 8 (by decide) kf_22 (fun _ h9 => h9) rfl dX5_city_120 ?_
        refine lv_iload hx hb dX5_city_123 (lv_at hl 0 rfl) ?_
        refine va_iald hx hb hK hP 5 0 rfl rfl (by assumption) dX5_city_125 ?_
        refine va_iast hx hb hK hP hD hS 2 0 rfl rfl (by assumption) dX5_city_126 (fun H locs hP hD hS => ?_)
        have hP : va_P (dC, dI) vwCl ([(m0, .inr (5, [.int mfa_, .int mho_, .ref m2, .ref m3, .ref m4, .int mra_, .int mrh_, .ref m7, .ref m8, .ref m9, .ref m10, .ref m11, .ref m12, .int mch, .int mfr, .int mfw, .int mrd, .ref m17, .ref m18, .ref m19, .ref m20, .ref m21, .ref m22, .ref m23, .int mtr])), (m2, .inl (cI, 6, .inl (upd K_ v6.toNatClampNeg (RK_ v6.toNatClampNeg)))), (m3, .inl (cI, 6, .inl (upd L_ v6.toNatClampNeg (RL_ v6.toNatClampNeg)))), (m4, .inl (cI, 6, .inl C_)), (m7, .inl (cI, 6, .inl RK_)), (m8, .inl (cI, 6, .inl RL_)), (m9, .inl (cI, 6, .inl RC_)), (m20, .inl (cI, 4, .inl SZ)), (m21, .inl (cI, 4, .inl LN)), (m22, .inl (cI, 240, .inl SH))]) H := hP
        have hD : va_D A ([(m0, .inr (5, [.int mfa_, .int mho_, .ref m2, .ref m3, .ref m4, .int mra_, .int mrh_, .ref m7, .ref m8, .ref m9, .ref m10, .ref m11, .ref m12, .int mch, .int mfr, .int mfw, .int mrd, .ref m17, .ref m18, .ref m19, .ref m20, .ref m21, .ref m22, .ref m23, .int mtr])), (m2, .inl (cI, 6, .inl (upd K_ v6.toNatClampNeg (RK_ v6.toNatClampNeg)))), (m3, .inl (cI, 6, .inl (upd L_ v6.toNatClampNeg (RL_ v6.toNatClampNeg)))), (m4, .inl (cI, 6, .inl C_)), (m7, .inl (cI, 6, .inl RK_)), (m8, .inl (cI, 6, .inl RL_)), (m9, .inl (cI, 6, .inl RC_)), (m20, .inl (cI, 4, .inl SZ)), (m21, .inl (cI, 4, .inl LN)), (m22, .inl (cI, 240, .inl SH))]) := hD
        refine lv_aload_n hx hb dX5_city_127 rfl (lv_at hl 1 rfl) ?_
        refine va_get (D := (dC, dI)) (ci := 5) (v := .ref m4) (C := RX5) (T := TX5) (N := 25) hx hb hts hin5 hown hK hP 0 rfl rfl 4 (by decide) kf_16 (fun _ h9 => h9) rfl dX5_city_128 ?_
        refine lv_iload hx hb dX5_city_131 (lv_at hl 0 rfl) ?_
        refine lv_aload_n hx hb dX5_city_133 rfl (lv_at hl 1 rfl) ?_
        refine va_get (D := (dC, dI)) (ci := 5) (v := .ref m9) (C := RX5) (T := TX5) (N := 25) hx hb hts hin5 hown hK hP 0 rfl rfl 9 (by decide) kf_25 (fun _ h9 => h9) rfl dX5_city_134 ?_
        refine lv_iload hx hb dX5_city_137 (lv_at hl 0 rfl) ?_
        refine va_iald hx hb hK hP 6 0 rfl rfl (by assumption) dX5_city_139 ?_
        refine va_iast hx hb hK hP hD hS 3 0 rfl rfl (by assumption) dX5_city_140 (fun H locs hP hD hS => ?_)
        have hP : va_P (dC, dI) vwCl ([(m0, .inr (5, [.int mfa_, .int mho_, .ref m2, .ref m3, .ref m4, .int mra_, .int mrh_, .ref m7, .ref m8, .ref m9, .ref m10, .ref m11, .ref m12, .int mch, .int mfr, .int mfw, .int mrd, .ref m17, .ref m18, .ref m19, .ref m20, .ref m21, .ref m22, .ref m23, .int mtr])), (m2, .inl (cI, 6, .inl (upd K_ v6.toNatClampNeg (RK_ v6.toNatClampNeg)))), (m3, .inl (cI, 6, .inl (upd L_ v6.toNatClampNeg (RL_ v6.toNatClampNeg)))), (m4, .inl (cI, 6, .inl (upd C_ v6.toNatClampNeg (RC_ v6.toNatClampNeg)))), (m7, .inl (cI, 6, .inl RK_)), (m8, .inl (cI, 6, .inl RL_)), (m9, .inl (cI, 6, .inl RC_)), (m20, .inl (cI, 4, .inl SZ)), (m21, .inl (cI, 4, .inl LN)), (m22, .inl (cI, 240, .inl SH))]) H := hP
        have hD : va_D A ([(m0, .inr (5, [.int mfa_, .int mho_, .ref m2, .ref m3, .ref m4, .int mra_, .int mrh_, .ref m7, .ref m8, .ref m9, .ref m10, .ref m11, .ref m12, .int mch, .int mfr, .int mfw, .int mrd, .ref m17, .ref m18, .ref m19, .ref m20, .ref m21, .ref m22, .ref m23, .int mtr])), (m2, .inl (cI, 6, .inl (upd K_ v6.toNatClampNeg (RK_ v6.toNatClampNeg)))), (m3, .inl (cI, 6, .inl (upd L_ v6.toNatClampNeg (RL_ v6.toNatClampNeg)))), (m4, .inl (cI, 6, .inl (upd C_ v6.toNatClampNeg (RC_ v6.toNatClampNeg)))), (m7, .inl (cI, 6, .inl RK_)), (m8, .inl (cI, 6, .inl RL_)), (m9, .inl (cI, 6, .inl RC_)), (m20, .inl (cI, 4, .inl SZ)), (m21, .inl (cI, 4, .inl LN)), (m22, .inl (cI, 240, .inl SH))]) := hD
        refine lv_iinc (v := (v6 + 1)) (lv' := [(6, .int (v6 + 1)), (0, .ref m0)]) hx hb dX5_city_141 hl (k := 0) rfl rfl (by decide) rfl (fun ls hl => ?_)
        refine lv_goto (tgt := 90) hx hb dX5_city_144 (by decide) ?_
        exact ih (v6 + 1) mfa_ mho_ mra_ mrh_ (upd K_ v6.toNatClampNeg (RK_ v6.toNatClampNeg)) (upd L_ v6.toNatClampNeg (RL_ v6.toNatClampNeg)) (upd C_ v6.toNatClampNeg (RC_ v6.toNatClampNeg)) RK_ RL_ RC_ _ _ _ (up_s hu c_96) hH hP hD hS (lv_sub hl [0, 1] rfl) (hE.trans (by rw [p5_city_l90_s, if_neg c_96]))
  refine lv_iload_n hx hb dX5_city_0 rfl (lv_at hl 1 rfl) ?_
  have hPc : va_P (dC, dI) vwCl [] s.heap := hP.sub (ws' := []) [] rfl
  have hDc : va_D A [] := hD.sub (ws' := []) [] (by decide) rfl
  have hKc := hK.sub (tys' := [(cI, .int)]) [0] rfl
  have hFc := va_free (wc := []) hD hS hA [] rfl
  refine va_calli (va_runS (As := [.int i1]) (rest := []) ⟨hx, hb, hml, hown, hts⟩ (ctX5_noSheet l dC dI cI s.heap.size i1) (va_cwS 1 hts gX5_city_X5_noSheet rfl rfl rfl (by decide +kernel) ⟨Nat.le_of_ble_eq_true rfl, Nat.le_of_ble_eq_true rfl⟩) (pre_S hKc hN hPc hDc) rfl rfl hl.1 rfl (lv_room (Nat.le_of_ble_eq_true rfl)) dX5_city_1 ⟨Nat.le_of_ble_eq_true rfl, Nat.le_of_ble_eq_true rfl⟩) hS (fun q _ h => hFc q h) hFc (fun r _ t H locs ht hvm hw hB hz1 hk1 hS => ?_)
  try dsimp only at hw
  subst hw
  rw [ht] at hB
  obtain ⟨hP, hD⟩ := rw_join ([(m0, .inr (5, [.int mfa, .int mho, .ref m2, .ref m3, .ref m4, .int mra, .int mrh, .ref m7, .ref m8, .ref m9, .ref m10, .ref m11, .ref m12, .int mch, .int mfr, .int mfw, .int mrd, .ref m17, .ref m18, .ref m19, .ref m20, .ref m21, .ref m22, .ref m23, .int mtr])), (m2, .inl (cI, 6, .inl K)), (m3, .inl (cI, 6, .inl L)), (m4, .inl (cI, 6, .inl C)), (m7, .inl (cI, 6, .inl RK)), (m8, .inl (cI, 6, .inl RL)), (m9, .inl (cI, 6, .inl RC)), (m20, .inl (cI, 4, .inl SZ)), (m21, .inl (cI, 4, .inl LN)), (m22, .inl (cI, 240, .inl SH))]) ([(m0, .inr (5, [.int mfa, .int mho, .ref m2, .ref m3, .ref m4, .int mra, .int mrh, .ref m7, .ref m8, .ref m9, .ref m10, .ref m11, .ref m12, .int mch, .int mfr, .int mfw, .int mrd, .ref m17, .ref m18, .ref m19, .ref m20, .ref m21, .ref m22, .ref m23, .int mtr])), (m2, .inl (cI, 6, .inl K)), (m3, .inl (cI, 6, .inl L)), (m4, .inl (cI, 6, .inl C)), (m7, .inl (cI, 6, .inl RK)), (m8, .inl (cI, 6, .inl RL)), (m9, .inl (cI, 6, .inl RC)), (m20, .inl (cI, 4, .inl SZ)), (m21, .inl (cI, 4, .inl LN)), (m22, .inl (cI, 240, .inl SH))]) ([]) ([]) ([(m0, .inr (5, [.int mfa, .int mho, .ref m2, .ref m3, .ref m4, .int mra, .int mrh, .ref m7, .ref m8, .ref m9, .ref m10, .ref m11, .ref m12, .int mch, .int mfr, .int mfw, .int mrd, .ref m17, .ref m18, .ref m19, .ref m20, .ref m21, .ref m22, .ref m23, .int mtr])), (m2, .inl (cI, 6, .inl K)), (m3, .inl (cI, 6, .inl L)), (m4, .inl (cI, 6, .inl C)), (m7, .inl (cI, 6, .inl RK)), (m8, .inl (cI, 6, .inl RL)), (m9, .inl (cI, 6, .inl RC)), (m20, .inl (cI, 4, .inl SZ)), (m21, .inl (cI, 4, .inl LN)), (m22, .inl (cI, 240, .inl SH))]) hP hD [] [0, 1, 2, 3, 4, 5, 6, 7, 8, 9] [m0, m2, m3, m4, m7, m8, m9, m20, m21, m22] 10 rfl rfl rfl rfl rfl (by decide) rfl rfl hk1 hB
  refine lv_if_eq (tgt := 13) hx hb dX5_city_4 (by decide) (fun c_4 => ?_) (fun c_4 => ?_)
  · skip
    have j1 : vp_in i1 4 := noSheet_in c_4
    refine lv_iload_n hx hb dX5_city_13 rfl (lv_at hl 2 rfl) ?_
    refine lv_i2l (v := i2.toInt64) hx hb dX5_city_14 rfl ?_
    refine lv_lconst (v := 0) hx hb dX5_city_15 (by decide) ?_
    refine lv_ldc2 (v := 2) hx hb hown kl_109 dX5_city_16 ?_
    have hPc : va_P (dC, dI) vwCl [] H := hP.sub (ws' := []) [] rfl
    have hDc : va_D A [] := hD.sub (ws' := []) [] (by decide) rfl
    have hKc := hK.sub (tys' := [(cI, .int)]) [0] rfl
    have hFc := va_free (wc := []) hD hS hA [] rfl
    refine va_calli (va_runS (As := [.long i2.toInt64, .long 0, .long 2]) (rest := []) ⟨hx, hb, hml, hown, hts⟩ (ctX5_in l dC dI cI H.size i2.toInt64 0 2) (va_cwS 3 hts gX5_city_X5_in rfl rfl rfl (by decide +kernel) ⟨Nat.le_of_ble_eq_true rfl, Nat.le_of_ble_eq_true rfl⟩) (pre_S hKc hN hPc hDc) rfl rfl hl.1 rfl (lv_room (Nat.le_of_ble_eq_true rfl)) dX5_city_19 ⟨Nat.le_of_ble_eq_true rfl, Nat.le_of_ble_eq_true rfl⟩) hS (fun q _ h => hFc q h) hFc (fun r _ t H locs ht hvm hw hB hz1 hk1 hS => ?_)
    try dsimp only at hw
    subst hw
    rw [ht] at hB
    obtain ⟨hP, hD⟩ := rw_join ([(m0, .inr (5, [.int mfa, .int mho, .ref m2, .ref m3, .ref m4, .int mra, .int mrh, .ref m7, .ref m8, .ref m9, .ref m10, .ref m11, .ref m12, .int mch, .int mfr, .int mfw, .int mrd, .ref m17, .ref m18, .ref m19, .ref m20, .ref m21, .ref m22, .ref m23, .int mtr])), (m2, .inl (cI, 6, .inl K)), (m3, .inl (cI, 6, .inl L)), (m4, .inl (cI, 6, .inl C)), (m7, .inl (cI, 6, .inl RK)), (m8, .inl (cI, 6, .inl RL)), (m9, .inl (cI, 6, .inl RC)), (m20, .inl (cI, 4, .inl SZ)), (m21, .inl (cI, 4, .inl LN)), (m22, .inl (cI, 240, .inl SH))]) ([(m0, .inr (5, [.int mfa, .int mho, .ref m2, .ref m3, .ref m4, .int mra, .int mrh, .ref m7, .ref m8, .ref m9, .ref m10, .ref m11, .ref m12, .int mch, .int mfr, .int mfw, .int mrd, .ref m17, .ref m18, .ref m19, .ref m20, .ref m21, .ref m22, .ref m23, .int mtr])), (m2, .inl (cI, 6, .inl K)), (m3, .inl (cI, 6, .inl L)), (m4, .inl (cI, 6, .inl C)), (m7, .inl (cI, 6, .inl RK)), (m8, .inl (cI, 6, .inl RL)), (m9, .inl (cI, 6, .inl RC)), (m20, .inl (cI, 4, .inl SZ)), (m21, .inl (cI, 4, .inl LN)), (m22, .inl (cI, 240, .inl SH))]) ([]) ([]) ([(m0, .inr (5, [.int mfa, .int mho, .ref m2, .ref m3, .ref m4, .int mra, .int mrh, .ref m7, .ref m8, .ref m9, .ref m10, .ref m11, .ref m12, .int mch, .int mfr, .int mfw, .int mrd, .ref m17, .ref m18, .ref m19, .ref m20, .ref m21, .ref m22, .ref m23, .int mtr])), (m2, .inl (cI, 6, .inl K)), (m3, .inl (cI, 6, .inl L)), (m4, .inl (cI, 6, .inl C)), (m7, .inl (cI, 6, .inl RK)), (m8, .inl (cI, 6, .inl RL)), (m9, .inl (cI, 6, .inl RC)), (m20, .inl (cI, 4, .inl SZ)), (m21, .inl (cI, 4, .inl LN)), (m22, .inl (cI, 240, .inl SH))]) hP hD [] [0, 1, 2, 3, 4, 5, 6, 7, 8, 9] [m0, m2, m3, m4, m7, m8, m9, m20, m21, m22] 10 rfl rfl rfl rfl rfl (by decide) rfl rfl hk1 hB
    refine lv_if_ne (tgt := 32) hx hb dX5_city_22 (by decide) (fun c_22 => ?_) (fun c_22 => ?_)
    · skip
      refine lv_aload_n hx hb dX5_city_32 rfl (lv_at hl 0 rfl) ?_
      refine lv_iload_n hx hb dX5_city_33 rfl (lv_at hl 1 rfl) ?_
      refine lv_iload_n hx hb dX5_city_34 rfl (lv_at hl 2 rfl) ?_
      refine lv_iload_n hx hb dX5_city_35 rfl (lv_at hl 3 rfl) ?_
      refine lv_iload hx hb dX5_city_36 (lv_at hl 4 rfl) ?_
      refine lv_i2l (v := i4.toInt64) hx hb dX5_city_38 rfl ?_
      have hPc := hP.sub (ws' := [(m0, .inr (5, [.int mfa, .int mho, .ref m2, .ref m3, .ref m4, .int mra, .int mrh, .ref m7, .ref m8, .ref m9, .ref m10, .ref m11, .ref m12, .int mch, .int mfr, .int mfw, .int mrd, .ref m17, .ref m18, .ref m19, .ref m20, .ref m21, .ref m22, .ref m23, .int mtr])), (m20, .inl (cI, 4, .inl SZ)), (m21, .inl (cI, 4, .inl LN))]) [0, 7, 8] rfl
      have hDc := hD.sub (ws' := [(m0, .inr (5, [.int mfa, .int mho, .ref m2, .ref m3, .ref m4, .int mra, .int mrh, .ref m7, .ref m8, .ref m9, .ref m10, .ref m11, .ref m12, .int mch, .int mfr, .int mfw, .int mrd, .ref m17, .ref m18, .ref m19, .ref m20, .ref m21, .ref m22, .ref m23, .int mtr])), (m20, .inl (cI, 4, .inl SZ)), (m21, .inl (cI, 4, .inl LN))]) [0, 7, 8] (by decide) rfl
      have hKc := hK.sub (tys' := [(cI, .int)]) [0] rfl
      have hFc := va_free (wc := [(m0, .inr (5, [.int mfa, .int mho, .ref m2, .ref m3, .ref m4, .int mra, .int mrh, .ref m7, .ref m8, .ref m9, .ref m10, .ref m11, .ref m12, .int mch, .int mfr, .int mfw, .int mrd, .ref m17, .ref m18, .ref m19, .ref m20, .ref m21, .ref m22, .ref m23, .int mtr])), (m20, .inl (cI, 4, .inl SZ)), (m21, .inl (cI, 4, .inl LN))]) hD hS hA [0, 7, 8] rfl
      refine va_calli (va_runV (As := [.int i1, .int i2, .int i3, .long i4.toInt64]) (rest := []) ⟨hx, hb, hml, hown, hts⟩ (ctX5_cellsBarred l dC dI cI m0 m2 m3 m4 m7 m8 m9 m10 m11 m12 m17 m18 m19 m20 m21 m22 m23 H.size mfa mho mra mrh mch mfr mfw mrd mtr SZ LN i1 i2 i3 i4.toInt64 (by assumption)) (cwV 4 hts gX5_city_X5_cellsBarred rfl rfl rfl (by decide +kernel) ⟨Nat.le_of_ble_eq_true rfl, Nat.le_of_ble_eq_true rfl⟩) (pre_V hKc hN hPc hDc (RX5, TX5, 25) 5 0 rfl rfl) rfl rfl hl.1 rfl (lv_room (Nat.le_of_ble_eq_true rfl)) dX5_city_39 ⟨Nat.le_of_ble_eq_true rfl, Nat.le_of_ble_eq_true rfl⟩) hS (fun q _ h => hFc q h) hFc (fun r_39 _ t H locs ht hvm hw hB hz1 hk1 hS => ?_)
      try dsimp only at hw
      have er_39 := hw.symm
      rw [ht] at hB
      refine nm_gen ((p5_cellsBarred mfa SZ LN i1 i2 i3 i4.toInt64).2) (fun mfa_39 emfa_39 => ?_)
      rw [emfa_39] at hB
      obtain ⟨hP, hD⟩ := rw_join ([(m0, .inr (5, [.int mfa, .int mho, .ref m2, .ref m3, .ref m4, .int mra, .int mrh, .ref m7, .ref m8, .ref m9, .ref m10, .ref m11, .ref m12, .int mch, .int mfr, .int mfw, .int mrd, .ref m17, .ref m18, .ref m19, .ref m20, .ref m21, .ref m22, .ref m23, .int mtr])), (m2, .inl (cI, 6, .inl K)), (m3, .inl (cI, 6, .inl L)), (m4, .inl (cI, 6, .inl C)), (m7, .inl (cI, 6, .inl RK)), (m8, .inl (cI, 6, .inl RL)), (m9, .inl (cI, 6, .inl RC)), (m20, .inl (cI, 4, .inl SZ)), (m21, .inl (cI, 4, .inl LN)), (m22, .inl (cI, 240, .inl SH))]) ([(m0, .inr (5, [.int mfa_39, .int mho, .ref m2, .ref m3, .ref m4, .int mra, .int mrh, .ref m7, .ref m8, .ref m9, .ref m10, .ref m11, .ref m12, .int mch, .int mfr, .int mfw, .int mrd, .ref m17, .ref m18, .ref m19, .ref m20, .ref m21, .ref m22, .ref m23, .int mtr])), (m2, .inl (cI, 6, .inl K)), (m3, .inl (cI, 6, .inl L)), (m4, .inl (cI, 6, .inl C)), (m7, .inl (cI, 6, .inl RK)), (m8, .inl (cI, 6, .inl RL)), (m9, .inl (cI, 6, .inl RC)), (m20, .inl (cI, 4, .inl SZ)), (m21, .inl (cI, 4, .inl LN)), (m22, .inl (cI, 240, .inl SH))]) ([(m0, .inr (5, [.int mfa, .int mho, .ref m2, .ref m3, .ref m4, .int mra, .int mrh, .ref m7, .ref m8, .ref m9, .ref m10, .ref m11, .ref m12, .int mch, .int mfr, .int mfw, .int mrd, .ref m17, .ref m18, .ref m19, .ref m20, .ref m21, .ref m22, .ref m23, .int mtr])), (m20, .inl (cI, 4, .inl SZ)), (m21, .inl (cI, 4, .inl LN))]) ([(m0, .inr (5, [.int mfa_39, .int mho, .ref m2, .ref m3, .ref m4, .int mra, .int mrh, .ref m7, .ref m8, .ref m9, .ref m10, .ref m11, .ref m12, .int mch, .int mfr, .int mfw, .int mrd, .ref m17, .ref m18, .ref m19, .ref m20, .ref m21, .ref m22, .ref m23, .int mtr])), (m20, .inl (cI, 4, .inl SZ)), (m21, .inl (cI, 4, .inl LN))]) ([(m2, .inl (cI, 6, .inl K)), (m3, .inl (cI, 6, .inl L)), (m4, .inl (cI, 6, .inl C)), (m7, .inl (cI, 6, .inl RK)), (m8, .inl (cI, 6, .inl RL)), (m9, .inl (cI, 6, .inl RC)), (m22, .inl (cI, 240, .inl SH))]) hP hD [0, 7, 8] [1, 2, 3, 4, 5, 6, 9] [m0, m2, m3, m4, m7, m8, m9, m20, m21, m22] 10 rfl rfl rfl rfl rfl (by decide) rfl rfl hk1 hB
      refine lv_istore (lv' := [(5, .int r_39), (0, .ref m0), (1, .int i1), (2, .int i2), (3, .int i3), (4, .int i4)]) hx hb dX5_city_42 hl (by decide) rfl (fun ls hl => ?_)
      refine lv_iload hx hb dX5_city_44 (lv_at hl 0 rfl) ?_
      refine lv_if_ge (tgt := 52) hx hb dX5_city_46 (by decide) (fun c_46 => ?_) (fun c_46 => ?_)
      · skip
        have jf := cb_span j1 (hSZ _) er_39 c_46
        refine lv_aload_n hx hb dX5_city_52 rfl (lv_at hl 1 rfl) ?_
        refine lv_bipush (v := 60) hx hb dX5_city_53 (by decide) ?_
        refine lv_iload_n hx hb dX5_city_55 rfl (lv_at hl 2 rfl) ?_
        refine lv_imul hx hb dX5_city_56 ?_
        refine lv_iload_n hx hb dX5_city_57 rfl (lv_at hl 4 rfl) ?_
        refine lv_iadd hx hb dX5_city_58 ?_
        refine lv_iload hx hb dX5_city_59 (lv_at hl 5 rfl) ?_
        have hPc := hP.sub (ws' := [(m0, .inr (5, [.int mfa_39, .int mho, .ref m2, .ref m3, .ref m4, .int mra, .int mrh, .ref m7, .ref m8, .ref m9, .ref m10, .ref m11, .ref m12, .int mch, .int mfr, .int mfw, .int mrd, .ref m17, .ref m18, .ref m19, .ref m20, .ref m21, .ref m22, .ref m23, .int mtr])), (m7, .inl (cI, 6, .inl RK)), (m8, .inl (cI, 6, .inl RL)), (m9, .inl (cI, 6, .inl RC)), (m22, .inl (cI, 240, .inl SH))]) [0, 4, 5, 6, 9] rfl
        have hDc := hD.sub (ws' := [(m0, .inr (5, [.int mfa_39, .int mho, .ref m2, .ref m3, .ref m4, .int mra, .int mrh, .ref m7, .ref m8, .ref m9, .ref m10, .ref m11, .ref m12, .int mch, .int mfr, .int mfw, .int mrd, .ref m17, .ref m18, .ref m19, .ref m20, .ref m21, .ref m22, .ref m23, .int mtr])), (m7, .inl (cI, 6, .inl RK)), (m8, .inl (cI, 6, .inl RL)), (m9, .inl (cI, 6, .inl RC)), (m22, .inl (cI, 240, .inl SH))]) [0, 4, 5, 6, 9] (by decide) rfl
        have hKc := hK.sub (tys' := [(cI, .int)]) [0] rfl
        have hFc := va_free (wc := [(m0, .inr (5, [.int mfa_39, .int mho, .ref m2, .ref m3, .ref m4, .int mra, .int mrh, .ref m7, .ref m8, .ref m9, .ref m10, .ref m11, .ref m12, .int mch, .int mfr, .int mfw, .int mrd, .ref m17, .ref m18, .ref m19, .ref m20, .ref m21, .ref m22, .ref m23, .int mtr])), (m7, .inl (cI, 6, .inl RK)), (m8, .inl (cI, 6, .inl RL)), (m9, .inl (cI, 6, .inl RC)), (m22, .inl (cI, 240, .inl SH))]) hD hS hA [0, 4, 5, 6, 9] rfl
        refine va_calli (va_runV (As := [.int ((60 * i1) + i3), .int i4]) (rest := []) ⟨hx, hb, hml, hown, hts⟩ (ctX5_readsCity l dC dI cI m0 m2 m3 m4 m7 m8 m9 m10 m11 m12 m17 m18 m19 m20 m21 m22 m23 H.size mfa_39 mho mra mrh mch mfr mfw mrd mtr RK RL RC SH ((60 * i1) + i3) i4 jf) (cwV 2 hts gX5_city_X5_readsCity rfl rfl rfl (by decide +kernel) ⟨Nat.le_of_ble_eq_true rfl, Nat.le_of_ble_eq_true rfl⟩) (pre_V hKc hN hPc hDc (RX5, TX5, 25) 5 0 rfl rfl) rfl rfl hl.1 rfl (lv_room (Nat.le_of_ble_eq_true rfl)) dX5_city_61 ⟨Nat.le_of_ble_eq_true rfl, Nat.le_of_ble_eq_true rfl⟩) hS (fun q _ h => hFc q h) hFc (fun r_61 _ t H locs ht hvm hw hB hz1 hk1 hS => ?_)
        try dsimp only at hw
        have er_61 := hw.symm
        rw [ht] at hB
        refine nm_gen ((p5_readsCity mra mrh RK RL RC SH ((60 * i1) + i3) i4).2.1) (fun mra_61 emra_61 => ?_)
        rw [emra_61] at hB
        refine nm_gen ((p5_readsCity mra mrh RK RL RC SH ((60 * i1) + i3) i4).2.2.1) (fun mrh_61 emrh_61 => ?_)
        rw [emrh_61] at hB
        refine nm_gen ((p5_readsCity mra mrh RK RL RC SH ((60 * i1) + i3) i4).2.2.2.1) (fun RK_61 eRK_61 => ?_)
        rw [eRK_61] at hB
        refine nm_gen ((p5_readsCity mra mrh RK RL RC SH ((60 * i1) + i3) i4).2.2.2.2.1) (fun RL_61 eRL_61 => ?_)
        rw [eRL_61] at hB
        refine nm_gen ((p5_readsCity mra mrh RK RL RC SH ((60 * i1) + i3) i4).2.2.2.2.2) (fun RC_61 eRC_61 => ?_)
        rw [eRC_61] at hB
        obtain ⟨hP, hD⟩ := rw_join ([(m0, .inr (5, [.int mfa_39, .int mho, .ref m2, .ref m3, .ref m4, .int mra, .int mrh, .ref m7, .ref m8, .ref m9, .ref m10, .ref m11, .ref m12, .int mch, .int mfr, .int mfw, .int mrd, .ref m17, .ref m18, .ref m19, .ref m20, .ref m21, .ref m22, .ref m23, .int mtr])), (m2, .inl (cI, 6, .inl K)), (m3, .inl (cI, 6, .inl L)), (m4, .inl (cI, 6, .inl C)), (m7, .inl (cI, 6, .inl RK)), (m8, .inl (cI, 6, .inl RL)), (m9, .inl (cI, 6, .inl RC)), (m20, .inl (cI, 4, .inl SZ)), (m21, .inl (cI, 4, .inl LN)), (m22, .inl (cI, 240, .inl SH))]) ([(m0, .inr (5, [.int mfa_39, .int mho, .ref m2, .ref m3, .ref m4, .int mra_61, .int mrh_61, .ref m7, .ref m8, .ref m9, .ref m10, .ref m11, .ref m12, .int mch, .int mfr, .int mfw, .int mrd, .ref m17, .ref m18, .ref m19, .ref m20, .ref m21, .ref m22, .ref m23, .int mtr])), (m2, .inl (cI, 6, .inl K)), (m3, .inl (cI, 6, .inl L)), (m4, .inl (cI, 6, .inl C)), (m7, .inl (cI, 6, .inl RK_61)), (m8, .inl (cI, 6, .inl RL_61)), (m9, .inl (cI, 6, .inl RC_61)), (m20, .inl (cI, 4, .inl SZ)), (m21, .inl (cI, 4, .inl LN)), (m22, .inl (cI, 240, .inl SH))]) ([(m0, .inr (5, [.int mfa_39, .int mho, .ref m2, .ref m3, .ref m4, .int mra, .int mrh, .ref m7, .ref m8, .ref m9, .ref m10, .ref m11, .ref m12, .int mch, .int mfr, .int mfw, .int mrd, .ref m17, .ref m18, .ref m19, .ref m20, .ref m21, .ref m22, .ref m23, .int mtr])), (m7, .inl (cI, 6, .inl RK)), (m8, .inl (cI, 6, .inl RL)), (m9, .inl (cI, 6, .inl RC)), (m22, .inl (cI, 240, .inl SH))]) ([(m0, .inr (5, [.int mfa_39, .int mho, .ref m2, .ref m3, .ref m4, .int mra_61, .int mrh_61, .ref m7, .ref m8, .ref m9, .ref m10, .ref m11, .ref m12, .int mch, .int mfr, .int mfw, .int mrd, .ref m17, .ref m18, .ref m19, .ref m20, .ref m21, .ref m22, .ref m23, .int mtr])), (m7, .inl (cI, 6, .inl RK_61)), (m8, .inl (cI, 6, .inl RL_61)), (m9, .inl (cI, 6, .inl RC_61)), (m22, .inl (cI, 240, .inl SH))]) ([(m2, .inl (cI, 6, .inl K)), (m3, .inl (cI, 6, .inl L)), (m4, .inl (cI, 6, .inl C)), (m20, .inl (cI, 4, .inl SZ)), (m21, .inl (cI, 4, .inl LN))]) hP hD [0, 4, 5, 6, 9] [1, 2, 3, 7, 8] [m0, m2, m3, m4, m7, m8, m9, m20, m21, m22] 10 rfl rfl rfl rfl rfl (by decide) rfl rfl hk1 hB
        refine lv_if_ne (tgt := 79) hx hb dX5_city_64 (by decide) (fun c_64 => ?_) (fun c_64 => ?_)
        · skip
          refine lv_aload_n hx hb dX5_city_79 rfl (lv_at hl 1 rfl) ?_
          refine lv_aload_n hx hb dX5_city_80 rfl (lv_at hl 1 rfl) ?_
          refine va_get (D := (dC, dI)) (ci := 5) (v := .int mrh_61) (C := RX5) (T := TX5) (N := 25) hx hb hts hin5 hown hK hP 0 rfl rfl 6 (by decide) kf_84 (fun _ h9 => h9) rfl dX5_city_81 ?_
          refine va_put (D := (dC, dI)) (ci := 5) (v := .int mrh_61) (ty := .int) (C := RX5) (T := TX5) (N := 25) hx hb hts hin5 tyX5 tyX5_ok nmX5 hown hK hP hD hS 0 rfl rfl 1 (by decide) kf_68 (fun _ h9 => h9) rfl (by decide +kernel) rfl rfl (Nat.le_of_ble_eq_true rfl) dX5_city_84 (fun H locs hP hD hS => ?_)
          have hP : va_P (dC, dI) vwCl ([(m0, .inr (5, [.int mfa_39, .int mrh_61, .ref m2, .ref m3, .ref m4, .int mra_61, .int mrh_61, .ref m7, .ref m8, .ref m9, .ref m10, .ref m11, .ref m12, .int mch, .int mfr, .int mfw, .int mrd, .ref m17, .ref m18, .ref m19, .ref m20, .ref m21, .ref m22, .ref m23, .int mtr])), (m2, .inl (cI, 6, .inl K)), (m3, .inl (cI, 6, .inl L)), (m4, .inl (cI, 6, .inl C)), (m7, .inl (cI, 6, .inl RK_61)), (m8, .inl (cI, 6, .inl RL_61)), (m9, .inl (cI, 6, .inl RC_61)), (m20, .inl (cI, 4, .inl SZ)), (m21, .inl (cI, 4, .inl LN)), (m22, .inl (cI, 240, .inl SH))]) H := hP
          have hD : va_D A ([(m0, .inr (5, [.int mfa_39, .int mrh_61, .ref m2, .ref m3, .ref m4, .int mra_61, .int mrh_61, .ref m7, .ref m8, .ref m9, .ref m10, .ref m11, .ref m12, .int mch, .int mfr, .int mfw, .int mrd, .ref m17, .ref m18, .ref m19, .ref m20, .ref m21, .ref m22, .ref m23, .int mtr])), (m2, .inl (cI, 6, .inl K)), (m3, .inl (cI, 6, .inl L)), (m4, .inl (cI, 6, .inl C)), (m7, .inl (cI, 6, .inl RK_61)), (m8, .inl (cI, 6, .inl RL_61)), (m9, .inl (cI, 6, .inl RC_61)), (m20, .inl (cI, 4, .inl SZ)), (m21, .inl (cI, 4, .inl LN)), (m22, .inl (cI, 240, .inl SH))]) := hD
          refine lv_iconst (v := 0) hx hb dX5_city_87 (by decide) ?_
          refine lv_istore (lv' := [(6, .int 0), (5, .int r_39), (0, .ref m0), (1, .int i1), (2, .int i2), (3, .int i3), (4, .int i4)]) hx hb dX5_city_88 hl (by decide) rfl (fun ls hl => ?_)
          exact lp_90 7 0 mfa_39 mrh_61 mra_61 mrh_61 K L C RK_61 RL_61 RC_61 _ _ _ (up_i 6 (by decide) (by rw [← emrh_61]; exact readsCity_h)) (by rw [← emrh_61]; exact readsCity_h) hP hD hS (lv_sub hl [0, 2] rfl) (by unfold p5_city; simp only [er_39, emfa_39, er_61, emra_61, emrh_61, eRK_61, eRL_61, eRC_61]; rw [if_pos c_4, if_neg c_22, if_pos c_46, if_neg c_64])
        · skip
          refine lv_aload_n hx hb dX5_city_67 rfl (lv_at hl 1 rfl) ?_
          refine lv_bipush (v := (-100)) hx hb dX5_city_68 (by decide) ?_
          refine lv_aload_n hx hb dX5_city_70 rfl (lv_at hl 1 rfl) ?_
          refine va_get (D := (dC, dI)) (ci := 5) (v := .int mra_61) (C := RX5) (T := TX5) (N := 25) hx hb hts hin5 hown hK hP 0 rfl rfl 5 (by decide) kf_77 (fun _ h9 => h9) rfl dX5_city_71 ?_
          refine lv_isub hx hb dX5_city_74 ?_
          have hPc := hP.sub (ws' := [(m0, .inr (5, [.int mfa_39, .int mho, .ref m2, .ref m3, .ref m4, .int mra_61, .int mrh_61, .ref m7, .ref m8, .ref m9, .ref m10, .ref m11, .ref m12, .int mch, .int mfr, .int mfw, .int mrd, .ref m17, .ref m18, .ref m19, .ref m20, .ref m21, .ref m22, .ref m23, .int mtr]))]) [0] rfl
          have hDc := hD.sub (ws' := [(m0, .inr (5, [.int mfa_39, .int mho, .ref m2, .ref m3, .ref m4, .int mra_61, .int mrh_61, .ref m7, .ref m8, .ref m9, .ref m10, .ref m11, .ref m12, .int mch, .int mfr, .int mfw, .int mrd, .ref m17, .ref m18, .ref m19, .ref m20, .ref m21, .ref m22, .ref m23, .int mtr]))]) [0] (by decide) rfl
          have hKc := hK.sub (tys' := [(cI, .int)]) [0] rfl
          have hFc := va_free (wc := [(m0, .inr (5, [.int mfa_39, .int mho, .ref m2, .ref m3, .ref m4, .int mra_61, .int mrh_61, .ref m7, .ref m8, .ref m9, .ref m10, .ref m11, .ref m12, .int mch, .int mfr, .int mfw, .int mrd, .ref m17, .ref m18, .ref m19, .ref m20, .ref m21, .ref m22, .ref m23, .int mtr]))]) hD hS hA [0] rfl
          refine va_calli (va_runV (As := [.int ((-100) - mra_61)]) (rest := []) ⟨hx, hb, hml, hown, hts⟩ (ctX5_refused l dC dI cI m0 m2 m3 m4 m7 m8 m9 m10 m11 m12 m17 m18 m19 m20 m21 m22 m23 H.size mfa_39 mho mra_61 mrh_61 mch mfr mfw mrd mtr ((-100) - mra_61)) (cwV 1 hts gX5_city_X5_refused rfl rfl rfl (by decide +kernel) ⟨Nat.le_of_ble_eq_true rfl, Nat.le_of_ble_eq_true rfl⟩) (pre_V hKc hN hPc hDc (RX5, TX5, 25) 5 0 rfl rfl) rfl rfl hl.1 rfl (lv_room (Nat.le_of_ble_eq_true rfl)) dX5_city_75 ⟨Nat.le_of_ble_eq_true rfl, Nat.le_of_ble_eq_true rfl⟩) hS (fun q _ h => hFc q h) hFc (fun r_75 _ t H locs ht hvm hw hB hz1 hk1 hS => ?_)
          try dsimp only at hw
          have er_75 := hw.symm
          rw [ht] at hB
          refine nm_gen ((p5_refused mfa_39 ((-100) - mra_61)).2) (fun mfa_75 emfa_75 => ?_)
          rw [emfa_75] at hB
          obtain ⟨hP, hD⟩ := rw_join ([(m0, .inr (5, [.int mfa_39, .int mho, .ref m2, .ref m3, .ref m4, .int mra_61, .int mrh_61, .ref m7, .ref m8, .ref m9, .ref m10, .ref m11, .ref m12, .int mch, .int mfr, .int mfw, .int mrd, .ref m17, .ref m18, .ref m19, .ref m20, .ref m21, .ref m22, .ref m23, .int mtr])), (m2, .inl (cI, 6, .inl K)), (m3, .inl (cI, 6, .inl L)), (m4, .inl (cI, 6, .inl C)), (m7, .inl (cI, 6, .inl RK_61)), (m8, .inl (cI, 6, .inl RL_61)), (m9, .inl (cI, 6, .inl RC_61)), (m20, .inl (cI, 4, .inl SZ)), (m21, .inl (cI, 4, .inl LN)), (m22, .inl (cI, 240, .inl SH))]) ([(m0, .inr (5, [.int mfa_75, .int mho, .ref m2, .ref m3, .ref m4, .int mra_61, .int mrh_61, .ref m7, .ref m8, .ref m9, .ref m10, .ref m11, .ref m12, .int mch, .int mfr, .int mfw, .int mrd, .ref m17, .ref m18, .ref m19, .ref m20, .ref m21, .ref m22, .ref m23, .int mtr])), (m2, .inl (cI, 6, .inl K)), (m3, .inl (cI, 6, .inl L)), (m4, .inl (cI, 6, .inl C)), (m7, .inl (cI, 6, .inl RK_61)), (m8, .inl (cI, 6, .inl RL_61)), (m9, .inl (cI, 6, .inl RC_61)), (m20, .inl (cI, 4, .inl SZ)), (m21, .inl (cI, 4, .inl LN)), (m22, .inl (cI, 240, .inl SH))]) ([(m0, .inr (5, [.int mfa_39, .int mho, .ref m2, .ref m3, .ref m4, .int mra_61, .int mrh_61, .ref m7, .ref m8, .ref m9, .ref m10, .ref m11, .ref m12, .int mch, .int mfr, .int mfw, .int mrd, .ref m17, .ref m18, .ref m19, .ref m20, .ref m21, .ref m22, .ref m23, .int mtr]))]) ([(m0, .inr (5, [.int mfa_75, .int mho, .ref m2, .ref m3, .ref m4, .int mra_61, .int mrh_61, .ref m7, .ref m8, .ref m9, .ref m10, .ref m11, .ref m12, .int mch, .int mfr, .int mfw, .int mrd, .ref m17, .ref m18, .ref m19, .ref m20, .ref m21, .ref m22, .ref m23, .int mtr]))]) ([(m2, .inl (cI, 6, .inl K)), (m3, .inl (cI, 6, .inl L)), (m4, .inl (cI, 6, .inl C)), (m7, .inl (cI, 6, .inl RK_61)), (m8, .inl (cI, 6, .inl RL_61)), (m9, .inl (cI, 6, .inl RC_61)), (m20, .inl (cI, 4, .inl SZ)), (m21, .inl (cI, 4, .inl LN)), (m22, .inl (cI, 240, .inl SH))]) hP hD [0] [1, 2, 3, 4, 5, 6, 7, 8, 9] [m0, m2, m3, m4, m7, m8, m9, m20, m21, m22] 10 rfl rfl rfl rfl rfl (by decide) rfl rfl hk1 hB
          have hE9 : p5_city mfa mho mra mrh mrd K L C RK RL RC SZ LN SH i1 i2 i3 i4 = (r_75, mfa_75, mho, mra_61, mrh_61, mrd, K, L, C, RK_61, RL_61, RC_61) := by unfold p5_city; simp only [er_39, emfa_39, er_61, emra_61, emrh_61, eRK_61, eRL_61, eRC_61, er_75, emfa_75]; rw [if_pos c_4, if_neg c_22, if_pos c_46, if_pos c_64]
          exact W.iret (v := r_75) hx hb hr (fun t ht hW => ⟨⟨_, (), rfl, by rw [hE9], by show va_P (dC, dI) vwCl _ t.heap; rw [ht, hE9]; exact hP⟩, hS.F ht⟩) hS.2.2 dX5_city_78
      · skip
        refine lv_iload hx hb dX5_city_49 (lv_at hl 0 rfl) ?_
        have hE9 : p5_city mfa mho mra mrh mrd K L C RK RL RC SZ LN SH i1 i2 i3 i4 = (r_39, mfa_39, mho, mra, mrh, mrd, K, L, C, RK, RL, RC) := by unfold p5_city; simp only [er_39, emfa_39]; rw [if_pos c_4, if_neg c_22, if_neg c_46]
        exact W.iret (v := r_39) hx hb hr (fun t ht hW => ⟨⟨_, (), rfl, by rw [hE9], by show va_P (dC, dI) vwCl _ t.heap; rw [ht, hE9]; exact hP⟩, hS.F ht⟩) hS.2.2 dX5_city_51
    · skip
      refine lv_aload_n hx hb dX5_city_25 rfl (lv_at hl 0 rfl) ?_
      refine lv_bipush (v := (-2)) hx hb dX5_city_26 (by decide) ?_
      have hPc := hP.sub (ws' := [(m0, .inr (5, [.int mfa, .int mho, .ref m2, .ref m3, .ref m4, .int mra, .int mrh, .ref m7, .ref m8, .ref m9, .ref m10, .ref m11, .ref m12, .int mch, .int mfr, .int mfw, .int mrd, .ref m17, .ref m18, .ref m19, .ref m20, .ref m21, .ref m22, .ref m23, .int mtr]))]) [0] rfl
      have hDc := hD.sub (ws' := [(m0, .inr (5, [.int mfa, .int mho, .ref m2, .ref m3, .ref m4, .int mra, .int mrh, .ref m7, .ref m8, .ref m9, .ref m10, .ref m11, .ref m12, .int mch, .int mfr, .int mfw, .int mrd, .ref m17, .ref m18, .ref m19, .ref m20, .ref m21, .ref m22, .ref m23, .int mtr]))]) [0] (by decide) rfl
      have hKc := hK.sub (tys' := [(cI, .int)]) [0] rfl
      have hFc := va_free (wc := [(m0, .inr (5, [.int mfa, .int mho, .ref m2, .ref m3, .ref m4, .int mra, .int mrh, .ref m7, .ref m8, .ref m9, .ref m10, .ref m11, .ref m12, .int mch, .int mfr, .int mfw, .int mrd, .ref m17, .ref m18, .ref m19, .ref m20, .ref m21, .ref m22, .ref m23, .int mtr]))]) hD hS hA [0] rfl
      refine va_calli (va_runV (As := [.int (-2)]) (rest := []) ⟨hx, hb, hml, hown, hts⟩ (ctX5_refused l dC dI cI m0 m2 m3 m4 m7 m8 m9 m10 m11 m12 m17 m18 m19 m20 m21 m22 m23 H.size mfa mho mra mrh mch mfr mfw mrd mtr (-2)) (cwV 1 hts gX5_city_X5_refused rfl rfl rfl (by decide +kernel) ⟨Nat.le_of_ble_eq_true rfl, Nat.le_of_ble_eq_true rfl⟩) (pre_V hKc hN hPc hDc (RX5, TX5, 25) 5 0 rfl rfl) rfl rfl hl.1 rfl (lv_room (Nat.le_of_ble_eq_true rfl)) dX5_city_28 ⟨Nat.le_of_ble_eq_true rfl, Nat.le_of_ble_eq_true rfl⟩) hS (fun q _ h => hFc q h) hFc (fun r_28 _ t H locs ht hvm hw hB hz1 hk1 hS => ?_)
      try dsimp only at hw
      have er_28 := hw.symm
      rw [ht] at hB
      refine nm_gen ((p5_refused mfa (-2)).2) (fun mfa_28 emfa_28 => ?_)
      rw [emfa_28] at hB
      obtain ⟨hP, hD⟩ := rw_join ([(m0, .inr (5, [.int mfa, .int mho, .ref m2, .ref m3, .ref m4, .int mra, .int mrh, .ref m7, .ref m8, .ref m9, .ref m10, .ref m11, .ref m12, .int mch, .int mfr, .int mfw, .int mrd, .ref m17, .ref m18, .ref m19, .ref m20, .ref m21, .ref m22, .ref m23, .int mtr])), (m2, .inl (cI, 6, .inl K)), (m3, .inl (cI, 6, .inl L)), (m4, .inl (cI, 6, .inl C)), (m7, .inl (cI, 6, .inl RK)), (m8, .inl (cI, 6, .inl RL)), (m9, .inl (cI, 6, .inl RC)), (m20, .inl (cI, 4, .inl SZ)), (m21, .inl (cI, 4, .inl LN)), (m22, .inl (cI, 240, .inl SH))]) ([(m0, .inr (5, [.int mfa_28, .int mho, .ref m2, .ref m3, .ref m4, .int mra, .int mrh, .ref m7, .ref m8, .ref m9, .ref m10, .ref m11, .ref m12, .int mch, .int mfr, .int mfw, .int mrd, .ref m17, .ref m18, .ref m19, .ref m20, .ref m21, .ref m22, .ref m23, .int mtr])), (m2, .inl (cI, 6, .inl K)), (m3, .inl (cI, 6, .inl L)), (m4, .inl (cI, 6, .inl C)), (m7, .inl (cI, 6, .inl RK)), (m8, .inl (cI, 6, .inl RL)), (m9, .inl (cI, 6, .inl RC)), (m20, .inl (cI, 4, .inl SZ)), (m21, .inl (cI, 4, .inl LN)), (m22, .inl (cI, 240, .inl SH))]) ([(m0, .inr (5, [.int mfa, .int mho, .ref m2, .ref m3, .ref m4, .int mra, .int mrh, .ref m7, .ref m8, .ref m9, .ref m10, .ref m11, .ref m12, .int mch, .int mfr, .int mfw, .int mrd, .ref m17, .ref m18, .ref m19, .ref m20, .ref m21, .ref m22, .ref m23, .int mtr]))]) ([(m0, .inr (5, [.int mfa_28, .int mho, .ref m2, .ref m3, .ref m4, .int mra, .int mrh, .ref m7, .ref m8, .ref m9, .ref m10, .ref m11, .ref m12, .int mch, .int mfr, .int mfw, .int mrd, .ref m17, .ref m18, .ref m19, .ref m20, .ref m21, .ref m22, .ref m23, .int mtr]))]) ([(m2, .inl (cI, 6, .inl K)), (m3, .inl (cI, 6, .inl L)), (m4, .inl (cI, 6, .inl C)), (m7, .inl (cI, 6, .inl RK)), (m8, .inl (cI, 6, .inl RL)), (m9, .inl (cI, 6, .inl RC)), (m20, .inl (cI, 4, .inl SZ)), (m21, .inl (cI, 4, .inl LN)), (m22, .inl (cI, 240, .inl SH))]) hP hD [0] [1, 2, 3, 4, 5, 6, 7, 8, 9] [m0, m2, m3, m4, m7, m8, m9, m20, m21, m22] 10 rfl rfl rfl rfl rfl (by decide) rfl rfl hk1 hB
      have hE9 : p5_city mfa mho mra mrh mrd K L C RK RL RC SZ LN SH i1 i2 i3 i4 = (r_28, mfa_28, mho, mra, mrh, mrd, K, L, C, RK, RL, RC) := by unfold p5_city; simp only [er_28, emfa_28]; rw [if_pos c_4, if_pos c_22]
      exact W.iret (v := r_28) hx hb hr (fun t ht hW => ⟨⟨_, (), rfl, by rw [hE9], by show va_P (dC, dI) vwCl _ t.heap; rw [ht, hE9]; exact hP⟩, hS.F ht⟩) hS.2.2 dX5_city_31
  · skip
    refine lv_aload_n hx hb dX5_city_7 rfl (lv_at hl 0 rfl) ?_
    refine lv_iconst (v := (-1)) hx hb dX5_city_8 (by decide) ?_
    have hPc := hP.sub (ws' := [(m0, .inr (5, [.int mfa, .int mho, .ref m2, .ref m3, .ref m4, .int mra, .int mrh, .ref m7, .ref m8, .ref m9, .ref m10, .ref m11, .ref m12, .int mch, .int mfr, .int mfw, .int mrd, .ref m17, .ref m18, .ref m19, .ref m20, .ref m21, .ref m22, .ref m23, .int mtr]))]) [0] rfl
    have hDc := hD.sub (ws' := [(m0, .inr (5, [.int mfa, .int mho, .ref m2, .ref m3, .ref m4, .int mra, .int mrh, .ref m7, .ref m8, .ref m9, .ref m10, .ref m11, .ref m12, .int mch, .int mfr, .int mfw, .int mrd, .ref m17, .ref m18, .ref m19, .ref m20, .ref m21, .ref m22, .ref m23, .int mtr]))]) [0] (by decide) rfl
    have hKc := hK.sub (tys' := [(cI, .int)]) [0] rfl
    have hFc := va_free (wc := [(m0, .inr (5, [.int mfa, .int mho, .ref m2, .ref m3, .ref m4, .int mra, .int mrh, .ref m7, .ref m8, .ref m9, .ref m10, .ref m11, .ref m12, .int mch, .int mfr, .int mfw, .int mrd, .ref m17, .ref m18, .ref m19, .ref m20, .ref m21, .ref m22, .ref m23, .int mtr]))]) hD hS hA [0] rfl
    refine va_calli (va_runV (As := [.int (-1)]) (rest := []) ⟨hx, hb, hml, hown, hts⟩ (ctX5_refused l dC dI cI m0 m2 m3 m4 m7 m8 m9 m10 m11 m12 m17 m18 m19 m20 m21 m22 m23 H.size mfa mho mra mrh mch mfr mfw mrd mtr (-1)) (cwV 1 hts gX5_city_X5_refused rfl rfl rfl (by decide +kernel) ⟨Nat.le_of_ble_eq_true rfl, Nat.le_of_ble_eq_true rfl⟩) (pre_V hKc hN hPc hDc (RX5, TX5, 25) 5 0 rfl rfl) rfl rfl hl.1 rfl (lv_room (Nat.le_of_ble_eq_true rfl)) dX5_city_9 ⟨Nat.le_of_ble_eq_true rfl, Nat.le_of_ble_eq_true rfl⟩) hS (fun q _ h => hFc q h) hFc (fun r_9 _ t H locs ht hvm hw hB hz1 hk1 hS => ?_)
    try dsimp only at hw
    have er_9 := hw.symm
    rw [ht] at hB
    refine nm_gen ((p5_refused mfa (-1)).2) (fun mfa_9 emfa_9 => ?_)
    rw [emfa_9] at hB
    obtain ⟨hP, hD⟩ := rw_join ([(m0, .inr (5, [.int mfa, .int mho, .ref m2, .ref m3, .ref m4, .int mra, .int mrh, .ref m7, .ref m8, .ref m9, .ref m10, .ref m11, .ref m12, .int mch, .int mfr, .int mfw, .int mrd, .ref m17, .ref m18, .ref m19, .ref m20, .ref m21, .ref m22, .ref m23, .int mtr])), (m2, .inl (cI, 6, .inl K)), (m3, .inl (cI, 6, .inl L)), (m4, .inl (cI, 6, .inl C)), (m7, .inl (cI, 6, .inl RK)), (m8, .inl (cI, 6, .inl RL)), (m9, .inl (cI, 6, .inl RC)), (m20, .inl (cI, 4, .inl SZ)), (m21, .inl (cI, 4, .inl LN)), (m22, .inl (cI, 240, .inl SH))]) ([(m0, .inr (5, [.int mfa_9, .int mho, .ref m2, .ref m3, .ref m4, .int mra, .int mrh, .ref m7, .ref m8, .ref m9, .ref m10, .ref m11, .ref m12, .int mch, .int mfr, .int mfw, .int mrd, .ref m17, .ref m18, .ref m19, .ref m20, .ref m21, .ref m22, .ref m23, .int mtr])), (m2, .inl (cI, 6, .inl K)), (m3, .inl (cI, 6, .inl L)), (m4, .inl (cI, 6, .inl C)), (m7, .inl (cI, 6, .inl RK)), (m8, .inl (cI, 6, .inl RL)), (m9, .inl (cI, 6, .inl RC)), (m20, .inl (cI, 4, .inl SZ)), (m21, .inl (cI, 4, .inl LN)), (m22, .inl (cI, 240, .inl SH))]) ([(m0, .inr (5, [.int mfa, .int mho, .ref m2, .ref m3, .ref m4, .int mra, .int mrh, .ref m7, .ref m8, .ref m9, .ref m10, .ref m11, .ref m12, .int mch, .int mfr, .int mfw, .int mrd, .ref m17, .ref m18, .ref m19, .ref m20, .ref m21, .ref m22, .ref m23, .int mtr]))]) ([(m0, .inr (5, [.int mfa_9, .int mho, .ref m2, .ref m3, .ref m4, .int mra, .int mrh, .ref m7, .ref m8, .ref m9, .ref m10, .ref m11, .ref m12, .int mch, .int mfr, .int mfw, .int mrd, .ref m17, .ref m18, .ref m19, .ref m20, .ref m21, .ref m22, .ref m23, .int mtr]))]) ([(m2, .inl (cI, 6, .inl K)), (m3, .inl (cI, 6, .inl L)), (m4, .inl (cI, 6, .inl C)), (m7, .inl (cI, 6, .inl RK)), (m8, .inl (cI, 6, .inl RL)), (m9, .inl (cI, 6, .inl RC)), (m20, .inl (cI, 4, .inl SZ)), (m21, .inl (cI, 4, .inl LN)), (m22, .inl (cI, 240, .inl SH))]) hP hD [0] [1, 2, 3, 4, 5, 6, 7, 8, 9] [m0, m2, m3, m4, m7, m8, m9, m20, m21, m22] 10 rfl rfl rfl rfl rfl (by decide) rfl rfl hk1 hB
    have hE9 : p5_city mfa mho mra mrh mrd K L C RK RL RC SZ LN SH i1 i2 i3 i4 = (r_9, mfa_9, mho, mra, mrh, mrd, K, L, C, RK, RL, RC) := by unfold p5_city; simp only [er_9, emfa_9]; rw [if_neg c_4]
    exact W.iret (v := r_9) hx hb hr (fun t ht hW => ⟨⟨_, (), rfl, by rw [hE9], by show va_P (dC, dI) vwCl _ t.heap; rw [ht, hE9]; exact hP⟩, hS.F ht⟩) hS.2.2 dX5_city_12

def p5_goYear_l43 (mho : Int32) (mch : Int32) (mfr : Int32) (mfw : Int32) (K : Nat → Int32) (L : Nat → Int32) (C : Nat → Int32) (PY : Nat → Int32) (SH : Nat → Int32) (i1 : Int32) (i2 : Int32) (i3 : Int32) : Nat → Int32 → Int32 → Int32 → Int32 → (Nat → Int32) → (Nat → Int32) → (Nat → Int32) → Int32 × Int32 × Int32 × (Nat → Int32) × (Nat → Int32) × (Nat → Int32)
  | 0, _, _, _, _, _, _, _ => (0, 0, 0, fun _ => 0, fun _ => 0, fun _ => 0)
  | n + 1, v4, mch_, mfr_, mfw_, L_, C_, PY_ =>
    if i3 ≤ v4 then
      (mch_, mfr_, mfw_, L_, C_, PY_)
    else
      if 0 ≤ mfw_ then
        (mch_, mfr_, mfw_, L_, C_, PY_)
      else
        if (SH (i2 + (2 * v4)).toNatClampNeg) = (SH ((i2 + (2 * v4)) + 1).toNatClampNeg) then
          p5_goYear_l43 mho mch mfr mfw K L C PY SH i1 i2 i3 n (v4 + 1) ((p5_goPair mho mch_ mfr_ K L_ C_ PY_ (SH (i2 + (2 * v4)).toNatClampNeg) (SH ((i2 + (2 * v4)) + 1).toNatClampNeg) i1).2.1) ((p5_goPair mho mch_ mfr_ K L_ C_ PY_ (SH (i2 + (2 * v4)).toNatClampNeg) (SH ((i2 + (2 * v4)) + 1).toNatClampNeg) i1).2.2.1) mfw_ ((p5_goPair mho mch_ mfr_ K L_ C_ PY_ (SH (i2 + (2 * v4)).toNatClampNeg) (SH ((i2 + (2 * v4)) + 1).toNatClampNeg) i1).2.2.2.1) ((p5_goPair mho mch_ mfr_ K L_ C_ PY_ (SH (i2 + (2 * v4)).toNatClampNeg) (SH ((i2 + (2 * v4)) + 1).toNatClampNeg) i1).2.2.2.2.1) ((p5_goPair mho mch_ mfr_ K L_ C_ PY_ (SH (i2 + (2 * v4)).toNatClampNeg) (SH ((i2 + (2 * v4)) + 1).toNatClampNeg) i1).2.2.2.2.2)
        else
          if (p5_mayPoint L_ (SH (i2 + (2 * v4)).toNatClampNeg) (SH ((i2 + (2 * v4)) + 1).toNatClampNeg)) = 0 then
            p5_goYear_l43 mho mch mfr mfw K L C PY SH i1 i2 i3 n (v4 + 1) mch_ mfr_ v4 L_ C_ PY_
          else
            p5_goYear_l43 mho mch mfr mfw K L C PY SH i1 i2 i3 n (v4 + 1) ((p5_goPair mho mch_ mfr_ K L_ C_ PY_ (SH (i2 + (2 * v4)).toNatClampNeg) (SH ((i2 + (2 * v4)) + 1).toNatClampNeg) i1).2.1) ((p5_goPair mho mch_ mfr_ K L_ C_ PY_ (SH (i2 + (2 * v4)).toNatClampNeg) (SH ((i2 + (2 * v4)) + 1).toNatClampNeg) i1).2.2.1) mfw_ ((p5_goPair mho mch_ mfr_ K L_ C_ PY_ (SH (i2 + (2 * v4)).toNatClampNeg) (SH ((i2 + (2 * v4)) + 1).toNatClampNeg) i1).2.2.2.1) ((p5_goPair mho mch_ mfr_ K L_ C_ PY_ (SH (i2 + (2 * v4)).toNatClampNeg) (SH ((i2 + (2 * v4)) + 1).toNatClampNeg) i1).2.2.2.2.1) ((p5_goPair mho mch_ mfr_ K L_ C_ PY_ (SH (i2 + (2 * v4)).toNatClampNeg) (SH ((i2 + (2 * v4)) + 1).toNatClampNeg) i1).2.2.2.2.2)
theorem p5_goYear_l43_s (mho : Int32) (mch : Int32) (mfr : Int32) (mfw : Int32) (K : Nat → Int32) (L : Nat → Int32) (C : Nat → Int32) (PY : Nat → Int32) (SH : Nat → Int32) (i1 : Int32) (i2 : Int32) (i3 : Int32) (n : Nat) (v4 : Int32) (mch_ : Int32) (mfr_ : Int32) (mfw_ : Int32) (L_ : Nat → Int32) (C_ : Nat → Int32) (PY_ : Nat → Int32) : p5_goYear_l43 mho mch mfr mfw K L C PY SH i1 i2 i3 (n + 1) v4 mch_ mfr_ mfw_ L_ C_ PY_ =
    (if i3 ≤ v4 then
      (mch_, mfr_, mfw_, L_, C_, PY_)
    else
      if 0 ≤ mfw_ then
        (mch_, mfr_, mfw_, L_, C_, PY_)
      else
        if (SH (i2 + (2 * v4)).toNatClampNeg) = (SH ((i2 + (2 * v4)) + 1).toNatClampNeg) then
          p5_goYear_l43 mho mch mfr mfw K L C PY SH i1 i2 i3 n (v4 + 1) ((p5_goPair mho mch_ mfr_ K L_ C_ PY_ (SH (i2 + (2 * v4)).toNatClampNeg) (SH ((i2 + (2 * v4)) + 1).toNatClampNeg) i1).2.1) ((p5_goPair mho mch_ mfr_ K L_ C_ PY_ (SH (i2 + (2 * v4)).toNatClampNeg) (SH ((i2 + (2 * v4)) + 1).toNatClampNeg) i1).2.2.1) mfw_ ((p5_goPair mho mch_ mfr_ K L_ C_ PY_ (SH (i2 + (2 * v4)).toNatClampNeg) (SH ((i2 + (2 * v4)) + 1).toNatClampNeg) i1).2.2.2.1) ((p5_goPair mho mch_ mfr_ K L_ C_ PY_ (SH (i2 + (2 * v4)).toNatClampNeg) (SH ((i2 + (2 * v4)) + 1).toNatClampNeg) i1).2.2.2.2.1) ((p5_goPair mho mch_ mfr_ K L_ C_ PY_ (SH (i2 + (2 * v4)).toNatClampNeg) (SH ((i2 + (2 * v4)) + 1).toNatClampNeg) i1).2.2.2.2.2)
        else
          if (p5_mayPoint L_ (SH (i2 + (2 * v4)).toNatClampNeg) (SH ((i2 + (2 * v4)) + 1).toNatClampNeg)) = 0 then
            p5_goYear_l43 mho mch mfr mfw K L C PY SH i1 i2 i3 n (v4 + 1) mch_ mfr_ v4 L_ C_ PY_
          else
            p5_goYear_l43 mho mch mfr mfw K L C PY SH i1 i2 i3 n (v4 + 1) ((p5_goPair mho mch_ mfr_ K L_ C_ PY_ (SH (i2 + (2 * v4)).toNatClampNeg) (SH ((i2 + (2 * v4)) + 1).toNatClampNeg) i1).2.1) ((p5_goPair mho mch_ mfr_ K L_ C_ PY_ (SH (i2 + (2 * v4)).toNatClampNeg) (SH ((i2 + (2 * v4)) + 1).toNatClampNeg) i1).2.2.1) mfw_ ((p5_goPair mho mch_ mfr_ K L_ C_ PY_ (SH (i2 + (2 * v4)).toNatClampNeg) (SH ((i2 + (2 * v4)) + 1).toNatClampNeg) i1).2.2.2.1) ((p5_goPair mho mch_ mfr_ K L_ C_ PY_ (SH (i2 + (2 * v4)).toNatClampNeg) (SH ((i2 + (2 * v4)) + 1).toNatClampNeg) i1).2.2.2.2.1) ((p5_goPair mho mch_ mfr_ K L_ C_ PY_ (SH (i2 + (2 * v4)).toNatClampNeg) (SH ((i2 + (2 * v4)) + 1).toNatClampNeg) i1).2.2.2.2.2)) := rfl
def p5_goYear_l19 (mho : Int32) (mch : Int32) (mfr : Int32) (mfw : Int32) (K : Nat → Int32) (L : Nat → Int32) (C : Nat → Int32) (PY : Nat → Int32) (SH : Nat → Int32) (i1 : Int32) (i2 : Int32) (i3 : Int32) : Nat → Int32 → (Nat → Int32) → Int32 × Int32 × Int32 × (Nat → Int32) × (Nat → Int32) × (Nat → Int32)
  | 0, _, _ => (0, 0, 0, fun _ => 0, fun _ => 0, fun _ => 0)
  | n + 1, v4, PY_ =>
    if 6 ≤ v4 then
      p5_goYear_l43 mho mch mfr mfw K L C PY SH i1 i2 i3 21 0 0 0 (-9) L C PY_
    else
      p5_goYear_l19 mho mch mfr mfw K L C PY SH i1 i2 i3 n (v4 + 1) (upd PY_ v4.toNatClampNeg 0)
theorem p5_goYear_l19_s (mho : Int32) (mch : Int32) (mfr : Int32) (mfw : Int32) (K : Nat → Int32) (L : Nat → Int32) (C : Nat → Int32) (PY : Nat → Int32) (SH : Nat → Int32) (i1 : Int32) (i2 : Int32) (i3 : Int32) (n : Nat) (v4 : Int32) (PY_ : Nat → Int32) : p5_goYear_l19 mho mch mfr mfw K L C PY SH i1 i2 i3 (n + 1) v4 PY_ =
    (if 6 ≤ v4 then
      p5_goYear_l43 mho mch mfr mfw K L C PY SH i1 i2 i3 21 0 0 0 (-9) L C PY_
    else
      p5_goYear_l19 mho mch mfr mfw K L C PY SH i1 i2 i3 n (v4 + 1) (upd PY_ v4.toNatClampNeg 0)) := rfl
def p5_goYear (mho : Int32) (mch : Int32) (mfr : Int32) (mfw : Int32) (K : Nat → Int32) (L : Nat → Int32) (C : Nat → Int32) (PY : Nat → Int32) (SH : Nat → Int32) (i1 : Int32) (i2 : Int32) (i3 : Int32) : Int32 × Int32 × Int32 × (Nat → Int32) × (Nat → Int32) × (Nat → Int32) :=
  p5_goYear_l19 mho mch mfr mfw K L C PY SH i1 i2 i3 7 0 PY
abbrev rmX5_goYear : Room := { frames := 5, cells := 0, slots := 0, locals := 119 }
abbrev QX5_goYear (dC : Nat → ClassId) (dI : Nat → Nat → Nat) (A : Nat → Prop) (cI : ClassId) (m0 : Nat) (m2 : Nat) (m3 : Nat) (m4 : Nat) (m7 : Nat) (m8 : Nat) (m9 : Nat) (m10 : Nat) (m11 : Nat) (m12 : Nat) (m17 : Nat) (m18 : Nat) (m19 : Nat) (m20 : Nat) (m21 : Nat) (m22 : Nat) (m23 : Nat) (mfa : Int32) (mho : Int32) (mra : Int32) (mrh : Int32) (mch : Int32) (mfr : Int32) (mfw : Int32) (mrd : Int32) (mtr : Int32) (K : Nat → Int32) (L : Nat → Int32) (C : Nat → Int32) (PY : Nat → Int32) (SH : Nat → Int32) (i1 : Int32) (i2 : Int32) (i3 : Int32) : Array Value → State → Outcome → State → Prop := va_Qv (fun (_ : Unit) => True) (fun (_ : Unit) (t : State) => va_P (dC, dI) vwCl ([(m0, .inr (5, [.int mfa, .int mho, .ref m2, .ref m3, .ref m4, .int mra, .int mrh, .ref m7, .ref m8, .ref m9, .ref m10, .ref m11, .ref m12, .int ((p5_goYear mho mch mfr mfw K L C PY SH i1 i2 i3).1), .int ((p5_goYear mho mch mfr mfw K L C PY SH i1 i2 i3).2.1), .int ((p5_goYear mho mch mfr mfw K L C PY SH i1 i2 i3).2.2.1), .int mrd, .ref m17, .ref m18, .ref m19, .ref m20, .ref m21, .ref m22, .ref m23, .int mtr])), (m2, .inl (cI, 6, .inl K)), (m3, .inl (cI, 6, .inl ((p5_goYear mho mch mfr mfw K L C PY SH i1 i2 i3).2.2.2.1))), (m4, .inl (cI, 6, .inl ((p5_goYear mho mch mfr mfw K L C PY SH i1 i2 i3).2.2.2.2.1))), (m12, .inl (cI, 6, .inl ((p5_goYear mho mch mfr mfw K L C PY SH i1 i2 i3).2.2.2.2.2))), (m22, .inl (cI, 240, .inl SH))]) t.heap) A
set_option maxHeartbeats 4000000 in
set_option maxRecDepth 100000 in
theorem ctX5_goYear (l : Launch) (dC : Nat → ClassId) (dI : Nat → Nat → Nat) (cI : ClassId) (m0 : Nat) (m2 : Nat) (m3 : Nat) (m4 : Nat) (m7 : Nat) (m8 : Nat) (m9 : Nat) (m10 : Nat) (m11 : Nat) (m12 : Nat) (m17 : Nat) (m18 : Nat) (m19 : Nat) (m20 : Nat) (m21 : Nat) (m22 : Nat) (m23 : Nat) (sz : Nat) (mfa : Int32) (mho : Int32) (mra : Int32) (mrh : Int32) (mch : Int32) (mfr : Int32) (mfw : Int32) (mrd : Int32) (mtr : Int32) (K : Nat → Int32) (L : Nat → Int32) (C : Nat → Int32) (PY : Nat → Int32) (SH : Nat → Int32) (i1 : Int32) (i2 : Int32) (i3 : Int32) (hNb : mho.toInt ≤ 6) (hg : 0 ≤ i2.toInt ∧ 0 ≤ i3.toInt ∧ i3.toInt ≤ 20 ∧ i2.toInt + 2 * i3.toInt ≤ 240) (hah : ∀ w : Int32, 0 ≤ w.toInt → w.toInt < (2 * i3).toInt → vp_in (SH (i2 + w).toNatClampNeg) 6) : Met l yX5_goYear wsX5_goYear rmX5_goYear (va_Pc [.ref m0, .int i1, .int i2, .int i3] (cP dC dI [(cI, .int)] ([(m0, .inr (5, [.int mfa, .int mho, .ref m2, .ref m3, .ref m4, .int mra, .int mrh, .ref m7, .ref m8, .ref m9, .ref m10, .ref m11, .ref m12, .int mch, .int mfr, .int mfw, .int mrd, .ref m17, .ref m18, .ref m19, .ref m20, .ref m21, .ref m22, .ref m23, .int mtr])), (m2, .inl (cI, 6, .inl K)), (m3, .inl (cI, 6, .inl L)), (m4, .inl (cI, 6, .inl C)), (m12, .inl (cI, 6, .inl PY)), (m22, .inl (cI, 240, .inl SH))]) sz)) (QX5_goYear dC dI (va_A ([(m0, .inr (5, [.int mfa, .int mho, .ref m2, .ref m3, .ref m4, .int mra, .int mrh, .ref m7, .ref m8, .ref m9, .ref m10, .ref m11, .ref m12, .int mch, .int mfr, .int mfw, .int mrd, .ref m17, .ref m18, .ref m19, .ref m20, .ref m21, .ref m22, .ref m23, .int mtr])), (m2, .inl (cI, 6, .inl K)), (m3, .inl (cI, 6, .inl L)), (m4, .inl (cI, 6, .inl C)), (m12, .inl (cI, 6, .inl PY)), (m22, .inl (cI, 240, .inl SH))]) sz) cI m0 m2 m3 m4 m7 m8 m9 m10 m11 m12 m17 m18 m19 m20 m21 m22 m23 mfa mho mra mrh mch mfr mfw mrd mtr K L C PY SH i1 i2 i3) 0 0 (va_A ([(m0, .inr (5, [.int mfa, .int mho, .ref m2, .ref m3, .ref m4, .int mra, .int mrh, .ref m7, .ref m8, .ref m9, .ref m10, .ref m11, .ref m12, .int mch, .int mfr, .int mfw, .int mrd, .ref m17, .ref m18, .ref m19, .ref m20, .ref m21, .ref m22, .ref m23, .int mtr])), (m2, .inl (cI, 6, .inl K)), (m3, .inl (cI, 6, .inl L)), (m4, .inl (cI, 6, .inl C)), (m12, .inl (cI, 6, .inl PY)), (m22, .inl (cI, 240, .inl SH))]) sz) := by
  refine Met.ofW (cc := cX5_goYear) (maxL := 7) (ret := none) (by decide) rfl ?_
  intro p e s m args below meth c s₁ B hml hv
  obtain ⟨rfl, hsz, hP, hK, hD0, hN⟩ := hv
  have hx := B.exec
  have hb := B.bytes
  have hr := B.returns
  have hts := atoms_spec (ws := wsX5_goYear) B.pre
  have hown : s.vm.findClass RX5 = some m.cls := findClass_of_methodNamed B.named
  have hlocks := B.notSynchronized
  subst hsz
  have hD := hD0.self (sz := s.heap.size)
  generalize hAe : va_A ([(m0, .inr (5, [.int mfa, .int mho, .ref m2, .ref m3, .ref m4, .int mra, .int mrh, .ref m7, .ref m8, .ref m9, .ref m10, .ref m11, .ref m12, .int mch, .int mfr, .int mfw, .int mrd, .ref m17, .ref m18, .ref m19, .ref m20, .ref m21, .ref m22, .ref m23, .int mtr])), (m2, .inl (cI, 6, .inl K)), (m3, .inl (cI, 6, .inl L)), (m4, .inl (cI, 6, .inl C)), (m12, .inl (cI, 6, .inl PY)), (m22, .inl (cI, 240, .inl SH))]) s.heap.size = A at hD ⊢
  have hA : ∀ q : Nat, s.heap.size ≤ q → A q := fun q h => by rw [← hAe]; exact Or.inr h
  have hS : va_S A s.heap s.heap [] := va_S.rf
  have hP : va_P (dC, dI) vwCl ([(m0, .inr (5, [.int mfa, .int mho, .ref m2, .ref m3, .ref m4, .int mra, .int mrh, .ref m7, .ref m8, .ref m9, .ref m10, .ref m11, .ref m12, .int mch, .int mfr, .int mfw, .int mrd, .ref m17, .ref m18, .ref m19, .ref m20, .ref m21, .ref m22, .ref m23, .int mtr])), (m2, .inl (cI, 6, .inl K)), (m3, .inl (cI, 6, .inl L)), (m4, .inl (cI, 6, .inl C)), (m12, .inl (cI, 6, .inl PY)), (m22, .inl (cI, 240, .inl SH))]) s.heap := hP
  have hin5 : ∀ w ∈ wsX50, w ∈ wsX5_goYear := by decide +kernel
  have kf_168 := hts (.fieldLink RX5 168 "RicherChangeModel" "fairs" "I") (by decide +kernel)
  have kf_171 := hts (.fieldLink RX5 171 "RicherChangeModel" "changes" "I") (by decide +kernel)
  have kf_178 := hts (.fieldLink RX5 178 "RicherChangeModel" "firstWrong" "I") (by decide +kernel)
  have kf_34 := hts (.fieldLink RX5 34 "RicherChangeModel" "paysOf" "[I") (by decide +kernel)
  have kf_52 := hts (.fieldLink RX5 52 "RicherChangeModel" "sheet" "[I") (by decide +kernel)
  have hl := lv_entry ([.ref m0, .int i1, .int i2, .int i3]) (n := 7) (Nat.le_of_ble_eq_true rfl)
  rw [lg_entry_eq]
  generalize (lg_sl ([.ref m0, .int i1, .int i2, .int i3]) ++ List.replicate (7 - (lg_sl ([.ref m0, .int i1, .int i2, .int i3])).length) Slot.unset).toArray = ls at hl ⊢
  have hl : lv_has ls 7 [(0, .ref m0), (1, .int i1), (2, .int i2), (3, .int i3)] := hl
  have lp_43 : ∀ (n : Nat) (v4 : Int32) (mch_ : Int32) (mfr_ : Int32) (mfw_ : Int32) (L_ : Nat → Int32) (C_ : Nat → Int32) (PY_ : Nat → Int32) (H : Heap) (locs : List Loc) (ls : Array Slot), (up v4 i3 n) → va_P (dC, dI) vwCl ([(m0, .inr (5, [.int mfa, .int mho, .ref m2, .ref m3, .ref m4, .int mra, .int mrh, .ref m7, .ref m8, .ref m9, .ref m10, .ref m11, .ref m12, .int mch_, .int mfr_, .int mfw_, .int mrd, .ref m17, .ref m18, .ref m19, .ref m20, .ref m21, .ref m22, .ref m23, .int mtr])), (m2, .inl (cI, 6, .inl K)), (m3, .inl (cI, 6, .inl L_)), (m4, .inl (cI, 6, .inl C_)), (m12, .inl (cI, 6, .inl PY_)), (m22, .inl (cI, 240, .inl SH))]) H → va_D A ([(m0, .inr (5, [.int mfa, .int mho, .ref m2, .ref m3, .ref m4, .int mra, .int mrh, .ref m7, .ref m8, .ref m9, .ref m10, .ref m11, .ref m12, .int mch_, .int mfr_, .int mfw_, .int mrd, .ref m17, .ref m18, .ref m19, .ref m20, .ref m21, .ref m22, .ref m23, .int mtr])), (m2, .inl (cI, 6, .inl K)), (m3, .inl (cI, 6, .inl L_)), (m4, .inl (cI, 6, .inl C_)), (m12, .inl (cI, 6, .inl PY_)), (m22, .inl (cI, 240, .inl SH))]) → va_S A s.heap H locs → lv_has ls 7 [(4, .int v4), (0, .ref m0), (1, .int i1), (2, .int i2), (3, .int i3)] → p5_goYear mho mch mfr mfw K L C PY SH i1 i2 i3 = p5_goYear_l43 mho mch mfr mfw K L C PY SH i1 i2 i3 n v4 mch_ mfr_ mfw_ L_ C_ PY_ → W p l e (headSpec wsX5_goYear rmX5_goYear).room s m [.ref m0, .int i1, .int i2, .int i3].toArray below meth c H locs 0 0 (MQ below (QX5_goYear dC dI A cI m0 m2 m3 m4 m7 m8 m9 m10 m11 m12 m17 m18 m19 m20 m21 m22 m23 mfa mho mra mrh mch mfr mfw mrd mtr K L C PY SH i1 i2 i3) [.ref m0, .int i1, .int i2, .int i3].toArray s 0 0 A) (F0 m 43 ls []) := by
    intro n
    induction n with
    | zero => intro v4 mch_ mfr_ mfw_ L_ C_ PY_ _ _ _ hu; exact absurd hu up_no
    | succ n ih =>
      intro v4 mch_ mfr_ mfw_ L_ C_ PY_ H locs ls hu hP hD hS hl hE
      refine lv_iload hx hb dX5_goYear_43 (lv_at hl 0 rfl) ?_
      refine lv_iload_n hx hb dX5_goYear_45 rfl (lv_at hl 4 rfl) ?_
      refine lv_icmp_ge (tgt := 127) hx hb dX5_goYear_46 (by decide) (fun c_46 => ?_) (fun c_46 => ?_)
      · skip
        have hE9 : p5_goYear mho mch mfr mfw K L C PY SH i1 i2 i3 = (mch_, mfr_, mfw_, L_, C_, PY_) := hE.trans (by rw [p5_goYear_l43_s, if_pos c_46])
        exact W.vret hx hb hr (fun t ht hW => ⟨⟨(), rfl, trivial, by show va_P (dC, dI) vwCl _ t.heap; rw [ht, hE9]; exact hP⟩, hS.F ht⟩) hS.2.2 dX5_goYear_127
      · skip
        refine lv_aload_n hx hb dX5_goYear_49 rfl (lv_at hl 1 rfl) ?_
        refine va_get (D := (dC, dI)) (ci := 5) (v := .int mfw_) (C := RX5) (T := TX5) (N := 25) hx hb hts hin5 hown hK hP 0 rfl rfl 15 (by decide) kf_178 (fun _ h9 => h9) rfl dX5_goYear_50 ?_
        refine lv_if_ge (tgt := 127) hx hb dX5_goYear_53 (by decide) (fun c_53 => ?_) (fun c_53 => ?_)
        · skip
          have hE9 : p5_goYear mho mch mfr mfw K L C PY SH i1 i2 i3 = (mch_, mfr_, mfw_, L_, C_, PY_) := hE.trans (by rw [p5_goYear_l43_s, if_neg c_46, if_pos c_53])
          exact W.vret hx hb hr (fun t ht hW => ⟨⟨(), rfl, trivial, by show va_P (dC, dI) vwCl _ t.heap; rw [ht, hE9]; exact hP⟩, hS.F ht⟩) hS.2.2 dX5_goYear_127
        · skip
          have jx : vp_in (i2 + (2 * v4)) 240 := (gy_ix hg hu c_46).1
          have jy : vp_in ((i2 + (2 * v4)) + 1) 240 := (gy_ix hg hu c_46).2
          have ja : vp_in (SH (i2 + (2 * v4)).toNatClampNeg) 6 := (gy_at hg hu c_46 hah).1
          have jb : vp_in (SH ((i2 + (2 * v4)) + 1).toNatClampNeg) 6 := (gy_at hg hu c_46 hah).2
          refine lv_aload_n hx hb dX5_goYear_56 rfl (lv_at hl 1 rfl) ?_
          refine va_get (D := (dC, dI)) (ci := 5) (v := .ref m22) (C := RX5) (T := TX5) (N := 25) hx hb hts hin5 hown hK hP 0 rfl rfl 22 (by decide) kf_52 (fun _ h9 => h9) rfl dX5_goYear_57 ?_
          refine lv_iload_n hx hb dX5_goYear_60 rfl (lv_at hl 3 rfl) ?_
          refine lv_iconst (v := 2) hx hb dX5_goYear_61 (by decide) ?_
          refine lv_iload hx hb dX5_goYear_62 (lv_at hl 0 rfl) ?_
          refine lv_imul hx hb dX5_goYear_64 ?_
          refine lv_iadd hx hb dX5_goYear_65 ?_
          refine va_iald hx hb hK hP 5 0 rfl rfl (by assumption) dX5_goYear_66 ?_
          refine lv_istore (lv' := [(5, .int (SH (i2 + (2 * v4)).toNatClampNeg)), (4, .int v4), (0, .ref m0), (1, .int i1), (2, .int i2), (3, .int i3)]) hx hb dX5_goYear_67 hl (by decide) rfl (fun ls hl => ?_)
          refine lv_aload_n hx hb dX5_goYear_69 rfl (lv_at hl 2 rfl) ?_
          refine va_get (D := (dC, dI)) (ci := 5) (v := .ref m22) (C := RX5) (T := TX5) (N := 25) hx hb hts hin5 hown hK hP 0 rfl rfl 22 (by decide) kf_52 (fun _ h9 => h9) rfl dX5_goYear_70 ?_
          refine lv_iload_n hx hb dX5_goYear_73 rfl (lv_at hl 4 rfl) ?_
          refine lv_iconst (v := 2) hx hb dX5_goYear_74 (by decide) ?_
          refine lv_iload hx hb dX5_goYear_75 (lv_at hl 1 rfl) ?_
          refine lv_imul hx hb dX5_goYear_77 ?_
          refine lv_iadd hx hb dX5_goYear_78 ?_
          refine lv_iconst (v := 1) hx hb dX5_goYear_79 (by decide) ?_
          refine lv_iadd hx hb dX5_goYear_80 ?_
          refine va_iald hx hb hK hP 5 0 rfl rfl (by assumption) dX5_goYear_81 ?_
          refine lv_istore (lv' := [(6, .int (SH ((i2 + (2 * v4)) + 1).toNatClampNeg)), (5, .int (SH (i2 + (2 * v4)).toNatClampNeg)), (4, .int v4), (0, .ref m0), (1, .int i1), (2, .int i2), (3, .int i3)]) hx hb dX5_goYear_82 hl (by decide) rfl (fun ls hl => ?_)
          refine lv_iload hx hb dX5_goYear_84 (lv_at hl 1 rfl) ?_
          refine lv_iload hx hb dX5_goYear_86 (lv_at hl 0 rfl) ?_
          refine lv_icmp_eq (tgt := 111) hx hb dX5_goYear_88 (by decide) (fun c_88 => ?_) (fun c_88 => ?_)
          · skip
            refine lv_aload_n hx hb dX5_goYear_111 rfl (lv_at hl 3 rfl) ?_
            refine lv_iload hx hb dX5_goYear_112 (lv_at hl 1 rfl) ?_
            refine lv_iload hx hb dX5_goYear_114 (lv_at hl 0 rfl) ?_
            refine lv_iload_n hx hb dX5_goYear_116 rfl (lv_at hl 4 rfl) ?_
            have hPc := hP.sub (ws' := [(m0, .inr (5, [.int mfa, .int mho, .ref m2, .ref m3, .ref m4, .int mra, .int mrh, .ref m7, .ref m8, .ref m9, .ref m10, .ref m11, .ref m12, .int mch_, .int mfr_, .int mfw_, .int mrd, .ref m17, .ref m18, .ref m19, .ref m20, .ref m21, .ref m22, .ref m23, .int mtr])), (m2, .inl (cI, 6, .inl K)), (m3, .inl (cI, 6, .inl L_)), (m4, .inl (cI, 6, .inl C_)), (m12, .inl (cI, 6, .inl PY_))]) [0, 1, 2, 3, 4] rfl
            have hDc := hD.sub (ws' := [(m0, .inr (5, [.int mfa, .int mho, .ref m2, .ref m3, .ref m4, .int mra, .int mrh, .ref m7, .ref m8, .ref m9, .ref m10, .ref m11, .ref m12, .int mch_, .int mfr_, .int mfw_, .int mrd, .ref m17, .ref m18, .ref m19, .ref m20, .ref m21, .ref m22, .ref m23, .int mtr])), (m2, .inl (cI, 6, .inl K)), (m3, .inl (cI, 6, .inl L_)), (m4, .inl (cI, 6, .inl C_)), (m12, .inl (cI, 6, .inl PY_))]) [0, 1, 2, 3, 4] (by decide) rfl
            have hKc := hK.sub (tys' := [(cI, .int)]) [0] rfl
            have hFc := va_free (wc := [(m0, .inr (5, [.int mfa, .int mho, .ref m2, .ref m3, .ref m4, .int mra, .int mrh, .ref m7, .ref m8, .ref m9, .ref m10, .ref m11, .ref m12, .int mch_, .int mfr_, .int mfw_, .int mrd, .ref m17, .ref m18, .ref m19, .ref m20, .ref m21, .ref m22, .ref m23, .int mtr])), (m2, .inl (cI, 6, .inl K)), (m3, .inl (cI, 6, .inl L_)), (m4, .inl (cI, 6, .inl C_)), (m12, .inl (cI, 6, .inl PY_))]) hD hS hA [0, 1, 2, 3, 4] rfl
            refine va_calli (va_runV (As := [.int (SH (i2 + (2 * v4)).toNatClampNeg), .int (SH ((i2 + (2 * v4)) + 1).toNatClampNeg), .int i1]) (rest := []) ⟨hx, hb, hml, hown, hts⟩ (ctX5_goPair l dC dI cI m0 m2 m3 m4 m7 m8 m9 m10 m11 m12 m17 m18 m19 m20 m21 m22 m23 H.size mfa mho mra mrh mch_ mfr_ mfw_ mrd mtr K L_ C_ PY_ (SH (i2 + (2 * v4)).toNatClampNeg) (SH ((i2 + (2 * v4)) + 1).toNatClampNeg) i1 (by assumption) (by assumption) (by assumption)) (cwV 3 hts gX5_goYear_X5_goPair rfl rfl rfl (by decide +kernel) ⟨Nat.le_of_ble_eq_true rfl, Nat.le_of_ble_eq_true rfl⟩) (pre_V hKc hN hPc hDc (RX5, TX5, 25) 5 0 rfl rfl) rfl rfl hl.1 rfl (lv_room (Nat.le_of_ble_eq_true rfl)) dX5_goYear_117 ⟨Nat.le_of_ble_eq_true rfl, Nat.le_of_ble_eq_true rfl⟩) hS (fun q _ h => hFc q h) hFc (fun r_117 _ t H locs ht hvm hw hB hz1 hk1 hS => ?_)
            try dsimp only at hw
            have er_117 := hw.symm
            rw [ht] at hB
            refine nm_gen ((p5_goPair mho mch_ mfr_ K L_ C_ PY_ (SH (i2 + (2 * v4)).toNatClampNeg) (SH ((i2 + (2 * v4)) + 1).toNatClampNeg) i1).2.1) (fun mch_117 emch_117 => ?_)
            rw [emch_117] at hB
            refine nm_gen ((p5_goPair mho mch_ mfr_ K L_ C_ PY_ (SH (i2 + (2 * v4)).toNatClampNeg) (SH ((i2 + (2 * v4)) + 1).toNatClampNeg) i1).2.2.1) (fun mfr_117 emfr_117 => ?_)
            rw [emfr_117] at hB
            refine nm_gen ((p5_goPair mho mch_ mfr_ K L_ C_ PY_ (SH (i2 + (2 * v4)).toNatClampNeg) (SH ((i2 + (2 * v4)) + 1).toNatClampNeg) i1).2.2.2.1) (fun L_117 eL_117 => ?_)
            rw [eL_117] at hB
            refine nm_gen ((p5_goPair mho mch_ mfr_ K L_ C_ PY_ (SH (i2 + (2 * v4)).toNatClampNeg) (SH ((i2 + (2 * v4)) + 1).toNatClampNeg) i1).2.2.2.2.1) (fun C_117 eC_117 => ?_)
            rw [eC_117] at hB
            refine nm_gen ((p5_goPair mho mch_ mfr_ K L_ C_ PY_ (SH (i2 + (2 * v4)).toNatClampNeg) (SH ((i2 + (2 * v4)) + 1).toNatClampNeg) i1).2.2.2.2.2) (fun PY_117 ePY_117 => ?_)
            rw [ePY_117] at hB
            obtain ⟨hP, hD⟩ := rw_join ([(m0, .inr (5, [.int mfa, .int mho, .ref m2, .ref m3, .ref m4, .int mra, .int mrh, .ref m7, .ref m8, .ref m9, .ref m10, .ref m11, .ref m12, .int mch_, .int mfr_, .int mfw_, .int mrd, .ref m17, .ref m18, .ref m19, .ref m20, .ref m21, .ref m22, .ref m23, .int mtr])), (m2, .inl (cI, 6, .inl K)), (m3, .inl (cI, 6, .inl L_)), (m4, .inl (cI, 6, .inl C_)), (m12, .inl (cI, 6, .inl PY_)), (m22, .inl (cI, 240, .inl SH))]) ([(m0, .inr (5, [.int mfa, .int mho, .ref m2, .ref m3, .ref m4, .int mra, .int mrh, .ref m7, .ref m8, .ref m9, .ref m10, .ref m11, .ref m12, .int mch_117, .int mfr_117, .int mfw_, .int mrd, .ref m17, .ref m18, .ref m19, .ref m20, .ref m21, .ref m22, .ref m23, .int mtr])), (m2, .inl (cI, 6, .inl K)), (m3, .inl (cI, 6, .inl L_117)), (m4, .inl (cI, 6, .inl C_117)), (m12, .inl (cI, 6, .inl PY_117)), (m22, .inl (cI, 240, .inl SH))]) ([(m0, .inr (5, [.int mfa, .int mho, .ref m2, .ref m3, .ref m4, .int mra, .int mrh, .ref m7, .ref m8, .ref m9, .ref m10, .ref m11, .ref m12, .int mch_, .int mfr_, .int mfw_, .int mrd, .ref m17, .ref m18, .ref m19, .ref m20, .ref m21, .ref m22, .ref m23, .int mtr])), (m2, .inl (cI, 6, .inl K)), (m3, .inl (cI, 6, .inl L_)), (m4, .inl (cI, 6, .inl C_)), (m12, .inl (cI, 6, .inl PY_))]) ([(m0, .inr (5, [.int mfa, .int mho, .ref m2, .ref m3, .ref m4, .int mra, .int mrh, .ref m7, .ref m8, .ref m9, .ref m10, .ref m11, .ref m12, .int mch_117, .int mfr_117, .int mfw_, .int mrd, .ref m17, .ref m18, .ref m19, .ref m20, .ref m21, .ref m22, .ref m23, .int mtr])), (m2, .inl (cI, 6, .inl K)), (m3, .inl (cI, 6, .inl L_117)), (m4, .inl (cI, 6, .inl C_117)), (m12, .inl (cI, 6, .inl PY_117))]) ([(m22, .inl (cI, 240, .inl SH))]) hP hD [0, 1, 2, 3, 4] [5] [m0, m2, m3, m4, m12, m22] 6 rfl rfl rfl rfl rfl (by decide) rfl rfl hk1 hB
            refine lv_pop hx hb dX5_goYear_120 rfl ?_
            refine lv_iinc (v := (v4 + 1)) (lv' := [(4, .int (v4 + 1)), (6, .int (SH ((i2 + (2 * v4)) + 1).toNatClampNeg)), (5, .int (SH (i2 + (2 * v4)).toNatClampNeg)), (0, .ref m0), (1, .int i1), (2, .int i2), (3, .int i3)]) hx hb dX5_goYear_121 hl (k := 2) rfl rfl (by decide) rfl (fun ls hl => ?_)
            refine lv_goto (tgt := 43) hx hb dX5_goYear_124 (by decide) ?_
            exact ih (v4 + 1) mch_117 mfr_117 mfw_ L_117 C_117 PY_117 _ _ _ (up_s hu c_46) hP hD hS (lv_sub hl [0, 3, 4, 5, 6] rfl) (hE.trans (by rw [p5_goYear_l43_s]; simp only [er_117, emch_117, emfr_117, eL_117, eC_117, ePY_117]; rw [if_neg c_46, if_neg c_53, if_pos c_88]))
          · skip
            refine lv_aload_n hx hb dX5_goYear_91 rfl (lv_at hl 3 rfl) ?_
            refine lv_iload hx hb dX5_goYear_92 (lv_at hl 1 rfl) ?_
            refine lv_iload hx hb dX5_goYear_94 (lv_at hl 0 rfl) ?_
            have hPc := hP.sub (ws' := [(m0, .inr (5, [.int mfa, .int mho, .ref m2, .ref m3, .ref m4, .int mra, .int mrh, .ref m7, .ref m8, .ref m9, .ref m10, .ref m11, .ref m12, .int mch_, .int mfr_, .int mfw_, .int mrd, .ref m17, .ref m18, .ref m19, .ref m20, .ref m21, .ref m22, .ref m23, .int mtr])), (m3, .inl (cI, 6, .inl L_))]) [0, 2] rfl
            have hDc := hD.sub (ws' := [(m0, .inr (5, [.int mfa, .int mho, .ref m2, .ref m3, .ref m4, .int mra, .int mrh, .ref m7, .ref m8, .ref m9, .ref m10, .ref m11, .ref m12, .int mch_, .int mfr_, .int mfw_, .int mrd, .ref m17, .ref m18, .ref m19, .ref m20, .ref m21, .ref m22, .ref m23, .int mtr])), (m3, .inl (cI, 6, .inl L_))]) [0, 2] (by decide) rfl
            have hKc := hK.sub (tys' := [(cI, .int)]) [0] rfl
            have hFc := va_free (wc := [(m0, .inr (5, [.int mfa, .int mho, .ref m2, .ref m3, .ref m4, .int mra, .int mrh, .ref m7, .ref m8, .ref m9, .ref m10, .ref m11, .ref m12, .int mch_, .int mfr_, .int mfw_, .int mrd, .ref m17, .ref m18, .ref m19, .ref m20, .ref m21, .ref m22, .ref m23, .int mtr])), (m3, .inl (cI, 6, .inl L_))]) hD hS hA [0, 2] rfl
            refine va_calli (va_runV (As := [.int (SH (i2 + (2 * v4)).toNatClampNeg), .int (SH ((i2 + (2 * v4)) + 1).toNatClampNeg)]) (rest := []) ⟨hx, hb, hml, hown, hts⟩ (ctX5_mayPoint l dC dI cI m0 m2 m3 m4 m7 m8 m9 m10 m11 m12 m17 m18 m19 m20 m21 m22 m23 H.size mfa mho mra mrh mch_ mfr_ mfw_ mrd mtr L_ (SH (i2 + (2 * v4)).toNatClampNeg) (SH ((i2 + (2 * v4)) + 1).toNatClampNeg) (by assumption) (by assumption)) (cwV 2 hts gX5_goYear_X5_mayPoint rfl rfl rfl (by decide +kernel) ⟨Nat.le_of_ble_eq_true rfl, Nat.le_of_ble_eq_true rfl⟩) (pre_V hKc hN hPc hDc (RX5, TX5, 25) 5 0 rfl rfl) rfl rfl hl.1 rfl (lv_room (Nat.le_of_ble_eq_true rfl)) dX5_goYear_96 ⟨Nat.le_of_ble_eq_true rfl, Nat.le_of_ble_eq_true rfl⟩) hS (fun q _ h => hFc q h) hFc (fun r _ t H locs ht hvm hw hB hz1 hk1 hS => ?_)
            try dsimp only at hw
            subst hw
            rw [ht] at hB
            obtain ⟨hP, hD⟩ := rw_join ([(m0, .inr (5, [.int mfa, .int mho, .ref m2, .ref m3, .ref m4, .int mra, .int mrh, .ref m7, .ref m8, .ref m9, .ref m10, .ref m11, .ref m12, .int mch_, .int mfr_, .int mfw_, .int mrd, .ref m17, .ref m18, .ref m19, .ref m20, .ref m21, .ref m22, .ref m23, .int mtr])), (m2, .inl (cI, 6, .inl K)), (m3, .inl (cI, 6, .inl L_)), (m4, .inl (cI, 6, .inl C_)), (m12, .inl (cI, 6, .inl PY_)), (m22, .inl (cI, 240, .inl SH))]) ([(m0, .inr (5, [.int mfa, .int mho, .ref m2, .ref m3, .ref m4, .int mra, .int mrh, .ref m7, .ref m8, .ref m9, .ref m10, .ref m11, .ref m12, .int mch_, .int mfr_, .int mfw_, .int mrd, .ref m17, .ref m18, .ref m19, .ref m20, .ref m21, .ref m22, .ref m23, .int mtr])), (m2, .inl (cI, 6, .inl K)), (m3, .inl (cI, 6, .inl L_)), (m4, .inl (cI, 6, .inl C_)), (m12, .inl (cI, 6, .inl PY_)), (m22, .inl (cI, 240, .inl SH))]) ([(m0, .inr (5, [.int mfa, .int mho, .ref m2, .ref m3, .ref m4, .int mra, .int mrh, .ref m7, .ref m8, .ref m9, .ref m10, .ref m11, .ref m12, .int mch_, .int mfr_, .int mfw_, .int mrd, .ref m17, .ref m18, .ref m19, .ref m20, .ref m21, .ref m22, .ref m23, .int mtr])), (m3, .inl (cI, 6, .inl L_))]) ([(m0, .inr (5, [.int mfa, .int mho, .ref m2, .ref m3, .ref m4, .int mra, .int mrh, .ref m7, .ref m8, .ref m9, .ref m10, .ref m11, .ref m12, .int mch_, .int mfr_, .int mfw_, .int mrd, .ref m17, .ref m18, .ref m19, .ref m20, .ref m21, .ref m22, .ref m23, .int mtr])), (m3, .inl (cI, 6, .inl L_))]) ([(m2, .inl (cI, 6, .inl K)), (m4, .inl (cI, 6, .inl C_)), (m12, .inl (cI, 6, .inl PY_)), (m22, .inl (cI, 240, .inl SH))]) hP hD [0, 2] [1, 3, 4, 5] [m0, m2, m3, m4, m12, m22] 6 rfl rfl rfl rfl rfl (by decide) rfl rfl hk1 hB
            refine lv_if_ne (tgt := 111) hx hb dX5_goYear_99 (by decide) (fun c_99 => ?_) (fun c_99 => ?_)
            · skip
              refine lv_aload_n hx hb dX5_goYear_111 rfl (lv_at hl 3 rfl) ?_
              refine lv_iload hx hb dX5_goYear_112 (lv_at hl 1 rfl) ?_
              refine lv_iload hx hb dX5_goYear_114 (lv_at hl 0 rfl) ?_
              refine lv_iload_n hx hb dX5_goYear_116 rfl (lv_at hl 4 rfl) ?_
              have hPc := hP.sub (ws' := [(m0, .inr (5, [.int mfa, .int mho, .ref m2, .ref m3, .ref m4, .int mra, .int mrh, .ref m7, .ref m8, .ref m9, .ref m10, .ref m11, .ref m12, .int mch_, .int mfr_, .int mfw_, .int mrd, .ref m17, .ref m18, .ref m19, .ref m20, .ref m21, .ref m22, .ref m23, .int mtr])), (m2, .inl (cI, 6, .inl K)), (m3, .inl (cI, 6, .inl L_)), (m4, .inl (cI, 6, .inl C_)), (m12, .inl (cI, 6, .inl PY_))]) [0, 1, 2, 3, 4] rfl
              have hDc := hD.sub (ws' := [(m0, .inr (5, [.int mfa, .int mho, .ref m2, .ref m3, .ref m4, .int mra, .int mrh, .ref m7, .ref m8, .ref m9, .ref m10, .ref m11, .ref m12, .int mch_, .int mfr_, .int mfw_, .int mrd, .ref m17, .ref m18, .ref m19, .ref m20, .ref m21, .ref m22, .ref m23, .int mtr])), (m2, .inl (cI, 6, .inl K)), (m3, .inl (cI, 6, .inl L_)), (m4, .inl (cI, 6, .inl C_)), (m12, .inl (cI, 6, .inl PY_))]) [0, 1, 2, 3, 4] (by decide) rfl
              have hKc := hK.sub (tys' := [(cI, .int)]) [0] rfl
              have hFc := va_free (wc := [(m0, .inr (5, [.int mfa, .int mho, .ref m2, .ref m3, .ref m4, .int mra, .int mrh, .ref m7, .ref m8, .ref m9, .ref m10, .ref m11, .ref m12, .int mch_, .int mfr_, .int mfw_, .int mrd, .ref m17, .ref m18, .ref m19, .ref m20, .ref m21, .ref m22, .ref m23, .int mtr])), (m2, .inl (cI, 6, .inl K)), (m3, .inl (cI, 6, .inl L_)), (m4, .inl (cI, 6, .inl C_)), (m12, .inl (cI, 6, .inl PY_))]) hD hS hA [0, 1, 2, 3, 4] rfl
              refine va_calli (va_runV (As := [.int (SH (i2 + (2 * v4)).toNatClampNeg), .int (SH ((i2 + (2 * v4)) + 1).toNatClampNeg), .int i1]) (rest := []) ⟨hx, hb, hml, hown, hts⟩ (ctX5_goPair l dC dI cI m0 m2 m3 m4 m7 m8 m9 m10 m11 m12 m17 m18 m19 m20 m21 m22 m23 H.size mfa mho mra mrh mch_ mfr_ mfw_ mrd mtr K L_ C_ PY_ (SH (i2 + (2 * v4)).toNatClampNeg) (SH ((i2 + (2 * v4)) + 1).toNatClampNeg) i1 (by assumption) (by assumption) (by assumption)) (cwV 3 hts gX5_goYear_X5_goPair rfl rfl rfl (by decide +kernel) ⟨Nat.le_of_ble_eq_true rfl, Nat.le_of_ble_eq_true rfl⟩) (pre_V hKc hN hPc hDc (RX5, TX5, 25) 5 0 rfl rfl) rfl rfl hl.1 rfl (lv_room (Nat.le_of_ble_eq_true rfl)) dX5_goYear_117 ⟨Nat.le_of_ble_eq_true rfl, Nat.le_of_ble_eq_true rfl⟩) hS (fun q _ h => hFc q h) hFc (fun r_117 _ t H locs ht hvm hw hB hz1 hk1 hS => ?_)
              try dsimp only at hw
              have er_117 := hw.symm
              rw [ht] at hB
              refine nm_gen ((p5_goPair mho mch_ mfr_ K L_ C_ PY_ (SH (i2 + (2 * v4)).toNatClampNeg) (SH ((i2 + (2 * v4)) + 1).toNatClampNeg) i1).2.1) (fun mch_117 emch_117 => ?_)
              rw [emch_117] at hB
              refine nm_gen ((p5_goPair mho mch_ mfr_ K L_ C_ PY_ (SH (i2 + (2 * v4)).toNatClampNeg) (SH ((i2 + (2 * v4)) + 1).toNatClampNeg) i1).2.2.1) (fun mfr_117 emfr_117 => ?_)
              rw [emfr_117] at hB
              refine nm_gen ((p5_goPair mho mch_ mfr_ K L_ C_ PY_ (SH (i2 + (2 * v4)).toNatClampNeg) (SH ((i2 + (2 * v4)) + 1).toNatClampNeg) i1).2.2.2.1) (fun L_117 eL_117 => ?_)
              rw [eL_117] at hB
              refine nm_gen ((p5_goPair mho mch_ mfr_ K L_ C_ PY_ (SH (i2 + (2 * v4)).toNatClampNeg) (SH ((i2 + (2 * v4)) + 1).toNatClampNeg) i1).2.2.2.2.1) (fun C_117 eC_117 => ?_)
              rw [eC_117] at hB
              refine nm_gen ((p5_goPair mho mch_ mfr_ K L_ C_ PY_ (SH (i2 + (2 * v4)).toNatClampNeg) (SH ((i2 + (2 * v4)) + 1).toNatClampNeg) i1).2.2.2.2.2) (fun PY_117 ePY_117 => ?_)
              rw [ePY_117] at hB
              obtain ⟨hP, hD⟩ := rw_join ([(m0, .inr (5, [.int mfa, .int mho, .ref m2, .ref m3, .ref m4, .int mra, .int mrh, .ref m7, .ref m8, .ref m9, .ref m10, .ref m11, .ref m12, .int mch_, .int mfr_, .int mfw_, .int mrd, .ref m17, .ref m18, .ref m19, .ref m20, .ref m21, .ref m22, .ref m23, .int mtr])), (m2, .inl (cI, 6, .inl K)), (m3, .inl (cI, 6, .inl L_)), (m4, .inl (cI, 6, .inl C_)), (m12, .inl (cI, 6, .inl PY_)), (m22, .inl (cI, 240, .inl SH))]) ([(m0, .inr (5, [.int mfa, .int mho, .ref m2, .ref m3, .ref m4, .int mra, .int mrh, .ref m7, .ref m8, .ref m9, .ref m10, .ref m11, .ref m12, .int mch_117, .int mfr_117, .int mfw_, .int mrd, .ref m17, .ref m18, .ref m19, .ref m20, .ref m21, .ref m22, .ref m23, .int mtr])), (m2, .inl (cI, 6, .inl K)), (m3, .inl (cI, 6, .inl L_117)), (m4, .inl (cI, 6, .inl C_117)), (m12, .inl (cI, 6, .inl PY_117)), (m22, .inl (cI, 240, .inl SH))]) ([(m0, .inr (5, [.int mfa, .int mho, .ref m2, .ref m3, .ref m4, .int mra, .int mrh, .ref m7, .ref m8, .ref m9, .ref m10, .ref m11, .ref m12, .int mch_, .int mfr_, .int mfw_, .int mrd, .ref m17, .ref m18, .ref m19, .ref m20, .ref m21, .ref m22, .ref m23, .int mtr])), (m2, .inl (cI, 6, .inl K)), (m3, .inl (cI, 6, .inl L_)), (m4, .inl (cI, 6, .inl C_)), (m12, .inl (cI, 6, .inl PY_))]) ([(m0, .inr (5, [.int mfa, .int mho, .ref m2, .ref m3, .ref m4, .int mra, .int mrh, .ref m7, .ref m8, .ref m9, .ref m10, .ref m11, .ref m12, .int mch_117, .int mfr_117, .int mfw_, .int mrd, .ref m17, .ref m18, .ref m19, .ref m20, .ref m21, .ref m22, .ref m23, .int mtr])), (m2, .inl (cI, 6, .inl K)), (m3, .inl (cI, 6, .inl L_117)), (m4, .inl (cI, 6, .inl C_117)), (m12, .inl (cI, 6, .inl PY_117))]) ([(m22, .inl (cI, 240, .inl SH))]) hP hD [0, 1, 2, 3, 4] [5] [m0, m2, m3, m4, m12, m22] 6 rfl rfl rfl rfl rfl (by decide) rfl rfl hk1 hB
              refine lv_pop hx hb dX5_goYear_120 rfl ?_
              refine lv_iinc (v := (v4 + 1)) (lv' := [(4, .int (v4 + 1)), (6, .int (SH ((i2 + (2 * v4)) + 1).toNatClampNeg)), (5, .int (SH (i2 + (2 * v4)).toNatClampNeg)), (0, .ref m0), (1, .int i1), (2, .int i2), (3, .int i3)]) hx hb dX5_goYear_121 hl (k := 2) rfl rfl (by decide) rfl (fun ls hl => ?_)
              refine lv_goto (tgt := 43) hx hb dX5_goYear_124 (by decide) ?_
              exact ih (v4 + 1) mch_117 mfr_117 mfw_ L_117 C_117 PY_117 _ _ _ (up_s hu c_46) hP hD hS (lv_sub hl [0, 3, 4, 5, 6] rfl) (hE.trans (by rw [p5_goYear_l43_s]; simp only [er_117, emch_117, emfr_117, eL_117, eC_117, ePY_117]; rw [if_neg c_46, if_neg c_53, if_neg c_88, if_neg c_99]))
            · skip
              refine lv_aload_n hx hb dX5_goYear_102 rfl (lv_at hl 3 rfl) ?_
              refine lv_iload hx hb dX5_goYear_103 (lv_at hl 2 rfl) ?_
              refine va_put (D := (dC, dI)) (ci := 5) (v := .int v4) (ty := .int) (C := RX5) (T := TX5) (N := 25) hx hb hts hin5 tyX5 tyX5_ok nmX5 hown hK hP hD hS 0 rfl rfl 15 (by decide) kf_178 (fun _ h9 => h9) rfl (by decide +kernel) rfl rfl (Nat.le_of_ble_eq_true rfl) dX5_goYear_105 (fun H locs hP hD hS => ?_)
              have hP : va_P (dC, dI) vwCl ([(m0, .inr (5, [.int mfa, .int mho, .ref m2, .ref m3, .ref m4, .int mra, .int mrh, .ref m7, .ref m8, .ref m9, .ref m10, .ref m11, .ref m12, .int mch_, .int mfr_, .int v4, .int mrd, .ref m17, .ref m18, .ref m19, .ref m20, .ref m21, .ref m22, .ref m23, .int mtr])), (m2, .inl (cI, 6, .inl K)), (m3, .inl (cI, 6, .inl L_)), (m4, .inl (cI, 6, .inl C_)), (m12, .inl (cI, 6, .inl PY_)), (m22, .inl (cI, 240, .inl SH))]) H := hP
              have hD : va_D A ([(m0, .inr (5, [.int mfa, .int mho, .ref m2, .ref m3, .ref m4, .int mra, .int mrh, .ref m7, .ref m8, .ref m9, .ref m10, .ref m11, .ref m12, .int mch_, .int mfr_, .int v4, .int mrd, .ref m17, .ref m18, .ref m19, .ref m20, .ref m21, .ref m22, .ref m23, .int mtr])), (m2, .inl (cI, 6, .inl K)), (m3, .inl (cI, 6, .inl L_)), (m4, .inl (cI, 6, .inl C_)), (m12, .inl (cI, 6, .inl PY_)), (m22, .inl (cI, 240, .inl SH))]) := hD
              refine lv_goto (tgt := 121) hx hb dX5_goYear_108 (by decide) ?_
              refine lv_iinc (v := (v4 + 1)) (lv' := [(4, .int (v4 + 1)), (6, .int (SH ((i2 + (2 * v4)) + 1).toNatClampNeg)), (5, .int (SH (i2 + (2 * v4)).toNatClampNeg)), (0, .ref m0), (1, .int i1), (2, .int i2), (3, .int i3)]) hx hb dX5_goYear_121 hl (k := 2) rfl rfl (by decide) rfl (fun ls hl => ?_)
              refine lv_goto (tgt := 43) hx hb dX5_goYear_124 (by decide) ?_
              exact ih (v4 + 1) mch_ mfr_ v4 L_ C_ PY_ _ _ _ (up_s hu c_46) hP hD hS (lv_sub hl [0, 3, 4, 5, 6] rfl) (hE.trans (by rw [p5_goYear_l43_s, if_neg c_46, if_neg c_53, if_neg c_88, if_pos c_99]))
  have lp_19 : ∀ (n : Nat) (v4 : Int32) (PY_ : Nat → Int32) (H : Heap) (locs : List Loc) (ls : Array Slot), (up v4 6 n) → va_P (dC, dI) vwCl ([(m0, .inr (5, [.int mfa, .int mho, .ref m2, .ref m3, .ref m4, .int mra, .int mrh, .ref m7, .ref m8, .ref m9, .ref m10, .ref m11, .ref m12, .int 0, .int 0, .int (-9), .int mrd, .ref m17, .ref m18, .ref m19, .ref m20, .ref m21, .ref m22, .ref m23, .int mtr])), (m2, .inl (cI, 6, .inl K)), (m3, .inl (cI, 6, .inl L)), (m4, .inl (cI, 6, .inl C)), (m12, .inl (cI, 6, .inl PY_)), (m22, .inl (cI, 240, .inl SH))]) H → va_D A ([(m0, .inr (5, [.int mfa, .int mho, .ref m2, .ref m3, .ref m4, .int mra, .int mrh, .ref m7, .ref m8, .ref m9, .ref m10, .ref m11, .ref m12, .int 0, .int 0, .int (-9), .int mrd, .ref m17, .ref m18, .ref m19, .ref m20, .ref m21, .ref m22, .ref m23, .int mtr])), (m2, .inl (cI, 6, .inl K)), (m3, .inl (cI, 6, .inl L)), (m4, .inl (cI, 6, .inl C)), (m12, .inl (cI, 6, .inl PY_)), (m22, .inl (cI, 240, .inl SH))]) → va_S A s.heap H locs → lv_has ls 7 [(4, .int v4), (0, .ref m0), (1, .int i1), (2, .int i2), (3, .int i3)] → p5_goYear mho mch mfr mfw K L C PY SH i1 i2 i3 = p5_goYear_l19 mho mch mfr mfw K L C PY SH i1 i2 i3 n v4 PY_ → W p l e (headSpec wsX5_goYear rmX5_goYear).room s m [.ref m0, .int i1, .int i2, .int i3].toArray below meth c H locs 0 0 (MQ below (QX5_goYear dC dI A cI m0 m2 m3 m4 m7 m8 m9 m10 m11 m12 m17 m18 m19 m20 m21 m22 m23 mfa mho mra mrh mch mfr mfw mrd mtr K L C PY SH i1 i2 i3) [.ref m0, .int i1, .int i2, .int i3].toArray s 0 0 A) (F0 m 19 ls []) := by
    intro n
    induction n with
    | zero => intro v4 PY_ _ _ _ hu; exact absurd hu up_no
    | succ n ih =>
      intro v4 PY_ H locs ls hu hP hD hS hl hE
      refine lv_iload hx hb dX5_goYear_19 (lv_at hl 0 rfl) ?_
      refine lv_bipush (v := 6) hx hb dX5_goYear_21 (by decide) ?_
      refine lv_icmp_ge (tgt := 40) hx hb dX5_goYear_23 (by decide) (fun c_23 => ?_) (fun c_23 => ?_)
      · skip
        refine lv_iconst (v := 0) hx hb dX5_goYear_40 (by decide) ?_
        refine lv_istore (lv' := [(4, .int 0), (0, .ref m0), (1, .int i1), (2, .int i2), (3, .int i3)]) hx hb dX5_goYear_41 hl (by decide) rfl (fun ls hl => ?_)
        exact lp_43 21 0 0 0 (-9) L C PY_ _ _ _ (up_i 20 (by decide) hg.2.2.1) hP hD hS (lv_sub hl [0, 1, 2, 3, 4] rfl) (hE.trans (by rw [p5_goYear_l19_s, if_pos c_23]))
      · skip
        have j4 : vp_in v4 6 := up_in 6 hu c_23 (by decide)
        refine lv_aload_n hx hb dX5_goYear_26 rfl (lv_at hl 1 rfl) ?_
        refine va_get (D := (dC, dI)) (ci := 5) (v := .ref m12) (C := RX5) (T := TX5) (N := 25) hx hb hts hin5 hown hK hP 0 rfl rfl 12 (by decide) kf_34 (fun _ h9 => h9) rfl dX5_goYear_27 ?_
        refine lv_iload hx hb dX5_goYear_30 (lv_at hl 0 rfl) ?_
        refine lv_iconst (v := 0) hx hb dX5_goYear_32 (by decide) ?_
        refine va_iast hx hb hK hP hD hS 4 0 rfl rfl (by assumption) dX5_goYear_33 (fun H locs hP hD hS => ?_)
        have hP : va_P (dC, dI) vwCl ([(m0, .inr (5, [.int mfa, .int mho, .ref m2, .ref m3, .ref m4, .int mra, .int mrh, .ref m7, .ref m8, .ref m9, .ref m10, .ref m11, .ref m12, .int 0, .int 0, .int (-9), .int mrd, .ref m17, .ref m18, .ref m19, .ref m20, .ref m21, .ref m22, .ref m23, .int mtr])), (m2, .inl (cI, 6, .inl K)), (m3, .inl (cI, 6, .inl L)), (m4, .inl (cI, 6, .inl C)), (m12, .inl (cI, 6, .inl (upd PY_ v4.toNatClampNeg 0))), (m22, .inl (cI, 240, .inl SH))]) H := hP
        have hD : va_D A ([(m0, .inr (5, [.int mfa, .int mho, .ref m2, .ref m3, .ref m4, .int mra, .int mrh, .ref m7, .ref m8, .ref m9, .ref m10, .ref m11, .ref m12, .int 0, .int 0, .int (-9), .int mrd, .ref m17, .ref m18, .ref m19, .ref m20, .ref m21, .ref m22, .ref m23, .int mtr])), (m2, .inl (cI, 6, .inl K)), (m3, .inl (cI, 6, .inl L)), (m4, .inl (cI, 6, .inl C)), (m12, .inl (cI, 6, .inl (upd PY_ v4.toNatClampNeg 0))), (m22, .inl (cI, 240, .inl SH))]) := hD
        refine lv_iinc (v := (v4 + 1)) (lv' := [(4, .int (v4 + 1)), (0, .ref m0), (1, .int i1), (2, .int i2), (3, .int i3)]) hx hb dX5_goYear_34 hl (k := 0) rfl rfl (by decide) rfl (fun ls hl => ?_)
        refine lv_goto (tgt := 19) hx hb dX5_goYear_37 (by decide) ?_
        exact ih (v4 + 1) (upd PY_ v4.toNatClampNeg 0) _ _ _ (up_s hu c_23) hP hD hS (lv_sub hl [0, 1, 2, 3, 4] rfl) (hE.trans (by rw [p5_goYear_l19_s, if_neg c_23]))
  refine lv_aload_n hx hb dX5_goYear_0 rfl (lv_at hl 0 rfl) ?_
  refine lv_bipush (v := (-9)) hx hb dX5_goYear_1 (by decide) ?_
  refine va_put (D := (dC, dI)) (ci := 5) (v := .int (-9)) (ty := .int) (C := RX5) (T := TX5) (N := 25) hx hb hts hin5 tyX5 tyX5_ok nmX5 hown hK hP hD hS 0 rfl rfl 15 (by decide) kf_178 (fun _ h9 => h9) rfl (by decide +kernel) rfl rfl (Nat.le_of_ble_eq_true rfl) dX5_goYear_3 (fun H locs hP hD hS => ?_)
  have hP : va_P (dC, dI) vwCl ([(m0, .inr (5, [.int mfa, .int mho, .ref m2, .ref m3, .ref m4, .int mra, .int mrh, .ref m7, .ref m8, .ref m9, .ref m10, .ref m11, .ref m12, .int mch, .int mfr, .int (-9), .int mrd, .ref m17, .ref m18, .ref m19, .ref m20, .ref m21, .ref m22, .ref m23, .int mtr])), (m2, .inl (cI, 6, .inl K)), (m3, .inl (cI, 6, .inl L)), (m4, .inl (cI, 6, .inl C)), (m12, .inl (cI, 6, .inl PY)), (m22, .inl (cI, 240, .inl SH))]) H := hP
  have hD : va_D A ([(m0, .inr (5, [.int mfa, .int mho, .ref m2, .ref m3, .ref m4, .int mra, .int mrh, .ref m7, .ref m8, .ref m9, .ref m10, .ref m11, .ref m12, .int mch, .int mfr, .int (-9), .int mrd, .ref m17, .ref m18, .ref m19, .ref m20, .ref m21, .ref m22, .ref m23, .int mtr])), (m2, .inl (cI, 6, .inl K)), (m3, .inl (cI, 6, .inl L)), (m4, .inl (cI, 6, .inl C)), (m12, .inl (cI, 6, .inl PY)), (m22, .inl (cI, 240, .inl SH))]) := hD
  refine lv_aload_n hx hb dX5_goYear_6 rfl (lv_at hl 0 rfl) ?_
  refine lv_iconst (v := 0) hx hb dX5_goYear_7 (by decide) ?_
  refine va_put (D := (dC, dI)) (ci := 5) (v := .int 0) (ty := .int) (C := RX5) (T := TX5) (N := 25) hx hb hts hin5 tyX5 tyX5_ok nmX5 hown hK hP hD hS 0 rfl rfl 13 (by decide) kf_171 (fun _ h9 => h9) rfl (by decide +kernel) rfl rfl (Nat.le_of_ble_eq_true rfl) dX5_goYear_8 (fun H locs hP hD hS => ?_)
  have hP : va_P (dC, dI) vwCl ([(m0, .inr (5, [.int mfa, .int mho, .ref m2, .ref m3, .ref m4, .int mra, .int mrh, .ref m7, .ref m8, .ref m9, .ref m10, .ref m11, .ref m12, .int 0, .int mfr, .int (-9), .int mrd, .ref m17, .ref m18, .ref m19, .ref m20, .ref m21, .ref m22, .ref m23, .int mtr])), (m2, .inl (cI, 6, .inl K)), (m3, .inl (cI, 6, .inl L)), (m4, .inl (cI, 6, .inl C)), (m12, .inl (cI, 6, .inl PY)), (m22, .inl (cI, 240, .inl SH))]) H := hP
  have hD : va_D A ([(m0, .inr (5, [.int mfa, .int mho, .ref m2, .ref m3, .ref m4, .int mra, .int mrh, .ref m7, .ref m8, .ref m9, .ref m10, .ref m11, .ref m12, .int 0, .int mfr, .int (-9), .int mrd, .ref m17, .ref m18, .ref m19, .ref m20, .ref m21, .ref m22, .ref m23, .int mtr])), (m2, .inl (cI, 6, .inl K)), (m3, .inl (cI, 6, .inl L)), (m4, .inl (cI, 6, .inl C)), (m12, .inl (cI, 6, .inl PY)), (m22, .inl (cI, 240, .inl SH))]) := hD
  refine lv_aload_n hx hb dX5_goYear_11 rfl (lv_at hl 0 rfl) ?_
  refine lv_iconst (v := 0) hx hb dX5_goYear_12 (by decide) ?_
  refine va_put (D := (dC, dI)) (ci := 5) (v := .int 0) (ty := .int) (C := RX5) (T := TX5) (N := 25) hx hb hts hin5 tyX5 tyX5_ok nmX5 hown hK hP hD hS 0 rfl rfl 14 (by decide) kf_168 (fun _ h9 => h9) rfl (by decide +kernel) rfl rfl (Nat.le_of_ble_eq_true rfl) dX5_goYear_13 (fun H locs hP hD hS => ?_)
  have hP : va_P (dC, dI) vwCl ([(m0, .inr (5, [.int mfa, .int mho, .ref m2, .ref m3, .ref m4, .int mra, .int mrh, .ref m7, .ref m8, .ref m9, .ref m10, .ref m11, .ref m12, .int 0, .int 0, .int (-9), .int mrd, .ref m17, .ref m18, .ref m19, .ref m20, .ref m21, .ref m22, .ref m23, .int mtr])), (m2, .inl (cI, 6, .inl K)), (m3, .inl (cI, 6, .inl L)), (m4, .inl (cI, 6, .inl C)), (m12, .inl (cI, 6, .inl PY)), (m22, .inl (cI, 240, .inl SH))]) H := hP
  have hD : va_D A ([(m0, .inr (5, [.int mfa, .int mho, .ref m2, .ref m3, .ref m4, .int mra, .int mrh, .ref m7, .ref m8, .ref m9, .ref m10, .ref m11, .ref m12, .int 0, .int 0, .int (-9), .int mrd, .ref m17, .ref m18, .ref m19, .ref m20, .ref m21, .ref m22, .ref m23, .int mtr])), (m2, .inl (cI, 6, .inl K)), (m3, .inl (cI, 6, .inl L)), (m4, .inl (cI, 6, .inl C)), (m12, .inl (cI, 6, .inl PY)), (m22, .inl (cI, 240, .inl SH))]) := hD
  refine lv_iconst (v := 0) hx hb dX5_goYear_16 (by decide) ?_
  refine lv_istore (lv' := [(4, .int 0), (0, .ref m0), (1, .int i1), (2, .int i2), (3, .int i3)]) hx hb dX5_goYear_17 hl (by decide) rfl (fun ls hl => ?_)
  exact lp_19 7 0 PY _ _ _ (up_i 6 (by decide) (by decide)) hP hD hS (lv_sub hl [0, 1, 2, 3, 4] rfl) (rfl)

def p5_yearBy (mho : Int32) (mch : Int32) (mfr : Int32) (mfw : Int32) (K : Nat → Int32) (L : Nat → Int32) (C : Nat → Int32) (PY : Nat → Int32) (i1 : Int32) : Int32 :=
  if i1 = 1 then
    mfw
  else
    if mfw < 0 then
      if 10 ≤ i1 then
        if (p5_noHouse mho (i1 - i1 / 10 * 10)) = 0 then
          if 20 ≤ i1 then
            (PY (i1 - i1 / 10 * 10).toNatClampNeg)
          else
            (L (i1 - i1 / 10 * 10).toNatClampNeg)
        else
          (-9)
      else
        if i1 = 0 then
          (p5_worthOfAll mho K L C)
        else
          if i1 = 2 then
            mch
          else
            mfr
    else
      ((-100) - mfw)
abbrev rmX5_yearBy : Room := { frames := 3, cells := 0, slots := 0, locals := 67 }
abbrev QX5_yearBy (dC : Nat → ClassId) (dI : Nat → Nat → Nat) (A : Nat → Prop) (cI : ClassId) (m0 : Nat) (m2 : Nat) (m3 : Nat) (m4 : Nat) (m7 : Nat) (m8 : Nat) (m9 : Nat) (m10 : Nat) (m11 : Nat) (m12 : Nat) (m17 : Nat) (m18 : Nat) (m19 : Nat) (m20 : Nat) (m21 : Nat) (m22 : Nat) (m23 : Nat) (mfa : Int32) (mho : Int32) (mra : Int32) (mrh : Int32) (mch : Int32) (mfr : Int32) (mfw : Int32) (mrd : Int32) (mtr : Int32) (K : Nat → Int32) (L : Nat → Int32) (C : Nat → Int32) (PY : Nat → Int32) (i1 : Int32) : Array Value → State → Outcome → State → Prop := va_Qi (fun (r : Int32) (_ : Unit) => r = p5_yearBy mho mch mfr mfw K L C PY i1) (fun (_ : Unit) (t : State) => va_P (dC, dI) vwCl ([(m0, .inr (5, [.int mfa, .int mho, .ref m2, .ref m3, .ref m4, .int mra, .int mrh, .ref m7, .ref m8, .ref m9, .ref m10, .ref m11, .ref m12, .int mch, .int mfr, .int mfw, .int mrd, .ref m17, .ref m18, .ref m19, .ref m20, .ref m21, .ref m22, .ref m23, .int mtr])), (m2, .inl (cI, 6, .inl K)), (m3, .inl (cI, 6, .inl L)), (m4, .inl (cI, 6, .inl C)), (m12, .inl (cI, 6, .inl PY))]) t.heap) A
set_option maxHeartbeats 4000000 in
set_option maxRecDepth 100000 in
theorem ctX5_yearBy (l : Launch) (dC : Nat → ClassId) (dI : Nat → Nat → Nat) (cI : ClassId) (m0 : Nat) (m2 : Nat) (m3 : Nat) (m4 : Nat) (m7 : Nat) (m8 : Nat) (m9 : Nat) (m10 : Nat) (m11 : Nat) (m12 : Nat) (m17 : Nat) (m18 : Nat) (m19 : Nat) (m20 : Nat) (m21 : Nat) (m22 : Nat) (m23 : Nat) (sz : Nat) (mfa : Int32) (mho : Int32) (mra : Int32) (mrh : Int32) (mch : Int32) (mfr : Int32) (mfw : Int32) (mrd : Int32) (mtr : Int32) (K : Nat → Int32) (L : Nat → Int32) (C : Nat → Int32) (PY : Nat → Int32) (i1 : Int32) (hNb : mho.toInt ≤ 6) : Met l yX5_yearBy wsX5_yearBy rmX5_yearBy (va_Pc [.ref m0, .int i1] (cP dC dI [(cI, .int)] ([(m0, .inr (5, [.int mfa, .int mho, .ref m2, .ref m3, .ref m4, .int mra, .int mrh, .ref m7, .ref m8, .ref m9, .ref m10, .ref m11, .ref m12, .int mch, .int mfr, .int mfw, .int mrd, .ref m17, .ref m18, .ref m19, .ref m20, .ref m21, .ref m22, .ref m23, .int mtr])), (m2, .inl (cI, 6, .inl K)), (m3, .inl (cI, 6, .inl L)), (m4, .inl (cI, 6, .inl C)), (m12, .inl (cI, 6, .inl PY))]) sz)) (QX5_yearBy dC dI (va_A ([(m0, .inr (5, [.int mfa, .int mho, .ref m2, .ref m3, .ref m4, .int mra, .int mrh, .ref m7, .ref m8, .ref m9, .ref m10, .ref m11, .ref m12, .int mch, .int mfr, .int mfw, .int mrd, .ref m17, .ref m18, .ref m19, .ref m20, .ref m21, .ref m22, .ref m23, .int mtr])), (m2, .inl (cI, 6, .inl K)), (m3, .inl (cI, 6, .inl L)), (m4, .inl (cI, 6, .inl C)), (m12, .inl (cI, 6, .inl PY))]) sz) cI m0 m2 m3 m4 m7 m8 m9 m10 m11 m12 m17 m18 m19 m20 m21 m22 m23 mfa mho mra mrh mch mfr mfw mrd mtr K L C PY i1) 0 0 (va_A ([(m0, .inr (5, [.int mfa, .int mho, .ref m2, .ref m3, .ref m4, .int mra, .int mrh, .ref m7, .ref m8, .ref m9, .ref m10, .ref m11, .ref m12, .int mch, .int mfr, .int mfw, .int mrd, .ref m17, .ref m18, .ref m19, .ref m20, .ref m21, .ref m22, .ref m23, .int mtr])), (m2, .inl (cI, 6, .inl K)), (m3, .inl (cI, 6, .inl L)), (m4, .inl (cI, 6, .inl C)), (m12, .inl (cI, 6, .inl PY))]) sz) := by
  refine Met.ofW (cc := cX5_yearBy) (maxL := 3) (ret := (some .int)) (by decide) rfl ?_
  intro p e s m args below meth c s₁ B hml hv
  obtain ⟨rfl, hsz, hP, hK, hD0, hN⟩ := hv
  have hx := B.exec
  have hb := B.bytes
  have hr := B.returns
  have hts := atoms_spec (ws := wsX5_yearBy) B.pre
  have hown : s.vm.findClass RX5 = some m.cls := findClass_of_methodNamed B.named
  have hlocks := B.notSynchronized
  subst hsz
  have hD := hD0.self (sz := s.heap.size)
  generalize hAe : va_A ([(m0, .inr (5, [.int mfa, .int mho, .ref m2, .ref m3, .ref m4, .int mra, .int mrh, .ref m7, .ref m8, .ref m9, .ref m10, .ref m11, .ref m12, .int mch, .int mfr, .int mfw, .int mrd, .ref m17, .ref m18, .ref m19, .ref m20, .ref m21, .ref m22, .ref m23, .int mtr])), (m2, .inl (cI, 6, .inl K)), (m3, .inl (cI, 6, .inl L)), (m4, .inl (cI, 6, .inl C)), (m12, .inl (cI, 6, .inl PY))]) s.heap.size = A at hD ⊢
  have hA : ∀ q : Nat, s.heap.size ≤ q → A q := fun q h => by rw [← hAe]; exact Or.inr h
  have hS : va_S A s.heap s.heap [] := va_S.rf
  have hP : va_P (dC, dI) vwCl ([(m0, .inr (5, [.int mfa, .int mho, .ref m2, .ref m3, .ref m4, .int mra, .int mrh, .ref m7, .ref m8, .ref m9, .ref m10, .ref m11, .ref m12, .int mch, .int mfr, .int mfw, .int mrd, .ref m17, .ref m18, .ref m19, .ref m20, .ref m21, .ref m22, .ref m23, .int mtr])), (m2, .inl (cI, 6, .inl K)), (m3, .inl (cI, 6, .inl L)), (m4, .inl (cI, 6, .inl C)), (m12, .inl (cI, 6, .inl PY))]) s.heap := hP
  have hin5 : ∀ w ∈ wsX50, w ∈ wsX5_yearBy := by decide +kernel
  have kf_13 := hts (.fieldLink RX5 13 "RicherChangeModel" "landOf" "[I") (by decide +kernel)
  have kf_168 := hts (.fieldLink RX5 168 "RicherChangeModel" "fairs" "I") (by decide +kernel)
  have kf_171 := hts (.fieldLink RX5 171 "RicherChangeModel" "changes" "I") (by decide +kernel)
  have kf_178 := hts (.fieldLink RX5 178 "RicherChangeModel" "firstWrong" "I") (by decide +kernel)
  have kf_34 := hts (.fieldLink RX5 34 "RicherChangeModel" "paysOf" "[I") (by decide +kernel)
  have hl := lv_entry ([.ref m0, .int i1]) (n := 3) (Nat.le_of_ble_eq_true rfl)
  rw [lg_entry_eq]
  generalize (lg_sl ([.ref m0, .int i1]) ++ List.replicate (3 - (lg_sl ([.ref m0, .int i1])).length) Slot.unset).toArray = ls at hl ⊢
  have hl : lv_has ls 3 [(0, .ref m0), (1, .int i1)] := hl
  refine lv_iload_n hx hb dX5_yearBy_0 rfl (lv_at hl 1 rfl) ?_
  refine lv_iconst (v := 1) hx hb dX5_yearBy_1 (by decide) ?_
  refine lv_icmp_ne (tgt := 10) hx hb dX5_yearBy_2 (by decide) (fun c_2 => ?_) (fun c_2 => ?_)
  · skip
    refine lv_aload_n hx hb dX5_yearBy_10 rfl (lv_at hl 0 rfl) ?_
    refine va_get (D := (dC, dI)) (ci := 5) (v := .int mfw) (C := RX5) (T := TX5) (N := 25) hx hb hts hin5 hown hK hP 0 rfl rfl 15 (by decide) kf_178 (fun _ h9 => h9) rfl dX5_yearBy_11 ?_
    refine lv_if_lt (tgt := 25) hx hb dX5_yearBy_14 (by decide) (fun c_14 => ?_) (fun c_14 => ?_)
    · skip
      refine lv_iload_n hx hb dX5_yearBy_25 rfl (lv_at hl 1 rfl) ?_
      refine lv_bipush (v := 10) hx hb dX5_yearBy_26 (by decide) ?_
      refine lv_icmp_ge (tgt := 59) hx hb dX5_yearBy_28 (by decide) (fun c_28 => ?_) (fun c_28 => ?_)
      · skip
        refine lv_iload_n hx hb dX5_yearBy_59 rfl (lv_at hl 1 rfl) ?_
        refine lv_bipush (v := 10) hx hb dX5_yearBy_60 (by decide) ?_
        refine lv_irem hx hb dX5_yearBy_62 (by decide) ?_
        refine lv_istore_n (lv' := [(2, .int (i1 - i1 / 10 * 10)), (0, .ref m0), (1, .int i1)]) hx hb dX5_yearBy_63 rfl hl (by decide) rfl (fun ls hl => ?_)
        refine lv_aload_n hx hb dX5_yearBy_64 rfl (lv_at hl 1 rfl) ?_
        refine lv_iload_n hx hb dX5_yearBy_65 rfl (lv_at hl 0 rfl) ?_
        have hPc := hP.sub (ws' := [(m0, .inr (5, [.int mfa, .int mho, .ref m2, .ref m3, .ref m4, .int mra, .int mrh, .ref m7, .ref m8, .ref m9, .ref m10, .ref m11, .ref m12, .int mch, .int mfr, .int mfw, .int mrd, .ref m17, .ref m18, .ref m19, .ref m20, .ref m21, .ref m22, .ref m23, .int mtr]))]) [0] rfl
        have hDc := hD.sub (ws' := [(m0, .inr (5, [.int mfa, .int mho, .ref m2, .ref m3, .ref m4, .int mra, .int mrh, .ref m7, .ref m8, .ref m9, .ref m10, .ref m11, .ref m12, .int mch, .int mfr, .int mfw, .int mrd, .ref m17, .ref m18, .ref m19, .ref m20, .ref m21, .ref m22, .ref m23, .int mtr]))]) [0] (by decide) rfl
        have hKc := hK.sub (tys' := [(cI, .int)]) [0] rfl
        have hFc := va_free (wc := [(m0, .inr (5, [.int mfa, .int mho, .ref m2, .ref m3, .ref m4, .int mra, .int mrh, .ref m7, .ref m8, .ref m9, .ref m10, .ref m11, .ref m12, .int mch, .int mfr, .int mfw, .int mrd, .ref m17, .ref m18, .ref m19, .ref m20, .ref m21, .ref m22, .ref m23, .int mtr]))]) hD hS hA [0] rfl
        refine va_calli (va_runV (As := [.int (i1 - i1 / 10 * 10)]) (rest := []) ⟨hx, hb, hml, hown, hts⟩ (ctX5_noHouse l dC dI cI m0 m2 m3 m4 m7 m8 m9 m10 m11 m12 m17 m18 m19 m20 m21 m22 m23 s.heap.size mfa mho mra mrh mch mfr mfw mrd mtr (i1 - i1 / 10 * 10)) (cwV 1 hts gX5_yearBy_X5_noHouse rfl rfl rfl (by decide +kernel) ⟨Nat.le_of_ble_eq_true rfl, Nat.le_of_ble_eq_true rfl⟩) (pre_V hKc hN hPc hDc (RX5, TX5, 25) 5 0 rfl rfl) rfl rfl hl.1 rfl (lv_room (Nat.le_of_ble_eq_true rfl)) dX5_yearBy_66 ⟨Nat.le_of_ble_eq_true rfl, Nat.le_of_ble_eq_true rfl⟩) hS (fun q _ h => hFc q h) hFc (fun r _ t H locs ht hvm hw hB hz1 hk1 hS => ?_)
        try dsimp only at hw
        subst hw
        rw [ht] at hB
        obtain ⟨hP, hD⟩ := rw_join ([(m0, .inr (5, [.int mfa, .int mho, .ref m2, .ref m3, .ref m4, .int mra, .int mrh, .ref m7, .ref m8, .ref m9, .ref m10, .ref m11, .ref m12, .int mch, .int mfr, .int mfw, .int mrd, .ref m17, .ref m18, .ref m19, .ref m20, .ref m21, .ref m22, .ref m23, .int mtr])), (m2, .inl (cI, 6, .inl K)), (m3, .inl (cI, 6, .inl L)), (m4, .inl (cI, 6, .inl C)), (m12, .inl (cI, 6, .inl PY))]) ([(m0, .inr (5, [.int mfa, .int mho, .ref m2, .ref m3, .ref m4, .int mra, .int mrh, .ref m7, .ref m8, .ref m9, .ref m10, .ref m11, .ref m12, .int mch, .int mfr, .int mfw, .int mrd, .ref m17, .ref m18, .ref m19, .ref m20, .ref m21, .ref m22, .ref m23, .int mtr])), (m2, .inl (cI, 6, .inl K)), (m3, .inl (cI, 6, .inl L)), (m4, .inl (cI, 6, .inl C)), (m12, .inl (cI, 6, .inl PY))]) ([(m0, .inr (5, [.int mfa, .int mho, .ref m2, .ref m3, .ref m4, .int mra, .int mrh, .ref m7, .ref m8, .ref m9, .ref m10, .ref m11, .ref m12, .int mch, .int mfr, .int mfw, .int mrd, .ref m17, .ref m18, .ref m19, .ref m20, .ref m21, .ref m22, .ref m23, .int mtr]))]) ([(m0, .inr (5, [.int mfa, .int mho, .ref m2, .ref m3, .ref m4, .int mra, .int mrh, .ref m7, .ref m8, .ref m9, .ref m10, .ref m11, .ref m12, .int mch, .int mfr, .int mfw, .int mrd, .ref m17, .ref m18, .ref m19, .ref m20, .ref m21, .ref m22, .ref m23, .int mtr]))]) ([(m2, .inl (cI, 6, .inl K)), (m3, .inl (cI, 6, .inl L)), (m4, .inl (cI, 6, .inl C)), (m12, .inl (cI, 6, .inl PY))]) hP hD [0] [1, 2, 3, 4] [m0, m2, m3, m4, m12] 5 rfl rfl rfl rfl rfl (by decide) rfl rfl hk1 hB
        refine lv_if_eq (tgt := 77) hx hb dX5_yearBy_69 (by decide) (fun c_69 => ?_) (fun c_69 => ?_)
        · skip
          have j2 : vp_in (i1 - i1 / 10 * 10) 6 := noHouse_in hNb c_69
          refine lv_iload_n hx hb dX5_yearBy_77 rfl (lv_at hl 2 rfl) ?_
          refine lv_bipush (v := 20) hx hb dX5_yearBy_78 (by decide) ?_
          refine lv_icmp_ge (tgt := 92) hx hb dX5_yearBy_80 (by decide) (fun c_80 => ?_) (fun c_80 => ?_)
          · skip
            refine lv_aload_n hx hb dX5_yearBy_92 rfl (lv_at hl 1 rfl) ?_
            refine va_get (D := (dC, dI)) (ci := 5) (v := .ref m12) (C := RX5) (T := TX5) (N := 25) hx hb hts hin5 hown hK hP 0 rfl rfl 12 (by decide) kf_34 (fun _ h9 => h9) rfl dX5_yearBy_93 ?_
            refine lv_iload_n hx hb dX5_yearBy_96 rfl (lv_at hl 0 rfl) ?_
            refine va_iald hx hb hK hP 4 0 rfl rfl (by assumption) dX5_yearBy_97 ?_
            have hE9 : p5_yearBy mho mch mfr mfw K L C PY i1 = (PY (i1 - i1 / 10 * 10).toNatClampNeg) := by unfold p5_yearBy; rw [if_neg c_2, if_pos c_14, if_pos c_28, if_pos c_69, if_pos c_80]
            exact W.iret (v := (PY (i1 - i1 / 10 * 10).toNatClampNeg)) hx hb hr (fun t ht hW => ⟨⟨_, (), rfl, by rw [hE9], by show va_P (dC, dI) vwCl _ t.heap; rw [ht]; exact hP⟩, hS.F ht⟩) hS.2.2 dX5_yearBy_98
          · skip
            refine lv_aload_n hx hb dX5_yearBy_83 rfl (lv_at hl 1 rfl) ?_
            refine va_get (D := (dC, dI)) (ci := 5) (v := .ref m3) (C := RX5) (T := TX5) (N := 25) hx hb hts hin5 hown hK hP 0 rfl rfl 3 (by decide) kf_13 (fun _ h9 => h9) rfl dX5_yearBy_84 ?_
            refine lv_iload_n hx hb dX5_yearBy_87 rfl (lv_at hl 0 rfl) ?_
            refine va_iald hx hb hK hP 2 0 rfl rfl (by assumption) dX5_yearBy_88 ?_
            refine lv_goto (tgt := 98) hx hb dX5_yearBy_89 (by decide) ?_
            have hE9 : p5_yearBy mho mch mfr mfw K L C PY i1 = (L (i1 - i1 / 10 * 10).toNatClampNeg) := by unfold p5_yearBy; rw [if_neg c_2, if_pos c_14, if_pos c_28, if_pos c_69, if_neg c_80]
            exact W.iret (v := (L (i1 - i1 / 10 * 10).toNatClampNeg)) hx hb hr (fun t ht hW => ⟨⟨_, (), rfl, by rw [hE9], by show va_P (dC, dI) vwCl _ t.heap; rw [ht]; exact hP⟩, hS.F ht⟩) hS.2.2 dX5_yearBy_98
        · skip
          refine lv_bipush (v := (-9)) hx hb dX5_yearBy_72 (by decide) ?_
          refine lv_goto (tgt := 98) hx hb dX5_yearBy_74 (by decide) ?_
          have hE9 : p5_yearBy mho mch mfr mfw K L C PY i1 = (-9) := by unfold p5_yearBy; rw [if_neg c_2, if_pos c_14, if_pos c_28, if_neg c_69]
          exact W.iret (v := (-9)) hx hb hr (fun t ht hW => ⟨⟨_, (), rfl, by rw [hE9], by show va_P (dC, dI) vwCl _ t.heap; rw [ht]; exact hP⟩, hS.F ht⟩) hS.2.2 dX5_yearBy_98
      · skip
        refine lv_iload_n hx hb dX5_yearBy_31 rfl (lv_at hl 1 rfl) ?_
        refine lv_if_ne (tgt := 42) hx hb dX5_yearBy_32 (by decide) (fun c_32 => ?_) (fun c_32 => ?_)
        · skip
          refine lv_iload_n hx hb dX5_yearBy_42 rfl (lv_at hl 1 rfl) ?_
          refine lv_iconst (v := 2) hx hb dX5_yearBy_43 (by decide) ?_
          refine lv_icmp_ne (tgt := 54) hx hb dX5_yearBy_44 (by decide) (fun c_44 => ?_) (fun c_44 => ?_)
          · skip
            refine lv_aload_n hx hb dX5_yearBy_54 rfl (lv_at hl 0 rfl) ?_
            refine va_get (D := (dC, dI)) (ci := 5) (v := .int mfr) (C := RX5) (T := TX5) (N := 25) hx hb hts hin5 hown hK hP 0 rfl rfl 14 (by decide) kf_168 (fun _ h9 => h9) rfl dX5_yearBy_55 ?_
            have hE9 : p5_yearBy mho mch mfr mfw K L C PY i1 = mfr := by unfold p5_yearBy; rw [if_neg c_2, if_pos c_14, if_neg c_28, if_neg c_32, if_neg c_44]
            exact W.iret (v := mfr) hx hb hr (fun t ht hW => ⟨⟨_, (), rfl, by rw [hE9], by show va_P (dC, dI) vwCl _ t.heap; rw [ht]; exact hP⟩, hS.F ht⟩) hS.2.2 dX5_yearBy_58
          · skip
            refine lv_aload_n hx hb dX5_yearBy_47 rfl (lv_at hl 0 rfl) ?_
            refine va_get (D := (dC, dI)) (ci := 5) (v := .int mch) (C := RX5) (T := TX5) (N := 25) hx hb hts hin5 hown hK hP 0 rfl rfl 13 (by decide) kf_171 (fun _ h9 => h9) rfl dX5_yearBy_48 ?_
            refine lv_goto (tgt := 58) hx hb dX5_yearBy_51 (by decide) ?_
            have hE9 : p5_yearBy mho mch mfr mfw K L C PY i1 = mch := by unfold p5_yearBy; rw [if_neg c_2, if_pos c_14, if_neg c_28, if_neg c_32, if_pos c_44]
            exact W.iret (v := mch) hx hb hr (fun t ht hW => ⟨⟨_, (), rfl, by rw [hE9], by show va_P (dC, dI) vwCl _ t.heap; rw [ht]; exact hP⟩, hS.F ht⟩) hS.2.2 dX5_yearBy_58
        · skip
          refine lv_aload_n hx hb dX5_yearBy_35 rfl (lv_at hl 0 rfl) ?_
          have hPc := hP.sub (ws' := [(m0, .inr (5, [.int mfa, .int mho, .ref m2, .ref m3, .ref m4, .int mra, .int mrh, .ref m7, .ref m8, .ref m9, .ref m10, .ref m11, .ref m12, .int mch, .int mfr, .int mfw, .int mrd, .ref m17, .ref m18, .ref m19, .ref m20, .ref m21, .ref m22, .ref m23, .int mtr])), (m2, .inl (cI, 6, .inl K)), (m3, .inl (cI, 6, .inl L)), (m4, .inl (cI, 6, .inl C))]) [0, 1, 2, 3] rfl
          have hDc := hD.sub (ws' := [(m0, .inr (5, [.int mfa, .int mho, .ref m2, .ref m3, .ref m4, .int mra, .int mrh, .ref m7, .ref m8, .ref m9, .ref m10, .ref m11, .ref m12, .int mch, .int mfr, .int mfw, .int mrd, .ref m17, .ref m18, .ref m19, .ref m20, .ref m21, .ref m22, .ref m23, .int mtr])), (m2, .inl (cI, 6, .inl K)), (m3, .inl (cI, 6, .inl L)), (m4, .inl (cI, 6, .inl C))]) [0, 1, 2, 3] (by decide) rfl
          have hKc := hK.sub (tys' := [(cI, .int)]) [0] rfl
          have hFc := va_free (wc := [(m0, .inr (5, [.int mfa, .int mho, .ref m2, .ref m3, .ref m4, .int mra, .int mrh, .ref m7, .ref m8, .ref m9, .ref m10, .ref m11, .ref m12, .int mch, .int mfr, .int mfw, .int mrd, .ref m17, .ref m18, .ref m19, .ref m20, .ref m21, .ref m22, .ref m23, .int mtr])), (m2, .inl (cI, 6, .inl K)), (m3, .inl (cI, 6, .inl L)), (m4, .inl (cI, 6, .inl C))]) hD hS hA [0, 1, 2, 3] rfl
          refine va_calli (va_runV (As := []) (rest := []) ⟨hx, hb, hml, hown, hts⟩ (ctX5_worthOfAll l dC dI cI m0 m2 m3 m4 m7 m8 m9 m10 m11 m12 m17 m18 m19 m20 m21 m22 m23 s.heap.size mfa mho mra mrh mch mfr mfw mrd mtr K L C (by assumption)) (cwV 0 hts gX5_yearBy_X5_worthOfAll rfl rfl rfl (by decide +kernel) ⟨Nat.le_of_ble_eq_true rfl, Nat.le_of_ble_eq_true rfl⟩) (pre_V hKc hN hPc hDc (RX5, TX5, 25) 5 0 rfl rfl) rfl rfl hl.1 rfl (lv_room (Nat.le_of_ble_eq_true rfl)) dX5_yearBy_36 ⟨Nat.le_of_ble_eq_true rfl, Nat.le_of_ble_eq_true rfl⟩) hS (fun q _ h => hFc q h) hFc (fun r _ t H locs ht hvm hw hB hz1 hk1 hS => ?_)
          try dsimp only at hw
          subst hw
          rw [ht] at hB
          obtain ⟨hP, hD⟩ := rw_join ([(m0, .inr (5, [.int mfa, .int mho, .ref m2, .ref m3, .ref m4, .int mra, .int mrh, .ref m7, .ref m8, .ref m9, .ref m10, .ref m11, .ref m12, .int mch, .int mfr, .int mfw, .int mrd, .ref m17, .ref m18, .ref m19, .ref m20, .ref m21, .ref m22, .ref m23, .int mtr])), (m2, .inl (cI, 6, .inl K)), (m3, .inl (cI, 6, .inl L)), (m4, .inl (cI, 6, .inl C)), (m12, .inl (cI, 6, .inl PY))]) ([(m0, .inr (5, [.int mfa, .int mho, .ref m2, .ref m3, .ref m4, .int mra, .int mrh, .ref m7, .ref m8, .ref m9, .ref m10, .ref m11, .ref m12, .int mch, .int mfr, .int mfw, .int mrd, .ref m17, .ref m18, .ref m19, .ref m20, .ref m21, .ref m22, .ref m23, .int mtr])), (m2, .inl (cI, 6, .inl K)), (m3, .inl (cI, 6, .inl L)), (m4, .inl (cI, 6, .inl C)), (m12, .inl (cI, 6, .inl PY))]) ([(m0, .inr (5, [.int mfa, .int mho, .ref m2, .ref m3, .ref m4, .int mra, .int mrh, .ref m7, .ref m8, .ref m9, .ref m10, .ref m11, .ref m12, .int mch, .int mfr, .int mfw, .int mrd, .ref m17, .ref m18, .ref m19, .ref m20, .ref m21, .ref m22, .ref m23, .int mtr])), (m2, .inl (cI, 6, .inl K)), (m3, .inl (cI, 6, .inl L)), (m4, .inl (cI, 6, .inl C))]) ([(m0, .inr (5, [.int mfa, .int mho, .ref m2, .ref m3, .ref m4, .int mra, .int mrh, .ref m7, .ref m8, .ref m9, .ref m10, .ref m11, .ref m12, .int mch, .int mfr, .int mfw, .int mrd, .ref m17, .ref m18, .ref m19, .ref m20, .ref m21, .ref m22, .ref m23, .int mtr])), (m2, .inl (cI, 6, .inl K)), (m3, .inl (cI, 6, .inl L)), (m4, .inl (cI, 6, .inl C))]) ([(m12, .inl (cI, 6, .inl PY))]) hP hD [0, 1, 2, 3] [4] [m0, m2, m3, m4, m12] 5 rfl rfl rfl rfl rfl (by decide) rfl rfl hk1 hB
          refine lv_goto (tgt := 58) hx hb dX5_yearBy_39 (by decide) ?_
          have hE9 : p5_yearBy mho mch mfr mfw K L C PY i1 = (p5_worthOfAll mho K L C) := by unfold p5_yearBy; rw [if_neg c_2, if_pos c_14, if_neg c_28, if_pos c_32]
          exact W.iret (v := (p5_worthOfAll mho K L C)) hx hb hr (fun t ht hW => ⟨⟨_, (), rfl, by rw [hE9], by show va_P (dC, dI) vwCl _ t.heap; rw [ht]; exact hP⟩, hS.F ht⟩) hS.2.2 dX5_yearBy_58
    · skip
      refine lv_bipush (v := (-100)) hx hb dX5_yearBy_17 (by decide) ?_
      refine lv_aload_n hx hb dX5_yearBy_19 rfl (lv_at hl 0 rfl) ?_
      refine va_get (D := (dC, dI)) (ci := 5) (v := .int mfw) (C := RX5) (T := TX5) (N := 25) hx hb hts hin5 hown hK hP 0 rfl rfl 15 (by decide) kf_178 (fun _ h9 => h9) rfl dX5_yearBy_20 ?_
      refine lv_isub hx hb dX5_yearBy_23 ?_
      have hE9 : p5_yearBy mho mch mfr mfw K L C PY i1 = ((-100) - mfw) := by unfold p5_yearBy; rw [if_neg c_2, if_neg c_14]
      exact W.iret (v := ((-100) - mfw)) hx hb hr (fun t ht hW => ⟨⟨_, (), rfl, by rw [hE9], by show va_P (dC, dI) vwCl _ t.heap; rw [ht]; exact hP⟩, hS.F ht⟩) hS.2.2 dX5_yearBy_24
  · skip
    refine lv_aload_n hx hb dX5_yearBy_5 rfl (lv_at hl 0 rfl) ?_
    refine va_get (D := (dC, dI)) (ci := 5) (v := .int mfw) (C := RX5) (T := TX5) (N := 25) hx hb hts hin5 hown hK hP 0 rfl rfl 15 (by decide) kf_178 (fun _ h9 => h9) rfl dX5_yearBy_6 ?_
    have hE9 : p5_yearBy mho mch mfr mfw K L C PY i1 = mfw := by unfold p5_yearBy; rw [if_pos c_2]
    exact W.iret (v := mfw) hx hb hr (fun t ht hW => ⟨⟨_, (), rfl, by rw [hE9], by show va_P (dC, dI) vwCl _ t.heap; rw [ht]; exact hP⟩, hS.F ht⟩) hS.2.2 dX5_yearBy_9

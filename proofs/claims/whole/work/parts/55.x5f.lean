def p5_readsCity_l45 (mra : Int32) (mrh : Int32) (RK : Nat → Int32) (RL : Nat → Int32) (RC : Nat → Int32) (SH : Nat → Int32) (i1 : Int32) (i2 : Int32) : Nat → Int32 → Int32 → Int32 → (Nat → Int32) → (Nat → Int32) → (Nat → Int32) → Int32 × Int32 × Int32 × (Nat → Int32) × (Nat → Int32) × (Nat → Int32)
  | 0, _, _, _, _, _, _ => (0, 0, 0, fun _ => 0, fun _ => 0, fun _ => 0)
  | n + 1, v3, mra_, mrh_, RK_, RL_, RC_ =>
    if v3 = 0 then
      (v3, mra_, mrh_, RK_, RL_, RC_)
    else
      if mrh_ < 2 then
        p5_readsCity_l45 mra mrh RK RL RC SH i1 i2 n ((p5_readsHouse mra_ mrh_ RK_ RL_ RC_ SH i1 i2).1) ((p5_readsHouse mra_ mrh_ RK_ RL_ RC_ SH i1 i2).2.1) ((p5_readsHouse mra_ mrh_ RK_ RL_ RC_ SH i1 i2).2.2.1) ((p5_readsHouse mra_ mrh_ RK_ RL_ RC_ SH i1 i2).2.2.2.1) ((p5_readsHouse mra_ mrh_ RK_ RL_ RC_ SH i1 i2).2.2.2.2.1) ((p5_readsHouse mra_ mrh_ RK_ RL_ RC_ SH i1 i2).2.2.2.2.2)
      else
        if i2 ≤ mra_ then
          (v3, mra_, mrh_, RK_, RL_, RC_)
        else
          p5_readsCity_l45 mra mrh RK RL RC SH i1 i2 n ((p5_readsHouse mra_ mrh_ RK_ RL_ RC_ SH i1 i2).1) ((p5_readsHouse mra_ mrh_ RK_ RL_ RC_ SH i1 i2).2.1) ((p5_readsHouse mra_ mrh_ RK_ RL_ RC_ SH i1 i2).2.2.1) ((p5_readsHouse mra_ mrh_ RK_ RL_ RC_ SH i1 i2).2.2.2.1) ((p5_readsHouse mra_ mrh_ RK_ RL_ RC_ SH i1 i2).2.2.2.2.1) ((p5_readsHouse mra_ mrh_ RK_ RL_ RC_ SH i1 i2).2.2.2.2.2)
theorem p5_readsCity_l45_s (mra : Int32) (mrh : Int32) (RK : Nat → Int32) (RL : Nat → Int32) (RC : Nat → Int32) (SH : Nat → Int32) (i1 : Int32) (i2 : Int32) (n : Nat) (v3 : Int32) (mra_ : Int32) (mrh_ : Int32) (RK_ : Nat → Int32) (RL_ : Nat → Int32) (RC_ : Nat → Int32) : p5_readsCity_l45 mra mrh RK RL RC SH i1 i2 (n + 1) v3 mra_ mrh_ RK_ RL_ RC_ =
    (if v3 = 0 then
      (v3, mra_, mrh_, RK_, RL_, RC_)
    else
      if mrh_ < 2 then
        p5_readsCity_l45 mra mrh RK RL RC SH i1 i2 n ((p5_readsHouse mra_ mrh_ RK_ RL_ RC_ SH i1 i2).1) ((p5_readsHouse mra_ mrh_ RK_ RL_ RC_ SH i1 i2).2.1) ((p5_readsHouse mra_ mrh_ RK_ RL_ RC_ SH i1 i2).2.2.1) ((p5_readsHouse mra_ mrh_ RK_ RL_ RC_ SH i1 i2).2.2.2.1) ((p5_readsHouse mra_ mrh_ RK_ RL_ RC_ SH i1 i2).2.2.2.2.1) ((p5_readsHouse mra_ mrh_ RK_ RL_ RC_ SH i1 i2).2.2.2.2.2)
      else
        if i2 ≤ mra_ then
          (v3, mra_, mrh_, RK_, RL_, RC_)
        else
          p5_readsCity_l45 mra mrh RK RL RC SH i1 i2 n ((p5_readsHouse mra_ mrh_ RK_ RL_ RC_ SH i1 i2).1) ((p5_readsHouse mra_ mrh_ RK_ RL_ RC_ SH i1 i2).2.1) ((p5_readsHouse mra_ mrh_ RK_ RL_ RC_ SH i1 i2).2.2.1) ((p5_readsHouse mra_ mrh_ RK_ RL_ RC_ SH i1 i2).2.2.2.1) ((p5_readsHouse mra_ mrh_ RK_ RL_ RC_ SH i1 i2).2.2.2.2.1) ((p5_readsHouse mra_ mrh_ RK_ RL_ RC_ SH i1 i2).2.2.2.2.2)) := rfl
def p5_readsCity (mra : Int32) (mrh : Int32) (RK : Nat → Int32) (RL : Nat → Int32) (RC : Nat → Int32) (SH : Nat → Int32) (i1 : Int32) (i2 : Int32) : Int32 × Int32 × Int32 × (Nat → Int32) × (Nat → Int32) × (Nat → Int32) :=
  if (p5_codeAt 0 SH i1 i2) = 113 then
    p5_readsCity_l45 mra mrh RK RL RC SH i1 i2 9 1 (0 + 1) 0 RK RL RC
  else
    p5_readsCity_l45 mra mrh RK RL RC SH i1 i2 9 0 (0 + 0) 0 RK RL RC
abbrev rmX5_readsCity : Room := { frames := 3, cells := 0, slots := 0, locals := 74 }
abbrev QX5_readsCity (dC : Nat → ClassId) (dI : Nat → Nat → Nat) (A : Nat → Prop) (cI : ClassId) (m0 : Nat) (m2 : Nat) (m3 : Nat) (m4 : Nat) (m7 : Nat) (m8 : Nat) (m9 : Nat) (m10 : Nat) (m11 : Nat) (m12 : Nat) (m17 : Nat) (m18 : Nat) (m19 : Nat) (m20 : Nat) (m21 : Nat) (m22 : Nat) (m23 : Nat) (mfa : Int32) (mho : Int32) (mra : Int32) (mrh : Int32) (mch : Int32) (mfr : Int32) (mfw : Int32) (mrd : Int32) (mtr : Int32) (RK : Nat → Int32) (RL : Nat → Int32) (RC : Nat → Int32) (SH : Nat → Int32) (i1 : Int32) (i2 : Int32) : Array Value → State → Outcome → State → Prop := va_Qi (fun (r : Int32) (_ : Unit) => r = (p5_readsCity mra mrh RK RL RC SH i1 i2).1) (fun (_ : Unit) (t : State) => va_P (dC, dI) vwCl ([(m0, .inr (5, [.int mfa, .int mho, .ref m2, .ref m3, .ref m4, .int ((p5_readsCity mra mrh RK RL RC SH i1 i2).2.1), .int ((p5_readsCity mra mrh RK RL RC SH i1 i2).2.2.1), .ref m7, .ref m8, .ref m9, .ref m10, .ref m11, .ref m12, .int mch, .int mfr, .int mfw, .int mrd, .ref m17, .ref m18, .ref m19, .ref m20, .ref m21, .ref m22, .ref m23, .int mtr])), (m7, .inl (cI, 6, .inl ((p5_readsCity mra mrh RK RL RC SH i1 i2).2.2.2.1))), (m8, .inl (cI, 6, .inl ((p5_readsCity mra mrh RK RL RC SH i1 i2).2.2.2.2.1))), (m9, .inl (cI, 6, .inl ((p5_readsCity mra mrh RK RL RC SH i1 i2).2.2.2.2.2))), (m22, .inl (cI, 240, .inl SH))]) t.heap) A
set_option maxHeartbeats 4000000 in
set_option maxRecDepth 100000 in
theorem ctX5_readsCity (l : Launch) (dC : Nat → ClassId) (dI : Nat → Nat → Nat) (cI : ClassId) (m0 : Nat) (m2 : Nat) (m3 : Nat) (m4 : Nat) (m7 : Nat) (m8 : Nat) (m9 : Nat) (m10 : Nat) (m11 : Nat) (m12 : Nat) (m17 : Nat) (m18 : Nat) (m19 : Nat) (m20 : Nat) (m21 : Nat) (m22 : Nat) (m23 : Nat) (sz : Nat) (mfa : Int32) (mho : Int32) (mra : Int32) (mrh : Int32) (mch : Int32) (mfr : Int32) (mfw : Int32) (mrd : Int32) (mtr : Int32) (RK : Nat → Int32) (RL : Nat → Int32) (RC : Nat → Int32) (SH : Nat → Int32) (i1 : Int32) (i2 : Int32) (hfn : 0 ≤ i1.toInt ∧ i1.toInt + i2.toInt ≤ 240) : Met l yX5_readsCity wsX5_readsCity rmX5_readsCity (va_Pc [.ref m0, .int i1, .int i2] (cP dC dI [(cI, .int)] ([(m0, .inr (5, [.int mfa, .int mho, .ref m2, .ref m3, .ref m4, .int mra, .int mrh, .ref m7, .ref m8, .ref m9, .ref m10, .ref m11, .ref m12, .int mch, .int mfr, .int mfw, .int mrd, .ref m17, .ref m18, .ref m19, .ref m20, .ref m21, .ref m22, .ref m23, .int mtr])), (m7, .inl (cI, 6, .inl RK)), (m8, .inl (cI, 6, .inl RL)), (m9, .inl (cI, 6, .inl RC)), (m22, .inl (cI, 240, .inl SH))]) sz)) (QX5_readsCity dC dI (va_A ([(m0, .inr (5, [.int mfa, .int mho, .ref m2, .ref m3, .ref m4, .int mra, .int mrh, .ref m7, .ref m8, .ref m9, .ref m10, .ref m11, .ref m12, .int mch, .int mfr, .int mfw, .int mrd, .ref m17, .ref m18, .ref m19, .ref m20, .ref m21, .ref m22, .ref m23, .int mtr])), (m7, .inl (cI, 6, .inl RK)), (m8, .inl (cI, 6, .inl RL)), (m9, .inl (cI, 6, .inl RC)), (m22, .inl (cI, 240, .inl SH))]) sz) cI m0 m2 m3 m4 m7 m8 m9 m10 m11 m12 m17 m18 m19 m20 m21 m22 m23 mfa mho mra mrh mch mfr mfw mrd mtr RK RL RC SH i1 i2) 0 0 (va_A ([(m0, .inr (5, [.int mfa, .int mho, .ref m2, .ref m3, .ref m4, .int mra, .int mrh, .ref m7, .ref m8, .ref m9, .ref m10, .ref m11, .ref m12, .int mch, .int mfr, .int mfw, .int mrd, .ref m17, .ref m18, .ref m19, .ref m20, .ref m21, .ref m22, .ref m23, .int mtr])), (m7, .inl (cI, 6, .inl RK)), (m8, .inl (cI, 6, .inl RL)), (m9, .inl (cI, 6, .inl RC)), (m22, .inl (cI, 240, .inl SH))]) sz) := by
  refine Met.ofW (cc := cX5_readsCity) (maxL := 4) (ret := (some .boolean)) (by decide) rfl ?_
  intro p e s m args below meth c s₁ B hml hv
  obtain ⟨rfl, hsz, hP, hK, hD0, hN⟩ := hv
  have hx := B.exec
  have hb := B.bytes
  have hr := B.returns
  have hts := atoms_spec (ws := wsX5_readsCity) B.pre
  have hown : s.vm.findClass RX5 = some m.cls := findClass_of_methodNamed B.named
  have hlocks := B.notSynchronized
  subst hsz
  have hD := hD0.self (sz := s.heap.size)
  generalize hAe : va_A ([(m0, .inr (5, [.int mfa, .int mho, .ref m2, .ref m3, .ref m4, .int mra, .int mrh, .ref m7, .ref m8, .ref m9, .ref m10, .ref m11, .ref m12, .int mch, .int mfr, .int mfw, .int mrd, .ref m17, .ref m18, .ref m19, .ref m20, .ref m21, .ref m22, .ref m23, .int mtr])), (m7, .inl (cI, 6, .inl RK)), (m8, .inl (cI, 6, .inl RL)), (m9, .inl (cI, 6, .inl RC)), (m22, .inl (cI, 240, .inl SH))]) s.heap.size = A at hD ⊢
  have hA : ∀ q : Nat, s.heap.size ≤ q → A q := fun q h => by rw [← hAe]; exact Or.inr h
  have hS : va_S A s.heap s.heap [] := va_S.rf
  have hP : va_P (dC, dI) vwCl ([(m0, .inr (5, [.int mfa, .int mho, .ref m2, .ref m3, .ref m4, .int mra, .int mrh, .ref m7, .ref m8, .ref m9, .ref m10, .ref m11, .ref m12, .int mch, .int mfr, .int mfw, .int mrd, .ref m17, .ref m18, .ref m19, .ref m20, .ref m21, .ref m22, .ref m23, .int mtr])), (m7, .inl (cI, 6, .inl RK)), (m8, .inl (cI, 6, .inl RL)), (m9, .inl (cI, 6, .inl RC)), (m22, .inl (cI, 240, .inl SH))]) s.heap := hP
  have hin5 : ∀ w ∈ wsX50, w ∈ wsX5_readsCity := by decide +kernel
  have kf_77 := hts (.fieldLink RX5 77 "RicherChangeModel" "readAt" "I") (by decide +kernel)
  have kf_84 := hts (.fieldLink RX5 84 "RicherChangeModel" "readHouses" "I") (by decide +kernel)
  have hl := lv_entry ([.ref m0, .int i1, .int i2]) (n := 4) (Nat.le_of_ble_eq_true rfl)
  rw [lg_entry_eq]
  generalize (lg_sl ([.ref m0, .int i1, .int i2]) ++ List.replicate (4 - (lg_sl ([.ref m0, .int i1, .int i2])).length) Slot.unset).toArray = ls at hl ⊢
  have hl : lv_has ls 4 [(0, .ref m0), (1, .int i1), (2, .int i2)] := hl
  have lp_45 : ∀ (n : Nat) (v3 : Int32) (mra_ : Int32) (mrh_ : Int32) (RK_ : Nat → Int32) (RL_ : Nat → Int32) (RC_ : Nat → Int32) (H : Heap) (locs : List Loc) (ls : Array Slot), (rdi v3 mra_ mrh_ n) → va_P (dC, dI) vwCl ([(m0, .inr (5, [.int mfa, .int mho, .ref m2, .ref m3, .ref m4, .int mra_, .int mrh_, .ref m7, .ref m8, .ref m9, .ref m10, .ref m11, .ref m12, .int mch, .int mfr, .int mfw, .int mrd, .ref m17, .ref m18, .ref m19, .ref m20, .ref m21, .ref m22, .ref m23, .int mtr])), (m7, .inl (cI, 6, .inl RK_)), (m8, .inl (cI, 6, .inl RL_)), (m9, .inl (cI, 6, .inl RC_)), (m22, .inl (cI, 240, .inl SH))]) H → va_D A ([(m0, .inr (5, [.int mfa, .int mho, .ref m2, .ref m3, .ref m4, .int mra_, .int mrh_, .ref m7, .ref m8, .ref m9, .ref m10, .ref m11, .ref m12, .int mch, .int mfr, .int mfw, .int mrd, .ref m17, .ref m18, .ref m19, .ref m20, .ref m21, .ref m22, .ref m23, .int mtr])), (m7, .inl (cI, 6, .inl RK_)), (m8, .inl (cI, 6, .inl RL_)), (m9, .inl (cI, 6, .inl RC_)), (m22, .inl (cI, 240, .inl SH))]) → va_S A s.heap H locs → lv_has ls 4 [(3, .int v3), (0, .ref m0), (1, .int i1), (2, .int i2)] → p5_readsCity mra mrh RK RL RC SH i1 i2 = p5_readsCity_l45 mra mrh RK RL RC SH i1 i2 n v3 mra_ mrh_ RK_ RL_ RC_ → W p l e (headSpec wsX5_readsCity rmX5_readsCity).room s m [.ref m0, .int i1, .int i2].toArray below meth c H locs 0 0 (MQ below (QX5_readsCity dC dI A cI m0 m2 m3 m4 m7 m8 m9 m10 m11 m12 m17 m18 m19 m20 m21 m22 m23 mfa mho mra mrh mch mfr mfw mrd mtr RK RL RC SH i1 i2) [.ref m0, .int i1, .int i2].toArray s 0 0 A) (F0 m 45 ls []) := by
    intro n
    induction n with
    | zero => intro v3 mra_ mrh_ RK_ RL_ RC_ _ _ _ hu; exact absurd hu rdi_no
    | succ n ih =>
      intro v3 mra_ mrh_ RK_ RL_ RC_ H locs ls hu hP hD hS hl hE
      refine lv_iload_n hx hb dX5_readsCity_45 rfl (lv_at hl 0 rfl) ?_
      refine lv_if_eq (tgt := 75) hx hb dX5_readsCity_46 (by decide) (fun c_46 => ?_) (fun c_46 => ?_)
      · skip
        refine lv_iload_n hx hb dX5_readsCity_75 rfl (lv_at hl 0 rfl) ?_
        have hE9 : p5_readsCity mra mrh RK RL RC SH i1 i2 = (v3, mra_, mrh_, RK_, RL_, RC_) := hE.trans (by rw [p5_readsCity_l45_s, if_pos c_46])
        exact W.zret (v := v3) hx hb hr (rdi_b hu) (fun t ht hW => ⟨⟨_, (), rfl, by rw [hE9], by show va_P (dC, dI) vwCl _ t.heap; rw [ht, hE9]; exact hP⟩, hS.F ht⟩) hS.2.2 dX5_readsCity_76
      · skip
        refine lv_aload_n hx hb dX5_readsCity_49 rfl (lv_at hl 1 rfl) ?_
        refine va_get (D := (dC, dI)) (ci := 5) (v := .int mrh_) (C := RX5) (T := TX5) (N := 25) hx hb hts hin5 hown hK hP 0 rfl rfl 6 (by decide) kf_84 (fun _ h9 => h9) rfl dX5_readsCity_50 ?_
        refine lv_iconst (v := 2) hx hb dX5_readsCity_53 (by decide) ?_
        refine lv_icmp_lt (tgt := 65) hx hb dX5_readsCity_54 (by decide) (fun c_54 => ?_) (fun c_54 => ?_)
        · skip
          refine lv_aload_n hx hb dX5_readsCity_65 rfl (lv_at hl 1 rfl) ?_
          refine lv_iload_n hx hb dX5_readsCity_66 rfl (lv_at hl 2 rfl) ?_
          refine lv_iload_n hx hb dX5_readsCity_67 rfl (lv_at hl 3 rfl) ?_
          have hPc := hP.sub (ws' := [(m0, .inr (5, [.int mfa, .int mho, .ref m2, .ref m3, .ref m4, .int mra_, .int mrh_, .ref m7, .ref m8, .ref m9, .ref m10, .ref m11, .ref m12, .int mch, .int mfr, .int mfw, .int mrd, .ref m17, .ref m18, .ref m19, .ref m20, .ref m21, .ref m22, .ref m23, .int mtr])), (m7, .inl (cI, 6, .inl RK_)), (m8, .inl (cI, 6, .inl RL_)), (m9, .inl (cI, 6, .inl RC_)), (m22, .inl (cI, 240, .inl SH))]) [0, 1, 2, 3, 4] rfl
          have hDc := hD.sub (ws' := [(m0, .inr (5, [.int mfa, .int mho, .ref m2, .ref m3, .ref m4, .int mra_, .int mrh_, .ref m7, .ref m8, .ref m9, .ref m10, .ref m11, .ref m12, .int mch, .int mfr, .int mfw, .int mrd, .ref m17, .ref m18, .ref m19, .ref m20, .ref m21, .ref m22, .ref m23, .int mtr])), (m7, .inl (cI, 6, .inl RK_)), (m8, .inl (cI, 6, .inl RL_)), (m9, .inl (cI, 6, .inl RC_)), (m22, .inl (cI, 240, .inl SH))]) [0, 1, 2, 3, 4] (by decide) rfl
          have hKc := hK.sub (tys' := [(cI, .int)]) [0] rfl
          have hFc := va_free (wc := [(m0, .inr (5, [.int mfa, .int mho, .ref m2, .ref m3, .ref m4, .int mra_, .int mrh_, .ref m7, .ref m8, .ref m9, .ref m10, .ref m11, .ref m12, .int mch, .int mfr, .int mfw, .int mrd, .ref m17, .ref m18, .ref m19, .ref m20, .ref m21, .ref m22, .ref m23, .int mtr])), (m7, .inl (cI, 6, .inl RK_)), (m8, .inl (cI, 6, .inl RL_)), (m9, .inl (cI, 6, .inl RC_)), (m22, .inl (cI, 240, .inl SH))]) hD hS hA [0, 1, 2, 3, 4] rfl
          refine va_calli (va_runV (As := [.int i1, .int i2]) (rest := []) ⟨hx, hb, hml, hown, hts⟩ (ctX5_readsHouse l dC dI cI m0 m2 m3 m4 m7 m8 m9 m10 m11 m12 m17 m18 m19 m20 m21 m22 m23 H.size mfa mho mra_ mrh_ mch mfr mfw mrd mtr RK_ RL_ RC_ SH i1 i2 (rdi_a hu) (by assumption) (rdi_h hu)) (cwV 2 hts gX5_readsCity_X5_readsHouse rfl rfl rfl (by decide +kernel) ⟨Nat.le_of_ble_eq_true rfl, Nat.le_of_ble_eq_true rfl⟩) (pre_V hKc hN hPc hDc (RX5, TX5, 25) 5 0 rfl rfl) rfl rfl hl.1 rfl (lv_room (Nat.le_of_ble_eq_true rfl)) dX5_readsCity_68 ⟨Nat.le_of_ble_eq_true rfl, Nat.le_of_ble_eq_true rfl⟩) hS (fun q _ h => hFc q h) hFc (fun r_68 _ t H locs ht hvm hw hB hz1 hk1 hS => ?_)
          try dsimp only at hw
          have er_68 := hw.symm
          rw [ht] at hB
          refine nm_gen ((p5_readsHouse mra_ mrh_ RK_ RL_ RC_ SH i1 i2).2.1) (fun mra_68 emra_68 => ?_)
          rw [emra_68] at hB
          refine nm_gen ((p5_readsHouse mra_ mrh_ RK_ RL_ RC_ SH i1 i2).2.2.1) (fun mrh_68 emrh_68 => ?_)
          rw [emrh_68] at hB
          refine nm_gen ((p5_readsHouse mra_ mrh_ RK_ RL_ RC_ SH i1 i2).2.2.2.1) (fun RK_68 eRK_68 => ?_)
          rw [eRK_68] at hB
          refine nm_gen ((p5_readsHouse mra_ mrh_ RK_ RL_ RC_ SH i1 i2).2.2.2.2.1) (fun RL_68 eRL_68 => ?_)
          rw [eRL_68] at hB
          refine nm_gen ((p5_readsHouse mra_ mrh_ RK_ RL_ RC_ SH i1 i2).2.2.2.2.2) (fun RC_68 eRC_68 => ?_)
          rw [eRC_68] at hB
          obtain ⟨hP, hD⟩ := rw_join ([(m0, .inr (5, [.int mfa, .int mho, .ref m2, .ref m3, .ref m4, .int mra_, .int mrh_, .ref m7, .ref m8, .ref m9, .ref m10, .ref m11, .ref m12, .int mch, .int mfr, .int mfw, .int mrd, .ref m17, .ref m18, .ref m19, .ref m20, .ref m21, .ref m22, .ref m23, .int mtr])), (m7, .inl (cI, 6, .inl RK_)), (m8, .inl (cI, 6, .inl RL_)), (m9, .inl (cI, 6, .inl RC_)), (m22, .inl (cI, 240, .inl SH))]) ([(m0, .inr (5, [.int mfa, .int mho, .ref m2, .ref m3, .ref m4, .int mra_68, .int mrh_68, .ref m7, .ref m8, .ref m9, .ref m10, .ref m11, .ref m12, .int mch, .int mfr, .int mfw, .int mrd, .ref m17, .ref m18, .ref m19, .ref m20, .ref m21, .ref m22, .ref m23, .int mtr])), (m7, .inl (cI, 6, .inl RK_68)), (m8, .inl (cI, 6, .inl RL_68)), (m9, .inl (cI, 6, .inl RC_68)), (m22, .inl (cI, 240, .inl SH))]) ([(m0, .inr (5, [.int mfa, .int mho, .ref m2, .ref m3, .ref m4, .int mra_, .int mrh_, .ref m7, .ref m8, .ref m9, .ref m10, .ref m11, .ref m12, .int mch, .int mfr, .int mfw, .int mrd, .ref m17, .ref m18, .ref m19, .ref m20, .ref m21, .ref m22, .ref m23, .int mtr])), (m7, .inl (cI, 6, .inl RK_)), (m8, .inl (cI, 6, .inl RL_)), (m9, .inl (cI, 6, .inl RC_)), (m22, .inl (cI, 240, .inl SH))]) ([(m0, .inr (5, [.int mfa, .int mho, .ref m2, .ref m3, .ref m4, .int mra_68, .int mrh_68, .ref m7, .ref m8, .ref m9, .ref m10, .ref m11, .ref m12, .int mch, .int mfr, .int mfw, .int mrd, .ref m17, .ref m18, .ref m19, .ref m20, .ref m21, .ref m22, .ref m23, .int mtr])), (m7, .inl (cI, 6, .inl RK_68)), (m8, .inl (cI, 6, .inl RL_68)), (m9, .inl (cI, 6, .inl RC_68)), (m22, .inl (cI, 240, .inl SH))]) ([]) hP hD [0, 1, 2, 3, 4] [] [m0, m7, m8, m9, m22] 5 rfl rfl rfl rfl rfl (by decide) rfl rfl hk1 hB
          refine lv_istore_n (lv' := [(3, .int r_68), (0, .ref m0), (1, .int i1), (2, .int i2)]) hx hb dX5_readsCity_71 rfl hl (by decide) rfl (fun ls hl => ?_)
          refine lv_goto (tgt := 45) hx hb dX5_readsCity_72 (by decide) ?_
          exact ih r_68 mra_68 mrh_68 RK_68 RL_68 RC_68 _ _ _ (rdi_s hu c_46 emra_68 emrh_68 er_68) hP hD hS (lv_sub hl [0, 1, 2, 3] rfl) (hE.trans (by rw [p5_readsCity_l45_s]; simp only [er_68, emra_68, emrh_68, eRK_68, eRL_68, eRC_68]; rw [if_neg c_46, if_pos c_54]))
        · skip
          refine lv_aload_n hx hb dX5_readsCity_57 rfl (lv_at hl 1 rfl) ?_
          refine va_get (D := (dC, dI)) (ci := 5) (v := .int mra_) (C := RX5) (T := TX5) (N := 25) hx hb hts hin5 hown hK hP 0 rfl rfl 5 (by decide) kf_77 (fun _ h9 => h9) rfl dX5_readsCity_58 ?_
          refine lv_iload_n hx hb dX5_readsCity_61 rfl (lv_at hl 3 rfl) ?_
          refine lv_icmp_ge (tgt := 75) hx hb dX5_readsCity_62 (by decide) (fun c_62 => ?_) (fun c_62 => ?_)
          · skip
            refine lv_iload_n hx hb dX5_readsCity_75 rfl (lv_at hl 0 rfl) ?_
            have hE9 : p5_readsCity mra mrh RK RL RC SH i1 i2 = (v3, mra_, mrh_, RK_, RL_, RC_) := hE.trans (by rw [p5_readsCity_l45_s, if_neg c_46, if_neg c_54, if_pos c_62])
            exact W.zret (v := v3) hx hb hr (rdi_b hu) (fun t ht hW => ⟨⟨_, (), rfl, by rw [hE9], by show va_P (dC, dI) vwCl _ t.heap; rw [ht, hE9]; exact hP⟩, hS.F ht⟩) hS.2.2 dX5_readsCity_76
          · skip
            refine lv_aload_n hx hb dX5_readsCity_65 rfl (lv_at hl 1 rfl) ?_
            refine lv_iload_n hx hb dX5_readsCity_66 rfl (lv_at hl 2 rfl) ?_
            refine lv_iload_n hx hb dX5_readsCity_67 rfl (lv_at hl 3 rfl) ?_
            have hPc := hP.sub (ws' := [(m0, .inr (5, [.int mfa, .int mho, .ref m2, .ref m3, .ref m4, .int mra_, .int mrh_, .ref m7, .ref m8, .ref m9, .ref m10, .ref m11, .ref m12, .int mch, .int mfr, .int mfw, .int mrd, .ref m17, .ref m18, .ref m19, .ref m20, .ref m21, .ref m22, .ref m23, .int mtr])), (m7, .inl (cI, 6, .inl RK_)), (m8, .inl (cI, 6, .inl RL_)), (m9, .inl (cI, 6, .inl RC_)), (m22, .inl (cI, 240, .inl SH))]) [0, 1, 2, 3, 4] rfl
            have hDc := hD.sub (ws' := [(m0, .inr (5, [.int mfa, .int mho, .ref m2, .ref m3, .ref m4, .int mra_, .int mrh_, .ref m7, .ref m8, .ref m9, .ref m10, .ref m11, .ref m12, .int mch, .int mfr, .int mfw, .int mrd, .ref m17, .ref m18, .ref m19, .ref m20, .ref m21, .ref m22, .ref m23, .int mtr])), (m7, .inl (cI, 6, .inl RK_)), (m8, .inl (cI, 6, .inl RL_)), (m9, .inl (cI, 6, .inl RC_)), (m22, .inl (cI, 240, .inl SH))]) [0, 1, 2, 3, 4] (by decide) rfl
            have hKc := hK.sub (tys' := [(cI, .int)]) [0] rfl
            have hFc := va_free (wc := [(m0, .inr (5, [.int mfa, .int mho, .ref m2, .ref m3, .ref m4, .int mra_, .int mrh_, .ref m7, .ref m8, .ref m9, .ref m10, .ref m11, .ref m12, .int mch, .int mfr, .int mfw, .int mrd, .ref m17, .ref m18, .ref m19, .ref m20, .ref m21, .ref m22, .ref m23, .int mtr])), (m7, .inl (cI, 6, .inl RK_)), (m8, .inl (cI, 6, .inl RL_)), (m9, .inl (cI, 6, .inl RC_)), (m22, .inl (cI, 240, .inl SH))]) hD hS hA [0, 1, 2, 3, 4] rfl
            refine va_calli (va_runV (As := [.int i1, .int i2]) (rest := []) ⟨hx, hb, hml, hown, hts⟩ (ctX5_readsHouse l dC dI cI m0 m2 m3 m4 m7 m8 m9 m10 m11 m12 m17 m18 m19 m20 m21 m22 m23 H.size mfa mho mra_ mrh_ mch mfr mfw mrd mtr RK_ RL_ RC_ SH i1 i2 (rdi_a hu) (by assumption) (rdi_h hu)) (cwV 2 hts gX5_readsCity_X5_readsHouse rfl rfl rfl (by decide +kernel) ⟨Nat.le_of_ble_eq_true rfl, Nat.le_of_ble_eq_true rfl⟩) (pre_V hKc hN hPc hDc (RX5, TX5, 25) 5 0 rfl rfl) rfl rfl hl.1 rfl (lv_room (Nat.le_of_ble_eq_true rfl)) dX5_readsCity_68 ⟨Nat.le_of_ble_eq_true rfl, Nat.le_of_ble_eq_true rfl⟩) hS (fun q _ h => hFc q h) hFc (fun r_68 _ t H locs ht hvm hw hB hz1 hk1 hS => ?_)
            try dsimp only at hw
            have er_68 := hw.symm
            rw [ht] at hB
            refine nm_gen ((p5_readsHouse mra_ mrh_ RK_ RL_ RC_ SH i1 i2).2.1) (fun mra_68 emra_68 => ?_)
            rw [emra_68] at hB
            refine nm_gen ((p5_readsHouse mra_ mrh_ RK_ RL_ RC_ SH i1 i2).2.2.1) (fun mrh_68 emrh_68 => ?_)
            rw [emrh_68] at hB
            refine nm_gen ((p5_readsHouse mra_ mrh_ RK_ RL_ RC_ SH i1 i2).2.2.2.1) (fun RK_68 eRK_68 => ?_)
            rw [eRK_68] at hB
            refine nm_gen ((p5_readsHouse mra_ mrh_ RK_ RL_ RC_ SH i1 i2).2.2.2.2.1) (fun RL_68 eRL_68 => ?_)
            rw [eRL_68] at hB
            refine nm_gen ((p5_readsHouse mra_ mrh_ RK_ RL_ RC_ SH i1 i2).2.2.2.2.2) (fun RC_68 eRC_68 => ?_)
            rw [eRC_68] at hB
            obtain ⟨hP, hD⟩ := rw_join ([(m0, .inr (5, [.int mfa, .int mho, .ref m2, .ref m3, .ref m4, .int mra_, .int mrh_, .ref m7, .ref m8, .ref m9, .ref m10, .ref m11, .ref m12, .int mch, .int mfr, .int mfw, .int mrd, .ref m17, .ref m18, .ref m19, .ref m20, .ref m21, .ref m22, .ref m23, .int mtr])), (m7, .inl (cI, 6, .inl RK_)), (m8, .inl (cI, 6, .inl RL_)), (m9, .inl (cI, 6, .inl RC_)), (m22, .inl (cI, 240, .inl SH))]) ([(m0, .inr (5, [.int mfa, .int mho, .ref m2, .ref m3, .ref m4, .int mra_68, .int mrh_68, .ref m7, .ref m8, .ref m9, .ref m10, .ref m11, .ref m12, .int mch, .int mfr, .int mfw, .int mrd, .ref m17, .ref m18, .ref m19, .ref m20, .ref m21, .ref m22, .ref m23, .int mtr])), (m7, .inl (cI, 6, .inl RK_68)), (m8, .inl (cI, 6, .inl RL_68)), (m9, .inl (cI, 6, .inl RC_68)), (m22, .inl (cI, 240, .inl SH))]) ([(m0, .inr (5, [.int mfa, .int mho, .ref m2, .ref m3, .ref m4, .int mra_, .int mrh_, .ref m7, .ref m8, .ref m9, .ref m10, .ref m11, .ref m12, .int mch, .int mfr, .int mfw, .int mrd, .ref m17, .ref m18, .ref m19, .ref m20, .ref m21, .ref m22, .ref m23, .int mtr])), (m7, .inl (cI, 6, .inl RK_)), (m8, .inl (cI, 6, .inl RL_)), (m9, .inl (cI, 6, .inl RC_)), (m22, .inl (cI, 240, .inl SH))]) ([(m0, .inr (5, [.int mfa, .int mho, .ref m2, .ref m3, .ref m4, .int mra_68, .int mrh_68, .ref m7, .ref m8, .ref m9, .ref m10, .ref m11, .ref m12, .int mch, .int mfr, .int mfw, .int mrd, .ref m17, .ref m18, .ref m19, .ref m20, .ref m21, .ref m22, .ref m23, .int mtr])), (m7, .inl (cI, 6, .inl RK_68)), (m8, .inl (cI, 6, .inl RL_68)), (m9, .inl (cI, 6, .inl RC_68)), (m22, .inl (cI, 240, .inl SH))]) ([]) hP hD [0, 1, 2, 3, 4] [] [m0, m7, m8, m9, m22] 5 rfl rfl rfl rfl rfl (by decide) rfl rfl hk1 hB
            refine lv_istore_n (lv' := [(3, .int r_68), (0, .ref m0), (1, .int i1), (2, .int i2)]) hx hb dX5_readsCity_71 rfl hl (by decide) rfl (fun ls hl => ?_)
            refine lv_goto (tgt := 45) hx hb dX5_readsCity_72 (by decide) ?_
            exact ih r_68 mra_68 mrh_68 RK_68 RL_68 RC_68 _ _ _ (rdi_s hu c_46 emra_68 emrh_68 er_68) hP hD hS (lv_sub hl [0, 1, 2, 3] rfl) (hE.trans (by rw [p5_readsCity_l45_s]; simp only [er_68, emra_68, emrh_68, eRK_68, eRL_68, eRC_68]; rw [if_neg c_46, if_neg c_54, if_neg c_62]))
  refine lv_aload_n hx hb dX5_readsCity_0 rfl (lv_at hl 0 rfl) ?_
  refine lv_iconst (v := 0) hx hb dX5_readsCity_1 (by decide) ?_
  refine va_put (D := (dC, dI)) (ci := 5) (v := .int 0) (ty := .int) (C := RX5) (T := TX5) (N := 25) hx hb hts hin5 tyX5 tyX5_ok nmX5 hown hK hP hD hS 0 rfl rfl 5 (by decide) kf_77 (fun _ h9 => h9) rfl (by decide +kernel) rfl rfl (Nat.le_of_ble_eq_true rfl) dX5_readsCity_2 (fun H locs hP hD hS => ?_)
  have hP : va_P (dC, dI) vwCl ([(m0, .inr (5, [.int mfa, .int mho, .ref m2, .ref m3, .ref m4, .int 0, .int mrh, .ref m7, .ref m8, .ref m9, .ref m10, .ref m11, .ref m12, .int mch, .int mfr, .int mfw, .int mrd, .ref m17, .ref m18, .ref m19, .ref m20, .ref m21, .ref m22, .ref m23, .int mtr])), (m7, .inl (cI, 6, .inl RK)), (m8, .inl (cI, 6, .inl RL)), (m9, .inl (cI, 6, .inl RC)), (m22, .inl (cI, 240, .inl SH))]) H := hP
  have hD : va_D A ([(m0, .inr (5, [.int mfa, .int mho, .ref m2, .ref m3, .ref m4, .int 0, .int mrh, .ref m7, .ref m8, .ref m9, .ref m10, .ref m11, .ref m12, .int mch, .int mfr, .int mfw, .int mrd, .ref m17, .ref m18, .ref m19, .ref m20, .ref m21, .ref m22, .ref m23, .int mtr])), (m7, .inl (cI, 6, .inl RK)), (m8, .inl (cI, 6, .inl RL)), (m9, .inl (cI, 6, .inl RC)), (m22, .inl (cI, 240, .inl SH))]) := hD
  refine lv_aload_n hx hb dX5_readsCity_5 rfl (lv_at hl 0 rfl) ?_
  refine lv_iconst (v := 0) hx hb dX5_readsCity_6 (by decide) ?_
  refine va_put (D := (dC, dI)) (ci := 5) (v := .int 0) (ty := .int) (C := RX5) (T := TX5) (N := 25) hx hb hts hin5 tyX5 tyX5_ok nmX5 hown hK hP hD hS 0 rfl rfl 6 (by decide) kf_84 (fun _ h9 => h9) rfl (by decide +kernel) rfl rfl (Nat.le_of_ble_eq_true rfl) dX5_readsCity_7 (fun H locs hP hD hS => ?_)
  have hP : va_P (dC, dI) vwCl ([(m0, .inr (5, [.int mfa, .int mho, .ref m2, .ref m3, .ref m4, .int 0, .int 0, .ref m7, .ref m8, .ref m9, .ref m10, .ref m11, .ref m12, .int mch, .int mfr, .int mfw, .int mrd, .ref m17, .ref m18, .ref m19, .ref m20, .ref m21, .ref m22, .ref m23, .int mtr])), (m7, .inl (cI, 6, .inl RK)), (m8, .inl (cI, 6, .inl RL)), (m9, .inl (cI, 6, .inl RC)), (m22, .inl (cI, 240, .inl SH))]) H := hP
  have hD : va_D A ([(m0, .inr (5, [.int mfa, .int mho, .ref m2, .ref m3, .ref m4, .int 0, .int 0, .ref m7, .ref m8, .ref m9, .ref m10, .ref m11, .ref m12, .int mch, .int mfr, .int mfw, .int mrd, .ref m17, .ref m18, .ref m19, .ref m20, .ref m21, .ref m22, .ref m23, .int mtr])), (m7, .inl (cI, 6, .inl RK)), (m8, .inl (cI, 6, .inl RL)), (m9, .inl (cI, 6, .inl RC)), (m22, .inl (cI, 240, .inl SH))]) := hD
  refine lv_aload_n hx hb dX5_readsCity_10 rfl (lv_at hl 0 rfl) ?_
  refine lv_iload_n hx hb dX5_readsCity_11 rfl (lv_at hl 1 rfl) ?_
  refine lv_iload_n hx hb dX5_readsCity_12 rfl (lv_at hl 2 rfl) ?_
  have hPc := hP.sub (ws' := [(m0, .inr (5, [.int mfa, .int mho, .ref m2, .ref m3, .ref m4, .int 0, .int 0, .ref m7, .ref m8, .ref m9, .ref m10, .ref m11, .ref m12, .int mch, .int mfr, .int mfw, .int mrd, .ref m17, .ref m18, .ref m19, .ref m20, .ref m21, .ref m22, .ref m23, .int mtr])), (m22, .inl (cI, 240, .inl SH))]) [0, 4] rfl
  have hDc := hD.sub (ws' := [(m0, .inr (5, [.int mfa, .int mho, .ref m2, .ref m3, .ref m4, .int 0, .int 0, .ref m7, .ref m8, .ref m9, .ref m10, .ref m11, .ref m12, .int mch, .int mfr, .int mfw, .int mrd, .ref m17, .ref m18, .ref m19, .ref m20, .ref m21, .ref m22, .ref m23, .int mtr])), (m22, .inl (cI, 240, .inl SH))]) [0, 4] (by decide) rfl
  have hKc := hK.sub (tys' := [(cI, .int)]) [0] rfl
  have hFc := va_free (wc := [(m0, .inr (5, [.int mfa, .int mho, .ref m2, .ref m3, .ref m4, .int 0, .int 0, .ref m7, .ref m8, .ref m9, .ref m10, .ref m11, .ref m12, .int mch, .int mfr, .int mfw, .int mrd, .ref m17, .ref m18, .ref m19, .ref m20, .ref m21, .ref m22, .ref m23, .int mtr])), (m22, .inl (cI, 240, .inl SH))]) hD hS hA [0, 4] rfl
  refine va_calli (va_runV (As := [.int i1, .int i2]) (rest := []) ⟨hx, hb, hml, hown, hts⟩ (ctX5_codeAt l dC dI cI m0 m2 m3 m4 m7 m8 m9 m10 m11 m12 m17 m18 m19 m20 m21 m22 m23 H.size mfa mho 0 0 mch mfr mfw mrd mtr SH i1 i2 (by decide) (by assumption)) (cwV 2 hts gX5_readsCity_X5_codeAt rfl rfl rfl (by decide +kernel) ⟨Nat.le_of_ble_eq_true rfl, Nat.le_of_ble_eq_true rfl⟩) (pre_V hKc hN hPc hDc (RX5, TX5, 25) 5 0 rfl rfl) rfl rfl hl.1 rfl (lv_room (Nat.le_of_ble_eq_true rfl)) dX5_readsCity_13 ⟨Nat.le_of_ble_eq_true rfl, Nat.le_of_ble_eq_true rfl⟩) hS (fun q _ h => hFc q h) hFc (fun r _ t H locs ht hvm hw hB hz1 hk1 hS => ?_)
  try dsimp only at hw
  subst hw
  rw [ht] at hB
  obtain ⟨hP, hD⟩ := rw_join ([(m0, .inr (5, [.int mfa, .int mho, .ref m2, .ref m3, .ref m4, .int 0, .int 0, .ref m7, .ref m8, .ref m9, .ref m10, .ref m11, .ref m12, .int mch, .int mfr, .int mfw, .int mrd, .ref m17, .ref m18, .ref m19, .ref m20, .ref m21, .ref m22, .ref m23, .int mtr])), (m7, .inl (cI, 6, .inl RK)), (m8, .inl (cI, 6, .inl RL)), (m9, .inl (cI, 6, .inl RC)), (m22, .inl (cI, 240, .inl SH))]) ([(m0, .inr (5, [.int mfa, .int mho, .ref m2, .ref m3, .ref m4, .int 0, .int 0, .ref m7, .ref m8, .ref m9, .ref m10, .ref m11, .ref m12, .int mch, .int mfr, .int mfw, .int mrd, .ref m17, .ref m18, .ref m19, .ref m20, .ref m21, .ref m22, .ref m23, .int mtr])), (m7, .inl (cI, 6, .inl RK)), (m8, .inl (cI, 6, .inl RL)), (m9, .inl (cI, 6, .inl RC)), (m22, .inl (cI, 240, .inl SH))]) ([(m0, .inr (5, [.int mfa, .int mho, .ref m2, .ref m3, .ref m4, .int 0, .int 0, .ref m7, .ref m8, .ref m9, .ref m10, .ref m11, .ref m12, .int mch, .int mfr, .int mfw, .int mrd, .ref m17, .ref m18, .ref m19, .ref m20, .ref m21, .ref m22, .ref m23, .int mtr])), (m22, .inl (cI, 240, .inl SH))]) ([(m0, .inr (5, [.int mfa, .int mho, .ref m2, .ref m3, .ref m4, .int 0, .int 0, .ref m7, .ref m8, .ref m9, .ref m10, .ref m11, .ref m12, .int mch, .int mfr, .int mfw, .int mrd, .ref m17, .ref m18, .ref m19, .ref m20, .ref m21, .ref m22, .ref m23, .int mtr])), (m22, .inl (cI, 240, .inl SH))]) ([(m7, .inl (cI, 6, .inl RK)), (m8, .inl (cI, 6, .inl RL)), (m9, .inl (cI, 6, .inl RC))]) hP hD [0, 4] [1, 2, 3] [m0, m7, m8, m9, m22] 5 rfl rfl rfl rfl rfl (by decide) rfl rfl hk1 hB
  refine lv_bipush (v := 113) hx hb dX5_readsCity_16 (by decide) ?_
  refine lv_icmp_ne (tgt := 25) hx hb dX5_readsCity_18 (by decide) (fun c_18 => ?_) (fun c_18 => ?_)
  · skip
    refine lv_iconst (v := 0) hx hb dX5_readsCity_25 (by decide) ?_
    refine lv_istore_n (lv' := [(3, .int 0), (0, .ref m0), (1, .int i1), (2, .int i2)]) hx hb dX5_readsCity_26 rfl hl (by decide) rfl (fun ls hl => ?_)
    refine lv_aload_n hx hb dX5_readsCity_27 rfl (lv_at hl 1 rfl) ?_
    refine lv_dup hx hb dX5_readsCity_28 rfl ?_
    refine va_get (D := (dC, dI)) (ci := 5) (v := .int 0) (C := RX5) (T := TX5) (N := 25) hx hb hts hin5 hown hK hP 0 rfl rfl 5 (by decide) kf_77 (fun _ h9 => h9) rfl dX5_readsCity_29 ?_
    refine lv_iload_n hx hb dX5_readsCity_32 rfl (lv_at hl 0 rfl) ?_
    refine lv_if_eq (tgt := 40) hx hb dX5_readsCity_33 (by decide) (fun c_33 => ?_) (fun c_33 => ?_)
    · skip
      refine lv_iconst (v := 0) hx hb dX5_readsCity_40 (by decide) ?_
      refine lv_iadd hx hb dX5_readsCity_41 ?_
      refine va_put (D := (dC, dI)) (ci := 5) (v := .int (0 + 0)) (ty := .int) (C := RX5) (T := TX5) (N := 25) hx hb hts hin5 tyX5 tyX5_ok nmX5 hown hK hP hD hS 0 rfl rfl 5 (by decide) kf_77 (fun _ h9 => h9) rfl (by decide +kernel) rfl rfl (Nat.le_of_ble_eq_true rfl) dX5_readsCity_42 (fun H locs hP hD hS => ?_)
      have hP : va_P (dC, dI) vwCl ([(m0, .inr (5, [.int mfa, .int mho, .ref m2, .ref m3, .ref m4, .int (0 + 0), .int 0, .ref m7, .ref m8, .ref m9, .ref m10, .ref m11, .ref m12, .int mch, .int mfr, .int mfw, .int mrd, .ref m17, .ref m18, .ref m19, .ref m20, .ref m21, .ref m22, .ref m23, .int mtr])), (m7, .inl (cI, 6, .inl RK)), (m8, .inl (cI, 6, .inl RL)), (m9, .inl (cI, 6, .inl RC)), (m22, .inl (cI, 240, .inl SH))]) H := hP
      have hD : va_D A ([(m0, .inr (5, [.int mfa, .int mho, .ref m2, .ref m3, .ref m4, .int (0 + 0), .int 0, .ref m7, .ref m8, .ref m9, .ref m10, .ref m11, .ref m12, .int mch, .int mfr, .int mfw, .int mrd, .ref m17, .ref m18, .ref m19, .ref m20, .ref m21, .ref m22, .ref m23, .int mtr])), (m7, .inl (cI, 6, .inl RK)), (m8, .inl (cI, 6, .inl RL)), (m9, .inl (cI, 6, .inl RC)), (m22, .inl (cI, 240, .inl SH))]) := hD
      exact lp_45 9 0 (0 + 0) 0 RK RL RC _ _ _ (by first | exact rdi_1 | exact rdi_0) hP hD hS (lv_sub hl [0, 1, 2, 3] rfl) (by unfold p5_readsCity; rw [if_neg c_18])
    · exact absurd c_33 (by decide)
  · skip
    refine lv_iconst (v := 1) hx hb dX5_readsCity_21 (by decide) ?_
    refine lv_goto (tgt := 26) hx hb dX5_readsCity_22 (by decide) ?_
    refine lv_istore_n (lv' := [(3, .int 1), (0, .ref m0), (1, .int i1), (2, .int i2)]) hx hb dX5_readsCity_26 rfl hl (by decide) rfl (fun ls hl => ?_)
    refine lv_aload_n hx hb dX5_readsCity_27 rfl (lv_at hl 1 rfl) ?_
    refine lv_dup hx hb dX5_readsCity_28 rfl ?_
    refine va_get (D := (dC, dI)) (ci := 5) (v := .int 0) (C := RX5) (T := TX5) (N := 25) hx hb hts hin5 hown hK hP 0 rfl rfl 5 (by decide) kf_77 (fun _ h9 => h9) rfl dX5_readsCity_29 ?_
    refine lv_iload_n hx hb dX5_readsCity_32 rfl (lv_at hl 0 rfl) ?_
    refine lv_if_eq (tgt := 40) hx hb dX5_readsCity_33 (by decide) (fun c_33 => ?_) (fun c_33 => ?_)
    · exact absurd c_33 (by decide)
    · skip
      refine lv_iconst (v := 1) hx hb dX5_readsCity_36 (by decide) ?_
      refine lv_goto (tgt := 41) hx hb dX5_readsCity_37 (by decide) ?_
      refine lv_iadd hx hb dX5_readsCity_41 ?_
      refine va_put (D := (dC, dI)) (ci := 5) (v := .int (0 + 1)) (ty := .int) (C := RX5) (T := TX5) (N := 25) hx hb hts hin5 tyX5 tyX5_ok nmX5 hown hK hP hD hS 0 rfl rfl 5 (by decide) kf_77 (fun _ h9 => h9) rfl (by decide +kernel) rfl rfl (Nat.le_of_ble_eq_true rfl) dX5_readsCity_42 (fun H locs hP hD hS => ?_)
      have hP : va_P (dC, dI) vwCl ([(m0, .inr (5, [.int mfa, .int mho, .ref m2, .ref m3, .ref m4, .int (0 + 1), .int 0, .ref m7, .ref m8, .ref m9, .ref m10, .ref m11, .ref m12, .int mch, .int mfr, .int mfw, .int mrd, .ref m17, .ref m18, .ref m19, .ref m20, .ref m21, .ref m22, .ref m23, .int mtr])), (m7, .inl (cI, 6, .inl RK)), (m8, .inl (cI, 6, .inl RL)), (m9, .inl (cI, 6, .inl RC)), (m22, .inl (cI, 240, .inl SH))]) H := hP
      have hD : va_D A ([(m0, .inr (5, [.int mfa, .int mho, .ref m2, .ref m3, .ref m4, .int (0 + 1), .int 0, .ref m7, .ref m8, .ref m9, .ref m10, .ref m11, .ref m12, .int mch, .int mfr, .int mfw, .int mrd, .ref m17, .ref m18, .ref m19, .ref m20, .ref m21, .ref m22, .ref m23, .int mtr])), (m7, .inl (cI, 6, .inl RK)), (m8, .inl (cI, 6, .inl RL)), (m9, .inl (cI, 6, .inl RC)), (m22, .inl (cI, 240, .inl SH))]) := hD
      exact lp_45 9 1 (0 + 1) 0 RK RL RC _ _ _ (by first | exact rdi_1 | exact rdi_0) hP hD hS (lv_sub hl [0, 1, 2, 3] rfl) (by unfold p5_readsCity; rw [if_pos c_18])

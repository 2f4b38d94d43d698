def p5_richest_l4 (mho : Int32) (K : Nat → Int32) (L : Nat → Int32) (C : Nat → Int32) : Nat → Int32 → Int32 → Int32
  | 0, _, _ => 0
  | n + 1, v1, v2 =>
    if mho ≤ v2 then
      v1
    else
      if (p5_worthOf K L C v2) ≤ (p5_worthOf K L C v1) then
        p5_richest_l4 mho K L C n v1 (v2 + 1)
      else
        p5_richest_l4 mho K L C n v2 (v2 + 1)
theorem p5_richest_l4_s (mho : Int32) (K : Nat → Int32) (L : Nat → Int32) (C : Nat → Int32) (n : Nat) (v1 : Int32) (v2 : Int32) : p5_richest_l4 mho K L C (n + 1) v1 v2 =
    (if mho ≤ v2 then
      v1
    else
      if (p5_worthOf K L C v2) ≤ (p5_worthOf K L C v1) then
        p5_richest_l4 mho K L C n v1 (v2 + 1)
      else
        p5_richest_l4 mho K L C n v2 (v2 + 1)) := rfl
def p5_richest (mho : Int32) (K : Nat → Int32) (L : Nat → Int32) (C : Nat → Int32) : Int32 :=
  p5_richest_l4 mho K L C 7 0 1
abbrev rmX5_richest : Room := { frames := 2, cells := 0, slots := 0, locals := 45 }
abbrev QX5_richest (dC : Nat → ClassId) (dI : Nat → Nat → Nat) (A : Nat → Prop) (cI : ClassId) (m0 : Nat) (m2 : Nat) (m3 : Nat) (m4 : Nat) (m7 : Nat) (m8 : Nat) (m9 : Nat) (m10 : Nat) (m11 : Nat) (m12 : Nat) (m17 : Nat) (m18 : Nat) (m19 : Nat) (m20 : Nat) (m21 : Nat) (m22 : Nat) (m23 : Nat) (mfa : Int32) (mho : Int32) (mra : Int32) (mrh : Int32) (mch : Int32) (mfr : Int32) (mfw : Int32) (mrd : Int32) (mtr : Int32) (K : Nat → Int32) (L : Nat → Int32) (C : Nat → Int32) : Array Value → State → Outcome → State → Prop := va_Qi (fun (r : Int32) (_ : Unit) => r = p5_richest mho K L C) (fun (_ : Unit) (t : State) => va_P (dC, dI) vwCl ([(m0, .inr (5, [.int mfa, .int mho, .ref m2, .ref m3, .ref m4, .int mra, .int mrh, .ref m7, .ref m8, .ref m9, .ref m10, .ref m11, .ref m12, .int mch, .int mfr, .int mfw, .int mrd, .ref m17, .ref m18, .ref m19, .ref m20, .ref m21, .ref m22, .ref m23, .int mtr])), (m2, .inl (cI, 6, .inl K)), (m3, .inl (cI, 6, .inl L)), (m4, .inl (cI, 6, .inl C))]) t.heap) A
set_option maxHeartbeats 4000000 in
set_option maxRecDepth 100000 in
theorem ctX5_richest (l : Launch) (dC : Nat → ClassId) (dI : Nat → Nat → Nat) (cI : ClassId) (m0 : Nat) (m2 : Nat) (m3 : Nat) (m4 : Nat) (m7 : Nat) (m8 : Nat) (m9 : Nat) (m10 : Nat) (m11 : Nat) (m12 : Nat) (m17 : Nat) (m18 : Nat) (m19 : Nat) (m20 : Nat) (m21 : Nat) (m22 : Nat) (m23 : Nat) (sz : Nat) (mfa : Int32) (mho : Int32) (mra : Int32) (mrh : Int32) (mch : Int32) (mfr : Int32) (mfw : Int32) (mrd : Int32) (mtr : Int32) (K : Nat → Int32) (L : Nat → Int32) (C : Nat → Int32) (hNb : mho.toInt ≤ 6) : Met l yX5_richest wsX5_richest rmX5_richest (va_Pc [.ref m0] (cP dC dI [(cI, .int)] ([(m0, .inr (5, [.int mfa, .int mho, .ref m2, .ref m3, .ref m4, .int mra, .int mrh, .ref m7, .ref m8, .ref m9, .ref m10, .ref m11, .ref m12, .int mch, .int mfr, .int mfw, .int mrd, .ref m17, .ref m18, .ref m19, .ref m20, .ref m21, .ref m22, .ref m23, .int mtr])), (m2, .inl (cI, 6, .inl K)), (m3, .inl (cI, 6, .inl L)), (m4, .inl (cI, 6, .inl C))]) sz)) (QX5_richest dC dI (va_A ([(m0, .inr (5, [.int mfa, .int mho, .ref m2, .ref m3, .ref m4, .int mra, .int mrh, .ref m7, .ref m8, .ref m9, .ref m10, .ref m11, .ref m12, .int mch, .int mfr, .int mfw, .int mrd, .ref m17, .ref m18, .ref m19, .ref m20, .ref m21, .ref m22, .ref m23, .int mtr])), (m2, .inl (cI, 6, .inl K)), (m3, .inl (cI, 6, .inl L)), (m4, .inl (cI, 6, .inl C))]) sz) cI m0 m2 m3 m4 m7 m8 m9 m10 m11 m12 m17 m18 m19 m20 m21 m22 m23 mfa mho mra mrh mch mfr mfw mrd mtr K L C ) 0 0 (va_A ([(m0, .inr (5, [.int mfa, .int mho, .ref m2, .ref m3, .ref m4, .int mra, .int mrh, .ref m7, .ref m8, .ref m9, .ref m10, .ref m11, .ref m12, .int mch, .int mfr, .int mfw, .int mrd, .ref m17, .ref m18, .ref m19, .ref m20, .ref m21, .ref m22, .ref m23, .int mtr])), (m2, .inl (cI, 6, .inl K)), (m3, .inl (cI, 6, .inl L)), (m4, .inl (cI, 6, .inl C))]) sz) := by
  refine Met.ofW (cc := cX5_richest) (maxL := 3) (ret := (some .int)) (by decide) rfl ?_
  intro p e s m args below meth c s₁ B hml hv
  obtain ⟨rfl, hsz, hP, hK, hD0, hN⟩ := hv
  have hx := B.exec
  have hb := B.bytes
  have hr := B.returns
  have hts := atoms_spec (ws := wsX5_richest) B.pre
  have hown : s.vm.findClass RX5 = some m.cls := findClass_of_methodNamed B.named
  have hlocks := B.notSynchronized
  subst hsz
  have hD := hD0.self (sz := s.heap.size)
  generalize hAe : va_A ([(m0, .inr (5, [.int mfa, .int mho, .ref m2, .ref m3, .ref m4, .int mra, .int mrh, .ref m7, .ref m8, .ref m9, .ref m10, .ref m11, .ref m12, .int mch, .int mfr, .int mfw, .int mrd, .ref m17, .ref m18, .ref m19, .ref m20, .ref m21, .ref m22, .ref m23, .int mtr])), (m2, .inl (cI, 6, .inl K)), (m3, .inl (cI, 6, .inl L)), (m4, .inl (cI, 6, .inl C))]) s.heap.size = A at hD ⊢
  have hA : ∀ q : Nat, s.heap.size ≤ q → A q := fun q h => by rw [← hAe]; exact Or.inr h
  have hS : va_S A s.heap s.heap [] := va_S.rf
  have hP : va_P (dC, dI) vwCl ([(m0, .inr (5, [.int mfa, .int mho, .ref m2, .ref m3, .ref m4, .int mra, .int mrh, .ref m7, .ref m8, .ref m9, .ref m10, .ref m11, .ref m12, .int mch, .int mfr, .int mfw, .int mrd, .ref m17, .ref m18, .ref m19, .ref m20, .ref m21, .ref m22, .ref m23, .int mtr])), (m2, .inl (cI, 6, .inl K)), (m3, .inl (cI, 6, .inl L)), (m4, .inl (cI, 6, .inl C))]) s.heap := hP
  have hin5 : ∀ w ∈ wsX50, w ∈ wsX5_richest := by decide +kernel
  have kf_68 := hts (.fieldLink RX5 68 "RicherChangeModel" "houses" "I") (by decide +kernel)
  have hl := lv_entry ([.ref m0]) (n := 3) (Nat.le_of_ble_eq_true rfl)
  rw [lg_entry_eq]
  generalize (lg_sl ([.ref m0]) ++ List.replicate (3 - (lg_sl ([.ref m0])).length) Slot.unset).toArray = ls at hl ⊢
  have hl : lv_has ls 3 [(0, .ref m0)] := hl
  have lp_4 : ∀ (n : Nat) (v1 : Int32) (v2 : Int32) (H : Heap) (locs : List Loc) (ls : Array Slot), (up v2 mho n) → (vp_in v1 6) → va_P (dC, dI) vwCl ([(m0, .inr (5, [.int mfa, .int mho, .ref m2, .ref m3, .ref m4, .int mra, .int mrh, .ref m7, .ref m8, .ref m9, .ref m10, .ref m11, .ref m12, .int mch, .int mfr, .int mfw, .int mrd, .ref m17, .ref m18, .ref m19, .ref m20, .ref m21, .ref m22, .ref m23, .int mtr])), (m2, .inl (cI, 6, .inl K)), (m3, .inl (cI, 6, .inl L)), (m4, .inl (cI, 6, .inl C))]) H → va_D A ([(m0, .inr (5, [.int mfa, .int mho, .ref m2, .ref m3, .ref m4, .int mra, .int mrh, .ref m7, .ref m8, .ref m9, .ref m10, .ref m11, .ref m12, .int mch, .int mfr, .int mfw, .int mrd, .ref m17, .ref m18, .ref m19, .ref m20, .ref m21, .ref m22, .ref m23, .int mtr])), (m2, .inl (cI, 6, .inl K)), (m3, .inl (cI, 6, .inl L)), (m4, .inl (cI, 6, .inl C))]) → va_S A s.heap H locs → lv_has ls 3 [(2, .int v2), (1, .int v1), (0, .ref m0)] → p5_richest mho K L C = p5_richest_l4 mho K L C n v1 v2 → W p l e (headSpec wsX5_richest rmX5_richest).room s m [.ref m0].toArray below meth c H locs 0 0 (MQ below (QX5_richest dC dI A cI m0 m2 m3 m4 m7 m8 m9 m10 m11 m12 m17 m18 m19 m20 m21 m22 m23 mfa mho mra mrh mch mfr mfw mrd mtr K L C ) [.ref m0].toArray s 0 0 A) (F0 m 4 ls []) := by
    intro n
    induction n with
    | zero => intro v1 v2 _ _ _ hu hbe; exact absurd hu up_no
    | succ n ih =>
      intro v1 v2 H locs ls hu hbe hP hD hS hl hE
      refine lv_iload_n hx hb dX5_richest_4 rfl (lv_at hl 0 rfl) ?_
      refine lv_aload_n hx hb dX5_richest_5 rfl (lv_at hl 2 rfl) ?_
      refine va_get (D := (dC, dI)) (ci := 5) (v := .int mho) (C := RX5) (T := TX5) (N := 25) hx hb hts hin5 hown hK hP 0 rfl rfl 1 (by decide) kf_68 (fun _ h9 => h9) rfl dX5_richest_6 ?_
      refine lv_icmp_ge (tgt := 37) hx hb dX5_richest_9 (by decide) (fun c_9 => ?_) (fun c_9 => ?_)
      · skip
        refine lv_iload_n hx hb dX5_richest_37 rfl (lv_at hl 1 rfl) ?_
        have hE9 : p5_richest mho K L C = v1 := hE.trans (by rw [p5_richest_l4_s, if_pos c_9])
        exact W.iret (v := v1) hx hb hr (fun t ht hW => ⟨⟨_, (), rfl, by rw [hE9], by show va_P (dC, dI) vwCl _ t.heap; rw [ht]; exact hP⟩, hS.F ht⟩) hS.2.2 dX5_richest_38
      · skip
        have j2 : vp_in v2 6 := up_in 6 hu c_9 hNb
        refine lv_aload_n hx hb dX5_richest_12 rfl (lv_at hl 2 rfl) ?_
        refine lv_iload_n hx hb dX5_richest_13 rfl (lv_at hl 0 rfl) ?_
        have hPc := hP.sub (ws' := [(m0, .inr (5, [.int mfa, .int mho, .ref m2, .ref m3, .ref m4, .int mra, .int mrh, .ref m7, .ref m8, .ref m9, .ref m10, .ref m11, .ref m12, .int mch, .int mfr, .int mfw, .int mrd, .ref m17, .ref m18, .ref m19, .ref m20, .ref m21, .ref m22, .ref m23, .int mtr])), (m2, .inl (cI, 6, .inl K)), (m3, .inl (cI, 6, .inl L)), (m4, .inl (cI, 6, .inl C))]) [0, 1, 2, 3] rfl
        have hDc := hD.sub (ws' := [(m0, .inr (5, [.int mfa, .int mho, .ref m2, .ref m3, .ref m4, .int mra, .int mrh, .ref m7, .ref m8, .ref m9, .ref m10, .ref m11, .ref m12, .int mch, .int mfr, .int mfw, .int mrd, .ref m17, .ref m18, .ref m19, .ref m20, .ref m21, .ref m22, .ref m23, .int mtr])), (m2, .inl (cI, 6, .inl K)), (m3, .inl (cI, 6, .inl L)), (m4, .inl (cI, 6, .inl C))]) [0, 1, 2, 3] (by decide) rfl
        have hKc := hK.sub (tys' := [(cI, .int)]) [0] rfl
        have hFc := va_free (wc := [(m0, .inr (5, [.int mfa, .int mho, .ref m2, .ref m3, .ref m4, .int mra, .int mrh, .ref m7, .ref m8, .ref m9, .ref m10, .ref m11, .ref m12, .int mch, .int mfr, .int mfw, .int mrd, .ref m17, .ref m18, .ref m19, .ref m20, .ref m21, .ref m22, .ref m23, .int mtr])), (m2, .inl (cI, 6, .inl K)), (m3, .inl (cI, 6, .inl L)), (m4, .inl (cI, 6, .inl C))]) hD hS hA [0, 1, 2, 3] rfl
        refine va_calli (va_runV (As := [.int v2]) (rest := []) ⟨hx, hb, hml, hown, hts⟩ (ctX5_worthOf l dC dI cI m0 m2 m3 m4 m7 m8 m9 m10 m11 m12 m17 m18 m19 m20 m21 m22 m23 H.size mfa mho mra mrh mch mfr mfw mrd mtr K L C v2 (by assumption)) (cwV 1 hts gX5_richest_X5_worthOf rfl rfl rfl (by decide +kernel) ⟨Nat.le_of_ble_eq_true rfl, Nat.le_of_ble_eq_true rfl⟩) (pre_V hKc hN hPc hDc (RX5, TX5, 25) 5 0 rfl rfl) rfl rfl hl.1 rfl (lv_room (Nat.le_of_ble_eq_true rfl)) dX5_richest_14 ⟨Nat.le_of_ble_eq_true rfl, Nat.le_of_ble_eq_true rfl⟩) hS (fun q _ h => hFc q h) hFc (fun r _ t H locs ht hvm hw hB hz1 hk1 hS => ?_)
        try dsimp only at hw
        subst hw
        rw [ht] at hB
        obtain ⟨hP, hD⟩ := rw_join ([(m0, .inr (5, [.int mfa, .int mho, .ref m2, .ref m3, .ref m4, .int mra, .int mrh, .ref m7, .ref m8, .ref m9, .ref m10, .ref m11, .ref m12, .int mch, .int mfr, .int mfw, .int mrd, .ref m17, .ref m18, .ref m19, .ref m20, .ref m21, .ref m22, .ref m23, .int mtr])), (m2, .inl (cI, 6, .inl K)), (m3, .inl (cI, 6, .inl L)), (m4, .inl (cI, 6, .inl C))]) ([(m0, .inr (5, [.int mfa, .int mho, .ref m2, .ref m3, .ref m4, .int mra, .int mrh, .ref m7, .ref m8, .ref m9, .ref m10, .ref m11, .ref m12, .int mch, .int mfr, .int mfw, .int mrd, .ref m17, .ref m18, .ref m19, .ref m20, .ref m21, .ref m22, .ref m23, .int mtr])), (m2, .inl (cI, 6, .inl K)), (m3, .inl (cI, 6, .inl L)), (m4, .inl (cI, 6, .inl C))]) ([(m0, .inr (5, [.int mfa, .int mho, .ref m2, .ref m3, .ref m4, .int mra, .int mrh, .ref m7, .ref m8, .ref m9, .ref m10, .ref m11, .ref m12, .int mch, .int mfr, .int mfw, .int mrd, .ref m17, .ref m18, .ref m19, .ref m20, .ref m21, .ref m22, .ref m23, .int mtr])), (m2, .inl (cI, 6, .inl K)), (m3, .inl (cI, 6, .inl L)), (m4, .inl (cI, 6, .inl C))]) ([(m0, .inr (5, [.int mfa, .int mho, .ref m2, .ref m3, .ref m4, .int mra, .int mrh, .ref m7, .ref m8, .ref m9, .ref m10, .ref m11, .ref m12, .int mch, .int mfr, .int mfw, .int mrd, .ref m17, .ref m18, .ref m19, .ref m20, .ref m21, .ref m22, .ref m23, .int mtr])), (m2, .inl (cI, 6, .inl K)), (m3, .inl (cI, 6, .inl L)), (m4, .inl (cI, 6, .inl C))]) ([]) hP hD [0, 1, 2, 3] [] [m0, m2, m3, m4] 4 rfl rfl rfl rfl rfl (by decide) rfl rfl hk1 hB
        refine lv_aload_n hx hb dX5_richest_17 rfl (lv_at hl 2 rfl) ?_
        refine lv_iload_n hx hb dX5_richest_18 rfl (lv_at hl 1 rfl) ?_
        have hPc := hP.sub (ws' := [(m0, .inr (5, [.int mfa, .int mho, .ref m2, .ref m3, .ref m4, .int mra, .int mrh, .ref m7, .ref m8, .ref m9, .ref m10, .ref m11, .ref m12, .int mch, .int mfr, .int mfw, .int mrd, .ref m17, .ref m18, .ref m19, .ref m20, .ref m21, .ref m22, .ref m23, .int mtr])), (m2, .inl (cI, 6, .inl K)), (m3, .inl (cI, 6, .inl L)), (m4, .inl (cI, 6, .inl C))]) [0, 1, 2, 3] rfl
        have hDc := hD.sub (ws' := [(m0, .inr (5, [.int mfa, .int mho, .ref m2, .ref m3, .ref m4, .int mra, .int mrh, .ref m7, .ref m8, .ref m9, .ref m10, .ref m11, .ref m12, .int mch, .int mfr, .int mfw, .int mrd, .ref m17, .ref m18, .ref m19, .ref m20, .ref m21, .ref m22, .ref m23, .int mtr])), (m2, .inl (cI, 6, .inl K)), (m3, .inl (cI, 6, .inl L)), (m4, .inl (cI, 6, .inl C))]) [0, 1, 2, 3] (by decide) rfl
        have hKc := hK.sub (tys' := [(cI, .int)]) [0] rfl
        have hFc := va_free (wc := [(m0, .inr (5, [.int mfa, .int mho, .ref m2, .ref m3, .ref m4, .int mra, .int mrh, .ref m7, .ref m8, .ref m9, .ref m10, .ref m11, .ref m12, .int mch, .int mfr, .int mfw, .int mrd, .ref m17, .ref m18, .ref m19, .ref m20, .ref m21, .ref m22, .ref m23, .int mtr])), (m2, .inl (cI, 6, .inl K)), (m3, .inl (cI, 6, .inl L)), (m4, .inl (cI, 6, .inl C))]) hD hS hA [0, 1, 2, 3] rfl
        refine va_calli (va_runV (As := [.int v1]) (rest := [.int (p5_worthOf K L C v2)]) ⟨hx, hb, hml, hown, hts⟩ (ctX5_worthOf l dC dI cI m0 m2 m3 m4 m7 m8 m9 m10 m11 m12 m17 m18 m19 m20 m21 m22 m23 H.size mfa mho mra mrh mch mfr mfw mrd mtr K L C v1 (by assumption)) (cwV 1 hts gX5_richest_X5_worthOf rfl rfl rfl (by decide +kernel) ⟨Nat.le_of_ble_eq_true rfl, Nat.le_of_ble_eq_true rfl⟩) (pre_V hKc hN hPc hDc (RX5, TX5, 25) 5 0 rfl rfl) rfl rfl hl.1 rfl (lv_room (Nat.le_of_ble_eq_true rfl)) dX5_richest_19 ⟨Nat.le_of_ble_eq_true rfl, Nat.le_of_ble_eq_true rfl⟩) hS (fun q _ h => hFc q h) hFc (fun r _ t H locs ht hvm hw hB hz1 hk1 hS => ?_)
        try dsimp only at hw
        subst hw
        rw [ht] at hB
        obtain ⟨hP, hD⟩ := rw_join ([(m0, .inr (5, [.int mfa, .int mho, .ref m2, .ref m3, .ref m4, .int mra, .int mrh, .ref m7, .ref m8, .ref m9, .ref m10, .ref m11, .ref m12, .int mch, .int mfr, .int mfw, .int mrd, .ref m17, .ref m18, .ref m19, .ref m20, .ref m21, .ref m22, .ref m23, .int mtr])), (m2, .inl (cI, 6, .inl K)), (m3, .inl (cI, 6, .inl L)), (m4, .inl (cI, 6, .inl C))]) ([(m0, .inr (5, [.int mfa, .int mho, .ref m2, .ref m3, .ref m4, .int mra, .int mrh, .ref m7, .ref m8, .ref m9, .ref m10, .ref m11, .ref m12, .int mch, .int mfr, .int mfw, .int mrd, .ref m17, .ref m18, .ref m19, .ref m20, .ref m21, .ref m22, .ref m23, .int mtr])), (m2, .inl (cI, 6, .inl K)), (m3, .inl (cI, 6, .inl L)), (m4, .inl (cI, 6, .inl C))]) ([(m0, .inr (5, [.int mfa, .int mho, .ref m2, .ref m3, .ref m4, .int mra, .int mrh, .ref m7, .ref m8, .ref m9, .ref m10, .ref m11, .ref m12, .int mch, .int mfr, .int mfw, .int mrd, .ref m17, .ref m18, .ref m19, .ref m20, .ref m21, .ref m22, .ref m23, .int mtr])), (m2, .inl (cI, 6, .inl K)), (m3, .inl (cI, 6, .inl L)), (m4, .inl (cI, 6, .inl C))]) ([(m0, .inr (5, [.int mfa, .int mho, .ref m2, .ref m3, .ref m4, .int mra, .int mrh, .ref m7, .ref m8, .ref m9, .ref m10, .ref m11, .ref m12, .int mch, .int mfr, .int mfw, .int mrd, .ref m17, .ref m18, .ref m19, .ref m20, .ref m21, .ref m22, .ref m23, .int mtr])), (m2, .inl (cI, 6, .inl K)), (m3, .inl (cI, 6, .inl L)), (m4, .inl (cI, 6, .inl C))]) ([]) hP hD [0, 1, 2, 3] [] [m0, m2, m3, m4] 4 rfl rfl rfl rfl rfl (by decide) rfl rfl hk1 hB
        refine lv_icmp_le (tgt := 29) hx hb dX5_richest_22 (by decide) (fun c_22 => ?_) (fun c_22 => ?_)
        · skip
          refine lv_iload_n hx hb dX5_richest_29 rfl (lv_at hl 1 rfl) ?_
          refine lv_istore_n (lv' := [(1, .int v1), (2, .int v2), (0, .ref m0)]) hx hb dX5_richest_30 rfl hl (by decide) rfl (fun ls hl => ?_)
          refine lv_iinc (v := (v2 + 1)) (lv' := [(2, .int (v2 + 1)), (1, .int v1), (0, .ref m0)]) hx hb dX5_richest_31 hl (k := 1) rfl rfl (by decide) rfl (fun ls hl => ?_)
          refine lv_goto (tgt := 4) hx hb dX5_richest_34 (by decide) ?_
          exact ih v1 (v2 + 1) _ _ _ (up_s hu c_9) (by assumption) hP hD hS (lv_sub hl [0, 1, 2] rfl) (hE.trans (by rw [p5_richest_l4_s, if_neg c_9, if_pos c_22]))
        · skip
          refine lv_iload_n hx hb dX5_richest_25 rfl (lv_at hl 0 rfl) ?_
          refine lv_goto (tgt := 30) hx hb dX5_richest_26 (by decide) ?_
          refine lv_istore_n (lv' := [(1, .int v2), (2, .int v2), (0, .ref m0)]) hx hb dX5_richest_30 rfl hl (by decide) rfl (fun ls hl => ?_)
          refine lv_iinc (v := (v2 + 1)) (lv' := [(2, .int (v2 + 1)), (1, .int v2), (0, .ref m0)]) hx hb dX5_richest_31 hl (k := 1) rfl rfl (by decide) rfl (fun ls hl => ?_)
          refine lv_goto (tgt := 4) hx hb dX5_richest_34 (by decide) ?_
          exact ih v2 (v2 + 1) _ _ _ (up_s hu c_9) (by assumption) hP hD hS (lv_sub hl [0, 1, 2] rfl) (hE.trans (by rw [p5_richest_l4_s, if_neg c_9, if_neg c_22]))
  refine lv_iconst (v := 0) hx hb dX5_richest_0 (by decide) ?_
  refine lv_istore_n (lv' := [(1, .int 0), (0, .ref m0)]) hx hb dX5_richest_1 rfl hl (by decide) rfl (fun ls hl => ?_)
  refine lv_iconst (v := 1) hx hb dX5_richest_2 (by decide) ?_
  refine lv_istore_n (lv' := [(2, .int 1), (1, .int 0), (0, .ref m0)]) hx hb dX5_richest_3 rfl hl (by decide) rfl (fun ls hl => ?_)
  exact lp_4 7 0 1  _ _ _ (up_i 6 (by decide) hNb) (vi_c (by decide)) hP hD hS (lv_sub hl [0, 1, 2] rfl) (rfl)

def p5_choiceOf_l5 (mho : Int32) (K : Nat → Int32) (L : Nat → Int32) (C : Nat → Int32) (i1 : Int32) (i2 : Int32) : Nat → Int32 → Int32 → Int32
  | 0, _, _ => 0
  | n + 1, v3, v4 =>
    if mho ≤ v4 then
      v3
    else
      if v4 = i1 then
        p5_choiceOf_l5 mho K L C i1 i2 n v3 (v4 + 1)
      else
        if (p5_mayPoint L i1 v4) = 0 then
          p5_choiceOf_l5 mho K L C i1 i2 n v3 (v4 + 1)
        else
          if (p5_worthBy K L C i1 v4 i2) ≤ (p5_worthBy K L C i1 v3 i2) then
            p5_choiceOf_l5 mho K L C i1 i2 n v3 (v4 + 1)
          else
            p5_choiceOf_l5 mho K L C i1 i2 n v4 (v4 + 1)
theorem p5_choiceOf_l5_s (mho : Int32) (K : Nat → Int32) (L : Nat → Int32) (C : Nat → Int32) (i1 : Int32) (i2 : Int32) (n : Nat) (v3 : Int32) (v4 : Int32) : p5_choiceOf_l5 mho K L C i1 i2 (n + 1) v3 v4 =
    (if mho ≤ v4 then
      v3
    else
      if v4 = i1 then
        p5_choiceOf_l5 mho K L C i1 i2 n v3 (v4 + 1)
      else
        if (p5_mayPoint L i1 v4) = 0 then
          p5_choiceOf_l5 mho K L C i1 i2 n v3 (v4 + 1)
        else
          if (p5_worthBy K L C i1 v4 i2) ≤ (p5_worthBy K L C i1 v3 i2) then
            p5_choiceOf_l5 mho K L C i1 i2 n v3 (v4 + 1)
          else
            p5_choiceOf_l5 mho K L C i1 i2 n v4 (v4 + 1)) := rfl
def p5_choiceOf (mho : Int32) (K : Nat → Int32) (L : Nat → Int32) (C : Nat → Int32) (i1 : Int32) (i2 : Int32) : Int32 :=
  p5_choiceOf_l5 mho K L C i1 i2 7 i1 0
abbrev rmX5_choiceOf : Room := { frames := 4, cells := 0, slots := 0, locals := 93 }
abbrev QX5_choiceOf (dC : Nat → ClassId) (dI : Nat → Nat → Nat) (A : Nat → Prop) (cI : ClassId) (m0 : Nat) (m2 : Nat) (m3 : Nat) (m4 : Nat) (m7 : Nat) (m8 : Nat) (m9 : Nat) (m10 : Nat) (m11 : Nat) (m12 : Nat) (m17 : Nat) (m18 : Nat) (m19 : Nat) (m20 : Nat) (m21 : Nat) (m22 : Nat) (m23 : Nat) (mfa : Int32) (mho : Int32) (mra : Int32) (mrh : Int32) (mch : Int32) (mfr : Int32) (mfw : Int32) (mrd : Int32) (mtr : Int32) (K : Nat → Int32) (L : Nat → Int32) (C : Nat → Int32) (i1 : Int32) (i2 : Int32) : Array Value → State → Outcome → State → Prop := va_Qi (fun (r : Int32) (_ : Unit) => r = p5_choiceOf mho K L C i1 i2) (fun (_ : Unit) (t : State) => va_P (dC, dI) vwCl ([(m0, .inr (5, [.int mfa, .int mho, .ref m2, .ref m3, .ref m4, .int mra, .int mrh, .ref m7, .ref m8, .ref m9, .ref m10, .ref m11, .ref m12, .int mch, .int mfr, .int mfw, .int mrd, .ref m17, .ref m18, .ref m19, .ref m20, .ref m21, .ref m22, .ref m23, .int mtr])), (m2, .inl (cI, 6, .inl K)), (m3, .inl (cI, 6, .inl L)), (m4, .inl (cI, 6, .inl C))]) t.heap) A
set_option maxHeartbeats 4000000 in
set_option maxRecDepth 100000 in
theorem ctX5_choiceOf (l : Launch) (dC : Nat → ClassId) (dI : Nat → Nat → Nat) (cI : ClassId) (m0 : Nat) (m2 : Nat) (m3 : Nat) (m4 : Nat) (m7 : Nat) (m8 : Nat) (m9 : Nat) (m10 : Nat) (m11 : Nat) (m12 : Nat) (m17 : Nat) (m18 : Nat) (m19 : Nat) (m20 : Nat) (m21 : Nat) (m22 : Nat) (m23 : Nat) (sz : Nat) (mfa : Int32) (mho : Int32) (mra : Int32) (mrh : Int32) (mch : Int32) (mfr : Int32) (mfw : Int32) (mrd : Int32) (mtr : Int32) (K : Nat → Int32) (L : Nat → Int32) (C : Nat → Int32) (i1 : Int32) (i2 : Int32) (hi1 : vp_in i1 6) (hNb : mho.toInt ≤ 6) : Met l yX5_choiceOf wsX5_choiceOf rmX5_choiceOf (va_Pc [.ref m0, .int i1, .int i2] (cP dC dI [(cI, .int)] ([(m0, .inr (5, [.int mfa, .int mho, .ref m2, .ref m3, .ref m4, .int mra, .int mrh, .ref m7, .ref m8, .ref m9, .ref m10, .ref m11, .ref m12, .int mch, .int mfr, .int mfw, .int mrd, .ref m17, .ref m18, .ref m19, .ref m20, .ref m21, .ref m22, .ref m23, .int mtr])), (m2, .inl (cI, 6, .inl K)), (m3, .inl (cI, 6, .inl L)), (m4, .inl (cI, 6, .inl C))]) sz)) (QX5_choiceOf dC dI (va_A ([(m0, .inr (5, [.int mfa, .int mho, .ref m2, .ref m3, .ref m4, .int mra, .int mrh, .ref m7, .ref m8, .ref m9, .ref m10, .ref m11, .ref m12, .int mch, .int mfr, .int mfw, .int mrd, .ref m17, .ref m18, .ref m19, .ref m20, .ref m21, .ref m22, .ref m23, .int mtr])), (m2, .inl (cI, 6, .inl K)), (m3, .inl (cI, 6, .inl L)), (m4, .inl (cI, 6, .inl C))]) sz) cI m0 m2 m3 m4 m7 m8 m9 m10 m11 m12 m17 m18 m19 m20 m21 m22 m23 mfa mho mra mrh mch mfr mfw mrd mtr K L C i1 i2) 0 0 (va_A ([(m0, .inr (5, [.int mfa, .int mho, .ref m2, .ref m3, .ref m4, .int mra, .int mrh, .ref m7, .ref m8, .ref m9, .ref m10, .ref m11, .ref m12, .int mch, .int mfr, .int mfw, .int mrd, .ref m17, .ref m18, .ref m19, .ref m20, .ref m21, .ref m22, .ref m23, .int mtr])), (m2, .inl (cI, 6, .inl K)), (m3, .inl (cI, 6, .inl L)), (m4, .inl (cI, 6, .inl C))]) sz) := by
  refine Met.ofW (cc := cX5_choiceOf) (maxL := 6) (ret := (some .int)) (by decide) rfl ?_
  intro p e s m args below meth c s₁ B hml hv
  obtain ⟨rfl, hsz, hP, hK, hD0, hN⟩ := hv
  have hx := B.exec
  have hb := B.bytes
  have hr := B.returns
  have hts := atoms_spec (ws := wsX5_choiceOf) B.pre
  have hown : s.vm.findClass RX5 = some m.cls := findClass_of_methodNamed B.named
  have hlocks := B.notSynchronized
  subst hsz
  have hD := hD0.self (sz := s.heap.size)
  generalize hAe : va_A ([(m0, .inr (5, [.int mfa, .int mho, .ref m2, .ref m3, .ref m4, .int mra, .int mrh, .ref m7, .ref m8, .ref m9, .ref m10, .ref m11, .ref m12, .int mch, .int mfr, .int mfw, .int mrd, .ref m17, .ref m18, .ref m19, .ref m20, .ref m21, .ref m22, .ref m23, .int mtr])), (m2, .inl (cI, 6, .inl K)), (m3, .inl (cI, 6, .inl L)), (m4, .inl (cI, 6, .inl C))]) s.heap.size = A at hD ⊢
  have hA : ∀ q : Nat, s.heap.size ≤ q → A q := fun q h => by rw [← hAe]; exact Or.inr h
  have hS : va_S A s.heap s.heap [] := va_S.rf
  have hP : va_P (dC, dI) vwCl ([(m0, .inr (5, [.int mfa, .int mho, .ref m2, .ref m3, .ref m4, .int mra, .int mrh, .ref m7, .ref m8, .ref m9, .ref m10, .ref m11, .ref m12, .int mch, .int mfr, .int mfw, .int mrd, .ref m17, .ref m18, .ref m19, .ref m20, .ref m21, .ref m22, .ref m23, .int mtr])), (m2, .inl (cI, 6, .inl K)), (m3, .inl (cI, 6, .inl L)), (m4, .inl (cI, 6, .inl C))]) s.heap := hP
  have hin5 : ∀ w ∈ wsX50, w ∈ wsX5_choiceOf := by decide +kernel
  have kf_68 := hts (.fieldLink RX5 68 "RicherChangeModel" "houses" "I") (by decide +kernel)
  have hl := lv_entry ([.ref m0, .int i1, .int i2]) (n := 6) (Nat.le_of_ble_eq_true rfl)
  rw [lg_entry_eq]
  generalize (lg_sl ([.ref m0, .int i1, .int i2]) ++ List.replicate (6 - (lg_sl ([.ref m0, .int i1, .int i2])).length) Slot.unset).toArray = ls at hl ⊢
  have hl : lv_has ls 6 [(0, .ref m0), (1, .int i1), (2, .int i2)] := hl
  have lp_5 : ∀ (n : Nat) (v3 : Int32) (v4 : Int32) (H : Heap) (locs : List Loc) (ls : Array Slot), (up v4 mho n) → (vp_in v3 6) → va_P (dC, dI) vwCl ([(m0, .inr (5, [.int mfa, .int mho, .ref m2, .ref m3, .ref m4, .int mra, .int mrh, .ref m7, .ref m8, .ref m9, .ref m10, .ref m11, .ref m12, .int mch, .int mfr, .int mfw, .int mrd, .ref m17, .ref m18, .ref m19, .ref m20, .ref m21, .ref m22, .ref m23, .int mtr])), (m2, .inl (cI, 6, .inl K)), (m3, .inl (cI, 6, .inl L)), (m4, .inl (cI, 6, .inl C))]) H → va_D A ([(m0, .inr (5, [.int mfa, .int mho, .ref m2, .ref m3, .ref m4, .int mra, .int mrh, .ref m7, .ref m8, .ref m9, .ref m10, .ref m11, .ref m12, .int mch, .int mfr, .int mfw, .int mrd, .ref m17, .ref m18, .ref m19, .ref m20, .ref m21, .ref m22, .ref m23, .int mtr])), (m2, .inl (cI, 6, .inl K)), (m3, .inl (cI, 6, .inl L)), (m4, .inl (cI, 6, .inl C))]) → va_S A s.heap H locs → lv_has ls 6 [(4, .int v4), (3, .int v3), (0, .ref m0), (1, .int i1), (2, .int i2)] → p5_choiceOf mho K L C i1 i2 = p5_choiceOf_l5 mho K L C i1 i2 n v3 v4 → W p l e (headSpec wsX5_choiceOf rmX5_choiceOf).room s m [.ref m0, .int i1, .int i2].toArray below meth c H locs 0 0 (MQ below (QX5_choiceOf dC dI A cI m0 m2 m3 m4 m7 m8 m9 m10 m11 m12 m17 m18 m19 m20 m21 m22 m23 mfa mho mra mrh mch mfr mfw mrd mtr K L C i1 i2) [.ref m0, .int i1, .int i2].toArray s 0 0 A) (F0 m 5 ls []) := by
    intro n
    induction n with
    | zero => intro v3 v4 _ _ _ hu hbe; exact absurd hu up_no
    | succ n ih =>
      intro v3 v4 H locs ls hu hbe hP hD hS hl hE
      refine lv_iload hx hb dX5_choiceOf_5 (lv_at hl 0 rfl) ?_
      refine lv_aload_n hx hb dX5_choiceOf_7 rfl (lv_at hl 2 rfl) ?_
      refine va_get (D := (dC, dI)) (ci := 5) (v := .int mho) (C := RX5) (T := TX5) (N := 25) hx hb hts hin5 hown hK hP 0 rfl rfl 1 (by decide) kf_68 (fun _ h9 => h9) rfl dX5_choiceOf_8 ?_
      refine lv_icmp_ge (tgt := 73) hx hb dX5_choiceOf_11 (by decide) (fun c_11 => ?_) (fun c_11 => ?_)
      · skip
        refine lv_iload_n hx hb dX5_choiceOf_73 rfl (lv_at hl 1 rfl) ?_
        have hE9 : p5_choiceOf mho K L C i1 i2 = v3 := hE.trans (by rw [p5_choiceOf_l5_s, if_pos c_11])
        exact W.iret (v := v3) hx hb hr (fun t ht hW => ⟨⟨_, (), rfl, by rw [hE9], by show va_P (dC, dI) vwCl _ t.heap; rw [ht]; exact hP⟩, hS.F ht⟩) hS.2.2 dX5_choiceOf_74
      · skip
        have j4 : vp_in v4 6 := up_in 6 hu c_11 hNb
        refine lv_iload hx hb dX5_choiceOf_14 (lv_at hl 0 rfl) ?_
        refine lv_iload_n hx hb dX5_choiceOf_16 rfl (lv_at hl 3 rfl) ?_
        refine lv_icmp_eq (tgt := 34) hx hb dX5_choiceOf_17 (by decide) (fun c_17 => ?_) (fun c_17 => ?_)
        · skip
          refine lv_iconst (v := 0) hx hb dX5_choiceOf_34 (by decide) ?_
          refine lv_istore (lv' := [(5, .int 0), (4, .int v4), (3, .int v3), (0, .ref m0), (1, .int i1), (2, .int i2)]) hx hb dX5_choiceOf_35 hl (by decide) rfl (fun ls hl => ?_)
          refine lv_iload hx hb dX5_choiceOf_37 (lv_at hl 0 rfl) ?_
          refine lv_if_eq (tgt := 65) hx hb dX5_choiceOf_39 (by decide) (fun c_39 => ?_) (fun c_39 => ?_)
          · skip
            refine lv_iload_n hx hb dX5_choiceOf_65 rfl (lv_at hl 2 rfl) ?_
            refine lv_istore_n (lv' := [(3, .int v3), (5, .int 0), (4, .int v4), (0, .ref m0), (1, .int i1), (2, .int i2)]) hx hb dX5_choiceOf_66 rfl hl (by decide) rfl (fun ls hl => ?_)
            refine lv_iinc (v := (v4 + 1)) (lv' := [(4, .int (v4 + 1)), (3, .int v3), (5, .int 0), (0, .ref m0), (1, .int i1), (2, .int i2)]) hx hb dX5_choiceOf_67 hl (k := 2) rfl rfl (by decide) rfl (fun ls hl => ?_)
            refine lv_goto (tgt := 5) hx hb dX5_choiceOf_70 (by decide) ?_
            exact ih v3 (v4 + 1) _ _ _ (up_s hu c_11) (by assumption) hP hD hS (lv_sub hl [0, 1, 3, 4, 5] rfl) (hE.trans (by rw [p5_choiceOf_l5_s, if_neg c_11, if_pos c_17]))
          · exact absurd c_39 (by decide)
        · skip
          refine lv_aload_n hx hb dX5_choiceOf_20 rfl (lv_at hl 2 rfl) ?_
          refine lv_iload_n hx hb dX5_choiceOf_21 rfl (lv_at hl 3 rfl) ?_
          refine lv_iload hx hb dX5_choiceOf_22 (lv_at hl 0 rfl) ?_
          have hPc := hP.sub (ws' := [(m0, .inr (5, [.int mfa, .int mho, .ref m2, .ref m3, .ref m4, .int mra, .int mrh, .ref m7, .ref m8, .ref m9, .ref m10, .ref m11, .ref m12, .int mch, .int mfr, .int mfw, .int mrd, .ref m17, .ref m18, .ref m19, .ref m20, .ref m21, .ref m22, .ref m23, .int mtr])), (m3, .inl (cI, 6, .inl L))]) [0, 2] rfl
          have hDc := hD.sub (ws' := [(m0, .inr (5, [.int mfa, .int mho, .ref m2, .ref m3, .ref m4, .int mra, .int mrh, .ref m7, .ref m8, .ref m9, .ref m10, .ref m11, .ref m12, .int mch, .int mfr, .int mfw, .int mrd, .ref m17, .ref m18, .ref m19, .ref m20, .ref m21, .ref m22, .ref m23, .int mtr])), (m3, .inl (cI, 6, .inl L))]) [0, 2] (by decide) rfl
          have hKc := hK.sub (tys' := [(cI, .int)]) [0] rfl
          have hFc := va_free (wc := [(m0, .inr (5, [.int mfa, .int mho, .ref m2, .ref m3, .ref m4, .int mra, .int mrh, .ref m7, .ref m8, .ref m9, .ref m10, .ref m11, .ref m12, .int mch, .int mfr, .int mfw, .int mrd, .ref m17, .ref m18, .ref m19, .ref m20, .ref m21, .ref m22, .ref m23, .int mtr])), (m3, .inl (cI, 6, .inl L))]) hD hS hA [0, 2] rfl
          refine va_calli (va_runV (As := [.int i1, .int v4]) (rest := []) ⟨hx, hb, hml, hown, hts⟩ (ctX5_mayPoint l dC dI cI m0 m2 m3 m4 m7 m8 m9 m10 m11 m12 m17 m18 m19 m20 m21 m22 m23 H.size mfa mho mra mrh mch mfr mfw mrd mtr L i1 v4 (by assumption) (by assumption)) (cwV 2 hts gX5_choiceOf_X5_mayPoint rfl rfl rfl (by decide +kernel) ⟨Nat.le_of_ble_eq_true rfl, Nat.le_of_ble_eq_true rfl⟩) (pre_V hKc hN hPc hDc (RX5, TX5, 25) 5 0 rfl rfl) rfl rfl hl.1 rfl (lv_room (Nat.le_of_ble_eq_true rfl)) dX5_choiceOf_24 ⟨Nat.le_of_ble_eq_true rfl, Nat.le_of_ble_eq_true rfl⟩) hS (fun q _ h => hFc q h) hFc (fun r _ t H locs ht hvm hw hB hz1 hk1 hS => ?_)
          try dsimp only at hw
          subst hw
          rw [ht] at hB
          obtain ⟨hP, hD⟩ := rw_join ([(m0, .inr (5, [.int mfa, .int mho, .ref m2, .ref m3, .ref m4, .int mra, .int mrh, .ref m7, .ref m8, .ref m9, .ref m10, .ref m11, .ref m12, .int mch, .int mfr, .int mfw, .int mrd, .ref m17, .ref m18, .ref m19, .ref m20, .ref m21, .ref m22, .ref m23, .int mtr])), (m2, .inl (cI, 6, .inl K)), (m3, .inl (cI, 6, .inl L)), (m4, .inl (cI, 6, .inl C))]) ([(m0, .inr (5, [.int mfa, .int mho, .ref m2, .ref m3, .ref m4, .int mra, .int mrh, .ref m7, .ref m8, .ref m9, .ref m10, .ref m11, .ref m12, .int mch, .int mfr, .int mfw, .int mrd, .ref m17, .ref m18, .ref m19, .ref m20, .ref m21, .ref m22, .ref m23, .int mtr])), (m2, .inl (cI, 6, .inl K)), (m3, .inl (cI, 6, .inl L)), (m4, .inl (cI, 6, .inl C))]) ([(m0, .inr (5, [.int mfa, .int mho, .ref m2, .ref m3, .ref m4, .int mra, .int mrh, .ref m7, .ref m8, .ref m9, .ref m10, .ref m11, .ref m12, .int mch, .int mfr, .int mfw, .int mrd, .ref m17, .ref m18, .ref m19, .ref m20, .ref m21, .ref m22, .ref m23, .int mtr])), (m3, .inl (cI, 6, .inl L))]) ([(m0, .inr (5, [.int mfa, .int mho, .ref m2, .ref m3, .ref m4, .int mra, .int mrh, .ref m7, .ref m8, .ref m9, .ref m10, .ref m11, .ref m12, .int mch, .int mfr, .int mfw, .int mrd, .ref m17, .ref m18, .ref m19, .ref m20, .ref m21, .ref m22, .ref m23, .int mtr])), (m3, .inl (cI, 6, .inl L))]) ([(m2, .inl (cI, 6, .inl K)), (m4, .inl (cI, 6, .inl C))]) hP hD [0, 2] [1, 3] [m0, m2, m3, m4] 4 rfl rfl rfl rfl rfl (by decide) rfl rfl hk1 hB
          refine lv_if_eq (tgt := 34) hx hb dX5_choiceOf_27 (by decide) (fun c_27 => ?_) (fun c_27 => ?_)
          · skip
            refine lv_iconst (v := 0) hx hb dX5_choiceOf_34 (by decide) ?_
            refine lv_istore (lv' := [(5, .int 0), (4, .int v4), (3, .int v3), (0, .ref m0), (1, .int i1), (2, .int i2)]) hx hb dX5_choiceOf_35 hl (by decide) rfl (fun ls hl => ?_)
            refine lv_iload hx hb dX5_choiceOf_37 (lv_at hl 0 rfl) ?_
            refine lv_if_eq (tgt := 65) hx hb dX5_choiceOf_39 (by decide) (fun c_39 => ?_) (fun c_39 => ?_)
            · skip
              refine lv_iload_n hx hb dX5_choiceOf_65 rfl (lv_at hl 2 rfl) ?_
              refine lv_istore_n (lv' := [(3, .int v3), (5, .int 0), (4, .int v4), (0, .ref m0), (1, .int i1), (2, .int i2)]) hx hb dX5_choiceOf_66 rfl hl (by decide) rfl (fun ls hl => ?_)
              refine lv_iinc (v := (v4 + 1)) (lv' := [(4, .int (v4 + 1)), (3, .int v3), (5, .int 0), (0, .ref m0), (1, .int i1), (2, .int i2)]) hx hb dX5_choiceOf_67 hl (k := 2) rfl rfl (by decide) rfl (fun ls hl => ?_)
              refine lv_goto (tgt := 5) hx hb dX5_choiceOf_70 (by decide) ?_
              exact ih v3 (v4 + 1) _ _ _ (up_s hu c_11) (by assumption) hP hD hS (lv_sub hl [0, 1, 3, 4, 5] rfl) (hE.trans (by rw [p5_choiceOf_l5_s, if_neg c_11, if_neg c_17, if_pos c_27]))
            · exact absurd c_39 (by decide)
          · skip
            refine lv_iconst (v := 1) hx hb dX5_choiceOf_30 (by decide) ?_
            refine lv_goto (tgt := 35) hx hb dX5_choiceOf_31 (by decide) ?_
            refine lv_istore (lv' := [(5, .int 1), (4, .int v4), (3, .int v3), (0, .ref m0), (1, .int i1), (2, .int i2)]) hx hb dX5_choiceOf_35 hl (by decide) rfl (fun ls hl => ?_)
            refine lv_iload hx hb dX5_choiceOf_37 (lv_at hl 0 rfl) ?_
            refine lv_if_eq (tgt := 65) hx hb dX5_choiceOf_39 (by decide) (fun c_39 => ?_) (fun c_39 => ?_)
            · exact absurd c_39 (by decide)
            · skip
              refine lv_aload_n hx hb dX5_choiceOf_42 rfl (lv_at hl 3 rfl) ?_
              refine lv_iload_n hx hb dX5_choiceOf_43 rfl (lv_at hl 4 rfl) ?_
              refine lv_iload hx hb dX5_choiceOf_44 (lv_at hl 1 rfl) ?_
              refine lv_iload_n hx hb dX5_choiceOf_46 rfl (lv_at hl 5 rfl) ?_
              have hPc := hP.sub (ws' := [(m0, .inr (5, [.int mfa, .int mho, .ref m2, .ref m3, .ref m4, .int mra, .int mrh, .ref m7, .ref m8, .ref m9, .ref m10, .ref m11, .ref m12, .int mch, .int mfr, .int mfw, .int mrd, .ref m17, .ref m18, .ref m19, .ref m20, .ref m21, .ref m22, .ref m23, .int mtr])), (m2, .inl (cI, 6, .inl K)), (m3, .inl (cI, 6, .inl L)), (m4, .inl (cI, 6, .inl C))]) [0, 1, 2, 3] rfl
              have hDc := hD.sub (ws' := [(m0, .inr (5, [.int mfa, .int mho, .ref m2, .ref m3, .ref m4, .int mra, .int mrh, .ref m7, .ref m8, .ref m9, .ref m10, .ref m11, .ref m12, .int mch, .int mfr, .int mfw, .int mrd, .ref m17, .ref m18, .ref m19, .ref m20, .ref m21, .ref m22, .ref m23, .int mtr])), (m2, .inl (cI, 6, .inl K)), (m3, .inl (cI, 6, .inl L)), (m4, .inl (cI, 6, .inl C))]) [0, 1, 2, 3] (by decide) rfl
              have hKc := hK.sub (tys' := [(cI, .int)]) [0] rfl
              have hFc := va_free (wc := [(m0, .inr (5, [.int mfa, .int mho, .ref m2, .ref m3, .ref m4, .int mra, .int mrh, .ref m7, .ref m8, .ref m9, .ref m10, .ref m11, .ref m12, .int mch, .int mfr, .int mfw, .int mrd, .ref m17, .ref m18, .ref m19, .ref m20, .ref m21, .ref m22, .ref m23, .int mtr])), (m2, .inl (cI, 6, .inl K)), (m3, .inl (cI, 6, .inl L)), (m4, .inl (cI, 6, .inl C))]) hD hS hA [0, 1, 2, 3] rfl
              refine va_calli (va_runV (As := [.int i1, .int v4, .int i2]) (rest := []) ⟨hx, hb, hml, hown, hts⟩ (ctX5_worthBy l dC dI cI m0 m2 m3 m4 m7 m8 m9 m10 m11 m12 m17 m18 m19 m20 m21 m22 m23 H.size mfa mho mra mrh mch mfr mfw mrd mtr K L C i1 v4 i2 (by assumption) (by assumption)) (cwV 3 hts gX5_choiceOf_X5_worthBy rfl rfl rfl (by decide +kernel) ⟨Nat.le_of_ble_eq_true rfl, Nat.le_of_ble_eq_true rfl⟩) (pre_V hKc hN hPc hDc (RX5, TX5, 25) 5 0 rfl rfl) rfl rfl hl.1 rfl (lv_room (Nat.le_of_ble_eq_true rfl)) dX5_choiceOf_47 ⟨Nat.le_of_ble_eq_true rfl, Nat.le_of_ble_eq_true rfl⟩) hS (fun q _ h => hFc q h) hFc (fun r _ t H locs ht hvm hw hB hz1 hk1 hS => ?_)
              try dsimp only at hw
              subst hw
              rw [ht] at hB
              obtain ⟨hP, hD⟩ := rw_join ([(m0, .inr (5, [.int mfa, .int mho, .ref m2, .ref m3, .ref m4, .int mra, .int mrh, .ref m7, .ref m8, .ref m9, .ref m10, .ref m11, .ref m12, .int mch, .int mfr, .int mfw, .int mrd, .ref m17, .ref m18, .ref m19, .ref m20, .ref m21, .ref m22, .ref m23, .int mtr])), (m2, .inl (cI, 6, .inl K)), (m3, .inl (cI, 6, .inl L)), (m4, .inl (cI, 6, .inl C))]) ([(m0, .inr (5, [.int mfa, .int mho, .ref m2, .ref m3, .ref m4, .int mra, .int mrh, .ref m7, .ref m8, .ref m9, .ref m10, .ref m11, .ref m12, .int mch, .int mfr, .int mfw, .int mrd, .ref m17, .ref m18, .ref m19, .ref m20, .ref m21, .ref m22, .ref m23, .int mtr])), (m2, .inl (cI, 6, .inl K)), (m3, .inl (cI, 6, .inl L)), (m4, .inl (cI, 6, .inl C))]) ([(m0, .inr (5, [.int mfa, .int mho, .ref m2, .ref m3, .ref m4, .int mra, .int mrh, .ref m7, .ref m8, .ref m9, .ref m10, .ref m11, .ref m12, .int mch, .int mfr, .int mfw, .int mrd, .ref m17, .ref m18, .ref m19, .ref m20, .ref m21, .ref m22, .ref m23, .int mtr])), (m2, .inl (cI, 6, .inl K)), (m3, .inl (cI, 6, .inl L)), (m4, .inl (cI, 6, .inl C))]) ([(m0, .inr (5, [.int mfa, .int mho, .ref m2, .ref m3, .ref m4, .int mra, .int mrh, .ref m7, .ref m8, .ref m9, .ref m10, .ref m11, .ref m12, .int mch, .int mfr, .int mfw, .int mrd, .ref m17, .ref m18, .ref m19, .ref m20, .ref m21, .ref m22, .ref m23, .int mtr])), (m2, .inl (cI, 6, .inl K)), (m3, .inl (cI, 6, .inl L)), (m4, .inl (cI, 6, .inl C))]) ([]) hP hD [0, 1, 2, 3] [] [m0, m2, m3, m4] 4 rfl rfl rfl rfl rfl (by decide) rfl rfl hk1 hB
              refine lv_aload_n hx hb dX5_choiceOf_50 rfl (lv_at hl 3 rfl) ?_
              refine lv_iload_n hx hb dX5_choiceOf_51 rfl (lv_at hl 4 rfl) ?_
              refine lv_iload_n hx hb dX5_choiceOf_52 rfl (lv_at hl 2 rfl) ?_
              refine lv_iload_n hx hb dX5_choiceOf_53 rfl (lv_at hl 5 rfl) ?_
              have hPc := hP.sub (ws' := [(m0, .inr (5, [.int mfa, .int mho, .ref m2, .ref m3, .ref m4, .int mra, .int mrh, .ref m7, .ref m8, .ref m9, .ref m10, .ref m11, .ref m12, .int mch, .int mfr, .int mfw, .int mrd, .ref m17, .ref m18, .ref m19, .ref m20, .ref m21, .ref m22, .ref m23, .int mtr])), (m2, .inl (cI, 6, .inl K)), (m3, .inl (cI, 6, .inl L)), (m4, .inl (cI, 6, .inl C))]) [0, 1, 2, 3] rfl
              have hDc := hD.sub (ws' := [(m0, .inr (5, [.int mfa, .int mho, .ref m2, .ref m3, .ref m4, .int mra, .int mrh, .ref m7, .ref m8, .ref m9, .ref m10, .ref m11, .ref m12, .int mch, .int mfr, .int mfw, .int mrd, .ref m17, .ref m18, .ref m19, .ref m20, .ref m21, .ref m22, .ref m23, .int mtr])), (m2, .inl (cI, 6, .inl K)), (m3, .inl (cI, 6, .inl L)), (m4, .inl (cI, 6, .inl C))]) [0, 1, 2, 3] (by decide) rfl
              have hKc := hK.sub (tys' := [(cI, .int)]) [0] rfl
              have hFc := va_free (wc := [(m0, .inr (5, [.int mfa, .int mho, .ref m2, .ref m3, .ref m4, .int mra, .int mrh, .ref m7, .ref m8, .ref m9, .ref m10, .ref m11, .ref m12, .int mch, .int mfr, .int mfw, .int mrd, .ref m17, .ref m18, .ref m19, .ref m20, .ref m21, .ref m22, .ref m23, .int mtr])), (m2, .inl (cI, 6, .inl K)), (m3, .inl (cI, 6, .inl L)), (m4, .inl (cI, 6, .inl C))]) hD hS hA [0, 1, 2, 3] rfl
              refine va_calli (va_runV (As := [.int i1, .int v3, .int i2]) (rest := [.int (p5_worthBy K L C i1 v4 i2)]) ⟨hx, hb, hml, hown, hts⟩ (ctX5_worthBy l dC dI cI m0 m2 m3 m4 m7 m8 m9 m10 m11 m12 m17 m18 m19 m20 m21 m22 m23 H.size mfa mho mra mrh mch mfr mfw mrd mtr K L C i1 v3 i2 (by assumption) (by assumption)) (cwV 3 hts gX5_choiceOf_X5_worthBy rfl rfl rfl (by decide +kernel) ⟨Nat.le_of_ble_eq_true rfl, Nat.le_of_ble_eq_true rfl⟩) (pre_V hKc hN hPc hDc (RX5, TX5, 25) 5 0 rfl rfl) rfl rfl hl.1 rfl (lv_room (Nat.le_of_ble_eq_true rfl)) dX5_choiceOf_54 ⟨Nat.le_of_ble_eq_true rfl, Nat.le_of_ble_eq_true rfl⟩) hS (fun q _ h => hFc q h) hFc (fun r _ t H locs ht hvm hw hB hz1 hk1 hS => ?_)
              try dsimp only at hw
              subst hw
              rw [ht] at hB
              obtain ⟨hP, hD⟩ := rw_join ([(m0, .inr (5, [.int mfa, .int mho, .ref m2, .ref m3, .ref m4, .int mra, .int mrh, .ref m7, .ref m8, .ref m9, .ref m10, .ref m11, .ref m12, .int mch, .int mfr, .int mfw, .int mrd, .ref m17, .ref m18, .ref m19, .ref m20, .ref m21, .ref m22, .ref m23, .int mtr])), (m2, .inl (cI, 6, .inl K)), (m3, .inl (cI, 6, .inl L)), (m4, .inl (cI, 6, .inl C))]) ([(m0, .inr (5, [.int mfa, .int mho, .ref m2, .ref m3, .ref m4, .int mra, .int mrh, .ref m7, .ref m8, .ref m9, .ref m10, .ref m11, .ref m12, .int mch, .int mfr, .int mfw, .int mrd, .ref m17, .ref m18, .ref m19, .ref m20, .ref m21, .ref m22, .ref m23, .int mtr])), (m2, .inl (cI, 6, .inl K)), (m3, .inl (cI, 6, .inl L)), (m4, .inl (cI, 6, .inl C))]) ([(m0, .inr (5, [.int mfa, .int mho, .ref m2, .ref m3, .ref m4, .int mra, .int mrh, .ref m7, .ref m8, .ref m9, .ref m10, .ref m11, .ref m12, .int mch, .int mfr, .int mfw, .int mrd, .ref m17, .ref m18, .ref m19, .ref m20, .ref m21, .ref m22, .ref m23, .int mtr])), (m2, .inl (cI, 6, .inl K)), (m3, .inl (cI, 6, .inl L)), (m4, .inl (cI, 6, .inl C))]) ([(m0, .inr (5, [.int mfa, .int mho, .ref m2, .ref m3, .ref m4, .int mra, .int mrh, .ref m7, .ref m8, .ref m9, .ref m10, .ref m11, .ref m12, .int mch, .int mfr, .int mfw, .int mrd, .ref m17, .ref m18, .ref m19, .ref m20, .ref m21, .ref m22, .ref m23, .int mtr])), (m2, .inl (cI, 6, .inl K)), (m3, .inl (cI, 6, .inl L)), (m4, .inl (cI, 6, .inl C))]) ([]) hP hD [0, 1, 2, 3] [] [m0, m2, m3, m4] 4 rfl rfl rfl rfl rfl (by decide) rfl rfl hk1 hB
              refine lv_icmp_le (tgt := 65) hx hb dX5_choiceOf_57 (by decide) (fun c_57 => ?_) (fun c_57 => ?_)
              · skip
                refine lv_iload_n hx hb dX5_choiceOf_65 rfl (lv_at hl 2 rfl) ?_
                refine lv_istore_n (lv' := [(3, .int v3), (5, .int 1), (4, .int v4), (0, .ref m0), (1, .int i1), (2, .int i2)]) hx hb dX5_choiceOf_66 rfl hl (by decide) rfl (fun ls hl => ?_)
                refine lv_iinc (v := (v4 + 1)) (lv' := [(4, .int (v4 + 1)), (3, .int v3), (5, .int 1), (0, .ref m0), (1, .int i1), (2, .int i2)]) hx hb dX5_choiceOf_67 hl (k := 2) rfl rfl (by decide) rfl (fun ls hl => ?_)
                refine lv_goto (tgt := 5) hx hb dX5_choiceOf_70 (by decide) ?_
                exact ih v3 (v4 + 1) _ _ _ (up_s hu c_11) (by assumption) hP hD hS (lv_sub hl [0, 1, 3, 4, 5] rfl) (hE.trans (by rw [p5_choiceOf_l5_s, if_neg c_11, if_neg c_17, if_neg c_27, if_pos c_57]))
              · skip
                refine lv_iload hx hb dX5_choiceOf_60 (lv_at hl 1 rfl) ?_
                refine lv_goto (tgt := 66) hx hb dX5_choiceOf_62 (by decide) ?_
                refine lv_istore_n (lv' := [(3, .int v4), (5, .int 1), (4, .int v4), (0, .ref m0), (1, .int i1), (2, .int i2)]) hx hb dX5_choiceOf_66 rfl hl (by decide) rfl (fun ls hl => ?_)
                refine lv_iinc (v := (v4 + 1)) (lv' := [(4, .int (v4 + 1)), (3, .int v4), (5, .int 1), (0, .ref m0), (1, .int i1), (2, .int i2)]) hx hb dX5_choiceOf_67 hl (k := 2) rfl rfl (by decide) rfl (fun ls hl => ?_)
                refine lv_goto (tgt := 5) hx hb dX5_choiceOf_70 (by decide) ?_
                exact ih v4 (v4 + 1) _ _ _ (up_s hu c_11) (by assumption) hP hD hS (lv_sub hl [0, 1, 3, 4, 5] rfl) (hE.trans (by rw [p5_choiceOf_l5_s, if_neg c_11, if_neg c_17, if_neg c_27, if_neg c_57]))
  refine lv_iload_n hx hb dX5_choiceOf_0 rfl (lv_at hl 1 rfl) ?_
  refine lv_istore_n (lv' := [(3, .int i1), (0, .ref m0), (1, .int i1), (2, .int i2)]) hx hb dX5_choiceOf_1 rfl hl (by decide) rfl (fun ls hl => ?_)
  refine lv_iconst (v := 0) hx hb dX5_choiceOf_2 (by decide) ?_
  refine lv_istore (lv' := [(4, .int 0), (3, .int i1), (0, .ref m0), (1, .int i1), (2, .int i2)]) hx hb dX5_choiceOf_3 hl (by decide) rfl (fun ls hl => ?_)
  exact lp_5 7 i1 0  _ _ _ (up_i 6 (by decide) hNb) hi1 hP hD hS (lv_sub hl [0, 1, 2, 3, 4] rfl) (rfl)

def p5_isFair (mho : Int32) (K : Nat → Int32) (L : Nat → Int32) (C : Nat → Int32) (i1 : Int32) (i2 : Int32) (i3 : Int32) : Int32 :=
  if (p5_payerOf K L C i1 i2 i3) = (p5_richest mho K L C) then
    1
  else
    0
abbrev rmX5_isFair : Room := { frames := 4, cells := 0, slots := 0, locals := 93 }
abbrev QX5_isFair (dC : Nat → ClassId) (dI : Nat → Nat → Nat) (A : Nat → Prop) (cI : ClassId) (m0 : Nat) (m2 : Nat) (m3 : Nat) (m4 : Nat) (m7 : Nat) (m8 : Nat) (m9 : Nat) (m10 : Nat) (m11 : Nat) (m12 : Nat) (m17 : Nat) (m18 : Nat) (m19 : Nat) (m20 : Nat) (m21 : Nat) (m22 : Nat) (m23 : Nat) (mfa : Int32) (mho : Int32) (mra : Int32) (mrh : Int32) (mch : Int32) (mfr : Int32) (mfw : Int32) (mrd : Int32) (mtr : Int32) (K : Nat → Int32) (L : Nat → Int32) (C : Nat → Int32) (i1 : Int32) (i2 : Int32) (i3 : Int32) : Array Value → State → Outcome → State → Prop := va_Qi (fun (r : Int32) (_ : Unit) => r = p5_isFair mho K L C i1 i2 i3) (fun (_ : Unit) (t : State) => va_P (dC, dI) vwCl ([(m0, .inr (5, [.int mfa, .int mho, .ref m2, .ref m3, .ref m4, .int mra, .int mrh, .ref m7, .ref m8, .ref m9, .ref m10, .ref m11, .ref m12, .int mch, .int mfr, .int mfw, .int mrd, .ref m17, .ref m18, .ref m19, .ref m20, .ref m21, .ref m22, .ref m23, .int mtr])), (m2, .inl (cI, 6, .inl K)), (m3, .inl (cI, 6, .inl L)), (m4, .inl (cI, 6, .inl C))]) t.heap) A
set_option maxHeartbeats 4000000 in
set_option maxRecDepth 100000 in
theorem ctX5_isFair (l : Launch) (dC : Nat → ClassId) (dI : Nat → Nat → Nat) (cI : ClassId) (m0 : Nat) (m2 : Nat) (m3 : Nat) (m4 : Nat) (m7 : Nat) (m8 : Nat) (m9 : Nat) (m10 : Nat) (m11 : Nat) (m12 : Nat) (m17 : Nat) (m18 : Nat) (m19 : Nat) (m20 : Nat) (m21 : Nat) (m22 : Nat) (m23 : Nat) (sz : Nat) (mfa : Int32) (mho : Int32) (mra : Int32) (mrh : Int32) (mch : Int32) (mfr : Int32) (mfw : Int32) (mrd : Int32) (mtr : Int32) (K : Nat → Int32) (L : Nat → Int32) (C : Nat → Int32) (i1 : Int32) (i2 : Int32) (i3 : Int32) (hi1 : vp_in i1 6) (hi2 : vp_in i2 6) (hNb : mho.toInt ≤ 6) : Met l yX5_isFair wsX5_isFair rmX5_isFair (va_Pc [.ref m0, .int i1, .int i2, .int i3] (cP dC dI [(cI, .int)] ([(m0, .inr (5, [.int mfa, .int mho, .ref m2, .ref m3, .ref m4, .int mra, .int mrh, .ref m7, .ref m8, .ref m9, .ref m10, .ref m11, .ref m12, .int mch, .int mfr, .int mfw, .int mrd, .ref m17, .ref m18, .ref m19, .ref m20, .ref m21, .ref m22, .ref m23, .int mtr])), (m2, .inl (cI, 6, .inl K)), (m3, .inl (cI, 6, .inl L)), (m4, .inl (cI, 6, .inl C))]) sz)) (QX5_isFair dC dI (va_A ([(m0, .inr (5, [.int mfa, .int mho, .ref m2, .ref m3, .ref m4, .int mra, .int mrh, .ref m7, .ref m8, .ref m9, .ref m10, .ref m11, .ref m12, .int mch, .int mfr, .int mfw, .int mrd, .ref m17, .ref m18, .ref m19, .ref m20, .ref m21, .ref m22, .ref m23, .int mtr])), (m2, .inl (cI, 6, .inl K)), (m3, .inl (cI, 6, .inl L)), (m4, .inl (cI, 6, .inl C))]) sz) cI m0 m2 m3 m4 m7 m8 m9 m10 m11 m12 m17 m18 m19 m20 m21 m22 m23 mfa mho mra mrh mch mfr mfw mrd mtr K L C i1 i2 i3) 0 0 (va_A ([(m0, .inr (5, [.int mfa, .int mho, .ref m2, .ref m3, .ref m4, .int mra, .int mrh, .ref m7, .ref m8, .ref m9, .ref m10, .ref m11, .ref m12, .int mch, .int mfr, .int mfw, .int mrd, .ref m17, .ref m18, .ref m19, .ref m20, .ref m21, .ref m22, .ref m23, .int mtr])), (m2, .inl (cI, 6, .inl K)), (m3, .inl (cI, 6, .inl L)), (m4, .inl (cI, 6, .inl C))]) sz) := by
  refine Met.ofW (cc := cX5_isFair) (maxL := 4) (ret := (some .boolean)) (by decide) rfl ?_
  intro p e s m args below meth c s₁ B hml hv
  obtain ⟨rfl, hsz, hP, hK, hD0, hN⟩ := hv
  have hx := B.exec
  have hb := B.bytes
  have hr := B.returns
  have hts := atoms_spec (ws := wsX5_isFair) B.pre
  have hown : s.vm.findClass RX5 = some m.cls := findClass_of_methodNamed B.named
  have hlocks := B.notSynchronized
  subst hsz
  have hD := hD0.self (sz := s.heap.size)
  generalize hAe : va_A ([(m0, .inr (5, [.int mfa, .int mho, .ref m2, .ref m3, .ref m4, .int mra, .int mrh, .ref m7, .ref m8, .ref m9, .ref m10, .ref m11, .ref m12, .int mch, .int mfr, .int mfw, .int mrd, .ref m17, .ref m18, .ref m19, .ref m20, .ref m21, .ref m22, .ref m23, .int mtr])), (m2, .inl (cI, 6, .inl K)), (m3, .inl (cI, 6, .inl L)), (m4, .inl (cI, 6, .inl C))]) s.heap.size = A at hD ⊢
  have hA : ∀ q : Nat, s.heap.size ≤ q → A q := fun q h => by rw [← hAe]; exact Or.inr h
  have hS : va_S A s.heap s.heap [] := va_S.rf
  have hP : va_P (dC, dI) vwCl ([(m0, .inr (5, [.int mfa, .int mho, .ref m2, .ref m3, .ref m4, .int mra, .int mrh, .ref m7, .ref m8, .ref m9, .ref m10, .ref m11, .ref m12, .int mch, .int mfr, .int mfw, .int mrd, .ref m17, .ref m18, .ref m19, .ref m20, .ref m21, .ref m22, .ref m23, .int mtr])), (m2, .inl (cI, 6, .inl K)), (m3, .inl (cI, 6, .inl L)), (m4, .inl (cI, 6, .inl C))]) s.heap := hP
  have hl := lv_entry ([.ref m0, .int i1, .int i2, .int i3]) (n := 4) (Nat.le_of_ble_eq_true rfl)
  rw [lg_entry_eq]
  generalize (lg_sl ([.ref m0, .int i1, .int i2, .int i3]) ++ List.replicate (4 - (lg_sl ([.ref m0, .int i1, .int i2, .int i3])).length) Slot.unset).toArray = ls at hl ⊢
  have hl : lv_has ls 4 [(0, .ref m0), (1, .int i1), (2, .int i2), (3, .int i3)] := hl
  refine lv_aload_n hx hb dX5_isFair_0 rfl (lv_at hl 0 rfl) ?_
  refine lv_iload_n hx hb dX5_isFair_1 rfl (lv_at hl 1 rfl) ?_
  refine lv_iload_n hx hb dX5_isFair_2 rfl (lv_at hl 2 rfl) ?_
  refine lv_iload_n hx hb dX5_isFair_3 rfl (lv_at hl 3 rfl) ?_
  have hPc := hP.sub (ws' := [(m0, .inr (5, [.int mfa, .int mho, .ref m2, .ref m3, .ref m4, .int mra, .int mrh, .ref m7, .ref m8, .ref m9, .ref m10, .ref m11, .ref m12, .int mch, .int mfr, .int mfw, .int mrd, .ref m17, .ref m18, .ref m19, .ref m20, .ref m21, .ref m22, .ref m23, .int mtr])), (m2, .inl (cI, 6, .inl K)), (m3, .inl (cI, 6, .inl L)), (m4, .inl (cI, 6, .inl C))]) [0, 1, 2, 3] rfl
  have hDc := hD.sub (ws' := [(m0, .inr (5, [.int mfa, .int mho, .ref m2, .ref m3, .ref m4, .int mra, .int mrh, .ref m7, .ref m8, .ref m9, .ref m10, .ref m11, .ref m12, .int mch, .int mfr, .int mfw, .int mrd, .ref m17, .ref m18, .ref m19, .ref m20, .ref m21, .ref m22, .ref m23, .int mtr])), (m2, .inl (cI, 6, .inl K)), (m3, .inl (cI, 6, .inl L)), (m4, .inl (cI, 6, .inl C))]) [0, 1, 2, 3] (by decide) rfl
  have hKc := hK.sub (tys' := [(cI, .int)]) [0] rfl
  have hFc := va_free (wc := [(m0, .inr (5, [.int mfa, .int mho, .ref m2, .ref m3, .ref m4, .int mra, .int mrh, .ref m7, .ref m8, .ref m9, .ref m10, .ref m11, .ref m12, .int mch, .int mfr, .int mfw, .int mrd, .ref m17, .ref m18, .ref m19, .ref m20, .ref m21, .ref m22, .ref m23, .int mtr])), (m2, .inl (cI, 6, .inl K)), (m3, .inl (cI, 6, .inl L)), (m4, .inl (cI, 6, .inl C))]) hD hS hA [0, 1, 2, 3] rfl
  refine va_calli (va_runV (As := [.int i1, .int i2, .int i3]) (rest := []) ⟨hx, hb, hml, hown, hts⟩ (ctX5_payerOf l dC dI cI m0 m2 m3 m4 m7 m8 m9 m10 m11 m12 m17 m18 m19 m20 m21 m22 m23 s.heap.size mfa mho mra mrh mch mfr mfw mrd mtr K L C i1 i2 i3 (by assumption) (by assumption)) (cwV 3 hts gX5_isFair_X5_payerOf rfl rfl rfl (by decide +kernel) ⟨Nat.le_of_ble_eq_true rfl, Nat.le_of_ble_eq_true rfl⟩) (pre_V hKc hN hPc hDc (RX5, TX5, 25) 5 0 rfl rfl) rfl rfl hl.1 rfl (lv_room (Nat.le_of_ble_eq_true rfl)) dX5_isFair_4 ⟨Nat.le_of_ble_eq_true rfl, Nat.le_of_ble_eq_true rfl⟩) hS (fun q _ h => hFc q h) hFc (fun r _ t H locs ht hvm hw hB hz1 hk1 hS => ?_)
  try dsimp only at hw
  subst hw
  rw [ht] at hB
  obtain ⟨hP, hD⟩ := rw_join ([(m0, .inr (5, [.int mfa, .int mho, .ref m2, .ref m3, .ref m4, .int mra, .int mrh, .ref m7, .ref m8, .ref m9, .ref m10, .ref m11, .ref m12, .int mch, .int mfr, .int mfw, .int mrd, .ref m17, .ref m18, .ref m19, .ref m20, .ref m21, .ref m22, .ref m23, .int mtr])), (m2, .inl (cI, 6, .inl K)), (m3, .inl (cI, 6, .inl L)), (m4, .inl (cI, 6, .inl C))]) ([(m0, .inr (5, [.int mfa, .int mho, .ref m2, .ref m3, .ref m4, .int mra, .int mrh, .ref m7, .ref m8, .ref m9, .ref m10, .ref m11, .ref m12, .int mch, .int mfr, .int mfw, .int mrd, .ref m17, .ref m18, .ref m19, .ref m20, .ref m21, .ref m22, .ref m23, .int mtr])), (m2, .inl (cI, 6, .inl K)), (m3, .inl (cI, 6, .inl L)), (m4, .inl (cI, 6, .inl C))]) ([(m0, .inr (5, [.int mfa, .int mho, .ref m2, .ref m3, .ref m4, .int mra, .int mrh, .ref m7, .ref m8, .ref m9, .ref m10, .ref m11, .ref m12, .int mch, .int mfr, .int mfw, .int mrd, .ref m17, .ref m18, .ref m19, .ref m20, .ref m21, .ref m22, .ref m23, .int mtr])), (m2, .inl (cI, 6, .inl K)), (m3, .inl (cI, 6, .inl L)), (m4, .inl (cI, 6, .inl C))]) ([(m0, .inr (5, [.int mfa, .int mho, .ref m2, .ref m3, .ref m4, .int mra, .int mrh, .ref m7, .ref m8, .ref m9, .ref m10, .ref m11, .ref m12, .int mch, .int mfr, .int mfw, .int mrd, .ref m17, .ref m18, .ref m19, .ref m20, .ref m21, .ref m22, .ref m23, .int mtr])), (m2, .inl (cI, 6, .inl K)), (m3, .inl (cI, 6, .inl L)), (m4, .inl (cI, 6, .inl C))]) ([]) hP hD [0, 1, 2, 3] [] [m0, m2, m3, m4] 4 rfl rfl rfl rfl rfl (by decide) rfl rfl hk1 hB
  refine lv_aload_n hx hb dX5_isFair_7 rfl (lv_at hl 0 rfl) ?_
  have hPc := hP.sub (ws' := [(m0, .inr (5, [.int mfa, .int mho, .ref m2, .ref m3, .ref m4, .int mra, .int mrh, .ref m7, .ref m8, .ref m9, .ref m10, .ref m11, .ref m12, .int mch, .int mfr, .int mfw, .int mrd, .ref m17, .ref m18, .ref m19, .ref m20, .ref m21, .ref m22, .ref m23, .int mtr])), (m2, .inl (cI, 6, .inl K)), (m3, .inl (cI, 6, .inl L)), (m4, .inl (cI, 6, .inl C))]) [0, 1, 2, 3] rfl
  have hDc := hD.sub (ws' := [(m0, .inr (5, [.int mfa, .int mho, .ref m2, .ref m3, .ref m4, .int mra, .int mrh, .ref m7, .ref m8, .ref m9, .ref m10, .ref m11, .ref m12, .int mch, .int mfr, .int mfw, .int mrd, .ref m17, .ref m18, .ref m19, .ref m20, .ref m21, .ref m22, .ref m23, .int mtr])), (m2, .inl (cI, 6, .inl K)), (m3, .inl (cI, 6, .inl L)), (m4, .inl (cI, 6, .inl C))]) [0, 1, 2, 3] (by decide) rfl
  have hKc := hK.sub (tys' := [(cI, .int)]) [0] rfl
  have hFc := va_free (wc := [(m0, .inr (5, [.int mfa, .int mho, .ref m2, .ref m3, .ref m4, .int mra, .int mrh, .ref m7, .ref m8, .ref m9, .ref m10, .ref m11, .ref m12, .int mch, .int mfr, .int mfw, .int mrd, .ref m17, .ref m18, .ref m19, .ref m20, .ref m21, .ref m22, .ref m23, .int mtr])), (m2, .inl (cI, 6, .inl K)), (m3, .inl (cI, 6, .inl L)), (m4, .inl (cI, 6, .inl C))]) hD hS hA [0, 1, 2, 3] rfl
  refine va_calli (va_runV (As := []) (rest := [.int (p5_payerOf K L C i1 i2 i3)]) ⟨hx, hb, hml, hown, hts⟩ (ctX5_richest l dC dI cI m0 m2 m3 m4 m7 m8 m9 m10 m11 m12 m17 m18 m19 m20 m21 m22 m23 H.size mfa mho mra mrh mch mfr mfw mrd mtr K L C (by assumption)) (cwV 0 hts gX5_isFair_X5_richest rfl rfl rfl (by decide +kernel) ⟨Nat.le_of_ble_eq_true rfl, Nat.le_of_ble_eq_true rfl⟩) (pre_V hKc hN hPc hDc (RX5, TX5, 25) 5 0 rfl rfl) rfl rfl hl.1 rfl (lv_room (Nat.le_of_ble_eq_true rfl)) dX5_isFair_8 ⟨Nat.le_of_ble_eq_true rfl, Nat.le_of_ble_eq_true rfl⟩) hS (fun q _ h => hFc q h) hFc (fun r _ t H locs ht hvm hw hB hz1 hk1 hS => ?_)
  try dsimp only at hw
  subst hw
  rw [ht] at hB
  obtain ⟨hP, hD⟩ := rw_join ([(m0, .inr (5, [.int mfa, .int mho, .ref m2, .ref m3, .ref m4, .int mra, .int mrh, .ref m7, .ref m8, .ref m9, .ref m10, .ref m11, .ref m12, .int mch, .int mfr, .int mfw, .int mrd, .ref m17, .ref m18, .ref m19, .ref m20, .ref m21, .ref m22, .ref m23, .int mtr])), (m2, .inl (cI, 6, .inl K)), (m3, .inl (cI, 6, .inl L)), (m4, .inl (cI, 6, .inl C))]) ([(m0, .inr (5, [.int mfa, .int mho, .ref m2, .ref m3, .ref m4, .int mra, .int mrh, .ref m7, .ref m8, .ref m9, .ref m10, .ref m11, .ref m12, .int mch, .int mfr, .int mfw, .int mrd, .ref m17, .ref m18, .ref m19, .ref m20, .ref m21, .ref m22, .ref m23, .int mtr])), (m2, .inl (cI, 6, .inl K)), (m3, .inl (cI, 6, .inl L)), (m4, .inl (cI, 6, .inl C))]) ([(m0, .inr (5, [.int mfa, .int mho, .ref m2, .ref m3, .ref m4, .int mra, .int mrh, .ref m7, .ref m8, .ref m9, .ref m10, .ref m11, .ref m12, .int mch, .int mfr, .int mfw, .int mrd, .ref m17, .ref m18, .ref m19, .ref m20, .ref m21, .ref m22, .ref m23, .int mtr])), (m2, .inl (cI, 6, .inl K)), (m3, .inl (cI, 6, .inl L)), (m4, .inl (cI, 6, .inl C))]) ([(m0, .inr (5, [.int mfa, .int mho, .ref m2, .ref m3, .ref m4, .int mra, .int mrh, .ref m7, .ref m8, .ref m9, .ref m10, .ref m11, .ref m12, .int mch, .int mfr, .int mfw, .int mrd, .ref m17, .ref m18, .ref m19, .ref m20, .ref m21, .ref m22, .ref m23, .int mtr])), (m2, .inl (cI, 6, .inl K)), (m3, .inl (cI, 6, .inl L)), (m4, .inl (cI, 6, .inl C))]) ([]) hP hD [0, 1, 2, 3] [] [m0, m2, m3, m4] 4 rfl rfl rfl rfl rfl (by decide) rfl rfl hk1 hB
  refine lv_icmp_ne (tgt := 18) hx hb dX5_isFair_11 (by decide) (fun c_11 => ?_) (fun c_11 => ?_)
  · skip
    refine lv_iconst (v := 0) hx hb dX5_isFair_18 (by decide) ?_
    have hE9 : p5_isFair mho K L C i1 i2 i3 = 0 := by unfold p5_isFair; rw [if_neg c_11]
    exact W.zret (v := 0) hx hb hr (by decide +kernel) (fun t ht hW => ⟨⟨_, (), rfl, by rw [hE9], by show va_P (dC, dI) vwCl _ t.heap; rw [ht]; exact hP⟩, hS.F ht⟩) hS.2.2 dX5_isFair_19
  · skip
    refine lv_iconst (v := 1) hx hb dX5_isFair_14 (by decide) ?_
    refine lv_goto (tgt := 19) hx hb dX5_isFair_15 (by decide) ?_
    have hE9 : p5_isFair mho K L C i1 i2 i3 = 1 := by unfold p5_isFair; rw [if_pos c_11]
    exact W.zret (v := 1) hx hb hr (by decide +kernel) (fun t ht hW => ⟨⟨_, (), rfl, by rw [hE9], by show va_P (dC, dI) vwCl _ t.heap; rw [ht]; exact hP⟩, hS.F ht⟩) hS.2.2 dX5_isFair_19

def p5_keep_l2 (L : Nat → Int32) (C : Nat → Int32) (KL : Nat → Int32) (KC : Nat → Int32) : Nat → Int32 → (Nat → Int32) → (Nat → Int32) → (Nat → Int32) × (Nat → Int32)
  | 0, _, _, _ => (fun _ => 0, fun _ => 0)
  | n + 1, v1, KL_, KC_ =>
    if 6 ≤ v1 then
      (KL_, KC_)
    else
      p5_keep_l2 L C KL KC n (v1 + 1) (upd KL_ v1.toNatClampNeg (L v1.toNatClampNeg)) (upd KC_ v1.toNatClampNeg (C v1.toNatClampNeg))
theorem p5_keep_l2_s (L : Nat → Int32) (C : Nat → Int32) (KL : Nat → Int32) (KC : Nat → Int32) (n : Nat) (v1 : Int32) (KL_ : Nat → Int32) (KC_ : Nat → Int32) : p5_keep_l2 L C KL KC (n + 1) v1 KL_ KC_ =
    (if 6 ≤ v1 then
      (KL_, KC_)
    else
      p5_keep_l2 L C KL KC n (v1 + 1) (upd KL_ v1.toNatClampNeg (L v1.toNatClampNeg)) (upd KC_ v1.toNatClampNeg (C v1.toNatClampNeg))) := rfl
def p5_keep (L : Nat → Int32) (C : Nat → Int32) (KL : Nat → Int32) (KC : Nat → Int32) : (Nat → Int32) × (Nat → Int32) :=
  p5_keep_l2 L C KL KC 7 0 KL KC
abbrev rmX5_keep : Room := { frames := 0, cells := 0, slots := 0, locals := 0 }
abbrev QX5_keep (dC : Nat → ClassId) (dI : Nat → Nat → Nat) (A : Nat → Prop) (cI : ClassId) (m0 : Nat) (m2 : Nat) (m3 : Nat) (m4 : Nat) (m7 : Nat) (m8 : Nat) (m9 : Nat) (m10 : Nat) (m11 : Nat) (m12 : Nat) (m17 : Nat) (m18 : Nat) (m19 : Nat) (m20 : Nat) (m21 : Nat) (m22 : Nat) (m23 : Nat) (mfa : Int32) (mho : Int32) (mra : Int32) (mrh : Int32) (mch : Int32) (mfr : Int32) (mfw : Int32) (mrd : Int32) (mtr : Int32) (L : Nat → Int32) (C : Nat → Int32) (KL : Nat → Int32) (KC : Nat → Int32) : Array Value → State → Outcome → State → Prop := va_Qv (fun (_ : Unit) => True) (fun (_ : Unit) (t : State) => va_P (dC, dI) vwCl ([(m0, .inr (5, [.int mfa, .int mho, .ref m2, .ref m3, .ref m4, .int mra, .int mrh, .ref m7, .ref m8, .ref m9, .ref m10, .ref m11, .ref m12, .int mch, .int mfr, .int mfw, .int mrd, .ref m17, .ref m18, .ref m19, .ref m20, .ref m21, .ref m22, .ref m23, .int mtr])), (m3, .inl (cI, 6, .inl L)), (m4, .inl (cI, 6, .inl C)), (m10, .inl (cI, 6, .inl ((p5_keep L C KL KC).1))), (m11, .inl (cI, 6, .inl ((p5_keep L C KL KC).2)))]) t.heap) A
set_option maxHeartbeats 4000000 in
set_option maxRecDepth 100000 in
theorem ctX5_keep (l : Launch) (dC : Nat → ClassId) (dI : Nat → Nat → Nat) (cI : ClassId) (m0 : Nat) (m2 : Nat) (m3 : Nat) (m4 : Nat) (m7 : Nat) (m8 : Nat) (m9 : Nat) (m10 : Nat) (m11 : Nat) (m12 : Nat) (m17 : Nat) (m18 : Nat) (m19 : Nat) (m20 : Nat) (m21 : Nat) (m22 : Nat) (m23 : Nat) (sz : Nat) (mfa : Int32) (mho : Int32) (mra : Int32) (mrh : Int32) (mch : Int32) (mfr : Int32) (mfw : Int32) (mrd : Int32) (mtr : Int32) (L : Nat → Int32) (C : Nat → Int32) (KL : Nat → Int32) (KC : Nat → Int32) : Met l yX5_keep wsX5_keep rmX5_keep (va_Pc [.ref m0] (cP dC dI [(cI, .int)] ([(m0, .inr (5, [.int mfa, .int mho, .ref m2, .ref m3, .ref m4, .int mra, .int mrh, .ref m7, .ref m8, .ref m9, .ref m10, .ref m11, .ref m12, .int mch, .int mfr, .int mfw, .int mrd, .ref m17, .ref m18, .ref m19, .ref m20, .ref m21, .ref m22, .ref m23, .int mtr])), (m3, .inl (cI, 6, .inl L)), (m4, .inl (cI, 6, .inl C)), (m10, .inl (cI, 6, .inl KL)), (m11, .inl (cI, 6, .inl KC))]) sz)) (QX5_keep dC dI (va_A ([(m0, .inr (5, [.int mfa, .int mho, .ref m2, .ref m3, .ref m4, .int mra, .int mrh, .ref m7, .ref m8, .ref m9, .ref m10, .ref m11, .ref m12, .int mch, .int mfr, .int mfw, .int mrd, .ref m17, .ref m18, .ref m19, .ref m20, .ref m21, .ref m22, .ref m23, .int mtr])), (m3, .inl (cI, 6, .inl L)), (m4, .inl (cI, 6, .inl C)), (m10, .inl (cI, 6, .inl KL)), (m11, .inl (cI, 6, .inl KC))]) sz) cI m0 m2 m3 m4 m7 m8 m9 m10 m11 m12 m17 m18 m19 m20 m21 m22 m23 mfa mho mra mrh mch mfr mfw mrd mtr L C KL KC ) 0 0 (va_A ([(m0, .inr (5, [.int mfa, .int mho, .ref m2, .ref m3, .ref m4, .int mra, .int mrh, .ref m7, .ref m8, .ref m9, .ref m10, .ref m11, .ref m12, .int mch, .int mfr, .int mfw, .int mrd, .ref m17, .ref m18, .ref m19, .ref m20, .ref m21, .ref m22, .ref m23, .int mtr])), (m3, .inl (cI, 6, .inl L)), (m4, .inl (cI, 6, .inl C)), (m10, .inl (cI, 6, .inl KL)), (m11, .inl (cI, 6, .inl KC))]) sz) := by
  refine Met.ofW (cc := cX5_keep) (maxL := 2) (ret := none) (by decide) rfl ?_
  intro p e s m args below meth c s₁ B hml hv
  obtain ⟨rfl, hsz, hP, hK, hD0, hN⟩ := hv
  have hx := B.exec
  have hb := B.bytes
  have hr := B.returns
  have hts := atoms_spec (ws := wsX5_keep) B.pre
  have hown : s.vm.findClass RX5 = some m.cls := findClass_of_methodNamed B.named
  have hlocks := B.notSynchronized
  subst hsz
  have hD := hD0.self (sz := s.heap.size)
  generalize hAe : va_A ([(m0, .inr (5, [.int mfa, .int mho, .ref m2, .ref m3, .ref m4, .int mra, .int mrh, .ref m7, .ref m8, .ref m9, .ref m10, .ref m11, .ref m12, .int mch, .int mfr, .int mfw, .int mrd, .ref m17, .ref m18, .ref m19, .ref m20, .ref m21, .ref m22, .ref m23, .int mtr])), (m3, .inl (cI, 6, .inl L)), (m4, .inl (cI, 6, .inl C)), (m10, .inl (cI, 6, .inl KL)), (m11, .inl (cI, 6, .inl KC))]) s.heap.size = A at hD ⊢
  have hA : ∀ q : Nat, s.heap.size ≤ q → A q := fun q h => by rw [← hAe]; exact Or.inr h
  have hS : va_S A s.heap s.heap [] := va_S.rf
  have hP : va_P (dC, dI) vwCl ([(m0, .inr (5, [.int mfa, .int mho, .ref m2, .ref m3, .ref m4, .int mra, .int mrh, .ref m7, .ref m8, .ref m9, .ref m10, .ref m11, .ref m12, .int mch, .int mfr, .int mfw, .int mrd, .ref m17, .ref m18, .ref m19, .ref m20, .ref m21, .ref m22, .ref m23, .int mtr])), (m3, .inl (cI, 6, .inl L)), (m4, .inl (cI, 6, .inl C)), (m10, .inl (cI, 6, .inl KL)), (m11, .inl (cI, 6, .inl KC))]) s.heap := hP
  have hin5 : ∀ w ∈ wsX50, w ∈ wsX5_keep := by decide +kernel
  have kf_13 := hts (.fieldLink RX5 13 "RicherChangeModel" "landOf" "[I") (by decide +kernel)
  have kf_16 := hts (.fieldLink RX5 16 "RicherChangeModel" "coinOf" "[I") (by decide +kernel)
  have kf_28 := hts (.fieldLink RX5 28 "RicherChangeModel" "keptLand" "[I") (by decide +kernel)
  have kf_31 := hts (.fieldLink RX5 31 "RicherChangeModel" "keptCoin" "[I") (by decide +kernel)
  have hl := lv_entry ([.ref m0]) (n := 2) (Nat.le_of_ble_eq_true rfl)
  rw [lg_entry_eq]
  generalize (lg_sl ([.ref m0]) ++ List.replicate (2 - (lg_sl ([.ref m0])).length) Slot.unset).toArray = ls at hl ⊢
  have hl : lv_has ls 2 [(0, .ref m0)] := hl
  have lp_2 : ∀ (n : Nat) (v1 : Int32) (KL_ : Nat → Int32) (KC_ : Nat → Int32) (H : Heap) (locs : List Loc) (ls : Array Slot), (up v1 6 n) → va_P (dC, dI) vwCl ([(m0, .inr (5, [.int mfa, .int mho, .ref m2, .ref m3, .ref m4, .int mra, .int mrh, .ref m7, .ref m8, .ref m9, .ref m10, .ref m11, .ref m12, .int mch, .int mfr, .int mfw, .int mrd, .ref m17, .ref m18, .ref m19, .ref m20, .ref m21, .ref m22, .ref m23, .int mtr])), (m3, .inl (cI, 6, .inl L)), (m4, .inl (cI, 6, .inl C)), (m10, .inl (cI, 6, .inl KL_)), (m11, .inl (cI, 6, .inl KC_))]) H → va_D A ([(m0, .inr (5, [.int mfa, .int mho, .ref m2, .ref m3, .ref m4, .int mra, .int mrh, .ref m7, .ref m8, .ref m9, .ref m10, .ref m11, .ref m12, .int mch, .int mfr, .int mfw, .int mrd, .ref m17, .ref m18, .ref m19, .ref m20, .ref m21, .ref m22, .ref m23, .int mtr])), (m3, .inl (cI, 6, .inl L)), (m4, .inl (cI, 6, .inl C)), (m10, .inl (cI, 6, .inl KL_)), (m11, .inl (cI, 6, .inl KC_))]) → va_S A s.heap H locs → lv_has ls 2 [(1, .int v1), (0, .ref m0)] → p5_keep L C KL KC = p5_keep_l2 L C KL KC n v1 KL_ KC_ → W p l e (headSpec wsX5_keep rmX5_keep).room s m [.ref m0].toArray below meth c H locs 0 0 (MQ below (QX5_keep dC dI A cI m0 m2 m3 m4 m7 m8 m9 m10 m11 m12 m17 m18 m19 m20 m21 m22 m23 mfa mho mra mrh mch mfr mfw mrd mtr L C KL KC ) [.ref m0].toArray s 0 0 A) (F0 m 2 ls []) := by
    intro n
    induction n with
    | zero => intro v1 KL_ KC_ _ _ _ hu; exact absurd hu up_no
    | succ n ih =>
      intro v1 KL_ KC_ H locs ls hu hP hD hS hl hE
      refine lv_iload_n hx hb dX5_keep_2 rfl (lv_at hl 0 rfl) ?_
      refine lv_bipush (v := 6) hx hb dX5_keep_3 (by decide) ?_
      refine lv_icmp_ge (tgt := 38) hx hb dX5_keep_5 (by decide) (fun c_5 => ?_) (fun c_5 => ?_)
      · skip
        have hE9 : p5_keep L C KL KC = (KL_, KC_) := hE.trans (by rw [p5_keep_l2_s, if_pos c_5])
        exact W.vret hx hb hr (fun t ht hW => ⟨⟨(), rfl, trivial, by show va_P (dC, dI) vwCl _ t.heap; rw [ht, hE9]; exact hP⟩, hS.F ht⟩) hS.2.2 dX5_keep_38
      · skip
        have j1 : vp_in v1 6 := up_in 6 hu c_5 (by decide)
        refine lv_aload_n hx hb dX5_keep_8 rfl (lv_at hl 1 rfl) ?_
        refine va_get (D := (dC, dI)) (ci := 5) (v := .ref m10) (C := RX5) (T := TX5) (N := 25) hx hb hts hin5 hown hK hP 0 rfl rfl 10 (by decide) kf_28 (fun _ h9 => h9) rfl dX5_keep_9 ?_
        refine lv_iload_n hx hb dX5_keep_12 rfl (lv_at hl 0 rfl) ?_
        refine lv_aload_n hx hb dX5_keep_13 rfl (lv_at hl 1 rfl) ?_
        refine va_get (D := (dC, dI)) (ci := 5) (v := .ref m3) (C := RX5) (T := TX5) (N := 25) hx hb hts hin5 hown hK hP 0 rfl rfl 3 (by decide) kf_13 (fun _ h9 => h9) rfl dX5_keep_14 ?_
        refine lv_iload_n hx hb dX5_keep_17 rfl (lv_at hl 0 rfl) ?_
        refine va_iald hx hb hK hP 1 0 rfl rfl (by assumption) dX5_keep_18 ?_
        refine va_iast hx hb hK hP hD hS 3 0 rfl rfl (by assumption) dX5_keep_19 (fun H locs hP hD hS => ?_)
        have hP : va_P (dC, dI) vwCl ([(m0, .inr (5, [.int mfa, .int mho, .ref m2, .ref m3, .ref m4, .int mra, .int mrh, .ref m7, .ref m8, .ref m9, .ref m10, .ref m11, .ref m12, .int mch, .int mfr, .int mfw, .int mrd, .ref m17, .ref m18, .ref m19, .ref m20, .ref m21, .ref m22, .ref m23, .int mtr])), (m3, .inl (cI, 6, .inl L)), (m4, .inl (cI, 6, .inl C)), (m10, .inl (cI, 6, .inl (upd KL_ v1.toNatClampNeg (L v1.toNatClampNeg)))), (m11, .inl (cI, 6, .inl KC_))]) H := hP
        have hD : va_D A ([(m0, .inr (5, [.int mfa, .int mho, .ref m2, .ref m3, .ref m4, .int mra, .int mrh, .ref m7, .ref m8, .ref m9, .ref m10, .ref m11, .ref m12, .int mch, .int mfr, .int mfw, .int mrd, .ref m17, .ref m18, .ref m19, .ref m20, .ref m21, .ref m22, .ref m23, .int mtr])), (m3, .inl (cI, 6, .inl L)), (m4, .inl (cI, 6, .inl C)), (m10, .inl (cI, 6, .inl (upd KL_ v1.toNatClampNeg (L v1.toNatClampNeg)))), (m11, .inl (cI, 6, .inl KC_))]) := hD
        refine lv_aload_n hx hb dX5_keep_20 rfl (lv_at hl 1 rfl) ?_
        refine va_get (D := (dC, dI)) (ci := 5) (v := .ref m11) (C := RX5) (T := TX5) (N := 25) hx hb hts hin5 hown hK hP 0 rfl rfl 11 (by decide) kf_31 (fun _ h9 => h9) rfl dX5_keep_21 ?_
        refine lv_iload_n hx hb dX5_keep_24 rfl (lv_at hl 0 rfl) ?_
        refine lv_aload_n hx hb dX5_keep_25 rfl (lv_at hl 1 rfl) ?_
        refine va_get (D := (dC, dI)) (ci := 5) (v := .ref m4) (C := RX5) (T := TX5) (N := 25) hx hb hts hin5 hown hK hP 0 rfl rfl 4 (by decide) kf_16 (fun _ h9 => h9) rfl dX5_keep_26 ?_
        refine lv_iload_n hx hb dX5_keep_29 rfl (lv_at hl 0 rfl) ?_
        refine va_iald hx hb hK hP 2 0 rfl rfl (by assumption) dX5_keep_30 ?_
        refine va_iast hx hb hK hP hD hS 4 0 rfl rfl (by assumption) dX5_keep_31 (fun H locs hP hD hS => ?_)
        have hP : va_P (dC, dI) vwCl ([(m0, .inr (5, [.int mfa, .int mho, .ref m2, .ref m3, .ref m4, .int mra, .int mrh, .ref m7, .ref m8, .ref m9, .ref m10, .ref m11, .ref m12, .int mch, .int mfr, .int mfw, .int mrd, .ref m17, .ref m18, .ref m19, .ref m20, .ref m21, .ref m22, .ref m23, .int mtr])), (m3, .inl (cI, 6, .inl L)), (m4, .inl (cI, 6, .inl C)), (m10, .inl (cI, 6, .inl (upd KL_ v1.toNatClampNeg (L v1.toNatClampNeg)))), (m11, .inl (cI, 6, .inl (upd KC_ v1.toNatClampNeg (C v1.toNatClampNeg))))]) H := hP
        have hD : va_D A ([(m0, .inr (5, [.int mfa, .int mho, .ref m2, .ref m3, .ref m4, .int mra, .int mrh, .ref m7, .ref m8, .ref m9, .ref m10, .ref m11, .ref m12, .int mch, .int mfr, .int mfw, .int mrd, .ref m17, .ref m18, .ref m19, .ref m20, .ref m21, .ref m22, .ref m23, .int mtr])), (m3, .inl (cI, 6, .inl L)), (m4, .inl (cI, 6, .inl C)), (m10, .inl (cI, 6, .inl (upd KL_ v1.toNatClampNeg (L v1.toNatClampNeg)))), (m11, .inl (cI, 6, .inl (upd KC_ v1.toNatClampNeg (C v1.toNatClampNeg))))]) := hD
        refine lv_iinc (v := (v1 + 1)) (lv' := [(1, .int (v1 + 1)), (0, .ref m0)]) hx hb dX5_keep_32 hl (k := 0) rfl rfl (by decide) rfl (fun ls hl => ?_)
        refine lv_goto (tgt := 2) hx hb dX5_keep_35 (by decide) ?_
        exact ih (v1 + 1) (upd KL_ v1.toNatClampNeg (L v1.toNatClampNeg)) (upd KC_ v1.toNatClampNeg (C v1.toNatClampNeg)) _ _ _ (up_s hu c_5) hP hD hS (lv_sub hl [0, 1] rfl) (hE.trans (by rw [p5_keep_l2_s, if_neg c_5]))
  refine lv_iconst (v := 0) hx hb dX5_keep_0 (by decide) ?_
  refine lv_istore_n (lv' := [(1, .int 0), (0, .ref m0)]) hx hb dX5_keep_1 rfl hl (by decide) rfl (fun ls hl => ?_)
  exact lp_2 7 0 KL KC _ _ _ (up_i 6 (by decide) (by decide)) hP hD hS (lv_sub hl [0, 1] rfl) (rfl)

def p5_putBack_l2 (L : Nat → Int32) (C : Nat → Int32) (KL : Nat → Int32) (KC : Nat → Int32) : Nat → Int32 → (Nat → Int32) → (Nat → Int32) → (Nat → Int32) × (Nat → Int32)
  | 0, _, _, _ => (fun _ => 0, fun _ => 0)
  | n + 1, v1, L_, C_ =>
    if 6 ≤ v1 then
      (L_, C_)
    else
      p5_putBack_l2 L C KL KC n (v1 + 1) (upd L_ v1.toNatClampNeg (KL v1.toNatClampNeg)) (upd C_ v1.toNatClampNeg (KC v1.toNatClampNeg))
theorem p5_putBack_l2_s (L : Nat → Int32) (C : Nat → Int32) (KL : Nat → Int32) (KC : Nat → Int32) (n : Nat) (v1 : Int32) (L_ : Nat → Int32) (C_ : Nat → Int32) : p5_putBack_l2 L C KL KC (n + 1) v1 L_ C_ =
    (if 6 ≤ v1 then
      (L_, C_)
    else
      p5_putBack_l2 L C KL KC n (v1 + 1) (upd L_ v1.toNatClampNeg (KL v1.toNatClampNeg)) (upd C_ v1.toNatClampNeg (KC v1.toNatClampNeg))) := rfl
def p5_putBack (L : Nat → Int32) (C : Nat → Int32) (KL : Nat → Int32) (KC : Nat → Int32) : (Nat → Int32) × (Nat → Int32) :=
  p5_putBack_l2 L C KL KC 7 0 L C
abbrev rmX5_putBack : Room := { frames := 0, cells := 0, slots := 0, locals := 0 }
abbrev QX5_putBack (dC : Nat → ClassId) (dI : Nat → Nat → Nat) (A : Nat → Prop) (cI : ClassId) (m0 : Nat) (m2 : Nat) (m3 : Nat) (m4 : Nat) (m7 : Nat) (m8 : Nat) (m9 : Nat) (m10 : Nat) (m11 : Nat) (m12 : Nat) (m17 : Nat) (m18 : Nat) (m19 : Nat) (m20 : Nat) (m21 : Nat) (m22 : Nat) (m23 : Nat) (mfa : Int32) (mho : Int32) (mra : Int32) (mrh : Int32) (mch : Int32) (mfr : Int32) (mfw : Int32) (mrd : Int32) (mtr : Int32) (L : Nat → Int32) (C : Nat → Int32) (KL : Nat → Int32) (KC : Nat → Int32) : Array Value → State → Outcome → State → Prop := va_Qv (fun (_ : Unit) => True) (fun (_ : Unit) (t : State) => va_P (dC, dI) vwCl ([(m0, .inr (5, [.int mfa, .int mho, .ref m2, .ref m3, .ref m4, .int mra, .int mrh, .ref m7, .ref m8, .ref m9, .ref m10, .ref m11, .ref m12, .int mch, .int mfr, .int mfw, .int mrd, .ref m17, .ref m18, .ref m19, .ref m20, .ref m21, .ref m22, .ref m23, .int mtr])), (m3, .inl (cI, 6, .inl ((p5_putBack L C KL KC).1))), (m4, .inl (cI, 6, .inl ((p5_putBack L C KL KC).2))), (m10, .inl (cI, 6, .inl KL)), (m11, .inl (cI, 6, .inl KC))]) t.heap) A
set_option maxHeartbeats 4000000 in
set_option maxRecDepth 100000 in
theorem ctX5_putBack (l : Launch) (dC : Nat → ClassId) (dI : Nat → Nat → Nat) (cI : ClassId) (m0 : Nat) (m2 : Nat) (m3 : Nat) (m4 : Nat) (m7 : Nat) (m8 : Nat) (m9 : Nat) (m10 : Nat) (m11 : Nat) (m12 : Nat) (m17 : Nat) (m18 : Nat) (m19 : Nat) (m20 : Nat) (m21 : Nat) (m22 : Nat) (m23 : Nat) (sz : Nat) (mfa : Int32) (mho : Int32) (mra : Int32) (mrh : Int32) (mch : Int32) (mfr : Int32) (mfw : Int32) (mrd : Int32) (mtr : Int32) (L : Nat → Int32) (C : Nat → Int32) (KL : Nat → Int32) (KC : Nat → Int32) : Met l yX5_putBack wsX5_putBack rmX5_putBack (va_Pc [.ref m0] (cP dC dI [(cI, .int)] ([(m0, .inr (5, [.int mfa, .int mho, .ref m2, .ref m3, .ref m4, .int mra, .int mrh, .ref m7, .ref m8, .ref m9, .ref m10, .ref m11, .ref m12, .int mch, .int mfr, .int mfw, .int mrd, .ref m17, .ref m18, .ref m19, .ref m20, .ref m21, .ref m22, .ref m23, .int mtr])), (m3, .inl (cI, 6, .inl L)), (m4, .inl (cI, 6, .inl C)), (m10, .inl (cI, 6, .inl KL)), (m11, .inl (cI, 6, .inl KC))]) sz)) (QX5_putBack dC dI (va_A ([(m0, .inr (5, [.int mfa, .int mho, .ref m2, .ref m3, .ref m4, .int mra, .int mrh, .ref m7, .ref m8, .ref m9, .ref m10, .ref m11, .ref m12, .int mch, .int mfr, .int mfw, .int mrd, .ref m17, .ref m18, .ref m19, .ref m20, .ref m21, .ref m22, .ref m23, .int mtr])), (m3, .inl (cI, 6, .inl L)), (m4, .inl (cI, 6, .inl C)), (m10, .inl (cI, 6, .inl KL)), (m11, .inl (cI, 6, .inl KC))]) sz) cI m0 m2 m3 m4 m7 m8 m9 m10 m11 m12 m17 m18 m19 m20 m21 m22 m23 mfa mho mra mrh mch mfr mfw mrd mtr L C KL KC ) 0 0 (va_A ([(m0, .inr (5, [.int mfa, .int mho, .ref m2, .ref m3, .ref m4, .int mra, .int mrh, .ref m7, .ref m8, .ref m9, .ref m10, .ref m11, .ref m12, .int mch, .int mfr, .int mfw, .int mrd, .ref m17, .ref m18, .ref m19, .ref m20, .ref m21, .ref m22, .ref m23, .int mtr])), (m3, .inl (cI, 6, .inl L)), (m4, .inl (cI, 6, .inl C)), (m10, .inl (cI, 6, .inl KL)), (m11, .inl (cI, 6, .inl KC))]) sz) := by
  refine Met.ofW (cc := cX5_putBack) (maxL := 2) (ret := none) (by decide) rfl ?_
  intro p e s m args below meth c s₁ B hml hv
  obtain ⟨rfl, hsz, hP, hK, hD0, hN⟩ := hv
  have hx := B.exec
  have hb := B.bytes
  have hr := B.returns
  have hts := atoms_spec (ws := wsX5_putBack) B.pre
  have hown : s.vm.findClass RX5 = some m.cls := findClass_of_methodNamed B.named
  have hlocks := B.notSynchronized
  subst hsz
  have hD := hD0.self (sz := s.heap.size)
  generalize hAe : va_A ([(m0, .inr (5, [.int mfa, .int mho, .ref m2, .ref m3, .ref m4, .int mra, .int mrh, .ref m7, .ref m8, .ref m9, .ref m10, .ref m11, .ref m12, .int mch, .int mfr, .int mfw, .int mrd, .ref m17, .ref m18, .ref m19, .ref m20, .ref m21, .ref m22, .ref m23, .int mtr])), (m3, .inl (cI, 6, .inl L)), (m4, .inl (cI, 6, .inl C)), (m10, .inl (cI, 6, .inl KL)), (m11, .inl (cI, 6, .inl KC))]) s.heap.size = A at hD ⊢
  have hA : ∀ q : Nat, s.heap.size ≤ q → A q := fun q h => by rw [← hAe]; exact Or.inr h
  have hS : va_S A s.heap s.heap [] := va_S.rf
  have hP : va_P (dC, dI) vwCl ([(m0, .inr (5, [.int mfa, .int mho, .ref m2, .ref m3, .ref m4, .int mra, .int mrh, .ref m7, .ref m8, .ref m9, .ref m10, .ref m11, .ref m12, .int mch, .int mfr, .int mfw, .int mrd, .ref m17, .ref m18, .ref m19, .ref m20, .ref m21, .ref m22, .ref m23, .int mtr])), (m3, .inl (cI, 6, .inl L)), (m4, .inl (cI, 6, .inl C)), (m10, .inl (cI, 6, .inl KL)), (m11, .inl (cI, 6, .inl KC))]) s.heap := hP
  have hin5 : ∀ w ∈ wsX50, w ∈ wsX5_putBack := by decide +kernel
  have kf_13 := hts (.fieldLink RX5 13 "RicherChangeModel" "landOf" "[I") (by decide +kernel)
  have kf_16 := hts (.fieldLink RX5 16 "RicherChangeModel" "coinOf" "[I") (by decide +kernel)
  have kf_28 := hts (.fieldLink RX5 28 "RicherChangeModel" "keptLand" "[I") (by decide +kernel)
  have kf_31 := hts (.fieldLink RX5 31 "RicherChangeModel" "keptCoin" "[I") (by decide +kernel)
  have hl := lv_entry ([.ref m0]) (n := 2) (Nat.le_of_ble_eq_true rfl)
  rw [lg_entry_eq]
  generalize (lg_sl ([.ref m0]) ++ List.replicate (2 - (lg_sl ([.ref m0])).length) Slot.unset).toArray = ls at hl ⊢
  have hl : lv_has ls 2 [(0, .ref m0)] := hl
  have lp_2 : ∀ (n : Nat) (v1 : Int32) (L_ : Nat → Int32) (C_ : Nat → Int32) (H : Heap) (locs : List Loc) (ls : Array Slot), (up v1 6 n) → va_P (dC, dI) vwCl ([(m0, .inr (5, [.int mfa, .int mho, .ref m2, .ref m3, .ref m4, .int mra, .int mrh, .ref m7, .ref m8, .ref m9, .ref m10, .ref m11, .ref m12, .int mch, .int mfr, .int mfw, .int mrd, .ref m17, .ref m18, .ref m19, .ref m20, .ref m21, .ref m22, .ref m23, .int mtr])), (m3, .inl (cI, 6, .inl L_)), (m4, .inl (cI, 6, .inl C_)), (m10, .inl (cI, 6, .inl KL)), (m11, .inl (cI, 6, .inl KC))]) H → va_D A ([(m0, .inr (5, [.int mfa, .int mho, .ref m2, .ref m3, .ref m4, .int mra, .int mrh, .ref m7, .ref m8, .ref m9, .ref m10, .ref m11, .ref m12, .int mch, .int mfr, .int mfw, .int mrd, .ref m17, .ref m18, .ref m19, .ref m20, .ref m21, .ref m22, .ref m23, .int mtr])), (m3, .inl (cI, 6, .inl L_)), (m4, .inl (cI, 6, .inl C_)), (m10, .inl (cI, 6, .inl KL)), (m11, .inl (cI, 6, .inl KC))]) → va_S A s.heap H locs → lv_has ls 2 [(1, .int v1), (0, .ref m0)] → p5_putBack L C KL KC = p5_putBack_l2 L C KL KC n v1 L_ C_ → W p l e (headSpec wsX5_putBack rmX5_putBack).room s m [.ref m0].toArray below meth c H locs 0 0 (MQ below (QX5_putBack dC dI A cI m0 m2 m3 m4 m7 m8 m9 m10 m11 m12 m17 m18 m19 m20 m21 m22 m23 mfa mho mra mrh mch mfr mfw mrd mtr L C KL KC ) [.ref m0].toArray s 0 0 A) (F0 m 2 ls []) := by
    intro n
    induction n with
    | zero => intro v1 L_ C_ _ _ _ hu; exact absurd hu up_no
    | succ n ih =>
      intro v1 L_ C_ H locs ls hu hP hD hS hl hE
      refine lv_iload_n hx hb dX5_putBack_2 rfl (lv_at hl 0 rfl) ?_
      refine lv_bipush (v := 6) hx hb dX5_putBack_3 (by decide) ?_
      refine lv_icmp_ge (tgt := 38) hx hb dX5_putBack_5 (by decide) (fun c_5 => ?_) (fun c_5 => ?_)
      · skip
        have hE9 : p5_putBack L C KL KC = (L_, C_) := hE.trans (by rw [p5_putBack_l2_s, if_pos c_5])
        exact W.vret hx hb hr (fun t ht hW => ⟨⟨(), rfl, trivial, by show va_P (dC, dI) vwCl _ t.heap; rw [ht, hE9]; exact hP⟩, hS.F ht⟩) hS.2.2 dX5_putBack_38
      · skip
        have j1 : vp_in v1 6 := up_in 6 hu c_5 (by decide)
        refine lv_aload_n hx hb dX5_putBack_8 rfl (lv_at hl 1 rfl) ?_
        refine va_get (D := (dC, dI)) (ci := 5) (v := .ref m3) (C := RX5) (T := TX5) (N := 25) hx hb hts hin5 hown hK hP 0 rfl rfl 3 (by decide) kf_13 (fun _ h9 => h9) rfl dX5_putBack_9 ?_
        refine lv_iload_n hx hb dX5_putBack_12 rfl (lv_at hl 0 rfl) ?_
        refine lv_aload_n hx hb dX5_putBack_13 rfl (lv_at hl 1 rfl) ?_
        refine va_get (D := (dC, dI)) (ci := 5) (v := .ref m10) (C := RX5) (T := TX5) (N := 25) hx hb hts hin5 hown hK hP 0 rfl rfl 10 (by decide) kf_28 (fun _ h9 => h9) rfl dX5_putBack_14 ?_
        refine lv_iload_n hx hb dX5_putBack_17 rfl (lv_at hl 0 rfl) ?_
        refine va_iald hx hb hK hP 3 0 rfl rfl (by assumption) dX5_putBack_18 ?_
        refine va_iast hx hb hK hP hD hS 1 0 rfl rfl (by assumption) dX5_putBack_19 (fun H locs hP hD hS => ?_)
        have hP : va_P (dC, dI) vwCl ([(m0, .inr (5, [.int mfa, .int mho, .ref m2, .ref m3, .ref m4, .int mra, .int mrh, .ref m7, .ref m8, .ref m9, .ref m10, .ref m11, .ref m12, .int mch, .int mfr, .int mfw, .int mrd, .ref m17, .ref m18, .ref m19, .ref m20, .ref m21, .ref m22, .ref m23, .int mtr])), (m3, .inl (cI, 6, .inl (upd L_ v1.toNatClampNeg (KL v1.toNatClampNeg)))), (m4, .inl (cI, 6, .inl C_)), (m10, .inl (cI, 6, .inl KL)), (m11, .inl (cI, 6, .inl KC))]) H := hP
        have hD : va_D A ([(m0, .inr (5, [.int mfa, .int mho, .ref m2, .ref m3, .ref m4, .int mra, .int mrh, .ref m7, .ref m8, .ref m9, .ref m10, .ref m11, .ref m12, .int mch, .int mfr, .int mfw, .int mrd, .ref m17, .ref m18, .ref m19, .ref m20, .ref m21, .ref m22, .ref m23, .int mtr])), (m3, .inl (cI, 6, .inl (upd L_ v1.toNatClampNeg (KL v1.toNatClampNeg)))), (m4, .inl (cI, 6, .inl C_)), (m10, .inl (cI, 6, .inl KL)), (m11, .inl (cI, 6, .inl KC))]) := hD
        refine lv_aload_n hx hb dX5_putBack_20 rfl (lv_at hl 1 rfl) ?_
        refine va_get (D := (dC, dI)) (ci := 5) (v := .ref m4) (C := RX5) (T := TX5) (N := 25) hx hb hts hin5 hown hK hP 0 rfl rfl 4 (by decide) kf_16 (fun _ h9 => h9) rfl dX5_putBack_21 ?_
        refine lv_iload_n hx hb dX5_putBack_24 rfl (lv_at hl 0 rfl) ?_
        refine lv_aload_n hx hb dX5_putBack_25 rfl (lv_at hl 1 rfl) ?_
        refine va_get (D := (dC, dI)) (ci := 5) (v := .ref m11) (C := RX5) (T := TX5) (N := 25) hx hb hts hin5 hown hK hP 0 rfl rfl 11 (by decide) kf_31 (fun _ h9 => h9) rfl dX5_putBack_26 ?_
        refine lv_iload_n hx hb dX5_putBack_29 rfl (lv_at hl 0 rfl) ?_
        refine va_iald hx hb hK hP 4 0 rfl rfl (by assumption) dX5_putBack_30 ?_
        refine va_iast hx hb hK hP hD hS 2 0 rfl rfl (by assumption) dX5_putBack_31 (fun H locs hP hD hS => ?_)
        have hP : va_P (dC, dI) vwCl ([(m0, .inr (5, [.int mfa, .int mho, .ref m2, .ref m3, .ref m4, .int mra, .int mrh, .ref m7, .ref m8, .ref m9, .ref m10, .ref m11, .ref m12, .int mch, .int mfr, .int mfw, .int mrd, .ref m17, .ref m18, .ref m19, .ref m20, .ref m21, .ref m22, .ref m23, .int mtr])), (m3, .inl (cI, 6, .inl (upd L_ v1.toNatClampNeg (KL v1.toNatClampNeg)))), (m4, .inl (cI, 6, .inl (upd C_ v1.toNatClampNeg (KC v1.toNatClampNeg)))), (m10, .inl (cI, 6, .inl KL)), (m11, .inl (cI, 6, .inl KC))]) H := hP
        have hD : va_D A ([(m0, .inr (5, [.int mfa, .int mho, .ref m2, .ref m3, .ref m4, .int mra, .int mrh, .ref m7, .ref m8, .ref m9, .ref m10, .ref m11, .ref m12, .int mch, .int mfr, .int mfw, .int mrd, .ref m17, .ref m18, .ref m19, .ref m20, .ref m21, .ref m22, .ref m23, .int mtr])), (m3, .inl (cI, 6, .inl (upd L_ v1.toNatClampNeg (KL v1.toNatClampNeg)))), (m4, .inl (cI, 6, .inl (upd C_ v1.toNatClampNeg (KC v1.toNatClampNeg)))), (m10, .inl (cI, 6, .inl KL)), (m11, .inl (cI, 6, .inl KC))]) := hD
        refine lv_iinc (v := (v1 + 1)) (lv' := [(1, .int (v1 + 1)), (0, .ref m0)]) hx hb dX5_putBack_32 hl (k := 0) rfl rfl (by decide) rfl (fun ls hl => ?_)
        refine lv_goto (tgt := 2) hx hb dX5_putBack_35 (by decide) ?_
        exact ih (v1 + 1) (upd L_ v1.toNatClampNeg (KL v1.toNatClampNeg)) (upd C_ v1.toNatClampNeg (KC v1.toNatClampNeg)) _ _ _ (up_s hu c_5) hP hD hS (lv_sub hl [0, 1] rfl) (hE.trans (by rw [p5_putBack_l2_s, if_neg c_5]))
  refine lv_iconst (v := 0) hx hb dX5_putBack_0 (by decide) ?_
  refine lv_istore_n (lv' := [(1, .int 0), (0, .ref m0)]) hx hb dX5_putBack_1 rfl hl (by decide) rfl (fun ls hl => ?_)
  exact lp_2 7 0 L C _ _ _ (up_i 6 (by decide) (by decide)) hP hD hS (lv_sub hl [0, 1] rfl) (rfl)

def p5_pay (L : Nat → Int32) (C : Nat → Int32) (i1 : Int32) (i2 : Int32) : (Nat → Int32) × (Nat → Int32) :=
  ((upd L i1.toNatClampNeg (p5_landLeft (L i1.toNatClampNeg) (C i1.toNatClampNeg) i2)), (upd C i1.toNatClampNeg (p5_coinLeft (C i1.toNatClampNeg) i2)))
abbrev rmX5_pay : Room := { frames := 1, cells := 0, slots := 0, locals := 23 }
abbrev QX5_pay (dC : Nat → ClassId) (dI : Nat → Nat → Nat) (A : Nat → Prop) (cI : ClassId) (m0 : Nat) (m2 : Nat) (m3 : Nat) (m4 : Nat) (m7 : Nat) (m8 : Nat) (m9 : Nat) (m10 : Nat) (m11 : Nat) (m12 : Nat) (m17 : Nat) (m18 : Nat) (m19 : Nat) (m20 : Nat) (m21 : Nat) (m22 : Nat) (m23 : Nat) (mfa : Int32) (mho : Int32) (mra : Int32) (mrh : Int32) (mch : Int32) (mfr : Int32) (mfw : Int32) (mrd : Int32) (mtr : Int32) (L : Nat → Int32) (C : Nat → Int32) (i1 : Int32) (i2 : Int32) : Array Value → State → Outcome → State → Prop := va_Qv (fun (_ : Unit) => True) (fun (_ : Unit) (t : State) => va_P (dC, dI) vwCl ([(m0, .inr (5, [.int mfa, .int mho, .ref m2, .ref m3, .ref m4, .int mra, .int mrh, .ref m7, .ref m8, .ref m9, .ref m10, .ref m11, .ref m12, .int mch, .int mfr, .int mfw, .int mrd, .ref m17, .ref m18, .ref m19, .ref m20, .ref m21, .ref m22, .ref m23, .int mtr])), (m3, .inl (cI, 6, .inl ((p5_pay L C i1 i2).1))), (m4, .inl (cI, 6, .inl ((p5_pay L C i1 i2).2)))]) t.heap) A
set_option maxHeartbeats 4000000 in
set_option maxRecDepth 100000 in
theorem ctX5_pay (l : Launch) (dC : Nat → ClassId) (dI : Nat → Nat → Nat) (cI : ClassId) (m0 : Nat) (m2 : Nat) (m3 : Nat) (m4 : Nat) (m7 : Nat) (m8 : Nat) (m9 : Nat) (m10 : Nat) (m11 : Nat) (m12 : Nat) (m17 : Nat) (m18 : Nat) (m19 : Nat) (m20 : Nat) (m21 : Nat) (m22 : Nat) (m23 : Nat) (sz : Nat) (mfa : Int32) (mho : Int32) (mra : Int32) (mrh : Int32) (mch : Int32) (mfr : Int32) (mfw : Int32) (mrd : Int32) (mtr : Int32) (L : Nat → Int32) (C : Nat → Int32) (i1 : Int32) (i2 : Int32) (hi1 : vp_in i1 6) : Met l yX5_pay wsX5_pay rmX5_pay (va_Pc [.ref m0, .int i1, .int i2] (cP dC dI [(cI, .int)] ([(m0, .inr (5, [.int mfa, .int mho, .ref m2, .ref m3, .ref m4, .int mra, .int mrh, .ref m7, .ref m8, .ref m9, .ref m10, .ref m11, .ref m12, .int mch, .int mfr, .int mfw, .int mrd, .ref m17, .ref m18, .ref m19, .ref m20, .ref m21, .ref m22, .ref m23, .int mtr])), (m3, .inl (cI, 6, .inl L)), (m4, .inl (cI, 6, .inl C))]) sz)) (QX5_pay dC dI (va_A ([(m0, .inr (5, [.int mfa, .int mho, .ref m2, .ref m3, .ref m4, .int mra, .int mrh, .ref m7, .ref m8, .ref m9, .ref m10, .ref m11, .ref m12, .int mch, .int mfr, .int mfw, .int mrd, .ref m17, .ref m18, .ref m19, .ref m20, .ref m21, .ref m22, .ref m23, .int mtr])), (m3, .inl (cI, 6, .inl L)), (m4, .inl (cI, 6, .inl C))]) sz) cI m0 m2 m3 m4 m7 m8 m9 m10 m11 m12 m17 m18 m19 m20 m21 m22 m23 mfa mho mra mrh mch mfr mfw mrd mtr L C i1 i2) 0 0 (va_A ([(m0, .inr (5, [.int mfa, .int mho, .ref m2, .ref m3, .ref m4, .int mra, .int mrh, .ref m7, .ref m8, .ref m9, .ref m10, .ref m11, .ref m12, .int mch, .int mfr, .int mfw, .int mrd, .ref m17, .ref m18, .ref m19, .ref m20, .ref m21, .ref m22, .ref m23, .int mtr])), (m3, .inl (cI, 6, .inl L)), (m4, .inl (cI, 6, .inl C))]) sz) := by
  refine Met.ofW (cc := cX5_pay) (maxL := 3) (ret := none) (by decide) rfl ?_
  intro p e s m args below meth c s₁ B hml hv
  obtain ⟨rfl, hsz, hP, hK, hD0, hN⟩ := hv
  have hx := B.exec
  have hb := B.bytes
  have hr := B.returns
  have hts := atoms_spec (ws := wsX5_pay) B.pre
  have hown : s.vm.findClass RX5 = some m.cls := findClass_of_methodNamed B.named
  have hlocks := B.notSynchronized
  subst hsz
  have hD := hD0.self (sz := s.heap.size)
  generalize hAe : va_A ([(m0, .inr (5, [.int mfa, .int mho, .ref m2, .ref m3, .ref m4, .int mra, .int mrh, .ref m7, .ref m8, .ref m9, .ref m10, .ref m11, .ref m12, .int mch, .int mfr, .int mfw, .int mrd, .ref m17, .ref m18, .ref m19, .ref m20, .ref m21, .ref m22, .ref m23, .int mtr])), (m3, .inl (cI, 6, .inl L)), (m4, .inl (cI, 6, .inl C))]) s.heap.size = A at hD ⊢
  have hA : ∀ q : Nat, s.heap.size ≤ q → A q := fun q h => by rw [← hAe]; exact Or.inr h
  have hS : va_S A s.heap s.heap [] := va_S.rf
  have hP : va_P (dC, dI) vwCl ([(m0, .inr (5, [.int mfa, .int mho, .ref m2, .ref m3, .ref m4, .int mra, .int mrh, .ref m7, .ref m8, .ref m9, .ref m10, .ref m11, .ref m12, .int mch, .int mfr, .int mfw, .int mrd, .ref m17, .ref m18, .ref m19, .ref m20, .ref m21, .ref m22, .ref m23, .int mtr])), (m3, .inl (cI, 6, .inl L)), (m4, .inl (cI, 6, .inl C))]) s.heap := hP
  have hin5 : ∀ w ∈ wsX50, w ∈ wsX5_pay := by decide +kernel
  have kf_13 := hts (.fieldLink RX5 13 "RicherChangeModel" "landOf" "[I") (by decide +kernel)
  have kf_16 := hts (.fieldLink RX5 16 "RicherChangeModel" "coinOf" "[I") (by decide +kernel)
  have hl := lv_entry ([.ref m0, .int i1, .int i2]) (n := 3) (Nat.le_of_ble_eq_true rfl)
  rw [lg_entry_eq]
  generalize (lg_sl ([.ref m0, .int i1, .int i2]) ++ List.replicate (3 - (lg_sl ([.ref m0, .int i1, .int i2])).length) Slot.unset).toArray = ls at hl ⊢
  have hl : lv_has ls 3 [(0, .ref m0), (1, .int i1), (2, .int i2)] := hl
  refine lv_aload_n hx hb dX5_pay_0 rfl (lv_at hl 0 rfl) ?_
  refine va_get (D := (dC, dI)) (ci := 5) (v := .ref m3) (C := RX5) (T := TX5) (N := 25) hx hb hts hin5 hown hK hP 0 rfl rfl 3 (by decide) kf_13 (fun _ h9 => h9) rfl dX5_pay_1 ?_
  refine lv_iload_n hx hb dX5_pay_4 rfl (lv_at hl 1 rfl) ?_
  refine lv_aload_n hx hb dX5_pay_5 rfl (lv_at hl 0 rfl) ?_
  refine va_get (D := (dC, dI)) (ci := 5) (v := .ref m3) (C := RX5) (T := TX5) (N := 25) hx hb hts hin5 hown hK hP 0 rfl rfl 3 (by decide) kf_13 (fun _ h9 => h9) rfl dX5_pay_6 ?_
  refine lv_iload_n hx hb dX5_pay_9 rfl (lv_at hl 1 rfl) ?_
  refine va_iald hx hb hK hP 1 0 rfl rfl (by assumption) dX5_pay_10 ?_
  refine lv_aload_n hx hb dX5_pay_11 rfl (lv_at hl 0 rfl) ?_
  refine va_get (D := (dC, dI)) (ci := 5) (v := .ref m4) (C := RX5) (T := TX5) (N := 25) hx hb hts hin5 hown hK hP 0 rfl rfl 4 (by decide) kf_16 (fun _ h9 => h9) rfl dX5_pay_12 ?_
  refine lv_iload_n hx hb dX5_pay_15 rfl (lv_at hl 1 rfl) ?_
  refine va_iald hx hb hK hP 2 0 rfl rfl (by assumption) dX5_pay_16 ?_
  refine lv_iload_n hx hb dX5_pay_17 rfl (lv_at hl 2 rfl) ?_
  have hPc : va_P (dC, dI) vwCl [] s.heap := hP.sub (ws' := []) [] rfl
  have hDc : va_D A [] := hD.sub (ws' := []) [] (by decide) rfl
  have hKc := hK.sub (tys' := [(cI, .int)]) [0] rfl
  have hFc := va_free (wc := []) hD hS hA [] rfl
  refine va_calli (va_runS (As := [.int (L i1.toNatClampNeg), .int (C i1.toNatClampNeg), .int i2]) (rest := [.int i1, .ref m3]) ⟨hx, hb, hml, hown, hts⟩ (ctX5_landLeft l dC dI cI s.heap.size (L i1.toNatClampNeg) (C i1.toNatClampNeg) i2) (va_cwS 3 hts gX5_pay_X5_landLeft rfl rfl rfl (by decide +kernel) ⟨Nat.le_of_ble_eq_true rfl, Nat.le_of_ble_eq_true rfl⟩) (pre_S hKc hN hPc hDc) rfl rfl hl.1 rfl (lv_room (Nat.le_of_ble_eq_true rfl)) dX5_pay_18 ⟨Nat.le_of_ble_eq_true rfl, Nat.le_of_ble_eq_true rfl⟩) hS (fun q _ h => hFc q h) hFc (fun r _ t H locs ht hvm hw hB hz1 hk1 hS => ?_)
  try dsimp only at hw
  subst hw
  rw [ht] at hB
  obtain ⟨hP, hD⟩ := rw_join ([(m0, .inr (5, [.int mfa, .int mho, .ref m2, .ref m3, .ref m4, .int mra, .int mrh, .ref m7, .ref m8, .ref m9, .ref m10, .ref m11, .ref m12, .int mch, .int mfr, .int mfw, .int mrd, .ref m17, .ref m18, .ref m19, .ref m20, .ref m21, .ref m22, .ref m23, .int mtr])), (m3, .inl (cI, 6, .inl L)), (m4, .inl (cI, 6, .inl C))]) ([(m0, .inr (5, [.int mfa, .int mho, .ref m2, .ref m3, .ref m4, .int mra, .int mrh, .ref m7, .ref m8, .ref m9, .ref m10, .ref m11, .ref m12, .int mch, .int mfr, .int mfw, .int mrd, .ref m17, .ref m18, .ref m19, .ref m20, .ref m21, .ref m22, .ref m23, .int mtr])), (m3, .inl (cI, 6, .inl L)), (m4, .inl (cI, 6, .inl C))]) ([]) ([]) ([(m0, .inr (5, [.int mfa, .int mho, .ref m2, .ref m3, .ref m4, .int mra, .int mrh, .ref m7, .ref m8, .ref m9, .ref m10, .ref m11, .ref m12, .int mch, .int mfr, .int mfw, .int mrd, .ref m17, .ref m18, .ref m19, .ref m20, .ref m21, .ref m22, .ref m23, .int mtr])), (m3, .inl (cI, 6, .inl L)), (m4, .inl (cI, 6, .inl C))]) hP hD [] [0, 1, 2] [m0, m3, m4] 3 rfl rfl rfl rfl rfl (by decide) rfl rfl hk1 hB
  refine va_iast hx hb hK hP hD hS 1 0 rfl rfl (by assumption) dX5_pay_21 (fun H locs hP hD hS => ?_)
  have hP : va_P (dC, dI) vwCl ([(m0, .inr (5, [.int mfa, .int mho, .ref m2, .ref m3, .ref m4, .int mra, .int mrh, .ref m7, .ref m8, .ref m9, .ref m10, .ref m11, .ref m12, .int mch, .int mfr, .int mfw, .int mrd, .ref m17, .ref m18, .ref m19, .ref m20, .ref m21, .ref m22, .ref m23, .int mtr])), (m3, .inl (cI, 6, .inl (upd L i1.toNatClampNeg (p5_landLeft (L i1.toNatClampNeg) (C i1.toNatClampNeg) i2)))), (m4, .inl (cI, 6, .inl C))]) H := hP
  have hD : va_D A ([(m0, .inr (5, [.int mfa, .int mho, .ref m2, .ref m3, .ref m4, .int mra, .int mrh, .ref m7, .ref m8, .ref m9, .ref m10, .ref m11, .ref m12, .int mch, .int mfr, .int mfw, .int mrd, .ref m17, .ref m18, .ref m19, .ref m20, .ref m21, .ref m22, .ref m23, .int mtr])), (m3, .inl (cI, 6, .inl (upd L i1.toNatClampNeg (p5_landLeft (L i1.toNatClampNeg) (C i1.toNatClampNeg) i2)))), (m4, .inl (cI, 6, .inl C))]) := hD
  refine lv_aload_n hx hb dX5_pay_22 rfl (lv_at hl 0 rfl) ?_
  refine va_get (D := (dC, dI)) (ci := 5) (v := .ref m4) (C := RX5) (T := TX5) (N := 25) hx hb hts hin5 hown hK hP 0 rfl rfl 4 (by decide) kf_16 (fun _ h9 => h9) rfl dX5_pay_23 ?_
  refine lv_iload_n hx hb dX5_pay_26 rfl (lv_at hl 1 rfl) ?_
  refine lv_aload_n hx hb dX5_pay_27 rfl (lv_at hl 0 rfl) ?_
  refine va_get (D := (dC, dI)) (ci := 5) (v := .ref m4) (C := RX5) (T := TX5) (N := 25) hx hb hts hin5 hown hK hP 0 rfl rfl 4 (by decide) kf_16 (fun _ h9 => h9) rfl dX5_pay_28 ?_
  refine lv_iload_n hx hb dX5_pay_31 rfl (lv_at hl 1 rfl) ?_
  refine va_iald hx hb hK hP 2 0 rfl rfl (by assumption) dX5_pay_32 ?_
  refine lv_iload_n hx hb dX5_pay_33 rfl (lv_at hl 2 rfl) ?_
  have hPc : va_P (dC, dI) vwCl [] H := hP.sub (ws' := []) [] rfl
  have hDc : va_D A [] := hD.sub (ws' := []) [] (by decide) rfl
  have hKc := hK.sub (tys' := [(cI, .int)]) [0] rfl
  have hFc := va_free (wc := []) hD hS hA [] rfl
  refine va_calli (va_runS (As := [.int (C i1.toNatClampNeg), .int i2]) (rest := [.int i1, .ref m4]) ⟨hx, hb, hml, hown, hts⟩ (ctX5_coinLeft l dC dI cI H.size (C i1.toNatClampNeg) i2) (va_cwS 2 hts gX5_pay_X5_coinLeft rfl rfl rfl (by decide +kernel) ⟨Nat.le_of_ble_eq_true rfl, Nat.le_of_ble_eq_true rfl⟩) (pre_S hKc hN hPc hDc) rfl rfl hl.1 rfl (lv_room (Nat.le_of_ble_eq_true rfl)) dX5_pay_34 ⟨Nat.le_of_ble_eq_true rfl, Nat.le_of_ble_eq_true rfl⟩) hS (fun q _ h => hFc q h) hFc (fun r _ t H locs ht hvm hw hB hz1 hk1 hS => ?_)
  try dsimp only at hw
  subst hw
  rw [ht] at hB
  obtain ⟨hP, hD⟩ := rw_join ([(m0, .inr (5, [.int mfa, .int mho, .ref m2, .ref m3, .ref m4, .int mra, .int mrh, .ref m7, .ref m8, .ref m9, .ref m10, .ref m11, .ref m12, .int mch, .int mfr, .int mfw, .int mrd, .ref m17, .ref m18, .ref m19, .ref m20, .ref m21, .ref m22, .ref m23, .int mtr])), (m3, .inl (cI, 6, .inl (upd L i1.toNatClampNeg (p5_landLeft (L i1.toNatClampNeg) (C i1.toNatClampNeg) i2)))), (m4, .inl (cI, 6, .inl C))]) ([(m0, .inr (5, [.int mfa, .int mho, .ref m2, .ref m3, .ref m4, .int mra, .int mrh, .ref m7, .ref m8, .ref m9, .ref m10, .ref m11, .ref m12, .int mch, .int mfr, .int mfw, .int mrd, .ref m17, .ref m18, .ref m19, .ref m20, .ref m21, .ref m22, .ref m23, .int mtr])), (m3, .inl (cI, 6, .inl (upd L i1.toNatClampNeg (p5_landLeft (L i1.toNatClampNeg) (C i1.toNatClampNeg) i2)))), (m4, .inl (cI, 6, .inl C))]) ([]) ([]) ([(m0, .inr (5, [.int mfa, .int mho, .ref m2, .ref m3, .ref m4, .int mra, .int mrh, .ref m7, .ref m8, .ref m9, .ref m10, .ref m11, .ref m12, .int mch, .int mfr, .int mfw, .int mrd, .ref m17, .ref m18, .ref m19, .ref m20, .ref m21, .ref m22, .ref m23, .int mtr])), (m3, .inl (cI, 6, .inl (upd L i1.toNatClampNeg (p5_landLeft (L i1.toNatClampNeg) (C i1.toNatClampNeg) i2)))), (m4, .inl (cI, 6, .inl C))]) hP hD [] [0, 1, 2] [m0, m3, m4] 3 rfl rfl rfl rfl rfl (by decide) rfl rfl hk1 hB
  refine va_iast hx hb hK hP hD hS 2 0 rfl rfl (by assumption) dX5_pay_37 (fun H locs hP hD hS => ?_)
  have hP : va_P (dC, dI) vwCl ([(m0, .inr (5, [.int mfa, .int mho, .ref m2, .ref m3, .ref m4, .int mra, .int mrh, .ref m7, .ref m8, .ref m9, .ref m10, .ref m11, .ref m12, .int mch, .int mfr, .int mfw, .int mrd, .ref m17, .ref m18, .ref m19, .ref m20, .ref m21, .ref m22, .ref m23, .int mtr])), (m3, .inl (cI, 6, .inl (upd L i1.toNatClampNeg (p5_landLeft (L i1.toNatClampNeg) (C i1.toNatClampNeg) i2)))), (m4, .inl (cI, 6, .inl (upd C i1.toNatClampNeg (p5_coinLeft (C i1.toNatClampNeg) i2))))]) H := hP
  have hD : va_D A ([(m0, .inr (5, [.int mfa, .int mho, .ref m2, .ref m3, .ref m4, .int mra, .int mrh, .ref m7, .ref m8, .ref m9, .ref m10, .ref m11, .ref m12, .int mch, .int mfr, .int mfw, .int mrd, .ref m17, .ref m18, .ref m19, .ref m20, .ref m21, .ref m22, .ref m23, .int mtr])), (m3, .inl (cI, 6, .inl (upd L i1.toNatClampNeg (p5_landLeft (L i1.toNatClampNeg) (C i1.toNatClampNeg) i2)))), (m4, .inl (cI, 6, .inl (upd C i1.toNatClampNeg (p5_coinLeft (C i1.toNatClampNeg) i2))))]) := hD
  have hE9 : p5_pay L C i1 i2 = ((upd L i1.toNatClampNeg (p5_landLeft (L i1.toNatClampNeg) (C i1.toNatClampNeg) i2)), (upd C i1.toNatClampNeg (p5_coinLeft (C i1.toNatClampNeg) i2))) := rfl
  exact W.vret hx hb hr (fun t ht hW => ⟨⟨(), rfl, trivial, by show va_P (dC, dI) vwCl _ t.heap; rw [ht, hE9]; exact hP⟩, hS.F ht⟩) hS.2.2 dX5_pay_38

def p5_worthOfAll_l4 (mho : Int32) (K : Nat → Int32) (L : Nat → Int32) (C : Nat → Int32) : Nat → Int32 → Int32 → Int32
  | 0, _, _ => 0
  | n + 1, v1, v2 =>
    if mho ≤ v2 then
      v1
    else
      p5_worthOfAll_l4 mho K L C n (v1 + (p5_worthOf K L C v2)) (v2 + 1)
theorem p5_worthOfAll_l4_s (mho : Int32) (K : Nat → Int32) (L : Nat → Int32) (C : Nat → Int32) (n : Nat) (v1 : Int32) (v2 : Int32) : p5_worthOfAll_l4 mho K L C (n + 1) v1 v2 =
    (if mho ≤ v2 then
      v1
    else
      p5_worthOfAll_l4 mho K L C n (v1 + (p5_worthOf K L C v2)) (v2 + 1)) := rfl
def p5_worthOfAll (mho : Int32) (K : Nat → Int32) (L : Nat → Int32) (C : Nat → Int32) : Int32 :=
  p5_worthOfAll_l4 mho K L C 7 0 0
abbrev rmX5_worthOfAll : Room := { frames := 2, cells := 0, slots := 0, locals := 45 }
abbrev QX5_worthOfAll (dC : Nat → ClassId) (dI : Nat → Nat → Nat) (A : Nat → Prop) (cI : ClassId) (m0 : Nat) (m2 : Nat) (m3 : Nat) (m4 : Nat) (m7 : Nat) (m8 : Nat) (m9 : Nat) (m10 : Nat) (m11 : Nat) (m12 : Nat) (m17 : Nat) (m18 : Nat) (m19 : Nat) (m20 : Nat) (m21 : Nat) (m22 : Nat) (m23 : Nat) (mfa : Int32) (mho : Int32) (mra : Int32) (mrh : Int32) (mch : Int32) (mfr : Int32) (mfw : Int32) (mrd : Int32) (mtr : Int32) (K : Nat → Int32) (L : Nat → Int32) (C : Nat → Int32) : Array Value → State → Outcome → State → Prop := va_Qi (fun (r : Int32) (_ : Unit) => r = p5_worthOfAll mho K L C) (fun (_ : Unit) (t : State) => va_P (dC, dI) vwCl ([(m0, .inr (5, [.int mfa, .int mho, .ref m2, .ref m3, .ref m4, .int mra, .int mrh, .ref m7, .ref m8, .ref m9, .ref m10, .ref m11, .ref m12, .int mch, .int mfr, .int mfw, .int mrd, .ref m17, .ref m18, .ref m19, .ref m20, .ref m21, .ref m22, .ref m23, .int mtr])), (m2, .inl (cI, 6, .inl K)), (m3, .inl (cI, 6, .inl L)), (m4, .inl (cI, 6, .inl C))]) t.heap) A
set_option maxHeartbeats 4000000 in
set_option maxRecDepth 100000 in
theorem ctX5_worthOfAll (l : Launch) (dC : Nat → ClassId) (dI : Nat → Nat → Nat) (cI : ClassId) (m0 : Nat) (m2 : Nat) (m3 : Nat) (m4 : Nat) (m7 : Nat) (m8 : Nat) (m9 : Nat) (m10 : Nat) (m11 : Nat) (m12 : Nat) (m17 : Nat) (m18 : Nat) (m19 : Nat) (m20 : Nat) (m21 : Nat) (m22 : Nat) (m23 : Nat) (sz : Nat) (mfa : Int32) (mho : Int32) (mra : Int32) (mrh : Int32) (mch : Int32) (mfr : Int32) (mfw : Int32) (mrd : Int32) (mtr : Int32) (K : Nat → Int32) (L : Nat → Int32) (C : Nat → Int32) (hNb : mho.toInt ≤ 6) : Met l yX5_worthOfAll wsX5_worthOfAll rmX5_worthOfAll (va_Pc [.ref m0] (cP dC dI [(cI, .int)] ([(m0, .inr (5, [.int mfa, .int mho, .ref m2, .ref m3, .ref m4, .int mra, .int mrh, .ref m7, .ref m8, .ref m9, .ref m10, .ref m11, .ref m12, .int mch, .int mfr, .int mfw, .int mrd, .ref m17, .ref m18, .ref m19, .ref m20, .ref m21, .ref m22, .ref m23, .int mtr])), (m2, .inl (cI, 6, .inl K)), (m3, .inl (cI, 6, .inl L)), (m4, .inl (cI, 6, .inl C))]) sz)) (QX5_worthOfAll dC dI (va_A ([(m0, .inr (5, [.int mfa, .int mho, .ref m2, .ref m3, .ref m4, .int mra, .int mrh, .ref m7, .ref m8, .ref m9, .ref m10, .ref m11, .ref m12, .int mch, .int mfr, .int mfw, .int mrd, .ref m17, .ref m18, .ref m19, .ref m20, .ref m21, .ref m22, .ref m23, .int mtr])), (m2, .inl (cI, 6, .inl K)), (m3, .inl (cI, 6, .inl L)), (m4, .inl (cI, 6, .inl C))]) sz) cI m0 m2 m3 m4 m7 m8 m9 m10 m11 m12 m17 m18 m19 m20 m21 m22 m23 mfa mho mra mrh mch mfr mfw mrd mtr K L C ) 0 0 (va_A ([(m0, .inr (5, [.int mfa, .int mho, .ref m2, .ref m3, .ref m4, .int mra, .int mrh, .ref m7, .ref m8, .ref m9, .ref m10, .ref m11, .ref m12, .int mch, .int mfr, .int mfw, .int mrd, .ref m17, .ref m18, .ref m19, .ref m20, .ref m21, .ref m22, .ref m23, .int mtr])), (m2, .inl (cI, 6, .inl K)), (m3, .inl (cI, 6, .inl L)), (m4, .inl (cI, 6, .inl C))]) sz) := by
  refine Met.ofW (cc := cX5_worthOfAll) (maxL := 3) (ret := (some .int)) (by decide) rfl ?_
  intro p e s m args below meth c s₁ B hml hv
  obtain ⟨rfl, hsz, hP, hK, hD0, hN⟩ := hv
  have hx := B.exec
  have hb := B.bytes
  have hr := B.returns
  have hts := atoms_spec (ws := wsX5_worthOfAll) B.pre
  have hown : s.vm.findClass RX5 = some m.cls := findClass_of_methodNamed B.named
  have hlocks := B.notSynchronized
  subst hsz
  have hD := hD0.self (sz := s.heap.size)
  generalize hAe : va_A ([(m0, .inr (5, [.int mfa, .int mho, .ref m2, .ref m3, .ref m4, .int mra, .int mrh, .ref m7, .ref m8, .ref m9, .ref m10, .ref m11, .ref m12, .int mch, .int mfr, .int mfw, .int mrd, .ref m17, .ref m18, .ref m19, .ref m20, .ref m21, .ref m22, .ref m23, .int mtr])), (m2, .inl (cI, 6, .inl K)), (m3, .inl (cI, 6, .inl L)), (m4, .inl (cI, 6, .inl C))]) s.heap.size = A at hD ⊢
  have hA : ∀ q : Nat, s.heap.size ≤ q → A q := fun q h => by rw [← hAe]; exact Or.inr h
  have hS : va_S A s.heap s.heap [] := va_S.rf
  have hP : va_P (dC, dI) vwCl ([(m0, .inr (5, [.int mfa, .int mho, .ref m2, .ref m3, .ref m4, .int mra, .int mrh, .ref m7, .ref m8, .ref m9, .ref m10, .ref m11, .ref m12, .int mch, .int mfr, .int mfw, .int mrd, .ref m17, .ref m18, .ref m19, .ref m20, .ref m21, .ref m22, .ref m23, .int mtr])), (m2, .inl (cI, 6, .inl K)), (m3, .inl (cI, 6, .inl L)), (m4, .inl (cI, 6, .inl C))]) s.heap := hP
  have hin5 : ∀ w ∈ wsX50, w ∈ wsX5_worthOfAll := by decide +kernel
  have kf_68 := hts (.fieldLink RX5 68 "RicherChangeModel" "houses" "I") (by decide +kernel)
  have hl := lv_entry ([.ref m0]) (n := 3) (Nat.le_of_ble_eq_true rfl)
  rw [lg_entry_eq]
  generalize (lg_sl ([.ref m0]) ++ List.replicate (3 - (lg_sl ([.ref m0])).length) Slot.unset).toArray = ls at hl ⊢
  have hl : lv_has ls 3 [(0, .ref m0)] := hl
  have lp_4 : ∀ (n : Nat) (v1 : Int32) (v2 : Int32) (H : Heap) (locs : List Loc) (ls : Array Slot), (up v2 mho n) → va_P (dC, dI) vwCl ([(m0, .inr (5, [.int mfa, .int mho, .ref m2, .ref m3, .ref m4, .int mra, .int mrh, .ref m7, .ref m8, .ref m9, .ref m10, .ref m11, .ref m12, .int mch, .int mfr, .int mfw, .int mrd, .ref m17, .ref m18, .ref m19, .ref m20, .ref m21, .ref m22, .ref m23, .int mtr])), (m2, .inl (cI, 6, .inl K)), (m3, .inl (cI, 6, .inl L)), (m4, .inl (cI, 6, .inl C))]) H → va_D A ([(m0, .inr (5, [.int mfa, .int mho, .ref m2, .ref m3, .ref m4, .int mra, .int mrh, .ref m7, .ref m8, .ref m9, .ref m10, .ref m11, .ref m12, .int mch, .int mfr, .int mfw, .int mrd, .ref m17, .ref m18, .ref m19, .ref m20, .ref m21, .ref m22, .ref m23, .int mtr])), (m2, .inl (cI, 6, .inl K)), (m3, .inl (cI, 6, .inl L)), (m4, .inl (cI, 6, .inl C))]) → va_S A s.heap H locs → lv_has ls 3 [(2, .int v2), (1, .int v1), (0, .ref m0)] → p5_worthOfAll mho K L C = p5_worthOfAll_l4 mho K L C n v1 v2 → W p l e (headSpec wsX5_worthOfAll rmX5_worthOfAll).room s m [.ref m0].toArray below meth c H locs 0 0 (MQ below (QX5_worthOfAll dC dI A cI m0 m2 m3 m4 m7 m8 m9 m10 m11 m12 m17 m18 m19 m20 m21 m22 m23 mfa mho mra mrh mch mfr mfw mrd mtr K L C ) [.ref m0].toArray s 0 0 A) (F0 m 4 ls []) := by
    intro n
    induction n with
    | zero => intro v1 v2 _ _ _ hu; exact absurd hu up_no
    | succ n ih =>
      intro v1 v2 H locs ls hu hP hD hS hl hE
      refine lv_iload_n hx hb dX5_worthOfAll_4 rfl (lv_at hl 0 rfl) ?_
      refine lv_aload_n hx hb dX5_worthOfAll_5 rfl (lv_at hl 2 rfl) ?_
      refine va_get (D := (dC, dI)) (ci := 5) (v := .int mho) (C := RX5) (T := TX5) (N := 25) hx hb hts hin5 hown hK hP 0 rfl rfl 1 (by decide) kf_68 (fun _ h9 => h9) rfl dX5_worthOfAll_6 ?_
      refine lv_icmp_ge (tgt := 26) hx hb dX5_worthOfAll_9 (by decide) (fun c_9 => ?_) (fun c_9 => ?_)
      · skip
        refine lv_iload_n hx hb dX5_worthOfAll_26 rfl (lv_at hl 1 rfl) ?_
        have hE9 : p5_worthOfAll mho K L C = v1 := hE.trans (by rw [p5_worthOfAll_l4_s, if_pos c_9])
        exact W.iret (v := v1) hx hb hr (fun t ht hW => ⟨⟨_, (), rfl, by rw [hE9], by show va_P (dC, dI) vwCl _ t.heap; rw [ht]; exact hP⟩, hS.F ht⟩) hS.2.2 dX5_worthOfAll_27
      · skip
        have j2 : vp_in v2 6 := up_in 6 hu c_9 hNb
        refine lv_iload_n hx hb dX5_worthOfAll_12 rfl (lv_at hl 1 rfl) ?_
        refine lv_aload_n hx hb dX5_worthOfAll_13 rfl (lv_at hl 2 rfl) ?_
        refine lv_iload_n hx hb dX5_worthOfAll_14 rfl (lv_at hl 0 rfl) ?_
        have hPc := hP.sub (ws' := [(m0, .inr (5, [.int mfa, .int mho, .ref m2, .ref m3, .ref m4, .int mra, .int mrh, .ref m7, .ref m8, .ref m9, .ref m10, .ref m11, .ref m12, .int mch, .int mfr, .int mfw, .int mrd, .ref m17, .ref m18, .ref m19, .ref m20, .ref m21, .ref m22, .ref m23, .int mtr])), (m2, .inl (cI, 6, .inl K)), (m3, .inl (cI, 6, .inl L)), (m4, .inl (cI, 6, .inl C))]) [0, 1, 2, 3] rfl
        have hDc := hD.sub (ws' := [(m0, .inr (5, [.int mfa, .int mho, .ref m2, .ref m3, .ref m4, .int mra, .int mrh, .ref m7, .ref m8, .ref m9, .ref m10, .ref m11, .ref m12, .int mch, .int mfr, .int mfw, .int mrd, .ref m17, .ref m18, .ref m19, .ref m20, .ref m21, .ref m22, .ref m23, .int mtr])), (m2, .inl (cI, 6, .inl K)), (m3, .inl (cI, 6, .inl L)), (m4, .inl (cI, 6, .inl C))]) [0, 1, 2, 3] (by decide) rfl
        have hKc := hK.sub (tys' := [(cI, .int)]) [0] rfl
        have hFc := va_free (wc := [(m0, .inr (5, [.int mfa, .int mho, .ref m2, .ref m3, .ref m4, .int mra, .int mrh, .ref m7, .ref m8, .ref m9, .ref m10, .ref m11, .ref m12, .int mch, .int mfr, .int mfw, .int mrd, .ref m17, .ref m18, .ref m19, .ref m20, .ref m21, .ref m22, .ref m23, .int mtr])), (m2, .inl (cI, 6, .inl K)), (m3, .inl (cI, 6, .inl L)), (m4, .inl (cI, 6, .inl C))]) hD hS hA [0, 1, 2, 3] rfl
        refine va_calli (va_runV (As := [.int v2]) (rest := [.int v1]) ⟨hx, hb, hml, hown, hts⟩ (ctX5_worthOf l dC dI cI m0 m2 m3 m4 m7 m8 m9 m10 m11 m12 m17 m18 m19 m20 m21 m22 m23 H.size mfa mho mra mrh mch mfr mfw mrd mtr K L C v2 (by assumption)) (cwV 1 hts gX5_worthOfAll_X5_worthOf rfl rfl rfl (by decide +kernel) ⟨Nat.le_of_ble_eq_true rfl, Nat.le_of_ble_eq_true rfl⟩) (pre_V hKc hN hPc hDc (RX5, TX5, 25) 5 0 rfl rfl) rfl rfl hl.1 rfl (lv_room (Nat.le_of_ble_eq_true rfl)) dX5_worthOfAll_15 ⟨Nat.le_of_ble_eq_true rfl, Nat.le_of_ble_eq_true rfl⟩) hS (fun q _ h => hFc q h) hFc (fun r _ t H locs ht hvm hw hB hz1 hk1 hS => ?_)
        try dsimp only at hw
        subst hw
        rw [ht] at hB
        obtain ⟨hP, hD⟩ := rw_join ([(m0, .inr (5, [.int mfa, .int mho, .ref m2, .ref m3, .ref m4, .int mra, .int mrh, .ref m7, .ref m8, .ref m9, .ref m10, .ref m11, .ref m12, .int mch, .int mfr, .int mfw, .int mrd, .ref m17, .ref m18, .ref m19, .ref m20, .ref m21, .ref m22, .ref m23, .int mtr])), (m2, .inl (cI, 6, .inl K)), (m3, .inl (cI, 6, .inl L)), (m4, .inl (cI, 6, .inl C))]) ([(m0, .inr (5, [.int mfa, .int mho, .ref m2, .ref m3, .ref m4, .int mra, .int mrh, .ref m7, .ref m8, .ref m9, .ref m10, .ref m11, .ref m12, .int mch, .int mfr, .int mfw, .int mrd, .ref m17, .ref m18, .ref m19, .ref m20, .ref m21, .ref m22, .ref m23, .int mtr])), (m2, .inl (cI, 6, .inl K)), (m3, .inl (cI, 6, .inl L)), (m4, .inl (cI, 6, .inl C))]) ([(m0, .inr (5, [.int mfa, .int mho, .ref m2, .ref m3, .ref m4, .int mra, .int mrh, .ref m7, .ref m8, .ref m9, .ref m10, .ref m11, .ref m12, .int mch, .int mfr, .int mfw, .int mrd, .ref m17, .ref m18, .ref m19, .ref m20, .ref m21, .ref m22, .ref m23, .int mtr])), (m2, .inl (cI, 6, .inl K)), (m3, .inl (cI, 6, .inl L)), (m4, .inl (cI, 6, .inl C))]) ([(m0, .inr (5, [.int mfa, .int mho, .ref m2, .ref m3, .ref m4, .int mra, .int mrh, .ref m7, .ref m8, .ref m9, .ref m10, .ref m11, .ref m12, .int mch, .int mfr, .int mfw, .int mrd, .ref m17, .ref m18, .ref m19, .ref m20, .ref m21, .ref m22, .ref m23, .int mtr])), (m2, .inl (cI, 6, .inl K)), (m3, .inl (cI, 6, .inl L)), (m4, .inl (cI, 6, .inl C))]) ([]) hP hD [0, 1, 2, 3] [] [m0, m2, m3, m4] 4 rfl rfl rfl rfl rfl (by decide) rfl rfl hk1 hB
        refine lv_iadd hx hb dX5_worthOfAll_18 ?_
        refine lv_istore_n (lv' := [(1, .int (v1 + (p5_worthOf K L C v2))), (2, .int v2), (0, .ref m0)]) hx hb dX5_worthOfAll_19 rfl hl (by decide) rfl (fun ls hl => ?_)
        refine lv_iinc (v := (v2 + 1)) (lv' := [(2, .int (v2 + 1)), (1, .int (v1 + (p5_worthOf K L C v2))), (0, .ref m0)]) hx hb dX5_worthOfAll_20 hl (k := 1) rfl rfl (by decide) rfl (fun ls hl => ?_)
        refine lv_goto (tgt := 4) hx hb dX5_worthOfAll_23 (by decide) ?_
        exact ih (v1 + (p5_worthOf K L C v2)) (v2 + 1) _ _ _ (up_s hu c_9) hP hD hS (lv_sub hl [0, 1, 2] rfl) (hE.trans (by rw [p5_worthOfAll_l4_s, if_neg c_9]))
  refine lv_iconst (v := 0) hx hb dX5_worthOfAll_0 (by decide) ?_
  refine lv_istore_n (lv' := [(1, .int 0), (0, .ref m0)]) hx hb dX5_worthOfAll_1 rfl hl (by decide) rfl (fun ls hl => ?_)
  refine lv_iconst (v := 0) hx hb dX5_worthOfAll_2 (by decide) ?_
  refine lv_istore_n (lv' := [(2, .int 0), (1, .int 0), (0, .ref m0)]) hx hb dX5_worthOfAll_3 rfl hl (by decide) rfl (fun ls hl => ?_)
  exact lp_4 7 0 0  _ _ _ (up_i 6 (by decide) hNb) hP hD hS (lv_sub hl [0, 1, 2] rfl) (rfl)

def p5_sumOf_l4 (mho : Int32) (L : Nat → Int32) (C : Nat → Int32) (i1 : Int32) : Nat → Int32 → Int32 → Int32
  | 0, _, _ => 0
  | n + 1, v2, v3 =>
    if mho ≤ v3 then
      v2
    else
      if i1 = 0 then
        p5_sumOf_l4 mho L C i1 n (v2 + (C v3.toNatClampNeg)) (v3 + 1)
      else
        p5_sumOf_l4 mho L C i1 n (v2 + (L v3.toNatClampNeg)) (v3 + 1)
theorem p5_sumOf_l4_s (mho : Int32) (L : Nat → Int32) (C : Nat → Int32) (i1 : Int32) (n : Nat) (v2 : Int32) (v3 : Int32) : p5_sumOf_l4 mho L C i1 (n + 1) v2 v3 =
    (if mho ≤ v3 then
      v2
    else
      if i1 = 0 then
        p5_sumOf_l4 mho L C i1 n (v2 + (C v3.toNatClampNeg)) (v3 + 1)
      else
        p5_sumOf_l4 mho L C i1 n (v2 + (L v3.toNatClampNeg)) (v3 + 1)) := rfl
def p5_sumOf (mho : Int32) (L : Nat → Int32) (C : Nat → Int32) (i1 : Int32) : Int32 :=
  p5_sumOf_l4 mho L C i1 7 0 0
abbrev rmX5_sumOf : Room := { frames := 0, cells := 0, slots := 0, locals := 0 }
abbrev QX5_sumOf (dC : Nat → ClassId) (dI : Nat → Nat → Nat) (A : Nat → Prop) (cI : ClassId) (m0 : Nat) (m2 : Nat) (m3 : Nat) (m4 : Nat) (m7 : Nat) (m8 : Nat) (m9 : Nat) (m10 : Nat) (m11 : Nat) (m12 : Nat) (m17 : Nat) (m18 : Nat) (m19 : Nat) (m20 : Nat) (m21 : Nat) (m22 : Nat) (m23 : Nat) (mfa : Int32) (mho : Int32) (mra : Int32) (mrh : Int32) (mch : Int32) (mfr : Int32) (mfw : Int32) (mrd : Int32) (mtr : Int32) (L : Nat → Int32) (C : Nat → Int32) (i1 : Int32) : Array Value → State → Outcome → State → Prop := va_Qi (fun (r : Int32) (_ : Unit) => r = p5_sumOf mho L C i1) (fun (_ : Unit) (t : State) => va_P (dC, dI) vwCl ([(m0, .inr (5, [.int mfa, .int mho, .ref m2, .ref m3, .ref m4, .int mra, .int mrh, .ref m7, .ref m8, .ref m9, .ref m10, .ref m11, .ref m12, .int mch, .int mfr, .int mfw, .int mrd, .ref m17, .ref m18, .ref m19, .ref m20, .ref m21, .ref m22, .ref m23, .int mtr])), (m3, .inl (cI, 6, .inl L)), (m4, .inl (cI, 6, .inl C))]) t.heap) A
set_option maxHeartbeats 4000000 in
set_option maxRecDepth 100000 in
theorem ctX5_sumOf (l : Launch) (dC : Nat → ClassId) (dI : Nat → Nat → Nat) (cI : ClassId) (m0 : Nat) (m2 : Nat) (m3 : Nat) (m4 : Nat) (m7 : Nat) (m8 : Nat) (m9 : Nat) (m10 : Nat) (m11 : Nat) (m12 : Nat) (m17 : Nat) (m18 : Nat) (m19 : Nat) (m20 : Nat) (m21 : Nat) (m22 : Nat) (m23 : Nat) (sz : Nat) (mfa : Int32) (mho : Int32) (mra : Int32) (mrh : Int32) (mch : Int32) (mfr : Int32) (mfw : Int32) (mrd : Int32) (mtr : Int32) (L : Nat → Int32) (C : Nat → Int32) (i1 : Int32) (hNb : mho.toInt ≤ 6) : Met l yX5_sumOf wsX5_sumOf rmX5_sumOf (va_Pc [.ref m0, .int i1] (cP dC dI [(cI, .int)] ([(m0, .inr (5, [.int mfa, .int mho, .ref m2, .ref m3, .ref m4, .int mra, .int mrh, .ref m7, .ref m8, .ref m9, .ref m10, .ref m11, .ref m12, .int mch, .int mfr, .int mfw, .int mrd, .ref m17, .ref m18, .ref m19, .ref m20, .ref m21, .ref m22, .ref m23, .int mtr])), (m3, .inl (cI, 6, .inl L)), (m4, .inl (cI, 6, .inl C))]) sz)) (QX5_sumOf dC dI (va_A ([(m0, .inr (5, [.int mfa, .int mho, .ref m2, .ref m3, .ref m4, .int mra, .int mrh, .ref m7, .ref m8, .ref m9, .ref m10, .ref m11, .ref m12, .int mch, .int mfr, .int mfw, .int mrd, .ref m17, .ref m18, .ref m19, .ref m20, .ref m21, .ref m22, .ref m23, .int mtr])), (m3, .inl (cI, 6, .inl L)), (m4, .inl (cI, 6, .inl C))]) sz) cI m0 m2 m3 m4 m7 m8 m9 m10 m11 m12 m17 m18 m19 m20 m21 m22 m23 mfa mho mra mrh mch mfr mfw mrd mtr L C i1) 0 0 (va_A ([(m0, .inr (5, [.int mfa, .int mho, .ref m2, .ref m3, .ref m4, .int mra, .int mrh, .ref m7, .ref m8, .ref m9, .ref m10, .ref m11, .ref m12, .int mch, .int mfr, .int mfw, .int mrd, .ref m17, .ref m18, .ref m19, .ref m20, .ref m21, .ref m22, .ref m23, .int mtr])), (m3, .inl (cI, 6, .inl L)), (m4, .inl (cI, 6, .inl C))]) sz) := by
  refine Met.ofW (cc := cX5_sumOf) (maxL := 4) (ret := (some .int)) (by decide) rfl ?_
  intro p e s m args below meth c s₁ B hml hv
  obtain ⟨rfl, hsz, hP, hK, hD0, hN⟩ := hv
  have hx := B.exec
  have hb := B.bytes
  have hr := B.returns
  have hts := atoms_spec (ws := wsX5_sumOf) B.pre
  have hown : s.vm.findClass RX5 = some m.cls := findClass_of_methodNamed B.named
  have hlocks := B.notSynchronized
  subst hsz
  have hD := hD0.self (sz := s.heap.size)
  generalize hAe : va_A ([(m0, .inr (5, [.int mfa, .int mho, .ref m2, .ref m3, .ref m4, .int mra, .int mrh, .ref m7, .ref m8, .ref m9, .ref m10, .ref m11, .ref m12, .int mch, .int mfr, .int mfw, .int mrd, .ref m17, .ref m18, .ref m19, .ref m20, .ref m21, .ref m22, .ref m23, .int mtr])), (m3, .inl (cI, 6, .inl L)), (m4, .inl (cI, 6, .inl C))]) s.heap.size = A at hD ⊢
  have hA : ∀ q : Nat, s.heap.size ≤ q → A q := fun q h => by rw [← hAe]; exact Or.inr h
  have hS : va_S A s.heap s.heap [] := va_S.rf
  have hP : va_P (dC, dI) vwCl ([(m0, .inr (5, [.int mfa, .int mho, .ref m2, .ref m3, .ref m4, .int mra, .int mrh, .ref m7, .ref m8, .ref m9, .ref m10, .ref m11, .ref m12, .int mch, .int mfr, .int mfw, .int mrd, .ref m17, .ref m18, .ref m19, .ref m20, .ref m21, .ref m22, .ref m23, .int mtr])), (m3, .inl (cI, 6, .inl L)), (m4, .inl (cI, 6, .inl C))]) s.heap := hP
  have hin5 : ∀ w ∈ wsX50, w ∈ wsX5_sumOf := by decide +kernel
  have kf_13 := hts (.fieldLink RX5 13 "RicherChangeModel" "landOf" "[I") (by decide +kernel)
  have kf_16 := hts (.fieldLink RX5 16 "RicherChangeModel" "coinOf" "[I") (by decide +kernel)
  have kf_68 := hts (.fieldLink RX5 68 "RicherChangeModel" "houses" "I") (by decide +kernel)
  have hl := lv_entry ([.ref m0, .int i1]) (n := 4) (Nat.le_of_ble_eq_true rfl)
  rw [lg_entry_eq]
  generalize (lg_sl ([.ref m0, .int i1]) ++ List.replicate (4 - (lg_sl ([.ref m0, .int i1])).length) Slot.unset).toArray = ls at hl ⊢
  have hl : lv_has ls 4 [(0, .ref m0), (1, .int i1)] := hl
  have lp_4 : ∀ (n : Nat) (v2 : Int32) (v3 : Int32) (H : Heap) (locs : List Loc) (ls : Array Slot), (up v3 mho n) → va_P (dC, dI) vwCl ([(m0, .inr (5, [.int mfa, .int mho, .ref m2, .ref m3, .ref m4, .int mra, .int mrh, .ref m7, .ref m8, .ref m9, .ref m10, .ref m11, .ref m12, .int mch, .int mfr, .int mfw, .int mrd, .ref m17, .ref m18, .ref m19, .ref m20, .ref m21, .ref m22, .ref m23, .int mtr])), (m3, .inl (cI, 6, .inl L)), (m4, .inl (cI, 6, .inl C))]) H → va_D A ([(m0, .inr (5, [.int mfa, .int mho, .ref m2, .ref m3, .ref m4, .int mra, .int mrh, .ref m7, .ref m8, .ref m9, .ref m10, .ref m11, .ref m12, .int mch, .int mfr, .int mfw, .int mrd, .ref m17, .ref m18, .ref m19, .ref m20, .ref m21, .ref m22, .ref m23, .int mtr])), (m3, .inl (cI, 6, .inl L)), (m4, .inl (cI, 6, .inl C))]) → va_S A s.heap H locs → lv_has ls 4 [(3, .int v3), (2, .int v2), (0, .ref m0), (1, .int i1)] → p5_sumOf mho L C i1 = p5_sumOf_l4 mho L C i1 n v2 v3 → W p l e (headSpec wsX5_sumOf rmX5_sumOf).room s m [.ref m0, .int i1].toArray below meth c H locs 0 0 (MQ below (QX5_sumOf dC dI A cI m0 m2 m3 m4 m7 m8 m9 m10 m11 m12 m17 m18 m19 m20 m21 m22 m23 mfa mho mra mrh mch mfr mfw mrd mtr L C i1) [.ref m0, .int i1].toArray s 0 0 A) (F0 m 4 ls []) := by
    intro n
    induction n with
    | zero => intro v2 v3 _ _ _ hu; exact absurd hu up_no
    | succ n ih =>
      intro v2 v3 H locs ls hu hP hD hS hl hE
      refine lv_iload_n hx hb dX5_sumOf_4 rfl (lv_at hl 0 rfl) ?_
      refine lv_aload_n hx hb dX5_sumOf_5 rfl (lv_at hl 2 rfl) ?_
      refine va_get (D := (dC, dI)) (ci := 5) (v := .int mho) (C := RX5) (T := TX5) (N := 25) hx hb hts hin5 hown hK hP 0 rfl rfl 1 (by decide) kf_68 (fun _ h9 => h9) rfl dX5_sumOf_6 ?_
      refine lv_icmp_ge (tgt := 40) hx hb dX5_sumOf_9 (by decide) (fun c_9 => ?_) (fun c_9 => ?_)
      · skip
        refine lv_iload_n hx hb dX5_sumOf_40 rfl (lv_at hl 1 rfl) ?_
        have hE9 : p5_sumOf mho L C i1 = v2 := hE.trans (by rw [p5_sumOf_l4_s, if_pos c_9])
        exact W.iret (v := v2) hx hb hr (fun t ht hW => ⟨⟨_, (), rfl, by rw [hE9], by show va_P (dC, dI) vwCl _ t.heap; rw [ht]; exact hP⟩, hS.F ht⟩) hS.2.2 dX5_sumOf_41
      · skip
        have j3 : vp_in v3 6 := up_in 6 hu c_9 hNb
        refine lv_iload_n hx hb dX5_sumOf_12 rfl (lv_at hl 1 rfl) ?_
        refine lv_iload_n hx hb dX5_sumOf_13 rfl (lv_at hl 3 rfl) ?_
        refine lv_if_eq (tgt := 26) hx hb dX5_sumOf_14 (by decide) (fun c_14 => ?_) (fun c_14 => ?_)
        · skip
          refine lv_aload_n hx hb dX5_sumOf_26 rfl (lv_at hl 2 rfl) ?_
          refine va_get (D := (dC, dI)) (ci := 5) (v := .ref m4) (C := RX5) (T := TX5) (N := 25) hx hb hts hin5 hown hK hP 0 rfl rfl 4 (by decide) kf_16 (fun _ h9 => h9) rfl dX5_sumOf_27 ?_
          refine lv_iload_n hx hb dX5_sumOf_30 rfl (lv_at hl 0 rfl) ?_
          refine va_iald hx hb hK hP 2 0 rfl rfl (by assumption) dX5_sumOf_31 ?_
          refine lv_iadd hx hb dX5_sumOf_32 ?_
          refine lv_istore_n (lv' := [(2, .int (v2 + (C v3.toNatClampNeg))), (3, .int v3), (0, .ref m0), (1, .int i1)]) hx hb dX5_sumOf_33 rfl hl (by decide) rfl (fun ls hl => ?_)
          refine lv_iinc (v := (v3 + 1)) (lv' := [(3, .int (v3 + 1)), (2, .int (v2 + (C v3.toNatClampNeg))), (0, .ref m0), (1, .int i1)]) hx hb dX5_sumOf_34 hl (k := 1) rfl rfl (by decide) rfl (fun ls hl => ?_)
          refine lv_goto (tgt := 4) hx hb dX5_sumOf_37 (by decide) ?_
          exact ih (v2 + (C v3.toNatClampNeg)) (v3 + 1) _ _ _ (up_s hu c_9) hP hD hS (lv_sub hl [0, 1, 2, 3] rfl) (hE.trans (by rw [p5_sumOf_l4_s, if_neg c_9, if_pos c_14]))
        · skip
          refine lv_aload_n hx hb dX5_sumOf_17 rfl (lv_at hl 2 rfl) ?_
          refine va_get (D := (dC, dI)) (ci := 5) (v := .ref m3) (C := RX5) (T := TX5) (N := 25) hx hb hts hin5 hown hK hP 0 rfl rfl 3 (by decide) kf_13 (fun _ h9 => h9) rfl dX5_sumOf_18 ?_
          refine lv_iload_n hx hb dX5_sumOf_21 rfl (lv_at hl 0 rfl) ?_
          refine va_iald hx hb hK hP 1 0 rfl rfl (by assumption) dX5_sumOf_22 ?_
          refine lv_goto (tgt := 32) hx hb dX5_sumOf_23 (by decide) ?_
          refine lv_iadd hx hb dX5_sumOf_32 ?_
          refine lv_istore_n (lv' := [(2, .int (v2 + (L v3.toNatClampNeg))), (3, .int v3), (0, .ref m0), (1, .int i1)]) hx hb dX5_sumOf_33 rfl hl (by decide) rfl (fun ls hl => ?_)
          refine lv_iinc (v := (v3 + 1)) (lv' := [(3, .int (v3 + 1)), (2, .int (v2 + (L v3.toNatClampNeg))), (0, .ref m0), (1, .int i1)]) hx hb dX5_sumOf_34 hl (k := 1) rfl rfl (by decide) rfl (fun ls hl => ?_)
          refine lv_goto (tgt := 4) hx hb dX5_sumOf_37 (by decide) ?_
          exact ih (v2 + (L v3.toNatClampNeg)) (v3 + 1) _ _ _ (up_s hu c_9) hP hD hS (lv_sub hl [0, 1, 2, 3] rfl) (hE.trans (by rw [p5_sumOf_l4_s, if_neg c_9, if_neg c_14]))
  refine lv_iconst (v := 0) hx hb dX5_sumOf_0 (by decide) ?_
  refine lv_istore_n (lv' := [(2, .int 0), (0, .ref m0), (1, .int i1)]) hx hb dX5_sumOf_1 rfl hl (by decide) rfl (fun ls hl => ?_)
  refine lv_iconst (v := 0) hx hb dX5_sumOf_2 (by decide) ?_
  refine lv_istore_n (lv' := [(3, .int 0), (2, .int 0), (0, .ref m0), (1, .int i1)]) hx hb dX5_sumOf_3 rfl hl (by decide) rfl (fun ls hl => ?_)
  exact lp_4 7 0 0  _ _ _ (up_i 6 (by decide) hNb) hP hD hS (lv_sub hl [0, 1, 2, 3] rfl) (rfl)

def p5_isPointedAt_l5 (mho : Int32) (K : Nat → Int32) (L : Nat → Int32) (C : Nat → Int32) (i1 : Int32) (i2 : Int32) : Nat → Int32 → Int32 → Int32
  | 0, _, _ => 0
  | n + 1, v3, v4 =>
    if mho ≤ v4 then
      v3
    else
      if v3 = 0 then
        if v4 = i1 then
          p5_isPointedAt_l5 mho K L C i1 i2 n 0 (v4 + 1)
        else
          if (p5_choiceOf mho K L C v4 i2) = i1 then
            p5_isPointedAt_l5 mho K L C i1 i2 n 1 (v4 + 1)
          else
            p5_isPointedAt_l5 mho K L C i1 i2 n 0 (v4 + 1)
      else
        p5_isPointedAt_l5 mho K L C i1 i2 n 1 (v4 + 1)
theorem p5_isPointedAt_l5_s (mho : Int32) (K : Nat → Int32) (L : Nat → Int32) (C : Nat → Int32) (i1 : Int32) (i2 : Int32) (n : Nat) (v3 : Int32) (v4 : Int32) : p5_isPointedAt_l5 mho K L C i1 i2 (n + 1) v3 v4 =
    (if mho ≤ v4 then
      v3
    else
      if v3 = 0 then
        if v4 = i1 then
          p5_isPointedAt_l5 mho K L C i1 i2 n 0 (v4 + 1)
        else
          if (p5_choiceOf mho K L C v4 i2) = i1 then
            p5_isPointedAt_l5 mho K L C i1 i2 n 1 (v4 + 1)
          else
            p5_isPointedAt_l5 mho K L C i1 i2 n 0 (v4 + 1)
      else
        p5_isPointedAt_l5 mho K L C i1 i2 n 1 (v4 + 1)) := rfl
def p5_isPointedAt (mho : Int32) (K : Nat → Int32) (L : Nat → Int32) (C : Nat → Int32) (i1 : Int32) (i2 : Int32) : Int32 :=
  p5_isPointedAt_l5 mho K L C i1 i2 7 0 0
abbrev rmX5_isPointedAt : Room := { frames := 5, cells := 0, slots := 0, locals := 118 }
abbrev QX5_isPointedAt (dC : Nat → ClassId) (dI : Nat → Nat → Nat) (A : Nat → Prop) (cI : ClassId) (m0 : Nat) (m2 : Nat) (m3 : Nat) (m4 : Nat) (m7 : Nat) (m8 : Nat) (m9 : Nat) (m10 : Nat) (m11 : Nat) (m12 : Nat) (m17 : Nat) (m18 : Nat) (m19 : Nat) (m20 : Nat) (m21 : Nat) (m22 : Nat) (m23 : Nat) (mfa : Int32) (mho : Int32) (mra : Int32) (mrh : Int32) (mch : Int32) (mfr : Int32) (mfw : Int32) (mrd : Int32) (mtr : Int32) (K : Nat → Int32) (L : Nat → Int32) (C : Nat → Int32) (i1 : Int32) (i2 : Int32) : Array Value → State → Outcome → State → Prop := va_Qi (fun (r : Int32) (_ : Unit) => r = p5_isPointedAt mho K L C i1 i2) (fun (_ : Unit) (t : State) => va_P (dC, dI) vwCl ([(m0, .inr (5, [.int mfa, .int mho, .ref m2, .ref m3, .ref m4, .int mra, .int mrh, .ref m7, .ref m8, .ref m9, .ref m10, .ref m11, .ref m12, .int mch, .int mfr, .int mfw, .int mrd, .ref m17, .ref m18, .ref m19, .ref m20, .ref m21, .ref m22, .ref m23, .int mtr])), (m2, .inl (cI, 6, .inl K)), (m3, .inl (cI, 6, .inl L)), (m4, .inl (cI, 6, .inl C))]) t.heap) A
set_option maxHeartbeats 4000000 in
set_option maxRecDepth 100000 in
theorem ctX5_isPointedAt (l : Launch) (dC : Nat → ClassId) (dI : Nat → Nat → Nat) (cI : ClassId) (m0 : Nat) (m2 : Nat) (m3 : Nat) (m4 : Nat) (m7 : Nat) (m8 : Nat) (m9 : Nat) (m10 : Nat) (m11 : Nat) (m12 : Nat) (m17 : Nat) (m18 : Nat) (m19 : Nat) (m20 : Nat) (m21 : Nat) (m22 : Nat) (m23 : Nat) (sz : Nat) (mfa : Int32) (mho : Int32) (mra : Int32) (mrh : Int32) (mch : Int32) (mfr : Int32) (mfw : Int32) (mrd : Int32) (mtr : Int32) (K : Nat → Int32) (L : Nat → Int32) (C : Nat → Int32) (i1 : Int32) (i2 : Int32) (hNb : mho.toInt ≤ 6) : Met l yX5_isPointedAt wsX5_isPointedAt rmX5_isPointedAt (va_Pc [.ref m0, .int i1, .int i2] (cP dC dI [(cI, .int)] ([(m0, .inr (5, [.int mfa, .int mho, .ref m2, .ref m3, .ref m4, .int mra, .int mrh, .ref m7, .ref m8, .ref m9, .ref m10, .ref m11, .ref m12, .int mch, .int mfr, .int mfw, .int mrd, .ref m17, .ref m18, .ref m19, .ref m20, .ref m21, .ref m22, .ref m23, .int mtr])), (m2, .inl (cI, 6, .inl K)), (m3, .inl (cI, 6, .inl L)), (m4, .inl (cI, 6, .inl C))]) sz)) (QX5_isPointedAt dC dI (va_A ([(m0, .inr (5, [.int mfa, .int mho, .ref m2, .ref m3, .ref m4, .int mra, .int mrh, .ref m7, .ref m8, .ref m9, .ref m10, .ref m11, .ref m12, .int mch, .int mfr, .int mfw, .int mrd, .ref m17, .ref m18, .ref m19, .ref m20, .ref m21, .ref m22, .ref m23, .int mtr])), (m2, .inl (cI, 6, .inl K)), (m3, .inl (cI, 6, .inl L)), (m4, .inl (cI, 6, .inl C))]) sz) cI m0 m2 m3 m4 m7 m8 m9 m10 m11 m12 m17 m18 m19 m20 m21 m22 m23 mfa mho mra mrh mch mfr mfw mrd mtr K L C i1 i2) 0 0 (va_A ([(m0, .inr (5, [.int mfa, .int mho, .ref m2, .ref m3, .ref m4, .int mra, .int mrh, .ref m7, .ref m8, .ref m9, .ref m10, .ref m11, .ref m12, .int mch, .int mfr, .int mfw, .int mrd, .ref m17, .ref m18, .ref m19, .ref m20, .ref m21, .ref m22, .ref m23, .int mtr])), (m2, .inl (cI, 6, .inl K)), (m3, .inl (cI, 6, .inl L)), (m4, .inl (cI, 6, .inl C))]) sz) := by
  refine Met.ofW (cc := cX5_isPointedAt) (maxL := 5) (ret := (some .boolean)) (by decide) rfl ?_
  intro p e s m args below meth c s₁ B hml hv
  obtain ⟨rfl, hsz, hP, hK, hD0, hN⟩ := hv
  have hx := B.exec
  have hb := B.bytes
  have hr := B.returns
  have hts := atoms_spec (ws := wsX5_isPointedAt) B.pre
  have hown : s.vm.findClass RX5 = some m.cls := findClass_of_methodNamed B.named
  have hlocks := B.notSynchronized
  subst hsz
  have hD := hD0.self (sz := s.heap.size)
  generalize hAe : va_A ([(m0, .inr (5, [.int mfa, .int mho, .ref m2, .ref m3, .ref m4, .int mra, .int mrh, .ref m7, .ref m8, .ref m9, .ref m10, .ref m11, .ref m12, .int mch, .int mfr, .int mfw, .int mrd, .ref m17, .ref m18, .ref m19, .ref m20, .ref m21, .ref m22, .ref m23, .int mtr])), (m2, .inl (cI, 6, .inl K)), (m3, .inl (cI, 6, .inl L)), (m4, .inl (cI, 6, .inl C))]) s.heap.size = A at hD ⊢
  have hA : ∀ q : Nat, s.heap.size ≤ q → A q := fun q h => by rw [← hAe]; exact Or.inr h
  have hS : va_S A s.heap s.heap [] := va_S.rf
  have hP : va_P (dC, dI) vwCl ([(m0, .inr (5, [.int mfa, .int mho, .ref m2, .ref m3, .ref m4, .int mra, .int mrh, .ref m7, .ref m8, .ref m9, .ref m10, .ref m11, .ref m12, .int mch, .int mfr, .int mfw, .int mrd, .ref m17, .ref m18, .ref m19, .ref m20, .ref m21, .ref m22, .ref m23, .int mtr])), (m2, .inl (cI, 6, .inl K)), (m3, .inl (cI, 6, .inl L)), (m4, .inl (cI, 6, .inl C))]) s.heap := hP
  have hin5 : ∀ w ∈ wsX50, w ∈ wsX5_isPointedAt := by decide +kernel
  have kf_68 := hts (.fieldLink RX5 68 "RicherChangeModel" "houses" "I") (by decide +kernel)
  have hl := lv_entry ([.ref m0, .int i1, .int i2]) (n := 5) (Nat.le_of_ble_eq_true rfl)
  rw [lg_entry_eq]
  generalize (lg_sl ([.ref m0, .int i1, .int i2]) ++ List.replicate (5 - (lg_sl ([.ref m0, .int i1, .int i2])).length) Slot.unset).toArray = ls at hl ⊢
  have hl : lv_has ls 5 [(0, .ref m0), (1, .int i1), (2, .int i2)] := hl
  have lp_5 : ∀ (n : Nat) (v3 : Int32) (v4 : Int32) (H : Heap) (locs : List Loc) (ls : Array Slot), (up v4 mho n) → (v3 = 0 ∨ v3 = 1) → va_P (dC, dI) vwCl ([(m0, .inr (5, [.int mfa, .int mho, .ref m2, .ref m3, .ref m4, .int mra, .int mrh, .ref m7, .ref m8, .ref m9, .ref m10, .ref m11, .ref m12, .int mch, .int mfr, .int mfw, .int mrd, .ref m17, .ref m18, .ref m19, .ref m20, .ref m21, .ref m22, .ref m23, .int mtr])), (m2, .inl (cI, 6, .inl K)), (m3, .inl (cI, 6, .inl L)), (m4, .inl (cI, 6, .inl C))]) H → va_D A ([(m0, .inr (5, [.int mfa, .int mho, .ref m2, .ref m3, .ref m4, .int mra, .int mrh, .ref m7, .ref m8, .ref m9, .ref m10, .ref m11, .ref m12, .int mch, .int mfr, .int mfw, .int mrd, .ref m17, .ref m18, .ref m19, .ref m20, .ref m21, .ref m22, .ref m23, .int mtr])), (m2, .inl (cI, 6, .inl K)), (m3, .inl (cI, 6, .inl L)), (m4, .inl (cI, 6, .inl C))]) → va_S A s.heap H locs → lv_has ls 5 [(4, .int v4), (3, .int v3), (0, .ref m0), (1, .int i1), (2, .int i2)] → p5_isPointedAt mho K L C i1 i2 = p5_isPointedAt_l5 mho K L C i1 i2 n v3 v4 → W p l e (headSpec wsX5_isPointedAt rmX5_isPointedAt).room s m [.ref m0, .int i1, .int i2].toArray below meth c H locs 0 0 (MQ below (QX5_isPointedAt dC dI A cI m0 m2 m3 m4 m7 m8 m9 m10 m11 m12 m17 m18 m19 m20 m21 m22 m23 mfa mho mra mrh mch mfr mfw mrd mtr K L C i1 i2) [.ref m0, .int i1, .int i2].toArray s 0 0 A) (F0 m 5 ls []) := by
    intro n
    induction n with
    | zero => intro v3 v4 _ _ _ hu hb01; exact absurd hu up_no
    | succ n ih =>
      intro v3 v4 H locs ls hu hb01 hP hD hS hl hE
      refine lv_iload hx hb dX5_isPointedAt_5 (lv_at hl 0 rfl) ?_
      refine lv_aload_n hx hb dX5_isPointedAt_7 rfl (lv_at hl 2 rfl) ?_
      refine va_get (D := (dC, dI)) (ci := 5) (v := .int mho) (C := RX5) (T := TX5) (N := 25) hx hb hts hin5 hown hK hP 0 rfl rfl 1 (by decide) kf_68 (fun _ h9 => h9) rfl dX5_isPointedAt_8 ?_
      refine lv_icmp_ge (tgt := 47) hx hb dX5_isPointedAt_11 (by decide) (fun c_11 => ?_) (fun c_11 => ?_)
      · skip
        refine lv_iload_n hx hb dX5_isPointedAt_47 rfl (lv_at hl 1 rfl) ?_
        have hE9 : p5_isPointedAt mho K L C i1 i2 = v3 := hE.trans (by rw [p5_isPointedAt_l5_s, if_pos c_11])
        exact W.zret (v := v3) hx hb hr (nar_bool (by assumption)) (fun t ht hW => ⟨⟨_, (), rfl, by rw [hE9], by show va_P (dC, dI) vwCl _ t.heap; rw [ht]; exact hP⟩, hS.F ht⟩) hS.2.2 dX5_isPointedAt_48
      · skip
        have j4 : vp_in v4 6 := up_in 6 hu c_11 hNb
        refine lv_iload_n hx hb dX5_isPointedAt_14 rfl (lv_at hl 1 rfl) ?_
        refine lv_if_ne (tgt := 35) hx hb dX5_isPointedAt_15 (by decide) (fun c_15 => ?_) (fun c_15 => ?_)
        · skip
          refine lv_iconst (v := 1) hx hb dX5_isPointedAt_35 (by decide) ?_
          refine lv_goto (tgt := 40) hx hb dX5_isPointedAt_36 (by decide) ?_
          refine lv_istore_n (lv' := [(3, .int 1), (4, .int v4), (0, .ref m0), (1, .int i1), (2, .int i2)]) hx hb dX5_isPointedAt_40 rfl hl (by decide) rfl (fun ls hl => ?_)
          refine lv_iinc (v := (v4 + 1)) (lv' := [(4, .int (v4 + 1)), (3, .int 1), (0, .ref m0), (1, .int i1), (2, .int i2)]) hx hb dX5_isPointedAt_41 hl (k := 1) rfl rfl (by decide) rfl (fun ls hl => ?_)
          refine lv_goto (tgt := 5) hx hb dX5_isPointedAt_44 (by decide) ?_
          exact ih 1 (v4 + 1) _ _ _ (up_s hu c_11) (by first | exact Or.inl rfl | exact Or.inr rfl) hP hD hS (lv_sub hl [0, 1, 2, 3, 4] rfl) (hE.trans (by rw [p5_isPointedAt_l5_s, if_neg c_11, if_neg c_15]))
        · skip
          refine lv_iload hx hb dX5_isPointedAt_18 (lv_at hl 0 rfl) ?_
          refine lv_iload_n hx hb dX5_isPointedAt_20 rfl (lv_at hl 3 rfl) ?_
          refine lv_icmp_eq (tgt := 39) hx hb dX5_isPointedAt_21 (by decide) (fun c_21 => ?_) (fun c_21 => ?_)
          · skip
            refine lv_iconst (v := 0) hx hb dX5_isPointedAt_39 (by decide) ?_
            refine lv_istore_n (lv' := [(3, .int 0), (4, .int v4), (0, .ref m0), (1, .int i1), (2, .int i2)]) hx hb dX5_isPointedAt_40 rfl hl (by decide) rfl (fun ls hl => ?_)
            refine lv_iinc (v := (v4 + 1)) (lv' := [(4, .int (v4 + 1)), (3, .int 0), (0, .ref m0), (1, .int i1), (2, .int i2)]) hx hb dX5_isPointedAt_41 hl (k := 1) rfl rfl (by decide) rfl (fun ls hl => ?_)
            refine lv_goto (tgt := 5) hx hb dX5_isPointedAt_44 (by decide) ?_
            exact ih 0 (v4 + 1) _ _ _ (up_s hu c_11) (by first | exact Or.inl rfl | exact Or.inr rfl) hP hD hS (lv_sub hl [0, 1, 2, 3, 4] rfl) (hE.trans (by rw [p5_isPointedAt_l5_s, if_neg c_11, if_pos c_15, if_pos c_21]))
          · skip
            refine lv_aload_n hx hb dX5_isPointedAt_24 rfl (lv_at hl 2 rfl) ?_
            refine lv_iload hx hb dX5_isPointedAt_25 (lv_at hl 0 rfl) ?_
            refine lv_iload_n hx hb dX5_isPointedAt_27 rfl (lv_at hl 4 rfl) ?_
            have hPc := hP.sub (ws' := [(m0, .inr (5, [.int mfa, .int mho, .ref m2, .ref m3, .ref m4, .int mra, .int mrh, .ref m7, .ref m8, .ref m9, .ref m10, .ref m11, .ref m12, .int mch, .int mfr, .int mfw, .int mrd, .ref m17, .ref m18, .ref m19, .ref m20, .ref m21, .ref m22, .ref m23, .int mtr])), (m2, .inl (cI, 6, .inl K)), (m3, .inl (cI, 6, .inl L)), (m4, .inl (cI, 6, .inl C))]) [0, 1, 2, 3] rfl
            have hDc := hD.sub (ws' := [(m0, .inr (5, [.int mfa, .int mho, .ref m2, .ref m3, .ref m4, .int mra, .int mrh, .ref m7, .ref m8, .ref m9, .ref m10, .ref m11, .ref m12, .int mch, .int mfr, .int mfw, .int mrd, .ref m17, .ref m18, .ref m19, .ref m20, .ref m21, .ref m22, .ref m23, .int mtr])), (m2, .inl (cI, 6, .inl K)), (m3, .inl (cI, 6, .inl L)), (m4, .inl (cI, 6, .inl C))]) [0, 1, 2, 3] (by decide) rfl
            have hKc := hK.sub (tys' := [(cI, .int)]) [0] rfl
            have hFc := va_free (wc := [(m0, .inr (5, [.int mfa, .int mho, .ref m2, .ref m3, .ref m4, .int mra, .int mrh, .ref m7, .ref m8, .ref m9, .ref m10, .ref m11, .ref m12, .int mch, .int mfr, .int mfw, .int mrd, .ref m17, .ref m18, .ref m19, .ref m20, .ref m21, .ref m22, .ref m23, .int mtr])), (m2, .inl (cI, 6, .inl K)), (m3, .inl (cI, 6, .inl L)), (m4, .inl (cI, 6, .inl C))]) hD hS hA [0, 1, 2, 3] rfl
            refine va_calli (va_runV (As := [.int v4, .int i2]) (rest := []) ⟨hx, hb, hml, hown, hts⟩ (ctX5_choiceOf l dC dI cI m0 m2 m3 m4 m7 m8 m9 m10 m11 m12 m17 m18 m19 m20 m21 m22 m23 H.size mfa mho mra mrh mch mfr mfw mrd mtr K L C v4 i2 (by assumption) (by assumption)) (cwV 2 hts gX5_isPointedAt_X5_choiceOf rfl rfl rfl (by decide +kernel) ⟨Nat.le_of_ble_eq_true rfl, Nat.le_of_ble_eq_true rfl⟩) (pre_V hKc hN hPc hDc (RX5, TX5, 25) 5 0 rfl rfl) rfl rfl hl.1 rfl (lv_room (Nat.le_of_ble_eq_true rfl)) dX5_isPointedAt_28 ⟨Nat.le_of_ble_eq_true rfl, Nat.le_of_ble_eq_true rfl⟩) hS (fun q _ h => hFc q h) hFc (fun r _ t H locs ht hvm hw hB hz1 hk1 hS => ?_)
            try dsimp only at hw
            subst hw
            rw [ht] at hB
            obtain ⟨hP, hD⟩ := rw_join ([(m0, .inr (5, [.int mfa, .int mho, .ref m2, .ref m3, .ref m4, .int mra, .int mrh, .ref m7, .ref m8, .ref m9, .ref m10, .ref m11, .ref m12, .int mch, .int mfr, .int mfw, .int mrd, .ref m17, .ref m18, .ref m19, .ref m20, .ref m21, .ref m22, .ref m23, .int mtr])), (m2, .inl (cI, 6, .inl K)), (m3, .inl (cI, 6, .inl L)), (m4, .inl (cI, 6, .inl C))]) ([(m0, .inr (5, [.int mfa, .int mho, .ref m2, .ref m3, .ref m4, .int mra, .int mrh, .ref m7, .ref m8, .ref m9, .ref m10, .ref m11, .ref m12, .int mch, .int mfr, .int mfw, .int mrd, .ref m17, .ref m18, .ref m19, .ref m20, .ref m21, .ref m22, .ref m23, .int mtr])), (m2, .inl (cI, 6, .inl K)), (m3, .inl (cI, 6, .inl L)), (m4, .inl (cI, 6, .inl C))]) ([(m0, .inr (5, [.int mfa, .int mho, .ref m2, .ref m3, .ref m4, .int mra, .int mrh, .ref m7, .ref m8, .ref m9, .ref m10, .ref m11, .ref m12, .int mch, .int mfr, .int mfw, .int mrd, .ref m17, .ref m18, .ref m19, .ref m20, .ref m21, .ref m22, .ref m23, .int mtr])), (m2, .inl (cI, 6, .inl K)), (m3, .inl (cI, 6, .inl L)), (m4, .inl (cI, 6, .inl C))]) ([(m0, .inr (5, [.int mfa, .int mho, .ref m2, .ref m3, .ref m4, .int mra, .int mrh, .ref m7, .ref m8, .ref m9, .ref m10, .ref m11, .ref m12, .int mch, .int mfr, .int mfw, .int mrd, .ref m17, .ref m18, .ref m19, .ref m20, .ref m21, .ref m22, .ref m23, .int mtr])), (m2, .inl (cI, 6, .inl K)), (m3, .inl (cI, 6, .inl L)), (m4, .inl (cI, 6, .inl C))]) ([]) hP hD [0, 1, 2, 3] [] [m0, m2, m3, m4] 4 rfl rfl rfl rfl rfl (by decide) rfl rfl hk1 hB
            refine lv_iload_n hx hb dX5_isPointedAt_31 rfl (lv_at hl 3 rfl) ?_
            refine lv_icmp_ne (tgt := 39) hx hb dX5_isPointedAt_32 (by decide) (fun c_32 => ?_) (fun c_32 => ?_)
            · skip
              refine lv_iconst (v := 0) hx hb dX5_isPointedAt_39 (by decide) ?_
              refine lv_istore_n (lv' := [(3, .int 0), (4, .int v4), (0, .ref m0), (1, .int i1), (2, .int i2)]) hx hb dX5_isPointedAt_40 rfl hl (by decide) rfl (fun ls hl => ?_)
              refine lv_iinc (v := (v4 + 1)) (lv' := [(4, .int (v4 + 1)), (3, .int 0), (0, .ref m0), (1, .int i1), (2, .int i2)]) hx hb dX5_isPointedAt_41 hl (k := 1) rfl rfl (by decide) rfl (fun ls hl => ?_)
              refine lv_goto (tgt := 5) hx hb dX5_isPointedAt_44 (by decide) ?_
              exact ih 0 (v4 + 1) _ _ _ (up_s hu c_11) (by first | exact Or.inl rfl | exact Or.inr rfl) hP hD hS (lv_sub hl [0, 1, 2, 3, 4] rfl) (hE.trans (by rw [p5_isPointedAt_l5_s, if_neg c_11, if_pos c_15, if_neg c_21, if_neg c_32]))
            · skip
              refine lv_iconst (v := 1) hx hb dX5_isPointedAt_35 (by decide) ?_
              refine lv_goto (tgt := 40) hx hb dX5_isPointedAt_36 (by decide) ?_
              refine lv_istore_n (lv' := [(3, .int 1), (4, .int v4), (0, .ref m0), (1, .int i1), (2, .int i2)]) hx hb dX5_isPointedAt_40 rfl hl (by decide) rfl (fun ls hl => ?_)
              refine lv_iinc (v := (v4 + 1)) (lv' := [(4, .int (v4 + 1)), (3, .int 1), (0, .ref m0), (1, .int i1), (2, .int i2)]) hx hb dX5_isPointedAt_41 hl (k := 1) rfl rfl (by decide) rfl (fun ls hl => ?_)
              refine lv_goto (tgt := 5) hx hb dX5_isPointedAt_44 (by decide) ?_
              exact ih 1 (v4 + 1) _ _ _ (up_s hu c_11) (by first | exact Or.inl rfl | exact Or.inr rfl) hP hD hS (lv_sub hl [0, 1, 2, 3, 4] rfl) (hE.trans (by rw [p5_isPointedAt_l5_s, if_neg c_11, if_pos c_15, if_neg c_21, if_pos c_32]))
  refine lv_iconst (v := 0) hx hb dX5_isPointedAt_0 (by decide) ?_
  refine lv_istore_n (lv' := [(3, .int 0), (0, .ref m0), (1, .int i1), (2, .int i2)]) hx hb dX5_isPointedAt_1 rfl hl (by decide) rfl (fun ls hl => ?_)
  refine lv_iconst (v := 0) hx hb dX5_isPointedAt_2 (by decide) ?_
  refine lv_istore (lv' := [(4, .int 0), (3, .int 0), (0, .ref m0), (1, .int i1), (2, .int i2)]) hx hb dX5_isPointedAt_3 hl (by decide) rfl (fun ls hl => ?_)
  exact lp_5 7 0 0  _ _ _ (up_i 6 (by decide) hNb) (by first | exact Or.inl rfl | exact Or.inr rfl) hP hD hS (lv_sub hl [0, 1, 2, 3, 4] rfl) (rfl)

def p5_areSo_l4 (mho : Int32) (mrd : Int32) (K : Nat → Int32) (L : Nat → Int32) (C : Nat → Int32) (RO : Nat → Int32) (RB : Nat → Int32) (RT : Nat → Int32) : Nat → Int32 → Int32 → Int32
  | 0, _, _ => 0
  | n + 1, v1, v2 =>
    if mrd ≤ v2 then
      v1
    else
      if v1 = 0 then
        p5_areSo_l4 mho mrd K L C RO RB RT n 0 (v2 + 1)
      else
        if (p5_choiceOf mho K L C (RO v2.toNatClampNeg) (RB v2.toNatClampNeg)) = (RT v2.toNatClampNeg) then
          p5_areSo_l4 mho mrd K L C RO RB RT n 1 (v2 + 1)
        else
          p5_areSo_l4 mho mrd K L C RO RB RT n 0 (v2 + 1)
theorem p5_areSo_l4_s (mho : Int32) (mrd : Int32) (K : Nat → Int32) (L : Nat → Int32) (C : Nat → Int32) (RO : Nat → Int32) (RB : Nat → Int32) (RT : Nat → Int32) (n : Nat) (v1 : Int32) (v2 : Int32) : p5_areSo_l4 mho mrd K L C RO RB RT (n + 1) v1 v2 =
    (if mrd ≤ v2 then
      v1
    else
      if v1 = 0 then
        p5_areSo_l4 mho mrd K L C RO RB RT n 0 (v2 + 1)
      else
        if (p5_choiceOf mho K L C (RO v2.toNatClampNeg) (RB v2.toNatClampNeg)) = (RT v2.toNatClampNeg) then
          p5_areSo_l4 mho mrd K L C RO RB RT n 1 (v2 + 1)
        else
          p5_areSo_l4 mho mrd K L C RO RB RT n 0 (v2 + 1)) := rfl
def p5_areSo (mho : Int32) (mrd : Int32) (K : Nat → Int32) (L : Nat → Int32) (C : Nat → Int32) (RO : Nat → Int32) (RB : Nat → Int32) (RT : Nat → Int32) : Int32 :=
  p5_areSo_l4 mho mrd K L C RO RB RT 9 1 0
abbrev rmX5_areSo : Room := { frames := 5, cells := 0, slots := 0, locals := 118 }
abbrev QX5_areSo (dC : Nat → ClassId) (dI : Nat → Nat → Nat) (A : Nat → Prop) (cI : ClassId) (m0 : Nat) (m2 : Nat) (m3 : Nat) (m4 : Nat) (m7 : Nat) (m8 : Nat) (m9 : Nat) (m10 : Nat) (m11 : Nat) (m12 : Nat) (m17 : Nat) (m18 : Nat) (m19 : Nat) (m20 : Nat) (m21 : Nat) (m22 : Nat) (m23 : Nat) (mfa : Int32) (mho : Int32) (mra : Int32) (mrh : Int32) (mch : Int32) (mfr : Int32) (mfw : Int32) (mrd : Int32) (mtr : Int32) (K : Nat → Int32) (L : Nat → Int32) (C : Nat → Int32) (RO : Nat → Int32) (RB : Nat → Int32) (RT : Nat → Int32) : Array Value → State → Outcome → State → Prop := va_Qi (fun (r : Int32) (_ : Unit) => r = p5_areSo mho mrd K L C RO RB RT) (fun (_ : Unit) (t : State) => va_P (dC, dI) vwCl ([(m0, .inr (5, [.int mfa, .int mho, .ref m2, .ref m3, .ref m4, .int mra, .int mrh, .ref m7, .ref m8, .ref m9, .ref m10, .ref m11, .ref m12, .int mch, .int mfr, .int mfw, .int mrd, .ref m17, .ref m18, .ref m19, .ref m20, .ref m21, .ref m22, .ref m23, .int mtr])), (m2, .inl (cI, 6, .inl K)), (m3, .inl (cI, 6, .inl L)), (m4, .inl (cI, 6, .inl C)), (m17, .inl (cI, 8, .inl RO)), (m18, .inl (cI, 8, .inl RB)), (m19, .inl (cI, 8, .inl RT))]) t.heap) A
set_option maxHeartbeats 4000000 in
set_option maxRecDepth 100000 in
theorem ctX5_areSo (l : Launch) (dC : Nat → ClassId) (dI : Nat → Nat → Nat) (cI : ClassId) (m0 : Nat) (m2 : Nat) (m3 : Nat) (m4 : Nat) (m7 : Nat) (m8 : Nat) (m9 : Nat) (m10 : Nat) (m11 : Nat) (m12 : Nat) (m17 : Nat) (m18 : Nat) (m19 : Nat) (m20 : Nat) (m21 : Nat) (m22 : Nat) (m23 : Nat) (sz : Nat) (mfa : Int32) (mho : Int32) (mra : Int32) (mrh : Int32) (mch : Int32) (mfr : Int32) (mfw : Int32) (mrd : Int32) (mtr : Int32) (K : Nat → Int32) (L : Nat → Int32) (C : Nat → Int32) (RO : Nat → Int32) (RB : Nat → Int32) (RT : Nat → Int32) (hr8 : mrd.toInt ≤ 8) (hRO : ∀ j : Nat, (j : Int) < mrd.toInt → vp_in (RO j) 6) (hNb : mho.toInt ≤ 6) : Met l yX5_areSo wsX5_areSo rmX5_areSo (va_Pc [.ref m0] (cP dC dI [(cI, .int)] ([(m0, .inr (5, [.int mfa, .int mho, .ref m2, .ref m3, .ref m4, .int mra, .int mrh, .ref m7, .ref m8, .ref m9, .ref m10, .ref m11, .ref m12, .int mch, .int mfr, .int mfw, .int mrd, .ref m17, .ref m18, .ref m19, .ref m20, .ref m21, .ref m22, .ref m23, .int mtr])), (m2, .inl (cI, 6, .inl K)), (m3, .inl (cI, 6, .inl L)), (m4, .inl (cI, 6, .inl C)), (m17, .inl (cI, 8, .inl RO)), (m18, .inl (cI, 8, .inl RB)), (m19, .inl (cI, 8, .inl RT))]) sz)) (QX5_areSo dC dI (va_A ([(m0, .inr (5, [.int mfa, .int mho, .ref m2, .ref m3, .ref m4, .int mra, .int mrh, .ref m7, .ref m8, .ref m9, .ref m10, .ref m11, .ref m12, .int mch, .int mfr, .int mfw, .int mrd, .ref m17, .ref m18, .ref m19, .ref m20, .ref m21, .ref m22, .ref m23, .int mtr])), (m2, .inl (cI, 6, .inl K)), (m3, .inl (cI, 6, .inl L)), (m4, .inl (cI, 6, .inl C)), (m17, .inl (cI, 8, .inl RO)), (m18, .inl (cI, 8, .inl RB)), (m19, .inl (cI, 8, .inl RT))]) sz) cI m0 m2 m3 m4 m7 m8 m9 m10 m11 m12 m17 m18 m19 m20 m21 m22 m23 mfa mho mra mrh mch mfr mfw mrd mtr K L C RO RB RT ) 0 0 (va_A ([(m0, .inr (5, [.int mfa, .int mho, .ref m2, .ref m3, .ref m4, .int mra, .int mrh, .ref m7, .ref m8, .ref m9, .ref m10, .ref m11, .ref m12, .int mch, .int mfr, .int mfw, .int mrd, .ref m17, .ref m18, .ref m19, .ref m20, .ref m21, .ref m22, .ref m23, .int mtr])), (m2, .inl (cI, 6, .inl K)), (m3, .inl (cI, 6, .inl L)), (m4, .inl (cI, 6, .inl C)), (m17, .inl (cI, 8, .inl RO)), (m18, .inl (cI, 8, .inl RB)), (m19, .inl (cI, 8, .inl RT))]) sz) := by
  refine Met.ofW (cc := cX5_areSo) (maxL := 3) (ret := (some .boolean)) (by decide) rfl ?_
  intro p e s m args below meth c s₁ B hml hv
  obtain ⟨rfl, hsz, hP, hK, hD0, hN⟩ := hv
  have hx := B.exec
  have hb := B.bytes
  have hr := B.returns
  have hts := atoms_spec (ws := wsX5_areSo) B.pre
  have hown : s.vm.findClass RX5 = some m.cls := findClass_of_methodNamed B.named
  have hlocks := B.notSynchronized
  subst hsz
  have hD := hD0.self (sz := s.heap.size)
  generalize hAe : va_A ([(m0, .inr (5, [.int mfa, .int mho, .ref m2, .ref m3, .ref m4, .int mra, .int mrh, .ref m7, .ref m8, .ref m9, .ref m10, .ref m11, .ref m12, .int mch, .int mfr, .int mfw, .int mrd, .ref m17, .ref m18, .ref m19, .ref m20, .ref m21, .ref m22, .ref m23, .int mtr])), (m2, .inl (cI, 6, .inl K)), (m3, .inl (cI, 6, .inl L)), (m4, .inl (cI, 6, .inl C)), (m17, .inl (cI, 8, .inl RO)), (m18, .inl (cI, 8, .inl RB)), (m19, .inl (cI, 8, .inl RT))]) s.heap.size = A at hD ⊢
  have hA : ∀ q : Nat, s.heap.size ≤ q → A q := fun q h => by rw [← hAe]; exact Or.inr h
  have hS : va_S A s.heap s.heap [] := va_S.rf
  have hP : va_P (dC, dI) vwCl ([(m0, .inr (5, [.int mfa, .int mho, .ref m2, .ref m3, .ref m4, .int mra, .int mrh, .ref m7, .ref m8, .ref m9, .ref m10, .ref m11, .ref m12, .int mch, .int mfr, .int mfw, .int mrd, .ref m17, .ref m18, .ref m19, .ref m20, .ref m21, .ref m22, .ref m23, .int mtr])), (m2, .inl (cI, 6, .inl K)), (m3, .inl (cI, 6, .inl L)), (m4, .inl (cI, 6, .inl C)), (m17, .inl (cI, 8, .inl RO)), (m18, .inl (cI, 8, .inl RB)), (m19, .inl (cI, 8, .inl RT))]) s.heap := hP
  have hin5 : ∀ w ∈ wsX50, w ∈ wsX5_areSo := by decide +kernel
  have kf_118 := hts (.fieldLink RX5 118 "RicherChangeModel" "readings" "I") (by decide +kernel)
  have kf_37 := hts (.fieldLink RX5 37 "RicherChangeModel" "readingOf" "[I") (by decide +kernel)
  have kf_40 := hts (.fieldLink RX5 40 "RicherChangeModel" "readingBy" "[I") (by decide +kernel)
  have kf_43 := hts (.fieldLink RX5 43 "RicherChangeModel" "readingAt" "[I") (by decide +kernel)
  have hl := lv_entry ([.ref m0]) (n := 3) (Nat.le_of_ble_eq_true rfl)
  rw [lg_entry_eq]
  generalize (lg_sl ([.ref m0]) ++ List.replicate (3 - (lg_sl ([.ref m0])).length) Slot.unset).toArray = ls at hl ⊢
  have hl : lv_has ls 3 [(0, .ref m0)] := hl
  have lp_4 : ∀ (n : Nat) (v1 : Int32) (v2 : Int32) (H : Heap) (locs : List Loc) (ls : Array Slot), (up v2 mrd n) → (v1 = 0 ∨ v1 = 1) → va_P (dC, dI) vwCl ([(m0, .inr (5, [.int mfa, .int mho, .ref m2, .ref m3, .ref m4, .int mra, .int mrh, .ref m7, .ref m8, .ref m9, .ref m10, .ref m11, .ref m12, .int mch, .int mfr, .int mfw, .int mrd, .ref m17, .ref m18, .ref m19, .ref m20, .ref m21, .ref m22, .ref m23, .int mtr])), (m2, .inl (cI, 6, .inl K)), (m3, .inl (cI, 6, .inl L)), (m4, .inl (cI, 6, .inl C)), (m17, .inl (cI, 8, .inl RO)), (m18, .inl (cI, 8, .inl RB)), (m19, .inl (cI, 8, .inl RT))]) H → va_D A ([(m0, .inr (5, [.int mfa, .int mho, .ref m2, .ref m3, .ref m4, .int mra, .int mrh, .ref m7, .ref m8, .ref m9, .ref m10, .ref m11, .ref m12, .int mch, .int mfr, .int mfw, .int mrd, .ref m17, .ref m18, .ref m19, .ref m20, .ref m21, .ref m22, .ref m23, .int mtr])), (m2, .inl (cI, 6, .inl K)), (m3, .inl (cI, 6, .inl L)), (m4, .inl (cI, 6, .inl C)), (m17, .inl (cI, 8, .inl RO)), (m18, .inl (cI, 8, .inl RB)), (m19, .inl (cI, 8, .inl RT))]) → va_S A s.heap H locs → lv_has ls 3 [(2, .int v2), (1, .int v1), (0, .ref m0)] → p5_areSo mho mrd K L C RO RB RT = p5_areSo_l4 mho mrd K L C RO RB RT n v1 v2 → W p l e (headSpec wsX5_areSo rmX5_areSo).room s m [.ref m0].toArray below meth c H locs 0 0 (MQ below (QX5_areSo dC dI A cI m0 m2 m3 m4 m7 m8 m9 m10 m11 m12 m17 m18 m19 m20 m21 m22 m23 mfa mho mra mrh mch mfr mfw mrd mtr K L C RO RB RT ) [.ref m0].toArray s 0 0 A) (F0 m 4 ls []) := by
    intro n
    induction n with
    | zero => intro v1 v2 _ _ _ hu hb01; exact absurd hu up_no
    | succ n ih =>
      intro v1 v2 H locs ls hu hb01 hP hD hS hl hE
      refine lv_iload_n hx hb dX5_areSo_4 rfl (lv_at hl 0 rfl) ?_
      refine lv_aload_n hx hb dX5_areSo_5 rfl (lv_at hl 2 rfl) ?_
      refine va_get (D := (dC, dI)) (ci := 5) (v := .int mrd) (C := RX5) (T := TX5) (N := 25) hx hb hts hin5 hown hK hP 0 rfl rfl 16 (by decide) kf_118 (fun _ h9 => h9) rfl dX5_areSo_6 ?_
      refine lv_icmp_ge (tgt := 53) hx hb dX5_areSo_9 (by decide) (fun c_9 => ?_) (fun c_9 => ?_)
      · skip
        refine lv_iload_n hx hb dX5_areSo_53 rfl (lv_at hl 1 rfl) ?_
        have hE9 : p5_areSo mho mrd K L C RO RB RT = v1 := hE.trans (by rw [p5_areSo_l4_s, if_pos c_9])
        exact W.zret (v := v1) hx hb hr (nar_bool (by assumption)) (fun t ht hW => ⟨⟨_, (), rfl, by rw [hE9], by show va_P (dC, dI) vwCl _ t.heap; rw [ht]; exact hP⟩, hS.F ht⟩) hS.2.2 dX5_areSo_54
      · skip
        have j2 : vp_in v2 8 := up_in 8 hu c_9 hr8
        have j3 : vp_in (RO v2.toNatClampNeg) 6 := hRO _ (up_ix hu c_9)
        refine lv_iload_n hx hb dX5_areSo_12 rfl (lv_at hl 1 rfl) ?_
        refine lv_if_eq (tgt := 45) hx hb dX5_areSo_13 (by decide) (fun c_13 => ?_) (fun c_13 => ?_)
        · skip
          refine lv_iconst (v := 0) hx hb dX5_areSo_45 (by decide) ?_
          refine lv_istore_n (lv' := [(1, .int 0), (2, .int v2), (0, .ref m0)]) hx hb dX5_areSo_46 rfl hl (by decide) rfl (fun ls hl => ?_)
          refine lv_iinc (v := (v2 + 1)) (lv' := [(2, .int (v2 + 1)), (1, .int 0), (0, .ref m0)]) hx hb dX5_areSo_47 hl (k := 1) rfl rfl (by decide) rfl (fun ls hl => ?_)
          refine lv_goto (tgt := 4) hx hb dX5_areSo_50 (by decide) ?_
          exact ih 0 (v2 + 1) _ _ _ (up_s hu c_9) (by first | exact Or.inl rfl | exact Or.inr rfl) hP hD hS (lv_sub hl [0, 1, 2] rfl) (hE.trans (by rw [p5_areSo_l4_s, if_neg c_9, if_pos c_13]))
        · skip
          refine lv_aload_n hx hb dX5_areSo_16 rfl (lv_at hl 2 rfl) ?_
          refine lv_aload_n hx hb dX5_areSo_17 rfl (lv_at hl 2 rfl) ?_
          refine va_get (D := (dC, dI)) (ci := 5) (v := .ref m17) (C := RX5) (T := TX5) (N := 25) hx hb hts hin5 hown hK hP 0 rfl rfl 17 (by decide) kf_37 (fun _ h9 => h9) rfl dX5_areSo_18 ?_
          refine lv_iload_n hx hb dX5_areSo_21 rfl (lv_at hl 0 rfl) ?_
          refine va_iald hx hb hK hP 4 0 rfl rfl (by assumption) dX5_areSo_22 ?_
          refine lv_aload_n hx hb dX5_areSo_23 rfl (lv_at hl 2 rfl) ?_
          refine va_get (D := (dC, dI)) (ci := 5) (v := .ref m18) (C := RX5) (T := TX5) (N := 25) hx hb hts hin5 hown hK hP 0 rfl rfl 18 (by decide) kf_40 (fun _ h9 => h9) rfl dX5_areSo_24 ?_
          refine lv_iload_n hx hb dX5_areSo_27 rfl (lv_at hl 0 rfl) ?_
          refine va_iald hx hb hK hP 5 0 rfl rfl (by assumption) dX5_areSo_28 ?_
          have hPc := hP.sub (ws' := [(m0, .inr (5, [.int mfa, .int mho, .ref m2, .ref m3, .ref m4, .int mra, .int mrh, .ref m7, .ref m8, .ref m9, .ref m10, .ref m11, .ref m12, .int mch, .int mfr, .int mfw, .int mrd, .ref m17, .ref m18, .ref m19, .ref m20, .ref m21, .ref m22, .ref m23, .int mtr])), (m2, .inl (cI, 6, .inl K)), (m3, .inl (cI, 6, .inl L)), (m4, .inl (cI, 6, .inl C))]) [0, 1, 2, 3] rfl
          have hDc := hD.sub (ws' := [(m0, .inr (5, [.int mfa, .int mho, .ref m2, .ref m3, .ref m4, .int mra, .int mrh, .ref m7, .ref m8, .ref m9, .ref m10, .ref m11, .ref m12, .int mch, .int mfr, .int mfw, .int mrd, .ref m17, .ref m18, .ref m19, .ref m20, .ref m21, .ref m22, .ref m23, .int mtr])), (m2, .inl (cI, 6, .inl K)), (m3, .inl (cI, 6, .inl L)), (m4, .inl (cI, 6, .inl C))]) [0, 1, 2, 3] (by decide) rfl
          have hKc := hK.sub (tys' := [(cI, .int)]) [0] rfl
          have hFc := va_free (wc := [(m0, .inr (5, [.int mfa, .int mho, .ref m2, .ref m3, .ref m4, .int mra, .int mrh, .ref m7, .ref m8, .ref m9, .ref m10, .ref m11, .ref m12, .int mch, .int mfr, .int mfw, .int mrd, .ref m17, .ref m18, .ref m19, .ref m20, .ref m21, .ref m22, .ref m23, .int mtr])), (m2, .inl (cI, 6, .inl K)), (m3, .inl (cI, 6, .inl L)), (m4, .inl (cI, 6, .inl C))]) hD hS hA [0, 1, 2, 3] rfl
          refine va_calli (va_runV (As := [.int (RO v2.toNatClampNeg), .int (RB v2.toNatClampNeg)]) (rest := []) ⟨hx, hb, hml, hown, hts⟩ (ctX5_choiceOf l dC dI cI m0 m2 m3 m4 m7 m8 m9 m10 m11 m12 m17 m18 m19 m20 m21 m22 m23 H.size mfa mho mra mrh mch mfr mfw mrd mtr K L C (RO v2.toNatClampNeg) (RB v2.toNatClampNeg) (by assumption) (by assumption)) (cwV 2 hts gX5_areSo_X5_choiceOf rfl rfl rfl (by decide +kernel) ⟨Nat.le_of_ble_eq_true rfl, Nat.le_of_ble_eq_true rfl⟩) (pre_V hKc hN hPc hDc (RX5, TX5, 25) 5 0 rfl rfl) rfl rfl hl.1 rfl (lv_room (Nat.le_of_ble_eq_true rfl)) dX5_areSo_29 ⟨Nat.le_of_ble_eq_true rfl, Nat.le_of_ble_eq_true rfl⟩) hS (fun q _ h => hFc q h) hFc (fun r _ t H locs ht hvm hw hB hz1 hk1 hS => ?_)
          try dsimp only at hw
          subst hw
          rw [ht] at hB
          obtain ⟨hP, hD⟩ := rw_join ([(m0, .inr (5, [.int mfa, .int mho, .ref m2, .ref m3, .ref m4, .int mra, .int mrh, .ref m7, .ref m8, .ref m9, .ref m10, .ref m11, .ref m12, .int mch, .int mfr, .int mfw, .int mrd, .ref m17, .ref m18, .ref m19, .ref m20, .ref m21, .ref m22, .ref m23, .int mtr])), (m2, .inl (cI, 6, .inl K)), (m3, .inl (cI, 6, .inl L)), (m4, .inl (cI, 6, .inl C)), (m17, .inl (cI, 8, .inl RO)), (m18, .inl (cI, 8, .inl RB)), (m19, .inl (cI, 8, .inl RT))]) ([(m0, .inr (5, [.int mfa, .int mho, .ref m2, .ref m3, .ref m4, .int mra, .int mrh, .ref m7, .ref m8, .ref m9, .ref m10, .ref m11, .ref m12, .int mch, .int mfr, .int mfw, .int mrd, .ref m17, .ref m18, .ref m19, .ref m20, .ref m21, .ref m22, .ref m23, .int mtr])), (m2, .inl (cI, 6, .inl K)), (m3, .inl (cI, 6, .inl L)), (m4, .inl (cI, 6, .inl C)), (m17, .inl (cI, 8, .inl RO)), (m18, .inl (cI, 8, .inl RB)), (m19, .inl (cI, 8, .inl RT))]) ([(m0, .inr (5, [.int mfa, .int mho, .ref m2, .ref m3, .ref m4, .int mra, .int mrh, .ref m7, .ref m8, .ref m9, .ref m10, .ref m11, .ref m12, .int mch, .int mfr, .int mfw, .int mrd, .ref m17, .ref m18, .ref m19, .ref m20, .ref m21, .ref m22, .ref m23, .int mtr])), (m2, .inl (cI, 6, .inl K)), (m3, .inl (cI, 6, .inl L)), (m4, .inl (cI, 6, .inl C))]) ([(m0, .inr (5, [.int mfa, .int mho, .ref m2, .ref m3, .ref m4, .int mra, .int mrh, .ref m7, .ref m8, .ref m9, .ref m10, .ref m11, .ref m12, .int mch, .int mfr, .int mfw, .int mrd, .ref m17, .ref m18, .ref m19, .ref m20, .ref m21, .ref m22, .ref m23, .int mtr])), (m2, .inl (cI, 6, .inl K)), (m3, .inl (cI, 6, .inl L)), (m4, .inl (cI, 6, .inl C))]) ([(m17, .inl (cI, 8, .inl RO)), (m18, .inl (cI, 8, .inl RB)), (m19, .inl (cI, 8, .inl RT))]) hP hD [0, 1, 2, 3] [4, 5, 6] [m0, m2, m3, m4, m17, m18, m19] 7 rfl rfl rfl rfl rfl (by decide) rfl rfl hk1 hB
          refine lv_aload_n hx hb dX5_areSo_32 rfl (lv_at hl 2 rfl) ?_
          refine va_get (D := (dC, dI)) (ci := 5) (v := .ref m19) (C := RX5) (T := TX5) (N := 25) hx hb hts hin5 hown hK hP 0 rfl rfl 19 (by decide) kf_43 (fun _ h9 => h9) rfl dX5_areSo_33 ?_
          refine lv_iload_n hx hb dX5_areSo_36 rfl (lv_at hl 0 rfl) ?_
          refine va_iald hx hb hK hP 6 0 rfl rfl (by assumption) dX5_areSo_37 ?_
          refine lv_icmp_ne (tgt := 45) hx hb dX5_areSo_38 (by decide) (fun c_38 => ?_) (fun c_38 => ?_)
          · skip
            refine lv_iconst (v := 0) hx hb dX5_areSo_45 (by decide) ?_
            refine lv_istore_n (lv' := [(1, .int 0), (2, .int v2), (0, .ref m0)]) hx hb dX5_areSo_46 rfl hl (by decide) rfl (fun ls hl => ?_)
            refine lv_iinc (v := (v2 + 1)) (lv' := [(2, .int (v2 + 1)), (1, .int 0), (0, .ref m0)]) hx hb dX5_areSo_47 hl (k := 1) rfl rfl (by decide) rfl (fun ls hl => ?_)
            refine lv_goto (tgt := 4) hx hb dX5_areSo_50 (by decide) ?_
            exact ih 0 (v2 + 1) _ _ _ (up_s hu c_9) (by first | exact Or.inl rfl | exact Or.inr rfl) hP hD hS (lv_sub hl [0, 1, 2] rfl) (hE.trans (by rw [p5_areSo_l4_s, if_neg c_9, if_neg c_13, if_neg c_38]))
          · skip
            refine lv_iconst (v := 1) hx hb dX5_areSo_41 (by decide) ?_
            refine lv_goto (tgt := 46) hx hb dX5_areSo_42 (by decide) ?_
            refine lv_istore_n (lv' := [(1, .int 1), (2, .int v2), (0, .ref m0)]) hx hb dX5_areSo_46 rfl hl (by decide) rfl (fun ls hl => ?_)
            refine lv_iinc (v := (v2 + 1)) (lv' := [(2, .int (v2 + 1)), (1, .int 1), (0, .ref m0)]) hx hb dX5_areSo_47 hl (k := 1) rfl rfl (by decide) rfl (fun ls hl => ?_)
            refine lv_goto (tgt := 4) hx hb dX5_areSo_50 (by decide) ?_
            exact ih 1 (v2 + 1) _ _ _ (up_s hu c_9) (by first | exact Or.inl rfl | exact Or.inr rfl) hP hD hS (lv_sub hl [0, 1, 2] rfl) (hE.trans (by rw [p5_areSo_l4_s, if_neg c_9, if_neg c_13, if_pos c_38]))
  refine lv_iconst (v := 1) hx hb dX5_areSo_0 (by decide) ?_
  refine lv_istore_n (lv' := [(1, .int 1), (0, .ref m0)]) hx hb dX5_areSo_1 rfl hl (by decide) rfl (fun ls hl => ?_)
  refine lv_iconst (v := 0) hx hb dX5_areSo_2 (by decide) ?_
  refine lv_istore_n (lv' := [(2, .int 0), (1, .int 1), (0, .ref m0)]) hx hb dX5_areSo_3 rfl hl (by decide) rfl (fun ls hl => ?_)
  exact lp_4 9 1 0  _ _ _ (up_i 8 (by decide) hr8) (by first | exact Or.inl rfl | exact Or.inr rfl) hP hD hS (lv_sub hl [0, 1, 2] rfl) (rfl)

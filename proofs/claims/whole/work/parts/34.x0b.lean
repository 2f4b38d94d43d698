def p0_worthAtEnd (K : Nat → Int32) (L : Nat → Int32) (C : Nat → Int32) (i1 : Int32) (i2 : Int32) (i3 : Int32) : Int32 :=
  if i1 = i2 then
    (p0_worth (K i1.toNatClampNeg) (p0_wealthWhenPaid L C i2 i3))
  else
    if (p0_changes K L C i1 i2 i3) = 0 then
      (p0_worth (K i1.toNatClampNeg) (p0_wealth L C i1))
    else
      (p0_worth (K i1.toNatClampNeg) (p0_wealthWhenPaid L C i2 i3))
abbrev rmX0_worthAtEnd : Room := { frames := 2, cells := 0, slots := 0, locals := 46 }
abbrev QX0_worthAtEnd (dC : Nat → ClassId) (dI : Nat → Nat → Nat) (A : Nat → Prop) (cI : ClassId) (a0 : Nat) (ak : Nat) (al : Nat) (ac : Nat) (N : Int32) (K : Nat → Int32) (L : Nat → Int32) (C : Nat → Int32) (i1 : Int32) (i2 : Int32) (i3 : Int32) : Array Value → State → Outcome → State → Prop := va_Qi (fun (r : Int32) (_ : Unit) => r = p0_worthAtEnd K L C i1 i2 i3) (fun (_ : Unit) (t : State) => va_P (dC, dI) vwCl ([(a0, .inr (0, [.ref ak, .ref al, .ref ac, .int N])), (ak, .inl (cI, 6, .inl K)), (al, .inl (cI, 6, .inl L)), (ac, .inl (cI, 6, .inl C))]) t.heap) A
set_option maxHeartbeats 4000000 in
set_option maxRecDepth 100000 in
theorem ctX0_worthAtEnd (l : Launch) (dC : Nat → ClassId) (dI : Nat → Nat → Nat) (cI : ClassId) (a0 : Nat) (ak : Nat) (al : Nat) (ac : Nat) (sz : Nat) (N : Int32) (K : Nat → Int32) (L : Nat → Int32) (C : Nat → Int32) (i1 : Int32) (i2 : Int32) (i3 : Int32) (hi1 : vp_in i1 6) (hi2 : vp_in i2 6) : Met l yX0_worthAtEnd wsX0_worthAtEnd rmX0_worthAtEnd (va_Pc [.ref a0, .int i1, .int i2, .int i3] (cP dC dI [(cI, .int)] ([(a0, .inr (0, [.ref ak, .ref al, .ref ac, .int N])), (ak, .inl (cI, 6, .inl K)), (al, .inl (cI, 6, .inl L)), (ac, .inl (cI, 6, .inl C))]) sz)) (QX0_worthAtEnd dC dI (va_A ([(a0, .inr (0, [.ref ak, .ref al, .ref ac, .int N])), (ak, .inl (cI, 6, .inl K)), (al, .inl (cI, 6, .inl L)), (ac, .inl (cI, 6, .inl C))]) sz) cI a0 ak al ac N K L C i1 i2 i3) 0 0 (va_A ([(a0, .inr (0, [.ref ak, .ref al, .ref ac, .int N])), (ak, .inl (cI, 6, .inl K)), (al, .inl (cI, 6, .inl L)), (ac, .inl (cI, 6, .inl C))]) sz) := by
  refine Met.ofW (cc := cX0_worthAtEnd) (maxL := 5) (ret := (some .int)) (by decide) rfl ?_
  intro p e s m args below meth c s₁ B hml hv
  obtain ⟨rfl, hsz, hP, hK, hD0, hN⟩ := hv
  have hx := B.exec
  have hb := B.bytes
  have hr := B.returns
  have hts := atoms_spec (ws := wsX0_worthAtEnd) B.pre
  have hown : s.vm.findClass RX0 = some m.cls := findClass_of_methodNamed B.named
  have hlocks := B.notSynchronized
  subst hsz
  have hD := hD0.self (sz := s.heap.size)
  generalize hAe : va_A ([(a0, .inr (0, [.ref ak, .ref al, .ref ac, .int N])), (ak, .inl (cI, 6, .inl K)), (al, .inl (cI, 6, .inl L)), (ac, .inl (cI, 6, .inl C))]) s.heap.size = A at hD ⊢
  have hA : ∀ q : Nat, s.heap.size ≤ q → A q := fun q h => by rw [← hAe]; exact Or.inr h
  have hS : va_S A s.heap s.heap [] := va_S.rf
  have hP : va_P (dC, dI) vwCl ([(a0, .inr (0, [.ref ak, .ref al, .ref ac, .int N])), (ak, .inl (cI, 6, .inl K)), (al, .inl (cI, 6, .inl L)), (ac, .inl (cI, 6, .inl C))]) s.heap := hP
  have hin0 : ∀ w ∈ wsX00, w ∈ wsX0_worthAtEnd := by decide +kernel
  have kf_9 := hts (.fieldLink RX0 9 "RicherChange$City" "kind" "[I") (by decide +kernel)
  have hl := lv_entry ([.ref a0, .int i1, .int i2, .int i3]) (n := 5) (Nat.le_of_ble_eq_true rfl)
  rw [lg_entry_eq]
  generalize (lg_sl ([.ref a0, .int i1, .int i2, .int i3]) ++ List.replicate (5 - (lg_sl ([.ref a0, .int i1, .int i2, .int i3])).length) Slot.unset).toArray = ls at hl ⊢
  have hl : lv_has ls 5 [(0, .ref a0), (1, .int i1), (2, .int i2), (3, .int i3)] := hl
  refine lv_iload_n hx hb dX0_worthAtEnd_0 rfl (lv_at hl 1 rfl) ?_
  refine lv_iload_n hx hb dX0_worthAtEnd_1 rfl (lv_at hl 2 rfl) ?_
  refine lv_icmp_eq (tgt := 15) hx hb dX0_worthAtEnd_2 (by decide) (fun c_2 => ?_) (fun c_2 => ?_)
  · skip
    refine lv_iconst (v := 1) hx hb dX0_worthAtEnd_15 (by decide) ?_
    refine lv_goto (tgt := 20) hx hb dX0_worthAtEnd_16 (by decide) ?_
    refine lv_istore (lv' := [(4, .int 1), (0, .ref a0), (1, .int i1), (2, .int i2), (3, .int i3)]) hx hb dX0_worthAtEnd_20 hl (by decide) rfl (fun ls hl => ?_)
    refine lv_aload_n hx hb dX0_worthAtEnd_22 rfl (lv_at hl 1 rfl) ?_
    refine va_get (D := (dC, dI)) (ci := 0) (v := .ref ak) (C := RX0) (T := TX0) (N := 4) hx hb hts hin0 hown hK hP 0 rfl rfl 0 (by decide) kf_9 (fun _ h9 => h9) rfl dX0_worthAtEnd_23 ?_
    refine lv_iload_n hx hb dX0_worthAtEnd_26 rfl (lv_at hl 2 rfl) ?_
    refine va_iald hx hb hK hP 1 0 rfl rfl (by assumption) dX0_worthAtEnd_27 ?_
    refine lv_iload hx hb dX0_worthAtEnd_28 (lv_at hl 0 rfl) ?_
    refine lv_if_eq (tgt := 42) hx hb dX0_worthAtEnd_30 (by decide) (fun c_30 => ?_) (fun c_30 => ?_)
    · exact absurd c_30 (by decide)
    · skip
      refine lv_aload_n hx hb dX0_worthAtEnd_33 rfl (lv_at hl 1 rfl) ?_
      refine lv_iload_n hx hb dX0_worthAtEnd_34 rfl (lv_at hl 3 rfl) ?_
      refine lv_iload_n hx hb dX0_worthAtEnd_35 rfl (lv_at hl 4 rfl) ?_
      have hPc := hP.sub (ws' := [(a0, .inr (0, [.ref ak, .ref al, .ref ac, .int N])), (ak, .inl (cI, 6, .inl K)), (al, .inl (cI, 6, .inl L)), (ac, .inl (cI, 6, .inl C))]) [0, 1, 2, 3] rfl
      have hDc := hD.sub (ws' := [(a0, .inr (0, [.ref ak, .ref al, .ref ac, .int N])), (ak, .inl (cI, 6, .inl K)), (al, .inl (cI, 6, .inl L)), (ac, .inl (cI, 6, .inl C))]) [0, 1, 2, 3] (by decide) rfl
      have hKc := hK.sub (tys' := [(cI, .int)]) [0] rfl
      have hFc := va_free (wc := [(a0, .inr (0, [.ref ak, .ref al, .ref ac, .int N])), (ak, .inl (cI, 6, .inl K)), (al, .inl (cI, 6, .inl L)), (ac, .inl (cI, 6, .inl C))]) hD hS hA [0, 1, 2, 3] rfl
      refine va_calli (va_runV (As := [.int i2, .int i3]) (rest := [.int (K i1.toNatClampNeg)]) ⟨hx, hb, hml, hown, hts⟩ (ctX0_wealthWhenPaid l dC dI cI a0 ak al ac s.heap.size N K L C i2 i3 (by assumption)) (cwV 2 hts gX0_worthAtEnd_X0_wealthWhenPaid rfl rfl rfl (by decide +kernel) ⟨Nat.le_of_ble_eq_true rfl, Nat.le_of_ble_eq_true rfl⟩) (pre_V hKc hN hPc hDc (RX0, TX0, 4) 0 0 rfl rfl) rfl rfl hl.1 rfl (lv_room (Nat.le_of_ble_eq_true rfl)) dX0_worthAtEnd_36 ⟨Nat.le_of_ble_eq_true rfl, Nat.le_of_ble_eq_true rfl⟩) hS (fun q _ h => hFc q h) hFc (fun r _ t H locs ht hvm hw hB hz1 hk1 hS => ?_)
      try dsimp only at hw
      subst hw
      rw [ht] at hB
      obtain ⟨hP, hD⟩ := rw_join ([(a0, .inr (0, [.ref ak, .ref al, .ref ac, .int N])), (ak, .inl (cI, 6, .inl K)), (al, .inl (cI, 6, .inl L)), (ac, .inl (cI, 6, .inl C))]) ([(a0, .inr (0, [.ref ak, .ref al, .ref ac, .int N])), (ak, .inl (cI, 6, .inl K)), (al, .inl (cI, 6, .inl L)), (ac, .inl (cI, 6, .inl C))]) ([(a0, .inr (0, [.ref ak, .ref al, .ref ac, .int N])), (ak, .inl (cI, 6, .inl K)), (al, .inl (cI, 6, .inl L)), (ac, .inl (cI, 6, .inl C))]) ([(a0, .inr (0, [.ref ak, .ref al, .ref ac, .int N])), (ak, .inl (cI, 6, .inl K)), (al, .inl (cI, 6, .inl L)), (ac, .inl (cI, 6, .inl C))]) ([]) hP hD [0, 1, 2, 3] [] [a0, ak, al, ac] 4 rfl rfl rfl rfl rfl (by decide) rfl rfl hk1 hB
      refine lv_goto (tgt := 47) hx hb dX0_worthAtEnd_39 (by decide) ?_
      have hPc : va_P (dC, dI) vwCl [] H := hP.sub (ws' := []) [] rfl
      have hDc : va_D A [] := hD.sub (ws' := []) [] (by decide) rfl
      have hKc := hK.sub (tys' := [(cI, .int)]) [0] rfl
      have hFc := va_free (wc := []) hD hS hA [] rfl
      refine va_calli (va_runS (As := [.int (K i1.toNatClampNeg), .int (p0_wealthWhenPaid L C i2 i3)]) (rest := []) ⟨hx, hb, hml, hown, hts⟩ (ctX0_worth l dC dI cI H.size (K i1.toNatClampNeg) (p0_wealthWhenPaid L C i2 i3)) (va_cwS 2 hts gX0_worthAtEnd_X0_worth rfl rfl rfl (by decide +kernel) ⟨Nat.le_of_ble_eq_true rfl, Nat.le_of_ble_eq_true rfl⟩) (pre_S hKc hN hPc hDc) rfl rfl hl.1 rfl (lv_room (Nat.le_of_ble_eq_true rfl)) dX0_worthAtEnd_47 ⟨Nat.le_of_ble_eq_true rfl, Nat.le_of_ble_eq_true rfl⟩) hS (fun q _ h => hFc q h) hFc (fun r _ t H locs ht hvm hw hB hz1 hk1 hS => ?_)
      try dsimp only at hw
      subst hw
      rw [ht] at hB
      obtain ⟨hP, hD⟩ := rw_join ([(a0, .inr (0, [.ref ak, .ref al, .ref ac, .int N])), (ak, .inl (cI, 6, .inl K)), (al, .inl (cI, 6, .inl L)), (ac, .inl (cI, 6, .inl C))]) ([(a0, .inr (0, [.ref ak, .ref al, .ref ac, .int N])), (ak, .inl (cI, 6, .inl K)), (al, .inl (cI, 6, .inl L)), (ac, .inl (cI, 6, .inl C))]) ([]) ([]) ([(a0, .inr (0, [.ref ak, .ref al, .ref ac, .int N])), (ak, .inl (cI, 6, .inl K)), (al, .inl (cI, 6, .inl L)), (ac, .inl (cI, 6, .inl C))]) hP hD [] [0, 1, 2, 3] [a0, ak, al, ac] 4 rfl rfl rfl rfl rfl (by decide) rfl rfl hk1 hB
      have hE9 : p0_worthAtEnd K L C i1 i2 i3 = (p0_worth (K i1.toNatClampNeg) (p0_wealthWhenPaid L C i2 i3)) := by unfold p0_worthAtEnd; rw [if_pos c_2]
      exact W.iret (v := (p0_worth (K i1.toNatClampNeg) (p0_wealthWhenPaid L C i2 i3))) hx hb hr (fun t ht hW => ⟨⟨_, (), rfl, by rw [hE9], by show va_P (dC, dI) vwCl _ t.heap; rw [ht]; exact hP⟩, hS.F ht⟩) hS.2.2 dX0_worthAtEnd_50
  · skip
    refine lv_aload_n hx hb dX0_worthAtEnd_5 rfl (lv_at hl 0 rfl) ?_
    refine lv_iload_n hx hb dX0_worthAtEnd_6 rfl (lv_at hl 1 rfl) ?_
    refine lv_iload_n hx hb dX0_worthAtEnd_7 rfl (lv_at hl 2 rfl) ?_
    refine lv_iload_n hx hb dX0_worthAtEnd_8 rfl (lv_at hl 3 rfl) ?_
    have hPc := hP.sub (ws' := [(a0, .inr (0, [.ref ak, .ref al, .ref ac, .int N])), (ak, .inl (cI, 6, .inl K)), (al, .inl (cI, 6, .inl L)), (ac, .inl (cI, 6, .inl C))]) [0, 1, 2, 3] rfl
    have hDc := hD.sub (ws' := [(a0, .inr (0, [.ref ak, .ref al, .ref ac, .int N])), (ak, .inl (cI, 6, .inl K)), (al, .inl (cI, 6, .inl L)), (ac, .inl (cI, 6, .inl C))]) [0, 1, 2, 3] (by decide) rfl
    have hKc := hK.sub (tys' := [(cI, .int)]) [0] rfl
    have hFc := va_free (wc := [(a0, .inr (0, [.ref ak, .ref al, .ref ac, .int N])), (ak, .inl (cI, 6, .inl K)), (al, .inl (cI, 6, .inl L)), (ac, .inl (cI, 6, .inl C))]) hD hS hA [0, 1, 2, 3] rfl
    refine va_calli (va_runV (As := [.int i1, .int i2, .int i3]) (rest := []) ⟨hx, hb, hml, hown, hts⟩ (ctX0_changes l dC dI cI a0 ak al ac s.heap.size N K L C i1 i2 i3 (by assumption) (by assumption)) (cwV 3 hts gX0_worthAtEnd_X0_changes rfl rfl rfl (by decide +kernel) ⟨Nat.le_of_ble_eq_true rfl, Nat.le_of_ble_eq_true rfl⟩) (pre_V hKc hN hPc hDc (RX0, TX0, 4) 0 0 rfl rfl) rfl rfl hl.1 rfl (lv_room (Nat.le_of_ble_eq_true rfl)) dX0_worthAtEnd_9 ⟨Nat.le_of_ble_eq_true rfl, Nat.le_of_ble_eq_true rfl⟩) hS (fun q _ h => hFc q h) hFc (fun r _ t H locs ht hvm hw hB hz1 hk1 hS => ?_)
    try dsimp only at hw
    subst hw
    rw [ht] at hB
    obtain ⟨hP, hD⟩ := rw_join ([(a0, .inr (0, [.ref ak, .ref al, .ref ac, .int N])), (ak, .inl (cI, 6, .inl K)), (al, .inl (cI, 6, .inl L)), (ac, .inl (cI, 6, .inl C))]) ([(a0, .inr (0, [.ref ak, .ref al, .ref ac, .int N])), (ak, .inl (cI, 6, .inl K)), (al, .inl (cI, 6, .inl L)), (ac, .inl (cI, 6, .inl C))]) ([(a0, .inr (0, [.ref ak, .ref al, .ref ac, .int N])), (ak, .inl (cI, 6, .inl K)), (al, .inl (cI, 6, .inl L)), (ac, .inl (cI, 6, .inl C))]) ([(a0, .inr (0, [.ref ak, .ref al, .ref ac, .int N])), (ak, .inl (cI, 6, .inl K)), (al, .inl (cI, 6, .inl L)), (ac, .inl (cI, 6, .inl C))]) ([]) hP hD [0, 1, 2, 3] [] [a0, ak, al, ac] 4 rfl rfl rfl rfl rfl (by decide) rfl rfl hk1 hB
    refine lv_if_eq (tgt := 19) hx hb dX0_worthAtEnd_12 (by decide) (fun c_12 => ?_) (fun c_12 => ?_)
    · skip
      refine lv_iconst (v := 0) hx hb dX0_worthAtEnd_19 (by decide) ?_
      refine lv_istore (lv' := [(4, .int 0), (0, .ref a0), (1, .int i1), (2, .int i2), (3, .int i3)]) hx hb dX0_worthAtEnd_20 hl (by decide) rfl (fun ls hl => ?_)
      refine lv_aload_n hx hb dX0_worthAtEnd_22 rfl (lv_at hl 1 rfl) ?_
      refine va_get (D := (dC, dI)) (ci := 0) (v := .ref ak) (C := RX0) (T := TX0) (N := 4) hx hb hts hin0 hown hK hP 0 rfl rfl 0 (by decide) kf_9 (fun _ h9 => h9) rfl dX0_worthAtEnd_23 ?_
      refine lv_iload_n hx hb dX0_worthAtEnd_26 rfl (lv_at hl 2 rfl) ?_
      refine va_iald hx hb hK hP 1 0 rfl rfl (by assumption) dX0_worthAtEnd_27 ?_
      refine lv_iload hx hb dX0_worthAtEnd_28 (lv_at hl 0 rfl) ?_
      refine lv_if_eq (tgt := 42) hx hb dX0_worthAtEnd_30 (by decide) (fun c_30 => ?_) (fun c_30 => ?_)
      · skip
        refine lv_aload_n hx hb dX0_worthAtEnd_42 rfl (lv_at hl 1 rfl) ?_
        refine lv_iload_n hx hb dX0_worthAtEnd_43 rfl (lv_at hl 2 rfl) ?_
        have hPc := hP.sub (ws' := [(a0, .inr (0, [.ref ak, .ref al, .ref ac, .int N])), (ak, .inl (cI, 6, .inl K)), (al, .inl (cI, 6, .inl L)), (ac, .inl (cI, 6, .inl C))]) [0, 1, 2, 3] rfl
        have hDc := hD.sub (ws' := [(a0, .inr (0, [.ref ak, .ref al, .ref ac, .int N])), (ak, .inl (cI, 6, .inl K)), (al, .inl (cI, 6, .inl L)), (ac, .inl (cI, 6, .inl C))]) [0, 1, 2, 3] (by decide) rfl
        have hKc := hK.sub (tys' := [(cI, .int)]) [0] rfl
        have hFc := va_free (wc := [(a0, .inr (0, [.ref ak, .ref al, .ref ac, .int N])), (ak, .inl (cI, 6, .inl K)), (al, .inl (cI, 6, .inl L)), (ac, .inl (cI, 6, .inl C))]) hD hS hA [0, 1, 2, 3] rfl
        refine va_calli (va_runV (As := [.int i1]) (rest := [.int (K i1.toNatClampNeg)]) ⟨hx, hb, hml, hown, hts⟩ (ctX0_wealth l dC dI cI a0 ak al ac H.size N K L C i1 (by assumption)) (cwV 1 hts gX0_worthAtEnd_X0_wealth rfl rfl rfl (by decide +kernel) ⟨Nat.le_of_ble_eq_true rfl, Nat.le_of_ble_eq_true rfl⟩) (pre_V hKc hN hPc hDc (RX0, TX0, 4) 0 0 rfl rfl) rfl rfl hl.1 rfl (lv_room (Nat.le_of_ble_eq_true rfl)) dX0_worthAtEnd_44 ⟨Nat.le_of_ble_eq_true rfl, Nat.le_of_ble_eq_true rfl⟩) hS (fun q _ h => hFc q h) hFc (fun r _ t H locs ht hvm hw hB hz1 hk1 hS => ?_)
        try dsimp only at hw
        subst hw
        rw [ht] at hB
        obtain ⟨hP, hD⟩ := rw_join ([(a0, .inr (0, [.ref ak, .ref al, .ref ac, .int N])), (ak, .inl (cI, 6, .inl K)), (al, .inl (cI, 6, .inl L)), (ac, .inl (cI, 6, .inl C))]) ([(a0, .inr (0, [.ref ak, .ref al, .ref ac, .int N])), (ak, .inl (cI, 6, .inl K)), (al, .inl (cI, 6, .inl L)), (ac, .inl (cI, 6, .inl C))]) ([(a0, .inr (0, [.ref ak, .ref al, .ref ac, .int N])), (ak, .inl (cI, 6, .inl K)), (al, .inl (cI, 6, .inl L)), (ac, .inl (cI, 6, .inl C))]) ([(a0, .inr (0, [.ref ak, .ref al, .ref ac, .int N])), (ak, .inl (cI, 6, .inl K)), (al, .inl (cI, 6, .inl L)), (ac, .inl (cI, 6, .inl C))]) ([]) hP hD [0, 1, 2, 3] [] [a0, ak, al, ac] 4 rfl rfl rfl rfl rfl (by decide) rfl rfl hk1 hB
        have hPc : va_P (dC, dI) vwCl [] H := hP.sub (ws' := []) [] rfl
        have hDc : va_D A [] := hD.sub (ws' := []) [] (by decide) rfl
        have hKc := hK.sub (tys' := [(cI, .int)]) [0] rfl
        have hFc := va_free (wc := []) hD hS hA [] rfl
        refine va_calli (va_runS (As := [.int (K i1.toNatClampNeg), .int (p0_wealth L C i1)]) (rest := []) ⟨hx, hb, hml, hown, hts⟩ (ctX0_worth l dC dI cI H.size (K i1.toNatClampNeg) (p0_wealth L C i1)) (va_cwS 2 hts gX0_worthAtEnd_X0_worth rfl rfl rfl (by decide +kernel) ⟨Nat.le_of_ble_eq_true rfl, Nat.le_of_ble_eq_true rfl⟩) (pre_S hKc hN hPc hDc) rfl rfl hl.1 rfl (lv_room (Nat.le_of_ble_eq_true rfl)) dX0_worthAtEnd_47 ⟨Nat.le_of_ble_eq_true rfl, Nat.le_of_ble_eq_true rfl⟩) hS (fun q _ h => hFc q h) hFc (fun r _ t H locs ht hvm hw hB hz1 hk1 hS => ?_)
        try dsimp only at hw
        subst hw
        rw [ht] at hB
        obtain ⟨hP, hD⟩ := rw_join ([(a0, .inr (0, [.ref ak, .ref al, .ref ac, .int N])), (ak, .inl (cI, 6, .inl K)), (al, .inl (cI, 6, .inl L)), (ac, .inl (cI, 6, .inl C))]) ([(a0, .inr (0, [.ref ak, .ref al, .ref ac, .int N])), (ak, .inl (cI, 6, .inl K)), (al, .inl (cI, 6, .inl L)), (ac, .inl (cI, 6, .inl C))]) ([]) ([]) ([(a0, .inr (0, [.ref ak, .ref al, .ref ac, .int N])), (ak, .inl (cI, 6, .inl K)), (al, .inl (cI, 6, .inl L)), (ac, .inl (cI, 6, .inl C))]) hP hD [] [0, 1, 2, 3] [a0, ak, al, ac] 4 rfl rfl rfl rfl rfl (by decide) rfl rfl hk1 hB
        have hE9 : p0_worthAtEnd K L C i1 i2 i3 = (p0_worth (K i1.toNatClampNeg) (p0_wealth L C i1)) := by unfold p0_worthAtEnd; rw [if_neg c_2, if_pos c_12]
        exact W.iret (v := (p0_worth (K i1.toNatClampNeg) (p0_wealth L C i1))) hx hb hr (fun t ht hW => ⟨⟨_, (), rfl, by rw [hE9], by show va_P (dC, dI) vwCl _ t.heap; rw [ht]; exact hP⟩, hS.F ht⟩) hS.2.2 dX0_worthAtEnd_50
      · exact absurd c_30 (by decide)
    · skip
      refine lv_iconst (v := 1) hx hb dX0_worthAtEnd_15 (by decide) ?_
      refine lv_goto (tgt := 20) hx hb dX0_worthAtEnd_16 (by decide) ?_
      refine lv_istore (lv' := [(4, .int 1), (0, .ref a0), (1, .int i1), (2, .int i2), (3, .int i3)]) hx hb dX0_worthAtEnd_20 hl (by decide) rfl (fun ls hl => ?_)
      refine lv_aload_n hx hb dX0_worthAtEnd_22 rfl (lv_at hl 1 rfl) ?_
      refine va_get (D := (dC, dI)) (ci := 0) (v := .ref ak) (C := RX0) (T := TX0) (N := 4) hx hb hts hin0 hown hK hP 0 rfl rfl 0 (by decide) kf_9 (fun _ h9 => h9) rfl dX0_worthAtEnd_23 ?_
      refine lv_iload_n hx hb dX0_worthAtEnd_26 rfl (lv_at hl 2 rfl) ?_
      refine va_iald hx hb hK hP 1 0 rfl rfl (by assumption) dX0_worthAtEnd_27 ?_
      refine lv_iload hx hb dX0_worthAtEnd_28 (lv_at hl 0 rfl) ?_
      refine lv_if_eq (tgt := 42) hx hb dX0_worthAtEnd_30 (by decide) (fun c_30 => ?_) (fun c_30 => ?_)
      · exact absurd c_30 (by decide)
      · skip
        refine lv_aload_n hx hb dX0_worthAtEnd_33 rfl (lv_at hl 1 rfl) ?_
        refine lv_iload_n hx hb dX0_worthAtEnd_34 rfl (lv_at hl 3 rfl) ?_
        refine lv_iload_n hx hb dX0_worthAtEnd_35 rfl (lv_at hl 4 rfl) ?_
        have hPc := hP.sub (ws' := [(a0, .inr (0, [.ref ak, .ref al, .ref ac, .int N])), (ak, .inl (cI, 6, .inl K)), (al, .inl (cI, 6, .inl L)), (ac, .inl (cI, 6, .inl C))]) [0, 1, 2, 3] rfl
        have hDc := hD.sub (ws' := [(a0, .inr (0, [.ref ak, .ref al, .ref ac, .int N])), (ak, .inl (cI, 6, .inl K)), (al, .inl (cI, 6, .inl L)), (ac, .inl (cI, 6, .inl C))]) [0, 1, 2, 3] (by decide) rfl
        have hKc := hK.sub (tys' := [(cI, .int)]) [0] rfl
        have hFc := va_free (wc := [(a0, .inr (0, [.ref ak, .ref al, .ref ac, .int N])), (ak, .inl (cI, 6, .inl K)), (al, .inl (cI, 6, .inl L)), (ac, .inl (cI, 6, .inl C))]) hD hS hA [0, 1, 2, 3] rfl
        refine va_calli (va_runV (As := [.int i2, .int i3]) (rest := [.int (K i1.toNatClampNeg)]) ⟨hx, hb, hml, hown, hts⟩ (ctX0_wealthWhenPaid l dC dI cI a0 ak al ac H.size N K L C i2 i3 (by assumption)) (cwV 2 hts gX0_worthAtEnd_X0_wealthWhenPaid rfl rfl rfl (by decide +kernel) ⟨Nat.le_of_ble_eq_true rfl, Nat.le_of_ble_eq_true rfl⟩) (pre_V hKc hN hPc hDc (RX0, TX0, 4) 0 0 rfl rfl) rfl rfl hl.1 rfl (lv_room (Nat.le_of_ble_eq_true rfl)) dX0_worthAtEnd_36 ⟨Nat.le_of_ble_eq_true rfl, Nat.le_of_ble_eq_true rfl⟩) hS (fun q _ h => hFc q h) hFc (fun r _ t H locs ht hvm hw hB hz1 hk1 hS => ?_)
        try dsimp only at hw
        subst hw
        rw [ht] at hB
        obtain ⟨hP, hD⟩ := rw_join ([(a0, .inr (0, [.ref ak, .ref al, .ref ac, .int N])), (ak, .inl (cI, 6, .inl K)), (al, .inl (cI, 6, .inl L)), (ac, .inl (cI, 6, .inl C))]) ([(a0, .inr (0, [.ref ak, .ref al, .ref ac, .int N])), (ak, .inl (cI, 6, .inl K)), (al, .inl (cI, 6, .inl L)), (ac, .inl (cI, 6, .inl C))]) ([(a0, .inr (0, [.ref ak, .ref al, .ref ac, .int N])), (ak, .inl (cI, 6, .inl K)), (al, .inl (cI, 6, .inl L)), (ac, .inl (cI, 6, .inl C))]) ([(a0, .inr (0, [.ref ak, .ref al, .ref ac, .int N])), (ak, .inl (cI, 6, .inl K)), (al, .inl (cI, 6, .inl L)), (ac, .inl (cI, 6, .inl C))]) ([]) hP hD [0, 1, 2, 3] [] [a0, ak, al, ac] 4 rfl rfl rfl rfl rfl (by decide) rfl rfl hk1 hB
        refine lv_goto (tgt := 47) hx hb dX0_worthAtEnd_39 (by decide) ?_
        have hPc : va_P (dC, dI) vwCl [] H := hP.sub (ws' := []) [] rfl
        have hDc : va_D A [] := hD.sub (ws' := []) [] (by decide) rfl
        have hKc := hK.sub (tys' := [(cI, .int)]) [0] rfl
        have hFc := va_free (wc := []) hD hS hA [] rfl
        refine va_calli (va_runS (As := [.int (K i1.toNatClampNeg), .int (p0_wealthWhenPaid L C i2 i3)]) (rest := []) ⟨hx, hb, hml, hown, hts⟩ (ctX0_worth l dC dI cI H.size (K i1.toNatClampNeg) (p0_wealthWhenPaid L C i2 i3)) (va_cwS 2 hts gX0_worthAtEnd_X0_worth rfl rfl rfl (by decide +kernel) ⟨Nat.le_of_ble_eq_true rfl, Nat.le_of_ble_eq_true rfl⟩) (pre_S hKc hN hPc hDc) rfl rfl hl.1 rfl (lv_room (Nat.le_of_ble_eq_true rfl)) dX0_worthAtEnd_47 ⟨Nat.le_of_ble_eq_true rfl, Nat.le_of_ble_eq_true rfl⟩) hS (fun q _ h => hFc q h) hFc (fun r _ t H locs ht hvm hw hB hz1 hk1 hS => ?_)
        try dsimp only at hw
        subst hw
        rw [ht] at hB
        obtain ⟨hP, hD⟩ := rw_join ([(a0, .inr (0, [.ref ak, .ref al, .ref ac, .int N])), (ak, .inl (cI, 6, .inl K)), (al, .inl (cI, 6, .inl L)), (ac, .inl (cI, 6, .inl C))]) ([(a0, .inr (0, [.ref ak, .ref al, .ref ac, .int N])), (ak, .inl (cI, 6, .inl K)), (al, .inl (cI, 6, .inl L)), (ac, .inl (cI, 6, .inl C))]) ([]) ([]) ([(a0, .inr (0, [.ref ak, .ref al, .ref ac, .int N])), (ak, .inl (cI, 6, .inl K)), (al, .inl (cI, 6, .inl L)), (ac, .inl (cI, 6, .inl C))]) hP hD [] [0, 1, 2, 3] [a0, ak, al, ac] 4 rfl rfl rfl rfl rfl (by decide) rfl rfl hk1 hB
        have hE9 : p0_worthAtEnd K L C i1 i2 i3 = (p0_worth (K i1.toNatClampNeg) (p0_wealthWhenPaid L C i2 i3)) := by unfold p0_worthAtEnd; rw [if_neg c_2, if_neg c_12]
        exact W.iret (v := (p0_worth (K i1.toNatClampNeg) (p0_wealthWhenPaid L C i2 i3))) hx hb hr (fun t ht hW => ⟨⟨_, (), rfl, by rw [hE9], by show va_P (dC, dI) vwCl _ t.heap; rw [ht]; exact hP⟩, hS.F ht⟩) hS.2.2 dX0_worthAtEnd_50

def p0_chosenBy_l14 (N : Int32) (K : Nat → Int32) (L : Nat → Int32) (C : Nat → Int32) (i1 : Int32) (i2 : Int32) : Nat → Int32 → Int32 → Int32 → Int32
  | 0, _, _, _ => 0
  | n + 1, v3, v4, v5 =>
    if N ≤ v5 then
      v3
    else
      if (p0_mayPoint L i1 v5) = 0 then
        p0_chosenBy_l14 N K L C i1 i2 n v3 v4 (v5 + 1)
      else
        if (p0_worthAtEnd K L C i1 v5 i2) ≤ v4 then
          p0_chosenBy_l14 N K L C i1 i2 n v3 v4 (v5 + 1)
        else
          p0_chosenBy_l14 N K L C i1 i2 n v5 (p0_worthAtEnd K L C i1 v5 i2) (v5 + 1)
theorem p0_chosenBy_l14_s (N : Int32) (K : Nat → Int32) (L : Nat → Int32) (C : Nat → Int32) (i1 : Int32) (i2 : Int32) (n : Nat) (v3 : Int32) (v4 : Int32) (v5 : Int32) : p0_chosenBy_l14 N K L C i1 i2 (n + 1) v3 v4 v5 =
    (if N ≤ v5 then
      v3
    else
      if (p0_mayPoint L i1 v5) = 0 then
        p0_chosenBy_l14 N K L C i1 i2 n v3 v4 (v5 + 1)
      else
        if (p0_worthAtEnd K L C i1 v5 i2) ≤ v4 then
          p0_chosenBy_l14 N K L C i1 i2 n v3 v4 (v5 + 1)
        else
          p0_chosenBy_l14 N K L C i1 i2 n v5 (p0_worthAtEnd K L C i1 v5 i2) (v5 + 1)) := rfl
def p0_chosenBy (N : Int32) (K : Nat → Int32) (L : Nat → Int32) (C : Nat → Int32) (i1 : Int32) (i2 : Int32) : Int32 :=
  p0_chosenBy_l14 N K L C i1 i2 7 i1 (p0_worthAtEnd K L C i1 i1 i2) 0
abbrev rmX0_chosenBy : Room := { frames := 3, cells := 0, slots := 0, locals := 70 }
abbrev QX0_chosenBy (dC : Nat → ClassId) (dI : Nat → Nat → Nat) (A : Nat → Prop) (cI : ClassId) (a0 : Nat) (ak : Nat) (al : Nat) (ac : Nat) (N : Int32) (K : Nat → Int32) (L : Nat → Int32) (C : Nat → Int32) (i1 : Int32) (i2 : Int32) : Array Value → State → Outcome → State → Prop := va_Qi (fun (r : Int32) (_ : Unit) => r = p0_chosenBy N K L C i1 i2) (fun (_ : Unit) (t : State) => va_P (dC, dI) vwCl ([(a0, .inr (0, [.ref ak, .ref al, .ref ac, .int N])), (ak, .inl (cI, 6, .inl K)), (al, .inl (cI, 6, .inl L)), (ac, .inl (cI, 6, .inl C))]) t.heap) A
set_option maxHeartbeats 4000000 in
set_option maxRecDepth 100000 in
theorem ctX0_chosenBy (l : Launch) (dC : Nat → ClassId) (dI : Nat → Nat → Nat) (cI : ClassId) (a0 : Nat) (ak : Nat) (al : Nat) (ac : Nat) (sz : Nat) (N : Int32) (K : Nat → Int32) (L : Nat → Int32) (C : Nat → Int32) (i1 : Int32) (i2 : Int32) (hi1 : vp_in i1 6) (hNb : N.toInt ≤ 6) : Met l yX0_chosenBy wsX0_chosenBy rmX0_chosenBy (va_Pc [.ref a0, .int i1, .int i2] (cP dC dI [(cI, .int)] ([(a0, .inr (0, [.ref ak, .ref al, .ref ac, .int N])), (ak, .inl (cI, 6, .inl K)), (al, .inl (cI, 6, .inl L)), (ac, .inl (cI, 6, .inl C))]) sz)) (QX0_chosenBy dC dI (va_A ([(a0, .inr (0, [.ref ak, .ref al, .ref ac, .int N])), (ak, .inl (cI, 6, .inl K)), (al, .inl (cI, 6, .inl L)), (ac, .inl (cI, 6, .inl C))]) sz) cI a0 ak al ac N K L C i1 i2) 0 0 (va_A ([(a0, .inr (0, [.ref ak, .ref al, .ref ac, .int N])), (ak, .inl (cI, 6, .inl K)), (al, .inl (cI, 6, .inl L)), (ac, .inl (cI, 6, .inl C))]) sz) := by
  refine Met.ofW (cc := cX0_chosenBy) (maxL := 6) (ret := (some .int)) (by decide) rfl ?_
  intro p e s m args below meth c s₁ B hml hv
  obtain ⟨rfl, hsz, hP, hK, hD0, hN⟩ := hv
  have hx := B.exec
  have hb := B.bytes
  have hr := B.returns
  have hts := atoms_spec (ws := wsX0_chosenBy) B.pre
  have hown : s.vm.findClass RX0 = some m.cls := findClass_of_methodNamed B.named
  have hlocks := B.notSynchronized
  subst hsz
  have hD := hD0.self (sz := s.heap.size)
  generalize hAe : va_A ([(a0, .inr (0, [.ref ak, .ref al, .ref ac, .int N])), (ak, .inl (cI, 6, .inl K)), (al, .inl (cI, 6, .inl L)), (ac, .inl (cI, 6, .inl C))]) s.heap.size = A at hD ⊢
  have hA : ∀ q : Nat, s.heap.size ≤ q → A q := fun q h => by rw [← hAe]; exact Or.inr h
  have hS : va_S A s.heap s.heap [] := va_S.rf
  have hP : va_P (dC, dI) vwCl ([(a0, .inr (0, [.ref ak, .ref al, .ref ac, .int N])), (ak, .inl (cI, 6, .inl K)), (al, .inl (cI, 6, .inl L)), (ac, .inl (cI, 6, .inl C))]) s.heap := hP
  have hin0 : ∀ w ∈ wsX00, w ∈ wsX0_chosenBy := by decide +kernel
  have kf_21 := hts (.fieldLink RX0 21 "RicherChange$City" "houses" "I") (by decide +kernel)
  have hl := lv_entry ([.ref a0, .int i1, .int i2]) (n := 6) (Nat.le_of_ble_eq_true rfl)
  rw [lg_entry_eq]
  generalize (lg_sl ([.ref a0, .int i1, .int i2]) ++ List.replicate (6 - (lg_sl ([.ref a0, .int i1, .int i2])).length) Slot.unset).toArray = ls at hl ⊢
  have hl : lv_has ls 6 [(0, .ref a0), (1, .int i1), (2, .int i2)] := hl
  have lp_14 : ∀ (n : Nat) (v3 : Int32) (v4 : Int32) (v5 : Int32) (H : Heap) (locs : List Loc) (ls : Array Slot), (up v5 N n) → va_P (dC, dI) vwCl ([(a0, .inr (0, [.ref ak, .ref al, .ref ac, .int N])), (ak, .inl (cI, 6, .inl K)), (al, .inl (cI, 6, .inl L)), (ac, .inl (cI, 6, .inl C))]) H → va_D A ([(a0, .inr (0, [.ref ak, .ref al, .ref ac, .int N])), (ak, .inl (cI, 6, .inl K)), (al, .inl (cI, 6, .inl L)), (ac, .inl (cI, 6, .inl C))]) → va_S A s.heap H locs → lv_has ls 6 [(5, .int v5), (4, .int v4), (3, .int v3), (0, .ref a0), (1, .int i1), (2, .int i2)] → p0_chosenBy N K L C i1 i2 = p0_chosenBy_l14 N K L C i1 i2 n v3 v4 v5 → W p l e (headSpec wsX0_chosenBy rmX0_chosenBy).room s m [.ref a0, .int i1, .int i2].toArray below meth c H locs 0 0 (MQ below (QX0_chosenBy dC dI A cI a0 ak al ac N K L C i1 i2) [.ref a0, .int i1, .int i2].toArray s 0 0 A) (F0 m 14 ls []) := by
    intro n
    induction n with
    | zero => intro v3 v4 v5 _ _ _ hu; exact absurd hu up_no
    | succ n ih =>
      intro v3 v4 v5 H locs ls hu hP hD hS hl hE
      refine lv_iload hx hb dX0_chosenBy_14 (lv_at hl 0 rfl) ?_
      refine lv_aload_n hx hb dX0_chosenBy_16 rfl (lv_at hl 3 rfl) ?_
      refine va_get (D := (dC, dI)) (ci := 0) (v := .int N) (C := RX0) (T := TX0) (N := 4) hx hb hts hin0 hown hK hP 0 rfl rfl 3 (by decide) kf_21 (fun _ h9 => h9) rfl dX0_chosenBy_17 ?_
      refine lv_icmp_ge (tgt := 65) hx hb dX0_chosenBy_20 (by decide) (fun c_20 => ?_) (fun c_20 => ?_)
      · skip
        refine lv_iload_n hx hb dX0_chosenBy_65 rfl (lv_at hl 2 rfl) ?_
        have hE9 : p0_chosenBy N K L C i1 i2 = v3 := hE.trans (by rw [p0_chosenBy_l14_s, if_pos c_20])
        exact W.iret (v := v3) hx hb hr (fun t ht hW => ⟨⟨_, (), rfl, by rw [hE9], by show va_P (dC, dI) vwCl _ t.heap; rw [ht]; exact hP⟩, hS.F ht⟩) hS.2.2 dX0_chosenBy_66
      · skip
        have j5 : vp_in v5 6 := up_in 6 hu c_20 hNb
        refine lv_aload_n hx hb dX0_chosenBy_23 rfl (lv_at hl 3 rfl) ?_
        refine lv_iload_n hx hb dX0_chosenBy_24 rfl (lv_at hl 4 rfl) ?_
        refine lv_iload hx hb dX0_chosenBy_25 (lv_at hl 0 rfl) ?_
        have hPc := hP.sub (ws' := [(a0, .inr (0, [.ref ak, .ref al, .ref ac, .int N])), (ak, .inl (cI, 6, .inl K)), (al, .inl (cI, 6, .inl L)), (ac, .inl (cI, 6, .inl C))]) [0, 1, 2, 3] rfl
        have hDc := hD.sub (ws' := [(a0, .inr (0, [.ref ak, .ref al, .ref ac, .int N])), (ak, .inl (cI, 6, .inl K)), (al, .inl (cI, 6, .inl L)), (ac, .inl (cI, 6, .inl C))]) [0, 1, 2, 3] (by decide) rfl
        have hKc := hK.sub (tys' := [(cI, .int)]) [0] rfl
        have hFc := va_free (wc := [(a0, .inr (0, [.ref ak, .ref al, .ref ac, .int N])), (ak, .inl (cI, 6, .inl K)), (al, .inl (cI, 6, .inl L)), (ac, .inl (cI, 6, .inl C))]) hD hS hA [0, 1, 2, 3] rfl
        refine va_calli (va_runV (As := [.int i1, .int v5]) (rest := []) ⟨hx, hb, hml, hown, hts⟩ (ctX0_mayPoint l dC dI cI a0 ak al ac H.size N K L C i1 v5 (by assumption) (by assumption)) (cwV 2 hts gX0_chosenBy_X0_mayPoint rfl rfl rfl (by decide +kernel) ⟨Nat.le_of_ble_eq_true rfl, Nat.le_of_ble_eq_true rfl⟩) (pre_V hKc hN hPc hDc (RX0, TX0, 4) 0 0 rfl rfl) rfl rfl hl.1 rfl (lv_room (Nat.le_of_ble_eq_true rfl)) dX0_chosenBy_27 ⟨Nat.le_of_ble_eq_true rfl, Nat.le_of_ble_eq_true rfl⟩) hS (fun q _ h => hFc q h) hFc (fun r _ t H locs ht hvm hw hB hz1 hk1 hS => ?_)
        try dsimp only at hw
        subst hw
        rw [ht] at hB
        obtain ⟨hP, hD⟩ := rw_join ([(a0, .inr (0, [.ref ak, .ref al, .ref ac, .int N])), (ak, .inl (cI, 6, .inl K)), (al, .inl (cI, 6, .inl L)), (ac, .inl (cI, 6, .inl C))]) ([(a0, .inr (0, [.ref ak, .ref al, .ref ac, .int N])), (ak, .inl (cI, 6, .inl K)), (al, .inl (cI, 6, .inl L)), (ac, .inl (cI, 6, .inl C))]) ([(a0, .inr (0, [.ref ak, .ref al, .ref ac, .int N])), (ak, .inl (cI, 6, .inl K)), (al, .inl (cI, 6, .inl L)), (ac, .inl (cI, 6, .inl C))]) ([(a0, .inr (0, [.ref ak, .ref al, .ref ac, .int N])), (ak, .inl (cI, 6, .inl K)), (al, .inl (cI, 6, .inl L)), (ac, .inl (cI, 6, .inl C))]) ([]) hP hD [0, 1, 2, 3] [] [a0, ak, al, ac] 4 rfl rfl rfl rfl rfl (by decide) rfl rfl hk1 hB
        refine lv_if_eq (tgt := 59) hx hb dX0_chosenBy_30 (by decide) (fun c_30 => ?_) (fun c_30 => ?_)
        · skip
          refine lv_iinc (v := (v5 + 1)) (lv' := [(5, .int (v5 + 1)), (4, .int v4), (3, .int v3), (0, .ref a0), (1, .int i1), (2, .int i2)]) hx hb dX0_chosenBy_59 hl (k := 0) rfl rfl (by decide) rfl (fun ls hl => ?_)
          refine lv_goto (tgt := 14) hx hb dX0_chosenBy_62 (by decide) ?_
          exact ih v3 v4 (v5 + 1) _ _ _ (up_s hu c_20) hP hD hS (lv_sub hl [0, 1, 2, 3, 4, 5] rfl) (hE.trans (by rw [p0_chosenBy_l14_s, if_neg c_20, if_pos c_30]))
        · skip
          refine lv_aload_n hx hb dX0_chosenBy_33 rfl (lv_at hl 3 rfl) ?_
          refine lv_iload_n hx hb dX0_chosenBy_34 rfl (lv_at hl 4 rfl) ?_
          refine lv_iload hx hb dX0_chosenBy_35 (lv_at hl 0 rfl) ?_
          refine lv_iload_n hx hb dX0_chosenBy_37 rfl (lv_at hl 5 rfl) ?_
          have hPc := hP.sub (ws' := [(a0, .inr (0, [.ref ak, .ref al, .ref ac, .int N])), (ak, .inl (cI, 6, .inl K)), (al, .inl (cI, 6, .inl L)), (ac, .inl (cI, 6, .inl C))]) [0, 1, 2, 3] rfl
          have hDc := hD.sub (ws' := [(a0, .inr (0, [.ref ak, .ref al, .ref ac, .int N])), (ak, .inl (cI, 6, .inl K)), (al, .inl (cI, 6, .inl L)), (ac, .inl (cI, 6, .inl C))]) [0, 1, 2, 3] (by decide) rfl
          have hKc := hK.sub (tys' := [(cI, .int)]) [0] rfl
          have hFc := va_free (wc := [(a0, .inr (0, [.ref ak, .ref al, .ref ac, .int N])), (ak, .inl (cI, 6, .inl K)), (al, .inl (cI, 6, .inl L)), (ac, .inl (cI, 6, .inl C))]) hD hS hA [0, 1, 2, 3] rfl
          refine va_calli (va_runV (As := [.int i1, .int v5, .int i2]) (rest := []) ⟨hx, hb, hml, hown, hts⟩ (ctX0_worthAtEnd l dC dI cI a0 ak al ac H.size N K L C i1 v5 i2 (by assumption) (by assumption)) (cwV 3 hts gX0_chosenBy_X0_worthAtEnd rfl rfl rfl (by decide +kernel) ⟨Nat.le_of_ble_eq_true rfl, Nat.le_of_ble_eq_true rfl⟩) (pre_V hKc hN hPc hDc (RX0, TX0, 4) 0 0 rfl rfl) rfl rfl hl.1 rfl (lv_room (Nat.le_of_ble_eq_true rfl)) dX0_chosenBy_38 ⟨Nat.le_of_ble_eq_true rfl, Nat.le_of_ble_eq_true rfl⟩) hS (fun q _ h => hFc q h) hFc (fun r _ t H locs ht hvm hw hB hz1 hk1 hS => ?_)
          try dsimp only at hw
          subst hw
          rw [ht] at hB
          obtain ⟨hP, hD⟩ := rw_join ([(a0, .inr (0, [.ref ak, .ref al, .ref ac, .int N])), (ak, .inl (cI, 6, .inl K)), (al, .inl (cI, 6, .inl L)), (ac, .inl (cI, 6, .inl C))]) ([(a0, .inr (0, [.ref ak, .ref al, .ref ac, .int N])), (ak, .inl (cI, 6, .inl K)), (al, .inl (cI, 6, .inl L)), (ac, .inl (cI, 6, .inl C))]) ([(a0, .inr (0, [.ref ak, .ref al, .ref ac, .int N])), (ak, .inl (cI, 6, .inl K)), (al, .inl (cI, 6, .inl L)), (ac, .inl (cI, 6, .inl C))]) ([(a0, .inr (0, [.ref ak, .ref al, .ref ac, .int N])), (ak, .inl (cI, 6, .inl K)), (al, .inl (cI, 6, .inl L)), (ac, .inl (cI, 6, .inl C))]) ([]) hP hD [0, 1, 2, 3] [] [a0, ak, al, ac] 4 rfl rfl rfl rfl rfl (by decide) rfl rfl hk1 hB
          refine lv_iload hx hb dX0_chosenBy_41 (lv_at hl 1 rfl) ?_
          refine lv_icmp_le (tgt := 59) hx hb dX0_chosenBy_43 (by decide) (fun c_43 => ?_) (fun c_43 => ?_)
          · skip
            refine lv_iinc (v := (v5 + 1)) (lv' := [(5, .int (v5 + 1)), (4, .int v4), (3, .int v3), (0, .ref a0), (1, .int i1), (2, .int i2)]) hx hb dX0_chosenBy_59 hl (k := 0) rfl rfl (by decide) rfl (fun ls hl => ?_)
            refine lv_goto (tgt := 14) hx hb dX0_chosenBy_62 (by decide) ?_
            exact ih v3 v4 (v5 + 1) _ _ _ (up_s hu c_20) hP hD hS (lv_sub hl [0, 1, 2, 3, 4, 5] rfl) (hE.trans (by rw [p0_chosenBy_l14_s, if_neg c_20, if_neg c_30, if_pos c_43]))
          · skip
            refine lv_iload hx hb dX0_chosenBy_46 (lv_at hl 0 rfl) ?_
            refine lv_istore_n (lv' := [(3, .int v5), (5, .int v5), (4, .int v4), (0, .ref a0), (1, .int i1), (2, .int i2)]) hx hb dX0_chosenBy_48 rfl hl (by decide) rfl (fun ls hl => ?_)
            refine lv_aload_n hx hb dX0_chosenBy_49 rfl (lv_at hl 3 rfl) ?_
            refine lv_iload_n hx hb dX0_chosenBy_50 rfl (lv_at hl 4 rfl) ?_
            refine lv_iload hx hb dX0_chosenBy_51 (lv_at hl 1 rfl) ?_
            refine lv_iload_n hx hb dX0_chosenBy_53 rfl (lv_at hl 5 rfl) ?_
            have hPc := hP.sub (ws' := [(a0, .inr (0, [.ref ak, .ref al, .ref ac, .int N])), (ak, .inl (cI, 6, .inl K)), (al, .inl (cI, 6, .inl L)), (ac, .inl (cI, 6, .inl C))]) [0, 1, 2, 3] rfl
            have hDc := hD.sub (ws' := [(a0, .inr (0, [.ref ak, .ref al, .ref ac, .int N])), (ak, .inl (cI, 6, .inl K)), (al, .inl (cI, 6, .inl L)), (ac, .inl (cI, 6, .inl C))]) [0, 1, 2, 3] (by decide) rfl
            have hKc := hK.sub (tys' := [(cI, .int)]) [0] rfl
            have hFc := va_free (wc := [(a0, .inr (0, [.ref ak, .ref al, .ref ac, .int N])), (ak, .inl (cI, 6, .inl K)), (al, .inl (cI, 6, .inl L)), (ac, .inl (cI, 6, .inl C))]) hD hS hA [0, 1, 2, 3] rfl
            refine va_calli (va_runV (As := [.int i1, .int v5, .int i2]) (rest := []) ⟨hx, hb, hml, hown, hts⟩ (ctX0_worthAtEnd l dC dI cI a0 ak al ac H.size N K L C i1 v5 i2 (by assumption) (by assumption)) (cwV 3 hts gX0_chosenBy_X0_worthAtEnd rfl rfl rfl (by decide +kernel) ⟨Nat.le_of_ble_eq_true rfl, Nat.le_of_ble_eq_true rfl⟩) (pre_V hKc hN hPc hDc (RX0, TX0, 4) 0 0 rfl rfl) rfl rfl hl.1 rfl (lv_room (Nat.le_of_ble_eq_true rfl)) dX0_chosenBy_54 ⟨Nat.le_of_ble_eq_true rfl, Nat.le_of_ble_eq_true rfl⟩) hS (fun q _ h => hFc q h) hFc (fun r _ t H locs ht hvm hw hB hz1 hk1 hS => ?_)
            try dsimp only at hw
            subst hw
            rw [ht] at hB
            obtain ⟨hP, hD⟩ := rw_join ([(a0, .inr (0, [.ref ak, .ref al, .ref ac, .int N])), (ak, .inl (cI, 6, .inl K)), (al, .inl (cI, 6, .inl L)), (ac, .inl (cI, 6, .inl C))]) ([(a0, .inr (0, [.ref ak, .ref al, .ref ac, .int N])), (ak, .inl (cI, 6, .inl K)), (al, .inl (cI, 6, .inl L)), (ac, .inl (cI, 6, .inl C))]) ([(a0, .inr (0, [.ref ak, .ref al, .ref ac, .int N])), (ak, .inl (cI, 6, .inl K)), (al, .inl (cI, 6, .inl L)), (ac, .inl (cI, 6, .inl C))]) ([(a0, .inr (0, [.ref ak, .ref al, .ref ac, .int N])), (ak, .inl (cI, 6, .inl K)), (al, .inl (cI, 6, .inl L)), (ac, .inl (cI, 6, .inl C))]) ([]) hP hD [0, 1, 2, 3] [] [a0, ak, al, ac] 4 rfl rfl rfl rfl rfl (by decide) rfl rfl hk1 hB
            refine lv_istore (lv' := [(4, .int (p0_worthAtEnd K L C i1 v5 i2)), (3, .int v5), (5, .int v5), (0, .ref a0), (1, .int i1), (2, .int i2)]) hx hb dX0_chosenBy_57 hl (by decide) rfl (fun ls hl => ?_)
            refine lv_iinc (v := (v5 + 1)) (lv' := [(5, .int (v5 + 1)), (4, .int (p0_worthAtEnd K L C i1 v5 i2)), (3, .int v5), (0, .ref a0), (1, .int i1), (2, .int i2)]) hx hb dX0_chosenBy_59 hl (k := 2) rfl rfl (by decide) rfl (fun ls hl => ?_)
            refine lv_goto (tgt := 14) hx hb dX0_chosenBy_62 (by decide) ?_
            exact ih v5 (p0_worthAtEnd K L C i1 v5 i2) (v5 + 1) _ _ _ (up_s hu c_20) hP hD hS (lv_sub hl [0, 1, 2, 3, 4, 5] rfl) (hE.trans (by rw [p0_chosenBy_l14_s, if_neg c_20, if_neg c_30, if_neg c_43]))
  refine lv_iload_n hx hb dX0_chosenBy_0 rfl (lv_at hl 1 rfl) ?_
  refine lv_istore_n (lv' := [(3, .int i1), (0, .ref a0), (1, .int i1), (2, .int i2)]) hx hb dX0_chosenBy_1 rfl hl (by decide) rfl (fun ls hl => ?_)
  refine lv_aload_n hx hb dX0_chosenBy_2 rfl (lv_at hl 1 rfl) ?_
  refine lv_iload_n hx hb dX0_chosenBy_3 rfl (lv_at hl 2 rfl) ?_
  refine lv_iload_n hx hb dX0_chosenBy_4 rfl (lv_at hl 2 rfl) ?_
  refine lv_iload_n hx hb dX0_chosenBy_5 rfl (lv_at hl 3 rfl) ?_
  have hPc := hP.sub (ws' := [(a0, .inr (0, [.ref ak, .ref al, .ref ac, .int N])), (ak, .inl (cI, 6, .inl K)), (al, .inl (cI, 6, .inl L)), (ac, .inl (cI, 6, .inl C))]) [0, 1, 2, 3] rfl
  have hDc := hD.sub (ws' := [(a0, .inr (0, [.ref ak, .ref al, .ref ac, .int N])), (ak, .inl (cI, 6, .inl K)), (al, .inl (cI, 6, .inl L)), (ac, .inl (cI, 6, .inl C))]) [0, 1, 2, 3] (by decide) rfl
  have hKc := hK.sub (tys' := [(cI, .int)]) [0] rfl
  have hFc := va_free (wc := [(a0, .inr (0, [.ref ak, .ref al, .ref ac, .int N])), (ak, .inl (cI, 6, .inl K)), (al, .inl (cI, 6, .inl L)), (ac, .inl (cI, 6, .inl C))]) hD hS hA [0, 1, 2, 3] rfl
  refine va_calli (va_runV (As := [.int i1, .int i1, .int i2]) (rest := []) ⟨hx, hb, hml, hown, hts⟩ (ctX0_worthAtEnd l dC dI cI a0 ak al ac s.heap.size N K L C i1 i1 i2 (by assumption) (by assumption)) (cwV 3 hts gX0_chosenBy_X0_worthAtEnd rfl rfl rfl (by decide +kernel) ⟨Nat.le_of_ble_eq_true rfl, Nat.le_of_ble_eq_true rfl⟩) (pre_V hKc hN hPc hDc (RX0, TX0, 4) 0 0 rfl rfl) rfl rfl hl.1 rfl (lv_room (Nat.le_of_ble_eq_true rfl)) dX0_chosenBy_6 ⟨Nat.le_of_ble_eq_true rfl, Nat.le_of_ble_eq_true rfl⟩) hS (fun q _ h => hFc q h) hFc (fun r _ t H locs ht hvm hw hB hz1 hk1 hS => ?_)
  try dsimp only at hw
  subst hw
  rw [ht] at hB
  obtain ⟨hP, hD⟩ := rw_join ([(a0, .inr (0, [.ref ak, .ref al, .ref ac, .int N])), (ak, .inl (cI, 6, .inl K)), (al, .inl (cI, 6, .inl L)), (ac, .inl (cI, 6, .inl C))]) ([(a0, .inr (0, [.ref ak, .ref al, .ref ac, .int N])), (ak, .inl (cI, 6, .inl K)), (al, .inl (cI, 6, .inl L)), (ac, .inl (cI, 6, .inl C))]) ([(a0, .inr (0, [.ref ak, .ref al, .ref ac, .int N])), (ak, .inl (cI, 6, .inl K)), (al, .inl (cI, 6, .inl L)), (ac, .inl (cI, 6, .inl C))]) ([(a0, .inr (0, [.ref ak, .ref al, .ref ac, .int N])), (ak, .inl (cI, 6, .inl K)), (al, .inl (cI, 6, .inl L)), (ac, .inl (cI, 6, .inl C))]) ([]) hP hD [0, 1, 2, 3] [] [a0, ak, al, ac] 4 rfl rfl rfl rfl rfl (by decide) rfl rfl hk1 hB
  refine lv_istore (lv' := [(4, .int (p0_worthAtEnd K L C i1 i1 i2)), (3, .int i1), (0, .ref a0), (1, .int i1), (2, .int i2)]) hx hb dX0_chosenBy_9 hl (by decide) rfl (fun ls hl => ?_)
  refine lv_iconst (v := 0) hx hb dX0_chosenBy_11 (by decide) ?_
  refine lv_istore (lv' := [(5, .int 0), (4, .int (p0_worthAtEnd K L C i1 i1 i2)), (3, .int i1), (0, .ref a0), (1, .int i1), (2, .int i2)]) hx hb dX0_chosenBy_12 hl (by decide) rfl (fun ls hl => ?_)
  exact lp_14 7 i1 (p0_worthAtEnd K L C i1 i1 i2) 0  _ _ _ (up_i 6 (by decide) hNb) hP hD hS (lv_sub hl [0, 1, 2, 3, 4, 5] rfl) (rfl)

def p0_isFair (N : Int32) (K : Nat → Int32) (L : Nat → Int32) (C : Nat → Int32) (i1 : Int32) (i2 : Int32) (i3 : Int32) : Int32 :=
  if (p0_payer K L C i1 i2 i3) = (p0_richest N K L C) then
    1
  else
    0
abbrev rmX0_isFair : Room := { frames := 3, cells := 0, slots := 0, locals := 69 }
abbrev QX0_isFair (dC : Nat → ClassId) (dI : Nat → Nat → Nat) (A : Nat → Prop) (cI : ClassId) (a0 : Nat) (ak : Nat) (al : Nat) (ac : Nat) (N : Int32) (K : Nat → Int32) (L : Nat → Int32) (C : Nat → Int32) (i1 : Int32) (i2 : Int32) (i3 : Int32) : Array Value → State → Outcome → State → Prop := va_Qi (fun (r : Int32) (_ : Unit) => r = p0_isFair N K L C i1 i2 i3) (fun (_ : Unit) (t : State) => va_P (dC, dI) vwCl ([(a0, .inr (0, [.ref ak, .ref al, .ref ac, .int N])), (ak, .inl (cI, 6, .inl K)), (al, .inl (cI, 6, .inl L)), (ac, .inl (cI, 6, .inl C))]) t.heap) A
set_option maxHeartbeats 4000000 in
set_option maxRecDepth 100000 in
theorem ctX0_isFair (l : Launch) (dC : Nat → ClassId) (dI : Nat → Nat → Nat) (cI : ClassId) (a0 : Nat) (ak : Nat) (al : Nat) (ac : Nat) (sz : Nat) (N : Int32) (K : Nat → Int32) (L : Nat → Int32) (C : Nat → Int32) (i1 : Int32) (i2 : Int32) (i3 : Int32) (hi1 : vp_in i1 6) (hi2 : vp_in i2 6) (hNb : N.toInt ≤ 6) : Met l yX0_isFair wsX0_isFair rmX0_isFair (va_Pc [.ref a0, .int i1, .int i2, .int i3] (cP dC dI [(cI, .int)] ([(a0, .inr (0, [.ref ak, .ref al, .ref ac, .int N])), (ak, .inl (cI, 6, .inl K)), (al, .inl (cI, 6, .inl L)), (ac, .inl (cI, 6, .inl C))]) sz)) (QX0_isFair dC dI (va_A ([(a0, .inr (0, [.ref ak, .ref al, .ref ac, .int N])), (ak, .inl (cI, 6, .inl K)), (al, .inl (cI, 6, .inl L)), (ac, .inl (cI, 6, .inl C))]) sz) cI a0 ak al ac N K L C i1 i2 i3) 0 0 (va_A ([(a0, .inr (0, [.ref ak, .ref al, .ref ac, .int N])), (ak, .inl (cI, 6, .inl K)), (al, .inl (cI, 6, .inl L)), (ac, .inl (cI, 6, .inl C))]) sz) := by
  refine Met.ofW (cc := cX0_isFair) (maxL := 4) (ret := (some .boolean)) (by decide) rfl ?_
  intro p e s m args below meth c s₁ B hml hv
  obtain ⟨rfl, hsz, hP, hK, hD0, hN⟩ := hv
  have hx := B.exec
  have hb := B.bytes
  have hr := B.returns
  have hts := atoms_spec (ws := wsX0_isFair) B.pre
  have hown : s.vm.findClass RX0 = some m.cls := findClass_of_methodNamed B.named
  have hlocks := B.notSynchronized
  subst hsz
  have hD := hD0.self (sz := s.heap.size)
  generalize hAe : va_A ([(a0, .inr (0, [.ref ak, .ref al, .ref ac, .int N])), (ak, .inl (cI, 6, .inl K)), (al, .inl (cI, 6, .inl L)), (ac, .inl (cI, 6, .inl C))]) s.heap.size = A at hD ⊢
  have hA : ∀ q : Nat, s.heap.size ≤ q → A q := fun q h => by rw [← hAe]; exact Or.inr h
  have hS : va_S A s.heap s.heap [] := va_S.rf
  have hP : va_P (dC, dI) vwCl ([(a0, .inr (0, [.ref ak, .ref al, .ref ac, .int N])), (ak, .inl (cI, 6, .inl K)), (al, .inl (cI, 6, .inl L)), (ac, .inl (cI, 6, .inl C))]) s.heap := hP
  have hl := lv_entry ([.ref a0, .int i1, .int i2, .int i3]) (n := 4) (Nat.le_of_ble_eq_true rfl)
  rw [lg_entry_eq]
  generalize (lg_sl ([.ref a0, .int i1, .int i2, .int i3]) ++ List.replicate (4 - (lg_sl ([.ref a0, .int i1, .int i2, .int i3])).length) Slot.unset).toArray = ls at hl ⊢
  have hl : lv_has ls 4 [(0, .ref a0), (1, .int i1), (2, .int i2), (3, .int i3)] := hl
  refine lv_aload_n hx hb dX0_isFair_0 rfl (lv_at hl 0 rfl) ?_
  refine lv_iload_n hx hb dX0_isFair_1 rfl (lv_at hl 1 rfl) ?_
  refine lv_iload_n hx hb dX0_isFair_2 rfl (lv_at hl 2 rfl) ?_
  refine lv_iload_n hx hb dX0_isFair_3 rfl (lv_at hl 3 rfl) ?_
  have hPc := hP.sub (ws' := [(a0, .inr (0, [.ref ak, .ref al, .ref ac, .int N])), (ak, .inl (cI, 6, .inl K)), (al, .inl (cI, 6, .inl L)), (ac, .inl (cI, 6, .inl C))]) [0, 1, 2, 3] rfl
  have hDc := hD.sub (ws' := [(a0, .inr (0, [.ref ak, .ref al, .ref ac, .int N])), (ak, .inl (cI, 6, .inl K)), (al, .inl (cI, 6, .inl L)), (ac, .inl (cI, 6, .inl C))]) [0, 1, 2, 3] (by decide) rfl
  have hKc := hK.sub (tys' := [(cI, .int)]) [0] rfl
  have hFc := va_free (wc := [(a0, .inr (0, [.ref ak, .ref al, .ref ac, .int N])), (ak, .inl (cI, 6, .inl K)), (al, .inl (cI, 6, .inl L)), (ac, .inl (cI, 6, .inl C))]) hD hS hA [0, 1, 2, 3] rfl
  refine va_calli (va_runV (As := [.int i1, .int i2, .int i3]) (rest := []) ⟨hx, hb, hml, hown, hts⟩ (ctX0_payer l dC dI cI a0 ak al ac s.heap.size N K L C i1 i2 i3 (by assumption) (by assumption)) (cwV 3 hts gX0_isFair_X0_payer rfl rfl rfl (by decide +kernel) ⟨Nat.le_of_ble_eq_true rfl, Nat.le_of_ble_eq_true rfl⟩) (pre_V hKc hN hPc hDc (RX0, TX0, 4) 0 0 rfl rfl) rfl rfl hl.1 rfl (lv_room (Nat.le_of_ble_eq_true rfl)) dX0_isFair_4 ⟨Nat.le_of_ble_eq_true rfl, Nat.le_of_ble_eq_true rfl⟩) hS (fun q _ h => hFc q h) hFc (fun r _ t H locs ht hvm hw hB hz1 hk1 hS => ?_)
  try dsimp only at hw
  subst hw
  rw [ht] at hB
  obtain ⟨hP, hD⟩ := rw_join ([(a0, .inr (0, [.ref ak, .ref al, .ref ac, .int N])), (ak, .inl (cI, 6, .inl K)), (al, .inl (cI, 6, .inl L)), (ac, .inl (cI, 6, .inl C))]) ([(a0, .inr (0, [.ref ak, .ref al, .ref ac, .int N])), (ak, .inl (cI, 6, .inl K)), (al, .inl (cI, 6, .inl L)), (ac, .inl (cI, 6, .inl C))]) ([(a0, .inr (0, [.ref ak, .ref al, .ref ac, .int N])), (ak, .inl (cI, 6, .inl K)), (al, .inl (cI, 6, .inl L)), (ac, .inl (cI, 6, .inl C))]) ([(a0, .inr (0, [.ref ak, .ref al, .ref ac, .int N])), (ak, .inl (cI, 6, .inl K)), (al, .inl (cI, 6, .inl L)), (ac, .inl (cI, 6, .inl C))]) ([]) hP hD [0, 1, 2, 3] [] [a0, ak, al, ac] 4 rfl rfl rfl rfl rfl (by decide) rfl rfl hk1 hB
  refine lv_aload_n hx hb dX0_isFair_7 rfl (lv_at hl 0 rfl) ?_
  have hPc := hP.sub (ws' := [(a0, .inr (0, [.ref ak, .ref al, .ref ac, .int N])), (ak, .inl (cI, 6, .inl K)), (al, .inl (cI, 6, .inl L)), (ac, .inl (cI, 6, .inl C))]) [0, 1, 2, 3] rfl
  have hDc := hD.sub (ws' := [(a0, .inr (0, [.ref ak, .ref al, .ref ac, .int N])), (ak, .inl (cI, 6, .inl K)), (al, .inl (cI, 6, .inl L)), (ac, .inl (cI, 6, .inl C))]) [0, 1, 2, 3] (by decide) rfl
  have hKc := hK.sub (tys' := [(cI, .int)]) [0] rfl
  have hFc := va_free (wc := [(a0, .inr (0, [.ref ak, .ref al, .ref ac, .int N])), (ak, .inl (cI, 6, .inl K)), (al, .inl (cI, 6, .inl L)), (ac, .inl (cI, 6, .inl C))]) hD hS hA [0, 1, 2, 3] rfl
  refine va_calli (va_runV (As := []) (rest := [.int (p0_payer K L C i1 i2 i3)]) ⟨hx, hb, hml, hown, hts⟩ (ctX0_richest l dC dI cI a0 ak al ac H.size N K L C (by assumption)) (cwV 0 hts gX0_isFair_X0_richest rfl rfl rfl (by decide +kernel) ⟨Nat.le_of_ble_eq_true rfl, Nat.le_of_ble_eq_true rfl⟩) (pre_V hKc hN hPc hDc (RX0, TX0, 4) 0 0 rfl rfl) rfl rfl hl.1 rfl (lv_room (Nat.le_of_ble_eq_true rfl)) dX0_isFair_8 ⟨Nat.le_of_ble_eq_true rfl, Nat.le_of_ble_eq_true rfl⟩) hS (fun q _ h => hFc q h) hFc (fun r _ t H locs ht hvm hw hB hz1 hk1 hS => ?_)
  try dsimp only at hw
  subst hw
  rw [ht] at hB
  obtain ⟨hP, hD⟩ := rw_join ([(a0, .inr (0, [.ref ak, .ref al, .ref ac, .int N])), (ak, .inl (cI, 6, .inl K)), (al, .inl (cI, 6, .inl L)), (ac, .inl (cI, 6, .inl C))]) ([(a0, .inr (0, [.ref ak, .ref al, .ref ac, .int N])), (ak, .inl (cI, 6, .inl K)), (al, .inl (cI, 6, .inl L)), (ac, .inl (cI, 6, .inl C))]) ([(a0, .inr (0, [.ref ak, .ref al, .ref ac, .int N])), (ak, .inl (cI, 6, .inl K)), (al, .inl (cI, 6, .inl L)), (ac, .inl (cI, 6, .inl C))]) ([(a0, .inr (0, [.ref ak, .ref al, .ref ac, .int N])), (ak, .inl (cI, 6, .inl K)), (al, .inl (cI, 6, .inl L)), (ac, .inl (cI, 6, .inl C))]) ([]) hP hD [0, 1, 2, 3] [] [a0, ak, al, ac] 4 rfl rfl rfl rfl rfl (by decide) rfl rfl hk1 hB
  refine lv_icmp_ne (tgt := 18) hx hb dX0_isFair_11 (by decide) (fun c_11 => ?_) (fun c_11 => ?_)
  · skip
    refine lv_iconst (v := 0) hx hb dX0_isFair_18 (by decide) ?_
    have hE9 : p0_isFair N K L C i1 i2 i3 = 0 := by unfold p0_isFair; rw [if_neg c_11]
    exact W.zret (v := 0) hx hb hr (by decide +kernel) (fun t ht hW => ⟨⟨_, (), rfl, by rw [hE9], by show va_P (dC, dI) vwCl _ t.heap; rw [ht]; exact hP⟩, hS.F ht⟩) hS.2.2 dX0_isFair_19
  · skip
    refine lv_iconst (v := 1) hx hb dX0_isFair_14 (by decide) ?_
    refine lv_goto (tgt := 19) hx hb dX0_isFair_15 (by decide) ?_
    have hE9 : p0_isFair N K L C i1 i2 i3 = 1 := by unfold p0_isFair; rw [if_pos c_11]
    exact W.zret (v := 1) hx hb hr (by decide +kernel) (fun t ht hW => ⟨⟨_, (), rfl, by rw [hE9], by show va_P (dC, dI) vwCl _ t.heap; rw [ht]; exact hP⟩, hS.F ht⟩) hS.2.2 dX0_isFair_19

def p0_isPointedAt_l2 (N : Int32) (K : Nat → Int32) (L : Nat → Int32) (C : Nat → Int32) (i1 : Int32) (i2 : Int32) : Nat → Int32 → Int32
  | 0, _ => 0
  | n + 1, v3 =>
    if N ≤ v3 then
      0
    else
      if v3 = i1 then
        p0_isPointedAt_l2 N K L C i1 i2 n (v3 + 1)
      else
        if (p0_chosenBy N K L C v3 i2) = i1 then
          1
        else
          p0_isPointedAt_l2 N K L C i1 i2 n (v3 + 1)
theorem p0_isPointedAt_l2_s (N : Int32) (K : Nat → Int32) (L : Nat → Int32) (C : Nat → Int32) (i1 : Int32) (i2 : Int32) (n : Nat) (v3 : Int32) : p0_isPointedAt_l2 N K L C i1 i2 (n + 1) v3 =
    (if N ≤ v3 then
      0
    else
      if v3 = i1 then
        p0_isPointedAt_l2 N K L C i1 i2 n (v3 + 1)
      else
        if (p0_chosenBy N K L C v3 i2) = i1 then
          1
        else
          p0_isPointedAt_l2 N K L C i1 i2 n (v3 + 1)) := rfl
def p0_isPointedAt (N : Int32) (K : Nat → Int32) (L : Nat → Int32) (C : Nat → Int32) (i1 : Int32) (i2 : Int32) : Int32 :=
  p0_isPointedAt_l2 N K L C i1 i2 7 0
abbrev rmX0_isPointedAt : Room := { frames := 4, cells := 0, slots := 0, locals := 95 }
abbrev QX0_isPointedAt (dC : Nat → ClassId) (dI : Nat → Nat → Nat) (A : Nat → Prop) (cI : ClassId) (a0 : Nat) (ak : Nat) (al : Nat) (ac : Nat) (N : Int32) (K : Nat → Int32) (L : Nat → Int32) (C : Nat → Int32) (i1 : Int32) (i2 : Int32) : Array Value → State → Outcome → State → Prop := va_Qi (fun (r : Int32) (_ : Unit) => r = p0_isPointedAt N K L C i1 i2) (fun (_ : Unit) (t : State) => va_P (dC, dI) vwCl ([(a0, .inr (0, [.ref ak, .ref al, .ref ac, .int N])), (ak, .inl (cI, 6, .inl K)), (al, .inl (cI, 6, .inl L)), (ac, .inl (cI, 6, .inl C))]) t.heap) A
set_option maxHeartbeats 4000000 in
set_option maxRecDepth 100000 in
theorem ctX0_isPointedAt (l : Launch) (dC : Nat → ClassId) (dI : Nat → Nat → Nat) (cI : ClassId) (a0 : Nat) (ak : Nat) (al : Nat) (ac : Nat) (sz : Nat) (N : Int32) (K : Nat → Int32) (L : Nat → Int32) (C : Nat → Int32) (i1 : Int32) (i2 : Int32) (hNb : N.toInt ≤ 6) : Met l yX0_isPointedAt wsX0_isPointedAt rmX0_isPointedAt (va_Pc [.ref a0, .int i1, .int i2] (cP dC dI [(cI, .int)] ([(a0, .inr (0, [.ref ak, .ref al, .ref ac, .int N])), (ak, .inl (cI, 6, .inl K)), (al, .inl (cI, 6, .inl L)), (ac, .inl (cI, 6, .inl C))]) sz)) (QX0_isPointedAt dC dI (va_A ([(a0, .inr (0, [.ref ak, .ref al, .ref ac, .int N])), (ak, .inl (cI, 6, .inl K)), (al, .inl (cI, 6, .inl L)), (ac, .inl (cI, 6, .inl C))]) sz) cI a0 ak al ac N K L C i1 i2) 0 0 (va_A ([(a0, .inr (0, [.ref ak, .ref al, .ref ac, .int N])), (ak, .inl (cI, 6, .inl K)), (al, .inl (cI, 6, .inl L)), (ac, .inl (cI, 6, .inl C))]) sz) := by
  refine Met.ofW (cc := cX0_isPointedAt) (maxL := 4) (ret := (some .boolean)) (by decide) rfl ?_
  intro p e s m args below meth c s₁ B hml hv
  obtain ⟨rfl, hsz, hP, hK, hD0, hN⟩ := hv
  have hx := B.exec
  have hb := B.bytes
  have hr := B.returns
  have hts := atoms_spec (ws := wsX0_isPointedAt) B.pre
  have hown : s.vm.findClass RX0 = some m.cls := findClass_of_methodNamed B.named
  have hlocks := B.notSynchronized
  subst hsz
  have hD := hD0.self (sz := s.heap.size)
  generalize hAe : va_A ([(a0, .inr (0, [.ref ak, .ref al, .ref ac, .int N])), (ak, .inl (cI, 6, .inl K)), (al, .inl (cI, 6, .inl L)), (ac, .inl (cI, 6, .inl C))]) s.heap.size = A at hD ⊢
  have hA : ∀ q : Nat, s.heap.size ≤ q → A q := fun q h => by rw [← hAe]; exact Or.inr h
  have hS : va_S A s.heap s.heap [] := va_S.rf
  have hP : va_P (dC, dI) vwCl ([(a0, .inr (0, [.ref ak, .ref al, .ref ac, .int N])), (ak, .inl (cI, 6, .inl K)), (al, .inl (cI, 6, .inl L)), (ac, .inl (cI, 6, .inl C))]) s.heap := hP
  have hin0 : ∀ w ∈ wsX00, w ∈ wsX0_isPointedAt := by decide +kernel
  have kf_21 := hts (.fieldLink RX0 21 "RicherChange$City" "houses" "I") (by decide +kernel)
  have hl := lv_entry ([.ref a0, .int i1, .int i2]) (n := 4) (Nat.le_of_ble_eq_true rfl)
  rw [lg_entry_eq]
  generalize (lg_sl ([.ref a0, .int i1, .int i2]) ++ List.replicate (4 - (lg_sl ([.ref a0, .int i1, .int i2])).length) Slot.unset).toArray = ls at hl ⊢
  have hl : lv_has ls 4 [(0, .ref a0), (1, .int i1), (2, .int i2)] := hl
  have lp_2 : ∀ (n : Nat) (v3 : Int32) (H : Heap) (locs : List Loc) (ls : Array Slot), (up v3 N n) → va_P (dC, dI) vwCl ([(a0, .inr (0, [.ref ak, .ref al, .ref ac, .int N])), (ak, .inl (cI, 6, .inl K)), (al, .inl (cI, 6, .inl L)), (ac, .inl (cI, 6, .inl C))]) H → va_D A ([(a0, .inr (0, [.ref ak, .ref al, .ref ac, .int N])), (ak, .inl (cI, 6, .inl K)), (al, .inl (cI, 6, .inl L)), (ac, .inl (cI, 6, .inl C))]) → va_S A s.heap H locs → lv_has ls 4 [(3, .int v3), (0, .ref a0), (1, .int i1), (2, .int i2)] → p0_isPointedAt N K L C i1 i2 = p0_isPointedAt_l2 N K L C i1 i2 n v3 → W p l e (headSpec wsX0_isPointedAt rmX0_isPointedAt).room s m [.ref a0, .int i1, .int i2].toArray below meth c H locs 0 0 (MQ below (QX0_isPointedAt dC dI A cI a0 ak al ac N K L C i1 i2) [.ref a0, .int i1, .int i2].toArray s 0 0 A) (F0 m 2 ls []) := by
    intro n
    induction n with
    | zero => intro v3 _ _ _ hu; exact absurd hu up_no
    | succ n ih =>
      intro v3 H locs ls hu hP hD hS hl hE
      refine lv_iload_n hx hb dX0_isPointedAt_2 rfl (lv_at hl 0 rfl) ?_
      refine lv_aload_n hx hb dX0_isPointedAt_3 rfl (lv_at hl 1 rfl) ?_
      refine va_get (D := (dC, dI)) (ci := 0) (v := .int N) (C := RX0) (T := TX0) (N := 4) hx hb hts hin0 hown hK hP 0 rfl rfl 3 (by decide) kf_21 (fun _ h9 => h9) rfl dX0_isPointedAt_4 ?_
      refine lv_icmp_ge (tgt := 33) hx hb dX0_isPointedAt_7 (by decide) (fun c_7 => ?_) (fun c_7 => ?_)
      · skip
        refine lv_iconst (v := 0) hx hb dX0_isPointedAt_33 (by decide) ?_
        have hE9 : p0_isPointedAt N K L C i1 i2 = 0 := hE.trans (by rw [p0_isPointedAt_l2_s, if_pos c_7])
        exact W.zret (v := 0) hx hb hr (by decide +kernel) (fun t ht hW => ⟨⟨_, (), rfl, by rw [hE9], by show va_P (dC, dI) vwCl _ t.heap; rw [ht]; exact hP⟩, hS.F ht⟩) hS.2.2 dX0_isPointedAt_34
      · skip
        have j3 : vp_in v3 6 := up_in 6 hu c_7 hNb
        refine lv_iload_n hx hb dX0_isPointedAt_10 rfl (lv_at hl 0 rfl) ?_
        refine lv_iload_n hx hb dX0_isPointedAt_11 rfl (lv_at hl 2 rfl) ?_
        refine lv_icmp_eq (tgt := 27) hx hb dX0_isPointedAt_12 (by decide) (fun c_12 => ?_) (fun c_12 => ?_)
        · skip
          refine lv_iinc (v := (v3 + 1)) (lv' := [(3, .int (v3 + 1)), (0, .ref a0), (1, .int i1), (2, .int i2)]) hx hb dX0_isPointedAt_27 hl (k := 0) rfl rfl (by decide) rfl (fun ls hl => ?_)
          refine lv_goto (tgt := 2) hx hb dX0_isPointedAt_30 (by decide) ?_
          exact ih (v3 + 1) _ _ _ (up_s hu c_7) hP hD hS (lv_sub hl [0, 1, 2, 3] rfl) (hE.trans (by rw [p0_isPointedAt_l2_s, if_neg c_7, if_pos c_12]))
        · skip
          refine lv_aload_n hx hb dX0_isPointedAt_15 rfl (lv_at hl 1 rfl) ?_
          refine lv_iload_n hx hb dX0_isPointedAt_16 rfl (lv_at hl 0 rfl) ?_
          refine lv_iload_n hx hb dX0_isPointedAt_17 rfl (lv_at hl 3 rfl) ?_
          have hPc := hP.sub (ws' := [(a0, .inr (0, [.ref ak, .ref al, .ref ac, .int N])), (ak, .inl (cI, 6, .inl K)), (al, .inl (cI, 6, .inl L)), (ac, .inl (cI, 6, .inl C))]) [0, 1, 2, 3] rfl
          have hDc := hD.sub (ws' := [(a0, .inr (0, [.ref ak, .ref al, .ref ac, .int N])), (ak, .inl (cI, 6, .inl K)), (al, .inl (cI, 6, .inl L)), (ac, .inl (cI, 6, .inl C))]) [0, 1, 2, 3] (by decide) rfl
          have hKc := hK.sub (tys' := [(cI, .int)]) [0] rfl
          have hFc := va_free (wc := [(a0, .inr (0, [.ref ak, .ref al, .ref ac, .int N])), (ak, .inl (cI, 6, .inl K)), (al, .inl (cI, 6, .inl L)), (ac, .inl (cI, 6, .inl C))]) hD hS hA [0, 1, 2, 3] rfl
          refine va_calli (va_runV (As := [.int v3, .int i2]) (rest := []) ⟨hx, hb, hml, hown, hts⟩ (ctX0_chosenBy l dC dI cI a0 ak al ac H.size N K L C v3 i2 (by assumption) (by assumption)) (cwV 2 hts gX0_isPointedAt_X0_chosenBy rfl rfl rfl (by decide +kernel) ⟨Nat.le_of_ble_eq_true rfl, Nat.le_of_ble_eq_true rfl⟩) (pre_V hKc hN hPc hDc (RX0, TX0, 4) 0 0 rfl rfl) rfl rfl hl.1 rfl (lv_room (Nat.le_of_ble_eq_true rfl)) dX0_isPointedAt_18 ⟨Nat.le_of_ble_eq_true rfl, Nat.le_of_ble_eq_true rfl⟩) hS (fun q _ h => hFc q h) hFc (fun r _ t H locs ht hvm hw hB hz1 hk1 hS => ?_)
          try dsimp only at hw
          subst hw
          rw [ht] at hB
          obtain ⟨hP, hD⟩ := rw_join ([(a0, .inr (0, [.ref ak, .ref al, .ref ac, .int N])), (ak, .inl (cI, 6, .inl K)), (al, .inl (cI, 6, .inl L)), (ac, .inl (cI, 6, .inl C))]) ([(a0, .inr (0, [.ref ak, .ref al, .ref ac, .int N])), (ak, .inl (cI, 6, .inl K)), (al, .inl (cI, 6, .inl L)), (ac, .inl (cI, 6, .inl C))]) ([(a0, .inr (0, [.ref ak, .ref al, .ref ac, .int N])), (ak, .inl (cI, 6, .inl K)), (al, .inl (cI, 6, .inl L)), (ac, .inl (cI, 6, .inl C))]) ([(a0, .inr (0, [.ref ak, .ref al, .ref ac, .int N])), (ak, .inl (cI, 6, .inl K)), (al, .inl (cI, 6, .inl L)), (ac, .inl (cI, 6, .inl C))]) ([]) hP hD [0, 1, 2, 3] [] [a0, ak, al, ac] 4 rfl rfl rfl rfl rfl (by decide) rfl rfl hk1 hB
          refine lv_iload_n hx hb dX0_isPointedAt_21 rfl (lv_at hl 2 rfl) ?_
          refine lv_icmp_ne (tgt := 27) hx hb dX0_isPointedAt_22 (by decide) (fun c_22 => ?_) (fun c_22 => ?_)
          · skip
            refine lv_iinc (v := (v3 + 1)) (lv' := [(3, .int (v3 + 1)), (0, .ref a0), (1, .int i1), (2, .int i2)]) hx hb dX0_isPointedAt_27 hl (k := 0) rfl rfl (by decide) rfl (fun ls hl => ?_)
            refine lv_goto (tgt := 2) hx hb dX0_isPointedAt_30 (by decide) ?_
            exact ih (v3 + 1) _ _ _ (up_s hu c_7) hP hD hS (lv_sub hl [0, 1, 2, 3] rfl) (hE.trans (by rw [p0_isPointedAt_l2_s, if_neg c_7, if_neg c_12, if_neg c_22]))
          · skip
            refine lv_iconst (v := 1) hx hb dX0_isPointedAt_25 (by decide) ?_
            have hE9 : p0_isPointedAt N K L C i1 i2 = 1 := hE.trans (by rw [p0_isPointedAt_l2_s, if_neg c_7, if_neg c_12, if_pos c_22])
            exact W.zret (v := 1) hx hb hr (by decide +kernel) (fun t ht hW => ⟨⟨_, (), rfl, by rw [hE9], by show va_P (dC, dI) vwCl _ t.heap; rw [ht]; exact hP⟩, hS.F ht⟩) hS.2.2 dX0_isPointedAt_26
  refine lv_iconst (v := 0) hx hb dX0_isPointedAt_0 (by decide) ?_
  refine lv_istore_n (lv' := [(3, .int 0), (0, .ref a0), (1, .int i1), (2, .int i2)]) hx hb dX0_isPointedAt_1 rfl hl (by decide) rfl (fun ls hl => ?_)
  exact lp_2 7 0 _ _ _ (up_i 6 (by decide) hNb) hP hD hS (lv_sub hl [0, 1, 2, 3] rfl) (rfl)

def p0_exchange (L : Nat → Int32) (C : Nat → Int32) (i1 : Int32) (i2 : Int32) : (Nat → Int32) × (Nat → Int32) :=
  ((upd (upd L i1.toNatClampNeg (L i2.toNatClampNeg)) i2.toNatClampNeg (L i1.toNatClampNeg)), (upd (upd C i1.toNatClampNeg (C i2.toNatClampNeg)) i2.toNatClampNeg (C i1.toNatClampNeg)))
abbrev rmX0_exchange : Room := { frames := 0, cells := 0, slots := 0, locals := 0 }
abbrev QX0_exchange (dC : Nat → ClassId) (dI : Nat → Nat → Nat) (A : Nat → Prop) (cI : ClassId) (a0 : Nat) (ak : Nat) (al : Nat) (ac : Nat) (N : Int32) (K : Nat → Int32) (L : Nat → Int32) (C : Nat → Int32) (i1 : Int32) (i2 : Int32) : Array Value → State → Outcome → State → Prop := va_Qv (fun (_ : Unit) => True) (fun (_ : Unit) (t : State) => va_P (dC, dI) vwCl ([(a0, .inr (0, [.ref ak, .ref al, .ref ac, .int N])), (ak, .inl (cI, 6, .inl K)), (al, .inl (cI, 6, .inl ((p0_exchange L C i1 i2).1))), (ac, .inl (cI, 6, .inl ((p0_exchange L C i1 i2).2)))]) t.heap) A
set_option maxHeartbeats 4000000 in
set_option maxRecDepth 100000 in
theorem ctX0_exchange (l : Launch) (dC : Nat → ClassId) (dI : Nat → Nat → Nat) (cI : ClassId) (a0 : Nat) (ak : Nat) (al : Nat) (ac : Nat) (sz : Nat) (N : Int32) (K : Nat → Int32) (L : Nat → Int32) (C : Nat → Int32) (i1 : Int32) (i2 : Int32) (hi1 : vp_in i1 6) (hi2 : vp_in i2 6) : Met l yX0_exchange wsX0_exchange rmX0_exchange (va_Pc [.ref a0, .int i1, .int i2] (cP dC dI [(cI, .int)] ([(a0, .inr (0, [.ref ak, .ref al, .ref ac, .int N])), (ak, .inl (cI, 6, .inl K)), (al, .inl (cI, 6, .inl L)), (ac, .inl (cI, 6, .inl C))]) sz)) (QX0_exchange dC dI (va_A ([(a0, .inr (0, [.ref ak, .ref al, .ref ac, .int N])), (ak, .inl (cI, 6, .inl K)), (al, .inl (cI, 6, .inl L)), (ac, .inl (cI, 6, .inl C))]) sz) cI a0 ak al ac N K L C i1 i2) 0 0 (va_A ([(a0, .inr (0, [.ref ak, .ref al, .ref ac, .int N])), (ak, .inl (cI, 6, .inl K)), (al, .inl (cI, 6, .inl L)), (ac, .inl (cI, 6, .inl C))]) sz) := by
  refine Met.ofW (cc := cX0_exchange) (maxL := 5) (ret := none) (by decide) rfl ?_
  intro p e s m args below meth c s₁ B hml hv
  obtain ⟨rfl, hsz, hP, hK, hD0, hN⟩ := hv
  have hx := B.exec
  have hb := B.bytes
  have hr := B.returns
  have hts := atoms_spec (ws := wsX0_exchange) B.pre
  have hown : s.vm.findClass RX0 = some m.cls := findClass_of_methodNamed B.named
  have hlocks := B.notSynchronized
  subst hsz
  have hD := hD0.self (sz := s.heap.size)
  generalize hAe : va_A ([(a0, .inr (0, [.ref ak, .ref al, .ref ac, .int N])), (ak, .inl (cI, 6, .inl K)), (al, .inl (cI, 6, .inl L)), (ac, .inl (cI, 6, .inl C))]) s.heap.size = A at hD ⊢
  have hA : ∀ q : Nat, s.heap.size ≤ q → A q := fun q h => by rw [← hAe]; exact Or.inr h
  have hS : va_S A s.heap s.heap [] := va_S.rf
  have hP : va_P (dC, dI) vwCl ([(a0, .inr (0, [.ref ak, .ref al, .ref ac, .int N])), (ak, .inl (cI, 6, .inl K)), (al, .inl (cI, 6, .inl L)), (ac, .inl (cI, 6, .inl C))]) s.heap := hP
  have hin0 : ∀ w ∈ wsX00, w ∈ wsX0_exchange := by decide +kernel
  have kf_15 := hts (.fieldLink RX0 15 "RicherChange$City" "land" "[I") (by decide +kernel)
  have kf_18 := hts (.fieldLink RX0 18 "RicherChange$City" "coin" "[I") (by decide +kernel)
  have hl := lv_entry ([.ref a0, .int i1, .int i2]) (n := 5) (Nat.le_of_ble_eq_true rfl)
  rw [lg_entry_eq]
  generalize (lg_sl ([.ref a0, .int i1, .int i2]) ++ List.replicate (5 - (lg_sl ([.ref a0, .int i1, .int i2])).length) Slot.unset).toArray = ls at hl ⊢
  have hl : lv_has ls 5 [(0, .ref a0), (1, .int i1), (2, .int i2)] := hl
  refine lv_aload_n hx hb dX0_exchange_0 rfl (lv_at hl 0 rfl) ?_
  refine va_get (D := (dC, dI)) (ci := 0) (v := .ref al) (C := RX0) (T := TX0) (N := 4) hx hb hts hin0 hown hK hP 0 rfl rfl 1 (by decide) kf_15 (fun _ h9 => h9) rfl dX0_exchange_1 ?_
  refine lv_iload_n hx hb dX0_exchange_4 rfl (lv_at hl 1 rfl) ?_
  refine va_iald hx hb hK hP 2 0 rfl rfl (by assumption) dX0_exchange_5 ?_
  refine lv_istore_n (lv' := [(3, .int (L i1.toNatClampNeg)), (0, .ref a0), (1, .int i1), (2, .int i2)]) hx hb dX0_exchange_6 rfl hl (by decide) rfl (fun ls hl => ?_)
  refine lv_aload_n hx hb dX0_exchange_7 rfl (lv_at hl 1 rfl) ?_
  refine va_get (D := (dC, dI)) (ci := 0) (v := .ref ac) (C := RX0) (T := TX0) (N := 4) hx hb hts hin0 hown hK hP 0 rfl rfl 2 (by decide) kf_18 (fun _ h9 => h9) rfl dX0_exchange_8 ?_
  refine lv_iload_n hx hb dX0_exchange_11 rfl (lv_at hl 2 rfl) ?_
  refine va_iald hx hb hK hP 3 0 rfl rfl (by assumption) dX0_exchange_12 ?_
  refine lv_istore (lv' := [(4, .int (C i1.toNatClampNeg)), (3, .int (L i1.toNatClampNeg)), (0, .ref a0), (1, .int i1), (2, .int i2)]) hx hb dX0_exchange_13 hl (by decide) rfl (fun ls hl => ?_)
  refine lv_aload_n hx hb dX0_exchange_15 rfl (lv_at hl 2 rfl) ?_
  refine va_get (D := (dC, dI)) (ci := 0) (v := .ref al) (C := RX0) (T := TX0) (N := 4) hx hb hts hin0 hown hK hP 0 rfl rfl 1 (by decide) kf_15 (fun _ h9 => h9) rfl dX0_exchange_16 ?_
  refine lv_iload_n hx hb dX0_exchange_19 rfl (lv_at hl 3 rfl) ?_
  refine lv_aload_n hx hb dX0_exchange_20 rfl (lv_at hl 2 rfl) ?_
  refine va_get (D := (dC, dI)) (ci := 0) (v := .ref al) (C := RX0) (T := TX0) (N := 4) hx hb hts hin0 hown hK hP 0 rfl rfl 1 (by decide) kf_15 (fun _ h9 => h9) rfl dX0_exchange_21 ?_
  refine lv_iload_n hx hb dX0_exchange_24 rfl (lv_at hl 4 rfl) ?_
  refine va_iald hx hb hK hP 2 0 rfl rfl (by assumption) dX0_exchange_25 ?_
  refine va_iast hx hb hK hP hD hS 2 0 rfl rfl (by assumption) dX0_exchange_26 (fun H locs hP hD hS => ?_)
  have hP : va_P (dC, dI) vwCl ([(a0, .inr (0, [.ref ak, .ref al, .ref ac, .int N])), (ak, .inl (cI, 6, .inl K)), (al, .inl (cI, 6, .inl (upd L i1.toNatClampNeg (L i2.toNatClampNeg)))), (ac, .inl (cI, 6, .inl C))]) H := hP
  have hD : va_D A ([(a0, .inr (0, [.ref ak, .ref al, .ref ac, .int N])), (ak, .inl (cI, 6, .inl K)), (al, .inl (cI, 6, .inl (upd L i1.toNatClampNeg (L i2.toNatClampNeg)))), (ac, .inl (cI, 6, .inl C))]) := hD
  refine lv_aload_n hx hb dX0_exchange_27 rfl (lv_at hl 2 rfl) ?_
  refine va_get (D := (dC, dI)) (ci := 0) (v := .ref ac) (C := RX0) (T := TX0) (N := 4) hx hb hts hin0 hown hK hP 0 rfl rfl 2 (by decide) kf_18 (fun _ h9 => h9) rfl dX0_exchange_28 ?_
  refine lv_iload_n hx hb dX0_exchange_31 rfl (lv_at hl 3 rfl) ?_
  refine lv_aload_n hx hb dX0_exchange_32 rfl (lv_at hl 2 rfl) ?_
  refine va_get (D := (dC, dI)) (ci := 0) (v := .ref ac) (C := RX0) (T := TX0) (N := 4) hx hb hts hin0 hown hK hP 0 rfl rfl 2 (by decide) kf_18 (fun _ h9 => h9) rfl dX0_exchange_33 ?_
  refine lv_iload_n hx hb dX0_exchange_36 rfl (lv_at hl 4 rfl) ?_
  refine va_iald hx hb hK hP 3 0 rfl rfl (by assumption) dX0_exchange_37 ?_
  refine va_iast hx hb hK hP hD hS 3 0 rfl rfl (by assumption) dX0_exchange_38 (fun H locs hP hD hS => ?_)
  have hP : va_P (dC, dI) vwCl ([(a0, .inr (0, [.ref ak, .ref al, .ref ac, .int N])), (ak, .inl (cI, 6, .inl K)), (al, .inl (cI, 6, .inl (upd L i1.toNatClampNeg (L i2.toNatClampNeg)))), (ac, .inl (cI, 6, .inl (upd C i1.toNatClampNeg (C i2.toNatClampNeg))))]) H := hP
  have hD : va_D A ([(a0, .inr (0, [.ref ak, .ref al, .ref ac, .int N])), (ak, .inl (cI, 6, .inl K)), (al, .inl (cI, 6, .inl (upd L i1.toNatClampNeg (L i2.toNatClampNeg)))), (ac, .inl (cI, 6, .inl (upd C i1.toNatClampNeg (C i2.toNatClampNeg))))]) := hD
  refine lv_aload_n hx hb dX0_exchange_39 rfl (lv_at hl 2 rfl) ?_
  refine va_get (D := (dC, dI)) (ci := 0) (v := .ref al) (C := RX0) (T := TX0) (N := 4) hx hb hts hin0 hown hK hP 0 rfl rfl 1 (by decide) kf_15 (fun _ h9 => h9) rfl dX0_exchange_40 ?_
  refine lv_iload_n hx hb dX0_exchange_43 rfl (lv_at hl 4 rfl) ?_
  refine lv_iload_n hx hb dX0_exchange_44 rfl (lv_at hl 1 rfl) ?_
  refine va_iast hx hb hK hP hD hS 2 0 rfl rfl (by assumption) dX0_exchange_45 (fun H locs hP hD hS => ?_)
  have hP : va_P (dC, dI) vwCl ([(a0, .inr (0, [.ref ak, .ref al, .ref ac, .int N])), (ak, .inl (cI, 6, .inl K)), (al, .inl (cI, 6, .inl (upd (upd L i1.toNatClampNeg (L i2.toNatClampNeg)) i2.toNatClampNeg (L i1.toNatClampNeg)))), (ac, .inl (cI, 6, .inl (upd C i1.toNatClampNeg (C i2.toNatClampNeg))))]) H := hP
  have hD : va_D A ([(a0, .inr (0, [.ref ak, .ref al, .ref ac, .int N])), (ak, .inl (cI, 6, .inl K)), (al, .inl (cI, 6, .inl (upd (upd L i1.toNatClampNeg (L i2.toNatClampNeg)) i2.toNatClampNeg (L i1.toNatClampNeg)))), (ac, .inl (cI, 6, .inl (upd C i1.toNatClampNeg (C i2.toNatClampNeg))))]) := hD
  refine lv_aload_n hx hb dX0_exchange_46 rfl (lv_at hl 2 rfl) ?_
  refine va_get (D := (dC, dI)) (ci := 0) (v := .ref ac) (C := RX0) (T := TX0) (N := 4) hx hb hts hin0 hown hK hP 0 rfl rfl 2 (by decide) kf_18 (fun _ h9 => h9) rfl dX0_exchange_47 ?_
  refine lv_iload_n hx hb dX0_exchange_50 rfl (lv_at hl 4 rfl) ?_
  refine lv_iload hx hb dX0_exchange_51 (lv_at hl 0 rfl) ?_
  refine va_iast hx hb hK hP hD hS 3 0 rfl rfl (by assumption) dX0_exchange_53 (fun H locs hP hD hS => ?_)
  have hP : va_P (dC, dI) vwCl ([(a0, .inr (0, [.ref ak, .ref al, .ref ac, .int N])), (ak, .inl (cI, 6, .inl K)), (al, .inl (cI, 6, .inl (upd (upd L i1.toNatClampNeg (L i2.toNatClampNeg)) i2.toNatClampNeg (L i1.toNatClampNeg)))), (ac, .inl (cI, 6, .inl (upd (upd C i1.toNatClampNeg (C i2.toNatClampNeg)) i2.toNatClampNeg (C i1.toNatClampNeg))))]) H := hP
  have hD : va_D A ([(a0, .inr (0, [.ref ak, .ref al, .ref ac, .int N])), (ak, .inl (cI, 6, .inl K)), (al, .inl (cI, 6, .inl (upd (upd L i1.toNatClampNeg (L i2.toNatClampNeg)) i2.toNatClampNeg (L i1.toNatClampNeg)))), (ac, .inl (cI, 6, .inl (upd (upd C i1.toNatClampNeg (C i2.toNatClampNeg)) i2.toNatClampNeg (C i1.toNatClampNeg))))]) := hD
  have hE9 : p0_exchange L C i1 i2 = ((upd (upd L i1.toNatClampNeg (L i2.toNatClampNeg)) i2.toNatClampNeg (L i1.toNatClampNeg)), (upd (upd C i1.toNatClampNeg (C i2.toNatClampNeg)) i2.toNatClampNeg (C i1.toNatClampNeg))) := rfl
  exact W.vret hx hb hr (fun t ht hW => ⟨⟨(), rfl, trivial, by show va_P (dC, dI) vwCl _ t.heap; rw [ht, hE9]; exact hP⟩, hS.F ht⟩) hS.2.2 dX0_exchange_54

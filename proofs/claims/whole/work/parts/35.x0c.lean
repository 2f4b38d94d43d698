def p0_pay (L : Nat → Int32) (C : Nat → Int32) (i1 : Int32) (i2 : Int32) : (Nat → Int32) × (Nat → Int32) :=
  ((upd L i1.toNatClampNeg (if 0 < ((L i1.toNatClampNeg) - (if 0 < (i2 - (C i1.toNatClampNeg)) then (i2 - (C i1.toNatClampNeg)) else 0)) then ((L i1.toNatClampNeg) - (if 0 < (i2 - (C i1.toNatClampNeg)) then (i2 - (C i1.toNatClampNeg)) else 0)) else 0)), (upd C i1.toNatClampNeg (if 0 < ((C i1.toNatClampNeg) - i2) then ((C i1.toNatClampNeg) - i2) else 0)))
abbrev rmX0_pay : Room := { frames := 1, cells := 0, slots := 0, locals := 21 }
abbrev QX0_pay (dC : Nat → ClassId) (dI : Nat → Nat → Nat) (A : Nat → Prop) (cI : ClassId) (a0 : Nat) (ak : Nat) (al : Nat) (ac : Nat) (N : Int32) (K : Nat → Int32) (L : Nat → Int32) (C : Nat → Int32) (i1 : Int32) (i2 : Int32) : Array Value → State → Outcome → State → Prop := va_Qv (fun (_ : Unit) => True) (fun (_ : Unit) (t : State) => va_P (dC, dI) vwCl ([(a0, .inr (0, [.ref ak, .ref al, .ref ac, .int N])), (ak, .inl (cI, 6, .inl K)), (al, .inl (cI, 6, .inl ((p0_pay L C i1 i2).1))), (ac, .inl (cI, 6, .inl ((p0_pay L C i1 i2).2)))]) t.heap) A
set_option maxHeartbeats 4000000 in
set_option maxRecDepth 100000 in
theorem ctX0_pay (l : Launch) (dC : Nat → ClassId) (dI : Nat → Nat → Nat) (cI : ClassId) (a0 : Nat) (ak : Nat) (al : Nat) (ac : Nat) (sz : Nat) (N : Int32) (K : Nat → Int32) (L : Nat → Int32) (C : Nat → Int32) (i1 : Int32) (i2 : Int32) (hi1 : vp_in i1 6) : Met l yX0_pay wsX0_pay rmX0_pay (va_Pc [.ref a0, .int i1, .int i2] (cP dC dI [(cI, .int)] ([(a0, .inr (0, [.ref ak, .ref al, .ref ac, .int N])), (ak, .inl (cI, 6, .inl K)), (al, .inl (cI, 6, .inl L)), (ac, .inl (cI, 6, .inl C))]) sz)) (QX0_pay dC dI (va_A ([(a0, .inr (0, [.ref ak, .ref al, .ref ac, .int N])), (ak, .inl (cI, 6, .inl K)), (al, .inl (cI, 6, .inl L)), (ac, .inl (cI, 6, .inl C))]) sz) cI a0 ak al ac N K L C i1 i2) 0 0 (va_A ([(a0, .inr (0, [.ref ak, .ref al, .ref ac, .int N])), (ak, .inl (cI, 6, .inl K)), (al, .inl (cI, 6, .inl L)), (ac, .inl (cI, 6, .inl C))]) sz) := by
  refine Met.ofW (cc := cX0_pay) (maxL := 4) (ret := none) (by decide) rfl ?_
  intro p e s m args below meth c s₁ B hml hv
  obtain ⟨rfl, hsz, hP, hK, hD0, hN⟩ := hv
  have hx := B.exec
  have hb := B.bytes
  have hr := B.returns
  have hts := atoms_spec (ws := wsX0_pay) B.pre
  have hown : s.vm.findClass RX0 = some m.cls := findClass_of_methodNamed B.named
  have hlocks := B.notSynchronized
  subst hsz
  have hD := hD0.self (sz := s.heap.size)
  generalize hAe : va_A ([(a0, .inr (0, [.ref ak, .ref al, .ref ac, .int N])), (ak, .inl (cI, 6, .inl K)), (al, .inl (cI, 6, .inl L)), (ac, .inl (cI, 6, .inl C))]) s.heap.size = A at hD ⊢
  have hA : ∀ q : Nat, s.heap.size ≤ q → A q := fun q h => by rw [← hAe]; exact Or.inr h
  have hS : va_S A s.heap s.heap [] := va_S.rf
  have hP : va_P (dC, dI) vwCl ([(a0, .inr (0, [.ref ak, .ref al, .ref ac, .int N])), (ak, .inl (cI, 6, .inl K)), (al, .inl (cI, 6, .inl L)), (ac, .inl (cI, 6, .inl C))]) s.heap := hP
  have hin0 : ∀ w ∈ wsX00, w ∈ wsX0_pay := by decide +kernel
  have kf_15 := hts (.fieldLink RX0 15 "RicherChange$City" "land" "[I") (by decide +kernel)
  have kf_18 := hts (.fieldLink RX0 18 "RicherChange$City" "coin" "[I") (by decide +kernel)
  have hl := lv_entry ([.ref a0, .int i1, .int i2]) (n := 4) (Nat.le_of_ble_eq_true rfl)
  rw [lg_entry_eq]
  generalize (lg_sl ([.ref a0, .int i1, .int i2]) ++ List.replicate (4 - (lg_sl ([.ref a0, .int i1, .int i2])).length) Slot.unset).toArray = ls at hl ⊢
  have hl : lv_has ls 4 [(0, .ref a0), (1, .int i1), (2, .int i2)] := hl
  refine lv_iconst (v := 0) hx hb dX0_pay_0 (by decide) ?_
  refine lv_iload_n hx hb dX0_pay_1 rfl (lv_at hl 2 rfl) ?_
  refine lv_aload_n hx hb dX0_pay_2 rfl (lv_at hl 0 rfl) ?_
  refine va_get (D := (dC, dI)) (ci := 0) (v := .ref ac) (C := RX0) (T := TX0) (N := 4) hx hb hts hin0 hown hK hP 0 rfl rfl 2 (by decide) kf_18 (fun _ h9 => h9) rfl dX0_pay_3 ?_
  refine lv_iload_n hx hb dX0_pay_6 rfl (lv_at hl 1 rfl) ?_
  refine va_iald hx hb hK hP 3 0 rfl rfl (by assumption) dX0_pay_7 ?_
  refine lv_isub hx hb dX0_pay_8 ?_
  refine va_mmax hx hb (hml.trans hl.1.symm) hown (hts (.methodLink RX0 74 Lib.Math.max.name) (by decide +kernel)) (hts (.static Lib.Math.max.name) (by decide +kernel)) (hts (.initialized "java/lang/Math") (by decide +kernel)) (hts (.code Lib.Math.max.name Lib.Math.max.code 2 (some .int)) (by decide +kernel)) (Nat.le_of_ble_eq_true rfl) (Nat.le_of_ble_eq_true rfl) (Nat.le_of_ble_eq_true rfl) (Nat.le_of_ble_eq_true rfl) dX0_pay_9 ?_
  refine lv_istore_n (lv' := [(3, .int (if 0 < (i2 - (C i1.toNatClampNeg)) then (i2 - (C i1.toNatClampNeg)) else 0)), (0, .ref a0), (1, .int i1), (2, .int i2)]) hx hb dX0_pay_12 rfl hl (by decide) rfl (fun ls hl => ?_)
  refine lv_aload_n hx hb dX0_pay_13 rfl (lv_at hl 1 rfl) ?_
  refine va_get (D := (dC, dI)) (ci := 0) (v := .ref ac) (C := RX0) (T := TX0) (N := 4) hx hb hts hin0 hown hK hP 0 rfl rfl 2 (by decide) kf_18 (fun _ h9 => h9) rfl dX0_pay_14 ?_
  refine lv_iload_n hx hb dX0_pay_17 rfl (lv_at hl 2 rfl) ?_
  refine lv_iconst (v := 0) hx hb dX0_pay_18 (by decide) ?_
  refine lv_aload_n hx hb dX0_pay_19 rfl (lv_at hl 1 rfl) ?_
  refine va_get (D := (dC, dI)) (ci := 0) (v := .ref ac) (C := RX0) (T := TX0) (N := 4) hx hb hts hin0 hown hK hP 0 rfl rfl 2 (by decide) kf_18 (fun _ h9 => h9) rfl dX0_pay_20 ?_
  refine lv_iload_n hx hb dX0_pay_23 rfl (lv_at hl 2 rfl) ?_
  refine va_iald hx hb hK hP 3 0 rfl rfl (by assumption) dX0_pay_24 ?_
  refine lv_iload_n hx hb dX0_pay_25 rfl (lv_at hl 3 rfl) ?_
  refine lv_isub hx hb dX0_pay_26 ?_
  refine va_mmax hx hb (hml.trans hl.1.symm) hown (hts (.methodLink RX0 74 Lib.Math.max.name) (by decide +kernel)) (hts (.static Lib.Math.max.name) (by decide +kernel)) (hts (.initialized "java/lang/Math") (by decide +kernel)) (hts (.code Lib.Math.max.name Lib.Math.max.code 2 (some .int)) (by decide +kernel)) (Nat.le_of_ble_eq_true rfl) (Nat.le_of_ble_eq_true rfl) (Nat.le_of_ble_eq_true rfl) (Nat.le_of_ble_eq_true rfl) dX0_pay_27 ?_
  refine va_iast hx hb hK hP hD hS 3 0 rfl rfl (by assumption) dX0_pay_30 (fun H locs hP hD hS => ?_)
  have hP : va_P (dC, dI) vwCl ([(a0, .inr (0, [.ref ak, .ref al, .ref ac, .int N])), (ak, .inl (cI, 6, .inl K)), (al, .inl (cI, 6, .inl L)), (ac, .inl (cI, 6, .inl (upd C i1.toNatClampNeg (if 0 < ((C i1.toNatClampNeg) - i2) then ((C i1.toNatClampNeg) - i2) else 0))))]) H := hP
  have hD : va_D A ([(a0, .inr (0, [.ref ak, .ref al, .ref ac, .int N])), (ak, .inl (cI, 6, .inl K)), (al, .inl (cI, 6, .inl L)), (ac, .inl (cI, 6, .inl (upd C i1.toNatClampNeg (if 0 < ((C i1.toNatClampNeg) - i2) then ((C i1.toNatClampNeg) - i2) else 0))))]) := hD
  refine lv_aload_n hx hb dX0_pay_31 rfl (lv_at hl 1 rfl) ?_
  refine va_get (D := (dC, dI)) (ci := 0) (v := .ref al) (C := RX0) (T := TX0) (N := 4) hx hb hts hin0 hown hK hP 0 rfl rfl 1 (by decide) kf_15 (fun _ h9 => h9) rfl dX0_pay_32 ?_
  refine lv_iload_n hx hb dX0_pay_35 rfl (lv_at hl 2 rfl) ?_
  refine lv_iconst (v := 0) hx hb dX0_pay_36 (by decide) ?_
  refine lv_aload_n hx hb dX0_pay_37 rfl (lv_at hl 1 rfl) ?_
  refine va_get (D := (dC, dI)) (ci := 0) (v := .ref al) (C := RX0) (T := TX0) (N := 4) hx hb hts hin0 hown hK hP 0 rfl rfl 1 (by decide) kf_15 (fun _ h9 => h9) rfl dX0_pay_38 ?_
  refine lv_iload_n hx hb dX0_pay_41 rfl (lv_at hl 2 rfl) ?_
  refine va_iald hx hb hK hP 2 0 rfl rfl (by assumption) dX0_pay_42 ?_
  refine lv_iload_n hx hb dX0_pay_43 rfl (lv_at hl 0 rfl) ?_
  refine lv_isub hx hb dX0_pay_44 ?_
  refine va_mmax hx hb (hml.trans hl.1.symm) hown (hts (.methodLink RX0 74 Lib.Math.max.name) (by decide +kernel)) (hts (.static Lib.Math.max.name) (by decide +kernel)) (hts (.initialized "java/lang/Math") (by decide +kernel)) (hts (.code Lib.Math.max.name Lib.Math.max.code 2 (some .int)) (by decide +kernel)) (Nat.le_of_ble_eq_true rfl) (Nat.le_of_ble_eq_true rfl) (Nat.le_of_ble_eq_true rfl) (Nat.le_of_ble_eq_true rfl) dX0_pay_45 ?_
  refine va_iast hx hb hK hP hD hS 2 0 rfl rfl (by assumption) dX0_pay_48 (fun H locs hP hD hS => ?_)
  have hP : va_P (dC, dI) vwCl ([(a0, .inr (0, [.ref ak, .ref al, .ref ac, .int N])), (ak, .inl (cI, 6, .inl K)), (al, .inl (cI, 6, .inl (upd L i1.toNatClampNeg (if 0 < ((L i1.toNatClampNeg) - (if 0 < (i2 - (C i1.toNatClampNeg)) then (i2 - (C i1.toNatClampNeg)) else 0)) then ((L i1.toNatClampNeg) - (if 0 < (i2 - (C i1.toNatClampNeg)) then (i2 - (C i1.toNatClampNeg)) else 0)) else 0)))), (ac, .inl (cI, 6, .inl (upd C i1.toNatClampNeg (if 0 < ((C i1.toNatClampNeg) - i2) then ((C i1.toNatClampNeg) - i2) else 0))))]) H := hP
  have hD : va_D A ([(a0, .inr (0, [.ref ak, .ref al, .ref ac, .int N])), (ak, .inl (cI, 6, .inl K)), (al, .inl (cI, 6, .inl (upd L i1.toNatClampNeg (if 0 < ((L i1.toNatClampNeg) - (if 0 < (i2 - (C i1.toNatClampNeg)) then (i2 - (C i1.toNatClampNeg)) else 0)) then ((L i1.toNatClampNeg) - (if 0 < (i2 - (C i1.toNatClampNeg)) then (i2 - (C i1.toNatClampNeg)) else 0)) else 0)))), (ac, .inl (cI, 6, .inl (upd C i1.toNatClampNeg (if 0 < ((C i1.toNatClampNeg) - i2) then ((C i1.toNatClampNeg) - i2) else 0))))]) := hD
  have hE9 : p0_pay L C i1 i2 = ((upd L i1.toNatClampNeg (if 0 < ((L i1.toNatClampNeg) - (if 0 < (i2 - (C i1.toNatClampNeg)) then (i2 - (C i1.toNatClampNeg)) else 0)) then ((L i1.toNatClampNeg) - (if 0 < (i2 - (C i1.toNatClampNeg)) then (i2 - (C i1.toNatClampNeg)) else 0)) else 0)), (upd C i1.toNatClampNeg (if 0 < ((C i1.toNatClampNeg) - i2) then ((C i1.toNatClampNeg) - i2) else 0))) := rfl
  exact W.vret hx hb hr (fun t ht hW => ⟨⟨(), rfl, trivial, by show va_P (dC, dI) vwCl _ t.heap; rw [ht, hE9]; exact hP⟩, hS.F ht⟩) hS.2.2 dX0_pay_49

def p0_carryOut (K : Nat → Int32) (L : Nat → Int32) (C : Nat → Int32) (i1 : Int32) (i2 : Int32) (i3 : Int32) : (Nat → Int32) × (Nat → Int32) :=
  if (p0_changes K L C i1 i2 i3) = 0 then
    (((p0_pay L C i2 i3).1), ((p0_pay L C i2 i3).2))
  else
    (((p0_pay ((p0_exchange L C i1 i2).1) ((p0_exchange L C i1 i2).2) i1 i3).1), ((p0_pay ((p0_exchange L C i1 i2).1) ((p0_exchange L C i1 i2).2) i1 i3).2))
abbrev rmX0_carryOut : Room := { frames := 2, cells := 0, slots := 0, locals := 46 }
abbrev QX0_carryOut (dC : Nat → ClassId) (dI : Nat → Nat → Nat) (A : Nat → Prop) (cI : ClassId) (a0 : Nat) (ak : Nat) (al : Nat) (ac : Nat) (N : Int32) (K : Nat → Int32) (L : Nat → Int32) (C : Nat → Int32) (i1 : Int32) (i2 : Int32) (i3 : Int32) : Array Value → State → Outcome → State → Prop := va_Qv (fun (_ : Unit) => True) (fun (_ : Unit) (t : State) => va_P (dC, dI) vwCl ([(a0, .inr (0, [.ref ak, .ref al, .ref ac, .int N])), (ak, .inl (cI, 6, .inl K)), (al, .inl (cI, 6, .inl ((p0_carryOut K L C i1 i2 i3).1))), (ac, .inl (cI, 6, .inl ((p0_carryOut K L C i1 i2 i3).2)))]) t.heap) A
set_option maxHeartbeats 4000000 in
set_option maxRecDepth 100000 in
theorem ctX0_carryOut (l : Launch) (dC : Nat → ClassId) (dI : Nat → Nat → Nat) (cI : ClassId) (a0 : Nat) (ak : Nat) (al : Nat) (ac : Nat) (sz : Nat) (N : Int32) (K : Nat → Int32) (L : Nat → Int32) (C : Nat → Int32) (i1 : Int32) (i2 : Int32) (i3 : Int32) (hi1 : vp_in i1 6) (hi2 : vp_in i2 6) : Met l yX0_carryOut wsX0_carryOut rmX0_carryOut (va_Pc [.ref a0, .int i1, .int i2, .int i3] (cP dC dI [(cI, .int)] ([(a0, .inr (0, [.ref ak, .ref al, .ref ac, .int N])), (ak, .inl (cI, 6, .inl K)), (al, .inl (cI, 6, .inl L)), (ac, .inl (cI, 6, .inl C))]) sz)) (QX0_carryOut dC dI (va_A ([(a0, .inr (0, [.ref ak, .ref al, .ref ac, .int N])), (ak, .inl (cI, 6, .inl K)), (al, .inl (cI, 6, .inl L)), (ac, .inl (cI, 6, .inl C))]) sz) cI a0 ak al ac N K L C i1 i2 i3) 0 0 (va_A ([(a0, .inr (0, [.ref ak, .ref al, .ref ac, .int N])), (ak, .inl (cI, 6, .inl K)), (al, .inl (cI, 6, .inl L)), (ac, .inl (cI, 6, .inl C))]) sz) := by
  refine Met.ofW (cc := cX0_carryOut) (maxL := 5) (ret := none) (by decide) rfl ?_
  intro p e s m args below meth c s₁ B hml hv
  obtain ⟨rfl, hsz, hP, hK, hD0, hN⟩ := hv
  have hx := B.exec
  have hb := B.bytes
  have hr := B.returns
  have hts := atoms_spec (ws := wsX0_carryOut) B.pre
  have hown : s.vm.findClass RX0 = some m.cls := findClass_of_methodNamed B.named
  have hlocks := B.notSynchronized
  subst hsz
  have hD := hD0.self (sz := s.heap.size)
  generalize hAe : va_A ([(a0, .inr (0, [.ref ak, .ref al, .ref ac, .int N])), (ak, .inl (cI, 6, .inl K)), (al, .inl (cI, 6, .inl L)), (ac, .inl (cI, 6, .inl C))]) s.heap.size = A at hD ⊢
  have hA : ∀ q : Nat, s.heap.size ≤ q → A q := fun q h => by rw [← hAe]; exact Or.inr h
  have hS : va_S A s.heap s.heap [] := va_S.rf
  have hP : va_P (dC, dI) vwCl ([(a0, .inr (0, [.ref ak, .ref al, .ref ac, .int N])), (ak, .inl (cI, 6, .inl K)), (al, .inl (cI, 6, .inl L)), (ac, .inl (cI, 6, .inl C))]) s.heap := hP
  have hl := lv_entry ([.ref a0, .int i1, .int i2, .int i3]) (n := 5) (Nat.le_of_ble_eq_true rfl)
  rw [lg_entry_eq]
  generalize (lg_sl ([.ref a0, .int i1, .int i2, .int i3]) ++ List.replicate (5 - (lg_sl ([.ref a0, .int i1, .int i2, .int i3])).length) Slot.unset).toArray = ls at hl ⊢
  have hl : lv_has ls 5 [(0, .ref a0), (1, .int i1), (2, .int i2), (3, .int i3)] := hl
  refine lv_aload_n hx hb dX0_carryOut_0 rfl (lv_at hl 0 rfl) ?_
  refine lv_iload_n hx hb dX0_carryOut_1 rfl (lv_at hl 1 rfl) ?_
  refine lv_iload_n hx hb dX0_carryOut_2 rfl (lv_at hl 2 rfl) ?_
  refine lv_iload_n hx hb dX0_carryOut_3 rfl (lv_at hl 3 rfl) ?_
  have hPc := hP.sub (ws' := [(a0, .inr (0, [.ref ak, .ref al, .ref ac, .int N])), (ak, .inl (cI, 6, .inl K)), (al, .inl (cI, 6, .inl L)), (ac, .inl (cI, 6, .inl C))]) [0, 1, 2, 3] rfl
  have hDc := hD.sub (ws' := [(a0, .inr (0, [.ref ak, .ref al, .ref ac, .int N])), (ak, .inl (cI, 6, .inl K)), (al, .inl (cI, 6, .inl L)), (ac, .inl (cI, 6, .inl C))]) [0, 1, 2, 3] (by decide) rfl
  have hKc := hK.sub (tys' := [(cI, .int)]) [0] rfl
  have hFc := va_free (wc := [(a0, .inr (0, [.ref ak, .ref al, .ref ac, .int N])), (ak, .inl (cI, 6, .inl K)), (al, .inl (cI, 6, .inl L)), (ac, .inl (cI, 6, .inl C))]) hD hS hA [0, 1, 2, 3] rfl
  refine va_calli (va_runV (As := [.int i1, .int i2, .int i3]) (rest := []) ⟨hx, hb, hml, hown, hts⟩ (ctX0_changes l dC dI cI a0 ak al ac s.heap.size N K L C i1 i2 i3 (by assumption) (by assumption)) (cwV 3 hts gX0_carryOut_X0_changes rfl rfl rfl (by decide +kernel) ⟨Nat.le_of_ble_eq_true rfl, Nat.le_of_ble_eq_true rfl⟩) (pre_V hKc hN hPc hDc (RX0, TX0, 4) 0 0 rfl rfl) rfl rfl hl.1 rfl (lv_room (Nat.le_of_ble_eq_true rfl)) dX0_carryOut_4 ⟨Nat.le_of_ble_eq_true rfl, Nat.le_of_ble_eq_true rfl⟩) hS (fun q _ h => hFc q h) hFc (fun r _ t H locs ht hvm hw hB hz1 hk1 hS => ?_)
  try dsimp only at hw
  subst hw
  rw [ht] at hB
  obtain ⟨hP, hD⟩ := rw_join ([(a0, .inr (0, [.ref ak, .ref al, .ref ac, .int N])), (ak, .inl (cI, 6, .inl K)), (al, .inl (cI, 6, .inl L)), (ac, .inl (cI, 6, .inl C))]) ([(a0, .inr (0, [.ref ak, .ref al, .ref ac, .int N])), (ak, .inl (cI, 6, .inl K)), (al, .inl (cI, 6, .inl L)), (ac, .inl (cI, 6, .inl C))]) ([(a0, .inr (0, [.ref ak, .ref al, .ref ac, .int N])), (ak, .inl (cI, 6, .inl K)), (al, .inl (cI, 6, .inl L)), (ac, .inl (cI, 6, .inl C))]) ([(a0, .inr (0, [.ref ak, .ref al, .ref ac, .int N])), (ak, .inl (cI, 6, .inl K)), (al, .inl (cI, 6, .inl L)), (ac, .inl (cI, 6, .inl C))]) ([]) hP hD [0, 1, 2, 3] [] [a0, ak, al, ac] 4 rfl rfl rfl rfl rfl (by decide) rfl rfl hk1 hB
  refine lv_istore (lv' := [(4, .int (p0_changes K L C i1 i2 i3)), (0, .ref a0), (1, .int i1), (2, .int i2), (3, .int i3)]) hx hb dX0_carryOut_7 hl (by decide) rfl (fun ls hl => ?_)
  refine lv_iload hx hb dX0_carryOut_9 (lv_at hl 0 rfl) ?_
  refine lv_if_eq (tgt := 20) hx hb dX0_carryOut_11 (by decide) (fun c_11 => ?_) (fun c_11 => ?_)
  · skip
    refine lv_aload_n hx hb dX0_carryOut_20 rfl (lv_at hl 1 rfl) ?_
    refine lv_iload hx hb dX0_carryOut_21 (lv_at hl 0 rfl) ?_
    refine lv_if_eq (tgt := 30) hx hb dX0_carryOut_23 (by decide) (fun c_23 => ?_) (fun c_23 => ?_)
    · skip
      refine lv_iload_n hx hb dX0_carryOut_30 rfl (lv_at hl 3 rfl) ?_
      refine lv_iload_n hx hb dX0_carryOut_31 rfl (lv_at hl 4 rfl) ?_
      have hPc := hP.sub (ws' := [(a0, .inr (0, [.ref ak, .ref al, .ref ac, .int N])), (ak, .inl (cI, 6, .inl K)), (al, .inl (cI, 6, .inl L)), (ac, .inl (cI, 6, .inl C))]) [0, 1, 2, 3] rfl
      have hDc := hD.sub (ws' := [(a0, .inr (0, [.ref ak, .ref al, .ref ac, .int N])), (ak, .inl (cI, 6, .inl K)), (al, .inl (cI, 6, .inl L)), (ac, .inl (cI, 6, .inl C))]) [0, 1, 2, 3] (by decide) rfl
      have hKc := hK.sub (tys' := [(cI, .int)]) [0] rfl
      have hFc := va_free (wc := [(a0, .inr (0, [.ref ak, .ref al, .ref ac, .int N])), (ak, .inl (cI, 6, .inl K)), (al, .inl (cI, 6, .inl L)), (ac, .inl (cI, 6, .inl C))]) hD hS hA [0, 1, 2, 3] rfl
      refine va_callv (va_runV (As := [.int i2, .int i3]) (rest := []) ⟨hx, hb, hml, hown, hts⟩ (ctX0_pay l dC dI cI a0 ak al ac H.size N K L C i2 i3 (by assumption)) (cwV 2 hts gX0_carryOut_X0_pay rfl rfl rfl (by decide +kernel) ⟨Nat.le_of_ble_eq_true rfl, Nat.le_of_ble_eq_true rfl⟩) (pre_V hKc hN hPc hDc (RX0, TX0, 4) 0 0 rfl rfl) rfl rfl hl.1 rfl (lv_room (Nat.le_of_ble_eq_true rfl)) dX0_carryOut_32 ⟨Nat.le_of_ble_eq_true rfl, Nat.le_of_ble_eq_true rfl⟩) hS (fun q _ h => hFc q h) hFc (fun _ t H locs ht hvm hw hB hz1 hk1 hS => ?_)
      rw [ht] at hB
      refine nm_gen ((p0_pay L C i2 i3).1) (fun L_32 eL_32 => ?_)
      rw [eL_32] at hB
      refine nm_gen ((p0_pay L C i2 i3).2) (fun C_32 eC_32 => ?_)
      rw [eC_32] at hB
      obtain ⟨hP, hD⟩ := rw_join ([(a0, .inr (0, [.ref ak, .ref al, .ref ac, .int N])), (ak, .inl (cI, 6, .inl K)), (al, .inl (cI, 6, .inl L)), (ac, .inl (cI, 6, .inl C))]) ([(a0, .inr (0, [.ref ak, .ref al, .ref ac, .int N])), (ak, .inl (cI, 6, .inl K)), (al, .inl (cI, 6, .inl L_32)), (ac, .inl (cI, 6, .inl C_32))]) ([(a0, .inr (0, [.ref ak, .ref al, .ref ac, .int N])), (ak, .inl (cI, 6, .inl K)), (al, .inl (cI, 6, .inl L)), (ac, .inl (cI, 6, .inl C))]) ([(a0, .inr (0, [.ref ak, .ref al, .ref ac, .int N])), (ak, .inl (cI, 6, .inl K)), (al, .inl (cI, 6, .inl L_32)), (ac, .inl (cI, 6, .inl C_32))]) ([]) hP hD [0, 1, 2, 3] [] [a0, ak, al, ac] 4 rfl rfl rfl rfl rfl (by decide) rfl rfl hk1 hB
      have hE9 : p0_carryOut K L C i1 i2 i3 = (L_32, C_32) := by unfold p0_carryOut; simp only [eL_32, eC_32]; rw [if_pos c_11]
      exact W.vret hx hb hr (fun t ht hW => ⟨⟨(), rfl, trivial, by show va_P (dC, dI) vwCl _ t.heap; rw [ht, hE9]; exact hP⟩, hS.F ht⟩) hS.2.2 dX0_carryOut_35
    · exact absurd c_11 c_23
  · skip
    refine lv_aload_n hx hb dX0_carryOut_14 rfl (lv_at hl 1 rfl) ?_
    refine lv_iload_n hx hb dX0_carryOut_15 rfl (lv_at hl 2 rfl) ?_
    refine lv_iload_n hx hb dX0_carryOut_16 rfl (lv_at hl 3 rfl) ?_
    have hPc := hP.sub (ws' := [(a0, .inr (0, [.ref ak, .ref al, .ref ac, .int N])), (ak, .inl (cI, 6, .inl K)), (al, .inl (cI, 6, .inl L)), (ac, .inl (cI, 6, .inl C))]) [0, 1, 2, 3] rfl
    have hDc := hD.sub (ws' := [(a0, .inr (0, [.ref ak, .ref al, .ref ac, .int N])), (ak, .inl (cI, 6, .inl K)), (al, .inl (cI, 6, .inl L)), (ac, .inl (cI, 6, .inl C))]) [0, 1, 2, 3] (by decide) rfl
    have hKc := hK.sub (tys' := [(cI, .int)]) [0] rfl
    have hFc := va_free (wc := [(a0, .inr (0, [.ref ak, .ref al, .ref ac, .int N])), (ak, .inl (cI, 6, .inl K)), (al, .inl (cI, 6, .inl L)), (ac, .inl (cI, 6, .inl C))]) hD hS hA [0, 1, 2, 3] rfl
    refine va_callv (va_runV (As := [.int i1, .int i2]) (rest := []) ⟨hx, hb, hml, hown, hts⟩ (ctX0_exchange l dC dI cI a0 ak al ac H.size N K L C i1 i2 (by assumption) (by assumption)) (cwV 2 hts gX0_carryOut_X0_exchange rfl rfl rfl (by decide +kernel) ⟨Nat.le_of_ble_eq_true rfl, Nat.le_of_ble_eq_true rfl⟩) (pre_V hKc hN hPc hDc (RX0, TX0, 4) 0 0 rfl rfl) rfl rfl hl.1 rfl (lv_room (Nat.le_of_ble_eq_true rfl)) dX0_carryOut_17 ⟨Nat.le_of_ble_eq_true rfl, Nat.le_of_ble_eq_true rfl⟩) hS (fun q _ h => hFc q h) hFc (fun _ t H locs ht hvm hw hB hz1 hk1 hS => ?_)
    rw [ht] at hB
    refine nm_gen ((p0_exchange L C i1 i2).1) (fun L_17 eL_17 => ?_)
    rw [eL_17] at hB
    refine nm_gen ((p0_exchange L C i1 i2).2) (fun C_17 eC_17 => ?_)
    rw [eC_17] at hB
    obtain ⟨hP, hD⟩ := rw_join ([(a0, .inr (0, [.ref ak, .ref al, .ref ac, .int N])), (ak, .inl (cI, 6, .inl K)), (al, .inl (cI, 6, .inl L)), (ac, .inl (cI, 6, .inl C))]) ([(a0, .inr (0, [.ref ak, .ref al, .ref ac, .int N])), (ak, .inl (cI, 6, .inl K)), (al, .inl (cI, 6, .inl L_17)), (ac, .inl (cI, 6, .inl C_17))]) ([(a0, .inr (0, [.ref ak, .ref al, .ref ac, .int N])), (ak, .inl (cI, 6, .inl K)), (al, .inl (cI, 6, .inl L)), (ac, .inl (cI, 6, .inl C))]) ([(a0, .inr (0, [.ref ak, .ref al, .ref ac, .int N])), (ak, .inl (cI, 6, .inl K)), (al, .inl (cI, 6, .inl L_17)), (ac, .inl (cI, 6, .inl C_17))]) ([]) hP hD [0, 1, 2, 3] [] [a0, ak, al, ac] 4 rfl rfl rfl rfl rfl (by decide) rfl rfl hk1 hB
    refine lv_aload_n hx hb dX0_carryOut_20 rfl (lv_at hl 1 rfl) ?_
    refine lv_iload hx hb dX0_carryOut_21 (lv_at hl 0 rfl) ?_
    refine lv_if_eq (tgt := 30) hx hb dX0_carryOut_23 (by decide) (fun c_23 => ?_) (fun c_23 => ?_)
    · exact absurd c_23 c_11
    · skip
      refine lv_iload_n hx hb dX0_carryOut_26 rfl (lv_at hl 2 rfl) ?_
      refine lv_goto (tgt := 31) hx hb dX0_carryOut_27 (by decide) ?_
      refine lv_iload_n hx hb dX0_carryOut_31 rfl (lv_at hl 4 rfl) ?_
      have hPc := hP.sub (ws' := [(a0, .inr (0, [.ref ak, .ref al, .ref ac, .int N])), (ak, .inl (cI, 6, .inl K)), (al, .inl (cI, 6, .inl L_17)), (ac, .inl (cI, 6, .inl C_17))]) [0, 1, 2, 3] rfl
      have hDc := hD.sub (ws' := [(a0, .inr (0, [.ref ak, .ref al, .ref ac, .int N])), (ak, .inl (cI, 6, .inl K)), (al, .inl (cI, 6, .inl L_17)), (ac, .inl (cI, 6, .inl C_17))]) [0, 1, 2, 3] (by decide) rfl
      have hKc := hK.sub (tys' := [(cI, .int)]) [0] rfl
      have hFc := va_free (wc := [(a0, .inr (0, [.ref ak, .ref al, .ref ac, .int N])), (ak, .inl (cI, 6, .inl K)), (al, .inl (cI, 6, .inl L_17)), (ac, .inl (cI, 6, .inl C_17))]) hD hS hA [0, 1, 2, 3] rfl
      refine va_callv (va_runV (As := [.int i1, .int i3]) (rest := []) ⟨hx, hb, hml, hown, hts⟩ (ctX0_pay l dC dI cI a0 ak al ac H.size N K L_17 C_17 i1 i3 (by assumption)) (cwV 2 hts gX0_carryOut_X0_pay rfl rfl rfl (by decide +kernel) ⟨Nat.le_of_ble_eq_true rfl, Nat.le_of_ble_eq_true rfl⟩) (pre_V hKc hN hPc hDc (RX0, TX0, 4) 0 0 rfl rfl) rfl rfl hl.1 rfl (lv_room (Nat.le_of_ble_eq_true rfl)) dX0_carryOut_32 ⟨Nat.le_of_ble_eq_true rfl, Nat.le_of_ble_eq_true rfl⟩) hS (fun q _ h => hFc q h) hFc (fun _ t H locs ht hvm hw hB hz1 hk1 hS => ?_)
      rw [ht] at hB
      refine nm_gen ((p0_pay L_17 C_17 i1 i3).1) (fun L_32 eL_32 => ?_)
      rw [eL_32] at hB
      refine nm_gen ((p0_pay L_17 C_17 i1 i3).2) (fun C_32 eC_32 => ?_)
      rw [eC_32] at hB
      obtain ⟨hP, hD⟩ := rw_join ([(a0, .inr (0, [.ref ak, .ref al, .ref ac, .int N])), (ak, .inl (cI, 6, .inl K)), (al, .inl (cI, 6, .inl L_17)), (ac, .inl (cI, 6, .inl C_17))]) ([(a0, .inr (0, [.ref ak, .ref al, .ref ac, .int N])), (ak, .inl (cI, 6, .inl K)), (al, .inl (cI, 6, .inl L_32)), (ac, .inl (cI, 6, .inl C_32))]) ([(a0, .inr (0, [.ref ak, .ref al, .ref ac, .int N])), (ak, .inl (cI, 6, .inl K)), (al, .inl (cI, 6, .inl L_17)), (ac, .inl (cI, 6, .inl C_17))]) ([(a0, .inr (0, [.ref ak, .ref al, .ref ac, .int N])), (ak, .inl (cI, 6, .inl K)), (al, .inl (cI, 6, .inl L_32)), (ac, .inl (cI, 6, .inl C_32))]) ([]) hP hD [0, 1, 2, 3] [] [a0, ak, al, ac] 4 rfl rfl rfl rfl rfl (by decide) rfl rfl hk1 hB
      have hE9 : p0_carryOut K L C i1 i2 i3 = (L_32, C_32) := by unfold p0_carryOut; simp only [eL_17, eC_17, eL_32, eC_32]; rw [if_neg c_11]
      exact W.vret hx hb hr (fun t ht hW => ⟨⟨(), rfl, trivial, by show va_P (dC, dI) vwCl _ t.heap; rw [ht, hE9]; exact hP⟩, hS.F ht⟩) hS.2.2 dX0_carryOut_35

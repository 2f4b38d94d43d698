def p0_has (N : Int32) (i1 : Int32) : Int32 :=
  if i1 < 0 then
    0
  else
    if N ≤ i1 then
      0
    else
      1
abbrev rmX0_has : Room := { frames := 0, cells := 0, slots := 0, locals := 0 }
abbrev QX0_has (dC : Nat → ClassId) (dI : Nat → Nat → Nat) (A : Nat → Prop) (cI : ClassId) (a0 : Nat) (ak : Nat) (al : Nat) (ac : Nat) (N : Int32) (i1 : Int32) : Array Value → State → Outcome → State → Prop := va_Qi (fun (r : Int32) (_ : Unit) => r = p0_has N i1) (fun (_ : Unit) (t : State) => va_P (dC, dI) vwCl ([(a0, .inr (0, [.ref ak, .ref al, .ref ac, .int N]))]) t.heap) A
set_option maxHeartbeats 4000000 in
set_option maxRecDepth 100000 in
theorem ctX0_has (l : Launch) (dC : Nat → ClassId) (dI : Nat → Nat → Nat) (cI : ClassId) (a0 : Nat) (ak : Nat) (al : Nat) (ac : Nat) (sz : Nat) (N : Int32) (i1 : Int32) : Met l yX0_has wsX0_has rmX0_has (va_Pc [.ref a0, .int i1] (cP dC dI [(cI, .int)] ([(a0, .inr (0, [.ref ak, .ref al, .ref ac, .int N]))]) sz)) (QX0_has dC dI (va_A ([(a0, .inr (0, [.ref ak, .ref al, .ref ac, .int N]))]) sz) cI a0 ak al ac N i1) 0 0 (va_A ([(a0, .inr (0, [.ref ak, .ref al, .ref ac, .int N]))]) sz) := by
  refine Met.ofW (cc := cX0_has) (maxL := 2) (ret := (some .boolean)) (by decide) rfl ?_
  intro p e s m args below meth c s₁ B hml hv
  obtain ⟨rfl, hsz, hP, hK, hD0, hN⟩ := hv
  have hx := B.exec
  have hb := B.bytes
  have hr := B.returns
  have hts := atoms_spec (ws := wsX0_has) B.pre
  have hown : s.vm.findClass RX0 = some m.cls := findClass_of_methodNamed B.named
  have hlocks := B.notSynchronized
  subst hsz
  have hD := hD0.self (sz := s.heap.size)
  generalize hAe : va_A ([(a0, .inr (0, [.ref ak, .ref al, .ref ac, .int N]))]) s.heap.size = A at hD ⊢
  have hA : ∀ q : Nat, s.heap.size ≤ q → A q := fun q h => by rw [← hAe]; exact Or.inr h
  have hS : va_S A s.heap s.heap [] := va_S.rf
  have hP : va_P (dC, dI) vwCl ([(a0, .inr (0, [.ref ak, .ref al, .ref ac, .int N]))]) s.heap := hP
  have hin0 : ∀ w ∈ wsX00, w ∈ wsX0_has := by decide +kernel
  have kf_21 := hts (.fieldLink RX0 21 "RicherChange$City" "houses" "I") (by decide +kernel)
  have hl := lv_entry ([.ref a0, .int i1]) (n := 2) (Nat.le_of_ble_eq_true rfl)
  rw [lg_entry_eq]
  generalize (lg_sl ([.ref a0, .int i1]) ++ List.replicate (2 - (lg_sl ([.ref a0, .int i1])).length) Slot.unset).toArray = ls at hl ⊢
  have hl : lv_has ls 2 [(0, .ref a0), (1, .int i1)] := hl
  refine lv_iload_n hx hb dX0_has_0 rfl (lv_at hl 1 rfl) ?_
  refine lv_if_lt (tgt := 16) hx hb dX0_has_1 (by decide) (fun c_1 => ?_) (fun c_1 => ?_)
  · skip
    refine lv_iconst (v := 0) hx hb dX0_has_16 (by decide) ?_
    have hE9 : p0_has N i1 = 0 := by unfold p0_has; rw [if_pos c_1]
    exact W.zret (v := 0) hx hb hr (by decide +kernel) (fun t ht hW => ⟨⟨_, (), rfl, by rw [hE9], by show va_P (dC, dI) vwCl _ t.heap; rw [ht]; exact hP⟩, hS.F ht⟩) hS.2.2 dX0_has_17
  · skip
    refine lv_iload_n hx hb dX0_has_4 rfl (lv_at hl 1 rfl) ?_
    refine lv_aload_n hx hb dX0_has_5 rfl (lv_at hl 0 rfl) ?_
    refine va_get (D := (dC, dI)) (ci := 0) (v := .int N) (C := RX0) (T := TX0) (N := 4) hx hb hts hin0 hown hK hP 0 rfl rfl 3 (by decide) kf_21 (fun _ h9 => h9) rfl dX0_has_6 ?_
    refine lv_icmp_ge (tgt := 16) hx hb dX0_has_9 (by decide) (fun c_9 => ?_) (fun c_9 => ?_)
    · skip
      refine lv_iconst (v := 0) hx hb dX0_has_16 (by decide) ?_
      have hE9 : p0_has N i1 = 0 := by unfold p0_has; rw [if_neg c_1, if_pos c_9]
      exact W.zret (v := 0) hx hb hr (by decide +kernel) (fun t ht hW => ⟨⟨_, (), rfl, by rw [hE9], by show va_P (dC, dI) vwCl _ t.heap; rw [ht]; exact hP⟩, hS.F ht⟩) hS.2.2 dX0_has_17
    · skip
      refine lv_iconst (v := 1) hx hb dX0_has_12 (by decide) ?_
      refine lv_goto (tgt := 17) hx hb dX0_has_13 (by decide) ?_
      have hE9 : p0_has N i1 = 1 := by unfold p0_has; rw [if_neg c_1, if_neg c_9]
      exact W.zret (v := 1) hx hb hr (by decide +kernel) (fun t ht hW => ⟨⟨_, (), rfl, by rw [hE9], by show va_P (dC, dI) vwCl _ t.heap; rw [ht]; exact hP⟩, hS.F ht⟩) hS.2.2 dX0_has_17

def p0_likeThat (N : Int32) (K : Nat → Int32) (L : Nat → Int32) (C : Nat → Int32) (Nq : Int32) (Kq : Nat → Int32) (Lq : Nat → Int32) (Cq : Nat → Int32) : Int32 × (Nat → Int32) × (Nat → Int32) × (Nat → Int32) :=
  (Nq, (va_cpy Kq K ((0 : Int32).toNatClampNeg) ((0 : Int32).toNatClampNeg) ((6 : Int32).toNatClampNeg)), (va_cpy Lq L ((0 : Int32).toNatClampNeg) ((0 : Int32).toNatClampNeg) ((6 : Int32).toNatClampNeg)), (va_cpy Cq C ((0 : Int32).toNatClampNeg) ((0 : Int32).toNatClampNeg) ((6 : Int32).toNatClampNeg)))
abbrev rmX0_likeThat : Room := { frames := 1, cells := 0, slots := 0, locals := 40 }
abbrev QX0_likeThat (dC : Nat → ClassId) (dI : Nat → Nat → Nat) (A : Nat → Prop) (cI : ClassId) (a0 : Nat) (ak : Nat) (al : Nat) (ac : Nat) (b0 : Nat) (bk : Nat) (bl : Nat) (bc : Nat) (N : Int32) (K : Nat → Int32) (L : Nat → Int32) (C : Nat → Int32) (Nq : Int32) (Kq : Nat → Int32) (Lq : Nat → Int32) (Cq : Nat → Int32) : Array Value → State → Outcome → State → Prop := va_Qv (fun (_ : Unit) => True) (fun (_ : Unit) (t : State) => va_P (dC, dI) vwCl ([(a0, .inr (0, [.ref ak, .ref al, .ref ac, .int ((p0_likeThat N K L C Nq Kq Lq Cq).1)])), (ak, .inl (cI, 6, .inl ((p0_likeThat N K L C Nq Kq Lq Cq).2.1))), (al, .inl (cI, 6, .inl ((p0_likeThat N K L C Nq Kq Lq Cq).2.2.1))), (ac, .inl (cI, 6, .inl ((p0_likeThat N K L C Nq Kq Lq Cq).2.2.2))), (b0, .inr (0, [.ref bk, .ref bl, .ref bc, .int Nq])), (bk, .inl (cI, 6, .inl Kq)), (bl, .inl (cI, 6, .inl Lq)), (bc, .inl (cI, 6, .inl Cq))]) t.heap) A
set_option maxHeartbeats 4000000 in
set_option maxRecDepth 100000 in
theorem ctX0_likeThat (l : Launch) (dC : Nat → ClassId) (dI : Nat → Nat → Nat) (cI : ClassId) (a0 : Nat) (ak : Nat) (al : Nat) (ac : Nat) (b0 : Nat) (bk : Nat) (bl : Nat) (bc : Nat) (sz : Nat) (N : Int32) (K : Nat → Int32) (L : Nat → Int32) (C : Nat → Int32) (Nq : Int32) (Kq : Nat → Int32) (Lq : Nat → Int32) (Cq : Nat → Int32) : Met l yX0_likeThat wsX0_likeThat rmX0_likeThat (va_Pc [.ref a0, .ref b0] (cP dC dI [(cI, .int)] ([(a0, .inr (0, [.ref ak, .ref al, .ref ac, .int N])), (ak, .inl (cI, 6, .inl K)), (al, .inl (cI, 6, .inl L)), (ac, .inl (cI, 6, .inl C)), (b0, .inr (0, [.ref bk, .ref bl, .ref bc, .int Nq])), (bk, .inl (cI, 6, .inl Kq)), (bl, .inl (cI, 6, .inl Lq)), (bc, .inl (cI, 6, .inl Cq))]) sz)) (QX0_likeThat dC dI (va_A ([(a0, .inr (0, [.ref ak, .ref al, .ref ac, .int N])), (ak, .inl (cI, 6, .inl K)), (al, .inl (cI, 6, .inl L)), (ac, .inl (cI, 6, .inl C)), (b0, .inr (0, [.ref bk, .ref bl, .ref bc, .int Nq])), (bk, .inl (cI, 6, .inl Kq)), (bl, .inl (cI, 6, .inl Lq)), (bc, .inl (cI, 6, .inl Cq))]) sz) cI a0 ak al ac b0 bk bl bc N K L C Nq Kq Lq Cq ) 0 0 (va_A ([(a0, .inr (0, [.ref ak, .ref al, .ref ac, .int N])), (ak, .inl (cI, 6, .inl K)), (al, .inl (cI, 6, .inl L)), (ac, .inl (cI, 6, .inl C)), (b0, .inr (0, [.ref bk, .ref bl, .ref bc, .int Nq])), (bk, .inl (cI, 6, .inl Kq)), (bl, .inl (cI, 6, .inl Lq)), (bc, .inl (cI, 6, .inl Cq))]) sz) := by
  refine Met.ofW (cc := cX0_likeThat) (maxL := 2) (ret := none) (by decide) rfl ?_
  intro p e s m args below meth c s₁ B hml hv
  obtain ⟨rfl, hsz, hP, hK, hD0, hN⟩ := hv
  have hx := B.exec
  have hb := B.bytes
  have hr := B.returns
  have hts := atoms_spec (ws := wsX0_likeThat) B.pre
  have hown : s.vm.findClass RX0 = some m.cls := findClass_of_methodNamed B.named
  have hlocks := B.notSynchronized
  subst hsz
  have hD := hD0.self (sz := s.heap.size)
  generalize hAe : va_A ([(a0, .inr (0, [.ref ak, .ref al, .ref ac, .int N])), (ak, .inl (cI, 6, .inl K)), (al, .inl (cI, 6, .inl L)), (ac, .inl (cI, 6, .inl C)), (b0, .inr (0, [.ref bk, .ref bl, .ref bc, .int Nq])), (bk, .inl (cI, 6, .inl Kq)), (bl, .inl (cI, 6, .inl Lq)), (bc, .inl (cI, 6, .inl Cq))]) s.heap.size = A at hD ⊢
  have hA : ∀ q : Nat, s.heap.size ≤ q → A q := fun q h => by rw [← hAe]; exact Or.inr h
  have hS : va_S A s.heap s.heap [] := va_S.rf
  have hP : va_P (dC, dI) vwCl ([(a0, .inr (0, [.ref ak, .ref al, .ref ac, .int N])), (ak, .inl (cI, 6, .inl K)), (al, .inl (cI, 6, .inl L)), (ac, .inl (cI, 6, .inl C)), (b0, .inr (0, [.ref bk, .ref bl, .ref bc, .int Nq])), (bk, .inl (cI, 6, .inl Kq)), (bl, .inl (cI, 6, .inl Lq)), (bc, .inl (cI, 6, .inl Cq))]) s.heap := hP
  have hin0 : ∀ w ∈ wsX00, w ∈ wsX0_likeThat := by decide +kernel
  have kf_15 := hts (.fieldLink RX0 15 "RicherChange$City" "land" "[I") (by decide +kernel)
  have kf_18 := hts (.fieldLink RX0 18 "RicherChange$City" "coin" "[I") (by decide +kernel)
  have kf_21 := hts (.fieldLink RX0 21 "RicherChange$City" "houses" "I") (by decide +kernel)
  have kf_9 := hts (.fieldLink RX0 9 "RicherChange$City" "kind" "[I") (by decide +kernel)
  have hl := lv_entry ([.ref a0, .ref b0]) (n := 2) (Nat.le_of_ble_eq_true rfl)
  rw [lg_entry_eq]
  generalize (lg_sl ([.ref a0, .ref b0]) ++ List.replicate (2 - (lg_sl ([.ref a0, .ref b0])).length) Slot.unset).toArray = ls at hl ⊢
  have hl : lv_has ls 2 [(0, .ref a0), (1, .ref b0)] := hl
  refine lv_aload_n hx hb dX0_likeThat_0 rfl (lv_at hl 1 rfl) ?_
  refine va_get (D := (dC, dI)) (ci := 0) (v := .ref bk) (C := RX0) (T := TX0) (N := 4) hx hb hts hin0 hown hK hP 4 rfl rfl 0 (by decide) kf_9 (fun _ h9 => h9) rfl dX0_likeThat_1 ?_
  refine lv_iconst (v := 0) hx hb dX0_likeThat_4 (by decide) ?_
  refine lv_aload_n hx hb dX0_likeThat_5 rfl (lv_at hl 0 rfl) ?_
  refine va_get (D := (dC, dI)) (ci := 0) (v := .ref ak) (C := RX0) (T := TX0) (N := 4) hx hb hts hin0 hown hK hP 0 rfl rfl 0 (by decide) kf_9 (fun _ h9 => h9) rfl dX0_likeThat_6 ?_
  refine lv_iconst (v := 0) hx hb dX0_likeThat_9 (by decide) ?_
  refine lv_bipush (v := 6) hx hb dX0_likeThat_10 (by decide) ?_
  refine va_copyi (ty := .int) hx hb (hml.trans hl.1.symm) hown (hts (.methodLink RX0 25 arraycopyName) (by decide +kernel)) (hts (.native arraycopyName) (by decide +kernel)) (hts (.static arraycopyName) (by decide +kernel)) (hts (.initialized "java/lang/System") (by decide +kernel)) hK hP hD hS 5 1 0 0 rfl rfl rfl rfl rfl (by decide) (by decide) (by decide) (by decide) (by decide) (fun _ _ => rfl) (Nat.le_of_ble_eq_true rfl) (Nat.le_of_ble_eq_true rfl) dX0_likeThat_12 (fun H locs hP hD hS => ?_)
  have hP : va_P (dC, dI) vwCl ([(a0, .inr (0, [.ref ak, .ref al, .ref ac, .int N])), (ak, .inl (cI, 6, .inl (va_cpy Kq K ((0 : Int32).toNatClampNeg) ((0 : Int32).toNatClampNeg) ((6 : Int32).toNatClampNeg)))), (al, .inl (cI, 6, .inl L)), (ac, .inl (cI, 6, .inl C)), (b0, .inr (0, [.ref bk, .ref bl, .ref bc, .int Nq])), (bk, .inl (cI, 6, .inl Kq)), (bl, .inl (cI, 6, .inl Lq)), (bc, .inl (cI, 6, .inl Cq))]) H := hP
  have hD : va_D A ([(a0, .inr (0, [.ref ak, .ref al, .ref ac, .int N])), (ak, .inl (cI, 6, .inl (va_cpy Kq K ((0 : Int32).toNatClampNeg) ((0 : Int32).toNatClampNeg) ((6 : Int32).toNatClampNeg)))), (al, .inl (cI, 6, .inl L)), (ac, .inl (cI, 6, .inl C)), (b0, .inr (0, [.ref bk, .ref bl, .ref bc, .int Nq])), (bk, .inl (cI, 6, .inl Kq)), (bl, .inl (cI, 6, .inl Lq)), (bc, .inl (cI, 6, .inl Cq))]) := hD
  refine lv_aload_n hx hb dX0_likeThat_15 rfl (lv_at hl 1 rfl) ?_
  refine va_get (D := (dC, dI)) (ci := 0) (v := .ref bl) (C := RX0) (T := TX0) (N := 4) hx hb hts hin0 hown hK hP 4 rfl rfl 1 (by decide) kf_15 (fun _ h9 => h9) rfl dX0_likeThat_16 ?_
  refine lv_iconst (v := 0) hx hb dX0_likeThat_19 (by decide) ?_
  refine lv_aload_n hx hb dX0_likeThat_20 rfl (lv_at hl 0 rfl) ?_
  refine va_get (D := (dC, dI)) (ci := 0) (v := .ref al) (C := RX0) (T := TX0) (N := 4) hx hb hts hin0 hown hK hP 0 rfl rfl 1 (by decide) kf_15 (fun _ h9 => h9) rfl dX0_likeThat_21 ?_
  refine lv_iconst (v := 0) hx hb dX0_likeThat_24 (by decide) ?_
  refine lv_bipush (v := 6) hx hb dX0_likeThat_25 (by decide) ?_
  refine va_copyi (ty := .int) hx hb (hml.trans hl.1.symm) hown (hts (.methodLink RX0 25 arraycopyName) (by decide +kernel)) (hts (.native arraycopyName) (by decide +kernel)) (hts (.static arraycopyName) (by decide +kernel)) (hts (.initialized "java/lang/System") (by decide +kernel)) hK hP hD hS 6 2 0 0 rfl rfl rfl rfl rfl (by decide) (by decide) (by decide) (by decide) (by decide) (fun _ _ => rfl) (Nat.le_of_ble_eq_true rfl) (Nat.le_of_ble_eq_true rfl) dX0_likeThat_27 (fun H locs hP hD hS => ?_)
  have hP : va_P (dC, dI) vwCl ([(a0, .inr (0, [.ref ak, .ref al, .ref ac, .int N])), (ak, .inl (cI, 6, .inl (va_cpy Kq K ((0 : Int32).toNatClampNeg) ((0 : Int32).toNatClampNeg) ((6 : Int32).toNatClampNeg)))), (al, .inl (cI, 6, .inl (va_cpy Lq L ((0 : Int32).toNatClampNeg) ((0 : Int32).toNatClampNeg) ((6 : Int32).toNatClampNeg)))), (ac, .inl (cI, 6, .inl C)), (b0, .inr (0, [.ref bk, .ref bl, .ref bc, .int Nq])), (bk, .inl (cI, 6, .inl Kq)), (bl, .inl (cI, 6, .inl Lq)), (bc, .inl (cI, 6, .inl Cq))]) H := hP
  have hD : va_D A ([(a0, .inr (0, [.ref ak, .ref al, .ref ac, .int N])), (ak, .inl (cI, 6, .inl (va_cpy Kq K ((0 : Int32).toNatClampNeg) ((0 : Int32).toNatClampNeg) ((6 : Int32).toNatClampNeg)))), (al, .inl (cI, 6, .inl (va_cpy Lq L ((0 : Int32).toNatClampNeg) ((0 : Int32).toNatClampNeg) ((6 : Int32).toNatClampNeg)))), (ac, .inl (cI, 6, .inl C)), (b0, .inr (0, [.ref bk, .ref bl, .ref bc, .int Nq])), (bk, .inl (cI, 6, .inl Kq)), (bl, .inl (cI, 6, .inl Lq)), (bc, .inl (cI, 6, .inl Cq))]) := hD
  refine lv_aload_n hx hb dX0_likeThat_30 rfl (lv_at hl 1 rfl) ?_
  refine va_get (D := (dC, dI)) (ci := 0) (v := .ref bc) (C := RX0) (T := TX0) (N := 4) hx hb hts hin0 hown hK hP 4 rfl rfl 2 (by decide) kf_18 (fun _ h9 => h9) rfl dX0_likeThat_31 ?_
  refine lv_iconst (v := 0) hx hb dX0_likeThat_34 (by decide) ?_
  refine lv_aload_n hx hb dX0_likeThat_35 rfl (lv_at hl 0 rfl) ?_
  refine va_get (D := (dC, dI)) (ci := 0) (v := .ref ac) (C := RX0) (T := TX0) (N := 4) hx hb hts hin0 hown hK hP 0 rfl rfl 2 (by decide) kf_18 (fun _ h9 => h9) rfl dX0_likeThat_36 ?_
  refine lv_iconst (v := 0) hx hb dX0_likeThat_39 (by decide) ?_
  refine lv_bipush (v := 6) hx hb dX0_likeThat_40 (by decide) ?_
  refine va_copyi (ty := .int) hx hb (hml.trans hl.1.symm) hown (hts (.methodLink RX0 25 arraycopyName) (by decide +kernel)) (hts (.native arraycopyName) (by decide +kernel)) (hts (.static arraycopyName) (by decide +kernel)) (hts (.initialized "java/lang/System") (by decide +kernel)) hK hP hD hS 7 3 0 0 rfl rfl rfl rfl rfl (by decide) (by decide) (by decide) (by decide) (by decide) (fun _ _ => rfl) (Nat.le_of_ble_eq_true rfl) (Nat.le_of_ble_eq_true rfl) dX0_likeThat_42 (fun H locs hP hD hS => ?_)
  have hP : va_P (dC, dI) vwCl ([(a0, .inr (0, [.ref ak, .ref al, .ref ac, .int N])), (ak, .inl (cI, 6, .inl (va_cpy Kq K ((0 : Int32).toNatClampNeg) ((0 : Int32).toNatClampNeg) ((6 : Int32).toNatClampNeg)))), (al, .inl (cI, 6, .inl (va_cpy Lq L ((0 : Int32).toNatClampNeg) ((0 : Int32).toNatClampNeg) ((6 : Int32).toNatClampNeg)))), (ac, .inl (cI, 6, .inl (va_cpy Cq C ((0 : Int32).toNatClampNeg) ((0 : Int32).toNatClampNeg) ((6 : Int32).toNatClampNeg)))), (b0, .inr (0, [.ref bk, .ref bl, .ref bc, .int Nq])), (bk, .inl (cI, 6, .inl Kq)), (bl, .inl (cI, 6, .inl Lq)), (bc, .inl (cI, 6, .inl Cq))]) H := hP
  have hD : va_D A ([(a0, .inr (0, [.ref ak, .ref al, .ref ac, .int N])), (ak, .inl (cI, 6, .inl (va_cpy Kq K ((0 : Int32).toNatClampNeg) ((0 : Int32).toNatClampNeg) ((6 : Int32).toNatClampNeg)))), (al, .inl (cI, 6, .inl (va_cpy Lq L ((0 : Int32).toNatClampNeg) ((0 : Int32).toNatClampNeg) ((6 : Int32).toNatClampNeg)))), (ac, .inl (cI, 6, .inl (va_cpy Cq C ((0 : Int32).toNatClampNeg) ((0 : Int32).toNatClampNeg) ((6 : Int32).toNatClampNeg)))), (b0, .inr (0, [.ref bk, .ref bl, .ref bc, .int Nq])), (bk, .inl (cI, 6, .inl Kq)), (bl, .inl (cI, 6, .inl Lq)), (bc, .inl (cI, 6, .inl Cq))]) := hD
  refine lv_aload_n hx hb dX0_likeThat_45 rfl (lv_at hl 0 rfl) ?_
  refine lv_aload_n hx hb dX0_likeThat_46 rfl (lv_at hl 1 rfl) ?_
  refine va_get (D := (dC, dI)) (ci := 0) (v := .int Nq) (C := RX0) (T := TX0) (N := 4) hx hb hts hin0 hown hK hP 4 rfl rfl 3 (by decide) kf_21 (fun _ h9 => h9) rfl dX0_likeThat_47 ?_
  refine va_put (D := (dC, dI)) (ci := 0) (v := .int Nq) (ty := .int) (C := RX0) (T := TX0) (N := 4) hx hb hts hin0 tyX0 tyX0_ok nmX0 hown hK hP hD hS 0 rfl rfl 3 (by decide) kf_21 (fun _ h9 => h9) rfl (by decide +kernel) rfl rfl (Nat.le_of_ble_eq_true rfl) dX0_likeThat_50 (fun H locs hP hD hS => ?_)
  have hP : va_P (dC, dI) vwCl ([(a0, .inr (0, [.ref ak, .ref al, .ref ac, .int Nq])), (ak, .inl (cI, 6, .inl (va_cpy Kq K ((0 : Int32).toNatClampNeg) ((0 : Int32).toNatClampNeg) ((6 : Int32).toNatClampNeg)))), (al, .inl (cI, 6, .inl (va_cpy Lq L ((0 : Int32).toNatClampNeg) ((0 : Int32).toNatClampNeg) ((6 : Int32).toNatClampNeg)))), (ac, .inl (cI, 6, .inl (va_cpy Cq C ((0 : Int32).toNatClampNeg) ((0 : Int32).toNatClampNeg) ((6 : Int32).toNatClampNeg)))), (b0, .inr (0, [.ref bk, .ref bl, .ref bc, .int Nq])), (bk, .inl (cI, 6, .inl Kq)), (bl, .inl (cI, 6, .inl Lq)), (bc, .inl (cI, 6, .inl Cq))]) H := hP
  have hD : va_D A ([(a0, .inr (0, [.ref ak, .ref al, .ref ac, .int Nq])), (ak, .inl (cI, 6, .inl (va_cpy Kq K ((0 : Int32).toNatClampNeg) ((0 : Int32).toNatClampNeg) ((6 : Int32).toNatClampNeg)))), (al, .inl (cI, 6, .inl (va_cpy Lq L ((0 : Int32).toNatClampNeg) ((0 : Int32).toNatClampNeg) ((6 : Int32).toNatClampNeg)))), (ac, .inl (cI, 6, .inl (va_cpy Cq C ((0 : Int32).toNatClampNeg) ((0 : Int32).toNatClampNeg) ((6 : Int32).toNatClampNeg)))), (b0, .inr (0, [.ref bk, .ref bl, .ref bc, .int Nq])), (bk, .inl (cI, 6, .inl Kq)), (bl, .inl (cI, 6, .inl Lq)), (bc, .inl (cI, 6, .inl Cq))]) := hD
  have hE9 : p0_likeThat N K L C Nq Kq Lq Cq = (Nq, (va_cpy Kq K ((0 : Int32).toNatClampNeg) ((0 : Int32).toNatClampNeg) ((6 : Int32).toNatClampNeg)), (va_cpy Lq L ((0 : Int32).toNatClampNeg) ((0 : Int32).toNatClampNeg) ((6 : Int32).toNatClampNeg)), (va_cpy Cq C ((0 : Int32).toNatClampNeg) ((0 : Int32).toNatClampNeg) ((6 : Int32).toNatClampNeg))) := rfl
  exact W.vret hx hb hr (fun t ht hW => ⟨⟨(), rfl, trivial, by show va_P (dC, dI) vwCl _ t.heap; rw [ht, hE9]; exact hP⟩, hS.F ht⟩) hS.2.2 dX0_likeThat_53

def p0_become (K : Nat → Int32) (L : Nat → Int32) (C : Nat → Int32) (i1 : Int32) (i2 : Int32) (i3 : Int32) : (Nat → Int32) × (Nat → Int32) × (Nat → Int32) :=
  if i2 = 0 then
    ((upd K i1.toNatClampNeg i3), L, C)
  else
    if i2 = 1 then
      (K, (upd L i1.toNatClampNeg i3), C)
    else
      (K, L, (upd C i1.toNatClampNeg i3))
abbrev rmX0_become : Room := { frames := 0, cells := 0, slots := 0, locals := 0 }
abbrev QX0_become (dC : Nat → ClassId) (dI : Nat → Nat → Nat) (A : Nat → Prop) (cI : ClassId) (a0 : Nat) (ak : Nat) (al : Nat) (ac : Nat) (N : Int32) (K : Nat → Int32) (L : Nat → Int32) (C : Nat → Int32) (i1 : Int32) (i2 : Int32) (i3 : Int32) : Array Value → State → Outcome → State → Prop := va_Qv (fun (_ : Unit) => True) (fun (_ : Unit) (t : State) => va_P (dC, dI) vwCl ([(a0, .inr (0, [.ref ak, .ref al, .ref ac, .int N])), (ak, .inl (cI, 6, .inl ((p0_become K L C i1 i2 i3).1))), (al, .inl (cI, 6, .inl ((p0_become K L C i1 i2 i3).2.1))), (ac, .inl (cI, 6, .inl ((p0_become K L C i1 i2 i3).2.2)))]) t.heap) A
set_option maxHeartbeats 4000000 in
set_option maxRecDepth 100000 in
theorem ctX0_become (l : Launch) (dC : Nat → ClassId) (dI : Nat → Nat → Nat) (cI : ClassId) (a0 : Nat) (ak : Nat) (al : Nat) (ac : Nat) (sz : Nat) (N : Int32) (K : Nat → Int32) (L : Nat → Int32) (C : Nat → Int32) (i1 : Int32) (i2 : Int32) (i3 : Int32) (hi1 : vp_in i1 6) : Met l yX0_become wsX0_become rmX0_become (va_Pc [.ref a0, .int i1, .int i2, .int i3] (cP dC dI [(cI, .int)] ([(a0, .inr (0, [.ref ak, .ref al, .ref ac, .int N])), (ak, .inl (cI, 6, .inl K)), (al, .inl (cI, 6, .inl L)), (ac, .inl (cI, 6, .inl C))]) sz)) (QX0_become dC dI (va_A ([(a0, .inr (0, [.ref ak, .ref al, .ref ac, .int N])), (ak, .inl (cI, 6, .inl K)), (al, .inl (cI, 6, .inl L)), (ac, .inl (cI, 6, .inl C))]) sz) cI a0 ak al ac N K L C i1 i2 i3) 0 0 (va_A ([(a0, .inr (0, [.ref ak, .ref al, .ref ac, .int N])), (ak, .inl (cI, 6, .inl K)), (al, .inl (cI, 6, .inl L)), (ac, .inl (cI, 6, .inl C))]) sz) := by
  refine Met.ofW (cc := cX0_become) (maxL := 4) (ret := none) (by decide) rfl ?_
  intro p e s m args below meth c s₁ B hml hv
  obtain ⟨rfl, hsz, hP, hK, hD0, hN⟩ := hv
  have hx := B.exec
  have hb := B.bytes
  have hr := B.returns
  have hts := atoms_spec (ws := wsX0_become) B.pre
  have hown : s.vm.findClass RX0 = some m.cls := findClass_of_methodNamed B.named
  have hlocks := B.notSynchronized
  subst hsz
  have hD := hD0.self (sz := s.heap.size)
  generalize hAe : va_A ([(a0, .inr (0, [.ref ak, .ref al, .ref ac, .int N])), (ak, .inl (cI, 6, .inl K)), (al, .inl (cI, 6, .inl L)), (ac, .inl (cI, 6, .inl C))]) s.heap.size = A at hD ⊢
  have hA : ∀ q : Nat, s.heap.size ≤ q → A q := fun q h => by rw [← hAe]; exact Or.inr h
  have hS : va_S A s.heap s.heap [] := va_S.rf
  have hP : va_P (dC, dI) vwCl ([(a0, .inr (0, [.ref ak, .ref al, .ref ac, .int N])), (ak, .inl (cI, 6, .inl K)), (al, .inl (cI, 6, .inl L)), (ac, .inl (cI, 6, .inl C))]) s.heap := hP
  have hin0 : ∀ w ∈ wsX00, w ∈ wsX0_become := by decide +kernel
  have kf_15 := hts (.fieldLink RX0 15 "RicherChange$City" "land" "[I") (by decide +kernel)
  have kf_18 := hts (.fieldLink RX0 18 "RicherChange$City" "coin" "[I") (by decide +kernel)
  have kf_9 := hts (.fieldLink RX0 9 "RicherChange$City" "kind" "[I") (by decide +kernel)
  have hl := lv_entry ([.ref a0, .int i1, .int i2, .int i3]) (n := 4) (Nat.le_of_ble_eq_true rfl)
  rw [lg_entry_eq]
  generalize (lg_sl ([.ref a0, .int i1, .int i2, .int i3]) ++ List.replicate (4 - (lg_sl ([.ref a0, .int i1, .int i2, .int i3])).length) Slot.unset).toArray = ls at hl ⊢
  have hl : lv_has ls 4 [(0, .ref a0), (1, .int i1), (2, .int i2), (3, .int i3)] := hl
  refine lv_iload_n hx hb dX0_become_0 rfl (lv_at hl 2 rfl) ?_
  refine lv_if_ne (tgt := 14) hx hb dX0_become_1 (by decide) (fun c_1 => ?_) (fun c_1 => ?_)
  · skip
    refine lv_iload_n hx hb dX0_become_14 rfl (lv_at hl 2 rfl) ?_
    refine lv_iconst (v := 1) hx hb dX0_become_15 (by decide) ?_
    refine lv_icmp_ne (tgt := 29) hx hb dX0_become_16 (by decide) (fun c_16 => ?_) (fun c_16 => ?_)
    · skip
      refine lv_aload_n hx hb dX0_become_29 rfl (lv_at hl 0 rfl) ?_
      refine va_get (D := (dC, dI)) (ci := 0) (v := .ref ac) (C := RX0) (T := TX0) (N := 4) hx hb hts hin0 hown hK hP 0 rfl rfl 2 (by decide) kf_18 (fun _ h9 => h9) rfl dX0_become_30 ?_
      refine lv_iload_n hx hb dX0_become_33 rfl (lv_at hl 1 rfl) ?_
      refine lv_iload_n hx hb dX0_become_34 rfl (lv_at hl 3 rfl) ?_
      refine va_iast hx hb hK hP hD hS 3 0 rfl rfl (by assumption) dX0_become_35 (fun H locs hP hD hS => ?_)
      have hP : va_P (dC, dI) vwCl ([(a0, .inr (0, [.ref ak, .ref al, .ref ac, .int N])), (ak, .inl (cI, 6, .inl K)), (al, .inl (cI, 6, .inl L)), (ac, .inl (cI, 6, .inl (upd C i1.toNatClampNeg i3)))]) H := hP
      have hD : va_D A ([(a0, .inr (0, [.ref ak, .ref al, .ref ac, .int N])), (ak, .inl (cI, 6, .inl K)), (al, .inl (cI, 6, .inl L)), (ac, .inl (cI, 6, .inl (upd C i1.toNatClampNeg i3)))]) := hD
      have hE9 : p0_become K L C i1 i2 i3 = (K, L, (upd C i1.toNatClampNeg i3)) := by unfold p0_become; rw [if_neg c_1, if_neg c_16]
      exact W.vret hx hb hr (fun t ht hW => ⟨⟨(), rfl, trivial, by show va_P (dC, dI) vwCl _ t.heap; rw [ht, hE9]; exact hP⟩, hS.F ht⟩) hS.2.2 dX0_become_36
    · skip
      refine lv_aload_n hx hb dX0_become_19 rfl (lv_at hl 0 rfl) ?_
      refine va_get (D := (dC, dI)) (ci := 0) (v := .ref al) (C := RX0) (T := TX0) (N := 4) hx hb hts hin0 hown hK hP 0 rfl rfl 1 (by decide) kf_15 (fun _ h9 => h9) rfl dX0_become_20 ?_
      refine lv_iload_n hx hb dX0_become_23 rfl (lv_at hl 1 rfl) ?_
      refine lv_iload_n hx hb dX0_become_24 rfl (lv_at hl 3 rfl) ?_
      refine va_iast hx hb hK hP hD hS 2 0 rfl rfl (by assumption) dX0_become_25 (fun H locs hP hD hS => ?_)
      have hP : va_P (dC, dI) vwCl ([(a0, .inr (0, [.ref ak, .ref al, .ref ac, .int N])), (ak, .inl (cI, 6, .inl K)), (al, .inl (cI, 6, .inl (upd L i1.toNatClampNeg i3))), (ac, .inl (cI, 6, .inl C))]) H := hP
      have hD : va_D A ([(a0, .inr (0, [.ref ak, .ref al, .ref ac, .int N])), (ak, .inl (cI, 6, .inl K)), (al, .inl (cI, 6, .inl (upd L i1.toNatClampNeg i3))), (ac, .inl (cI, 6, .inl C))]) := hD
      refine lv_goto (tgt := 36) hx hb dX0_become_26 (by decide) ?_
      have hE9 : p0_become K L C i1 i2 i3 = (K, (upd L i1.toNatClampNeg i3), C) := by unfold p0_become; rw [if_neg c_1, if_pos c_16]
      exact W.vret hx hb hr (fun t ht hW => ⟨⟨(), rfl, trivial, by show va_P (dC, dI) vwCl _ t.heap; rw [ht, hE9]; exact hP⟩, hS.F ht⟩) hS.2.2 dX0_become_36
  · skip
    refine lv_aload_n hx hb dX0_become_4 rfl (lv_at hl 0 rfl) ?_
    refine va_get (D := (dC, dI)) (ci := 0) (v := .ref ak) (C := RX0) (T := TX0) (N := 4) hx hb hts hin0 hown hK hP 0 rfl rfl 0 (by decide) kf_9 (fun _ h9 => h9) rfl dX0_become_5 ?_
    refine lv_iload_n hx hb dX0_become_8 rfl (lv_at hl 1 rfl) ?_
    refine lv_iload_n hx hb dX0_become_9 rfl (lv_at hl 3 rfl) ?_
    refine va_iast hx hb hK hP hD hS 1 0 rfl rfl (by assumption) dX0_become_10 (fun H locs hP hD hS => ?_)
    have hP : va_P (dC, dI) vwCl ([(a0, .inr (0, [.ref ak, .ref al, .ref ac, .int N])), (ak, .inl (cI, 6, .inl (upd K i1.toNatClampNeg i3))), (al, .inl (cI, 6, .inl L)), (ac, .inl (cI, 6, .inl C))]) H := hP
    have hD : va_D A ([(a0, .inr (0, [.ref ak, .ref al, .ref ac, .int N])), (ak, .inl (cI, 6, .inl (upd K i1.toNatClampNeg i3))), (al, .inl (cI, 6, .inl L)), (ac, .inl (cI, 6, .inl C))]) := hD
    refine lv_goto (tgt := 36) hx hb dX0_become_11 (by decide) ?_
    have hE9 : p0_become K L C i1 i2 i3 = ((upd K i1.toNatClampNeg i3), L, C) := by unfold p0_become; rw [if_pos c_1]
    exact W.vret hx hb hr (fun t ht hW => ⟨⟨(), rfl, trivial, by show va_P (dC, dI) vwCl _ t.heap; rw [ht, hE9]; exact hP⟩, hS.F ht⟩) hS.2.2 dX0_become_36

def p0_turnToCoin (L : Nat → Int32) (C : Nat → Int32) (i1 : Int32) (i2 : Int32) : (Nat → Int32) × (Nat → Int32) :=
  ((upd L i1.toNatClampNeg ((L i1.toNatClampNeg) - i2)), (upd C i1.toNatClampNeg ((C i1.toNatClampNeg) + i2)))
abbrev rmX0_turnToCoin : Room := { frames := 0, cells := 0, slots := 0, locals := 0 }
abbrev QX0_turnToCoin (dC : Nat → ClassId) (dI : Nat → Nat → Nat) (A : Nat → Prop) (cI : ClassId) (a0 : Nat) (ak : Nat) (al : Nat) (ac : Nat) (N : Int32) (K : Nat → Int32) (L : Nat → Int32) (C : Nat → Int32) (i1 : Int32) (i2 : Int32) : Array Value → State → Outcome → State → Prop := va_Qv (fun (_ : Unit) => True) (fun (_ : Unit) (t : State) => va_P (dC, dI) vwCl ([(a0, .inr (0, [.ref ak, .ref al, .ref ac, .int N])), (ak, .inl (cI, 6, .inl K)), (al, .inl (cI, 6, .inl ((p0_turnToCoin L C i1 i2).1))), (ac, .inl (cI, 6, .inl ((p0_turnToCoin L C i1 i2).2)))]) t.heap) A
set_option maxHeartbeats 4000000 in
set_option maxRecDepth 100000 in
theorem ctX0_turnToCoin (l : Launch) (dC : Nat → ClassId) (dI : Nat → Nat → Nat) (cI : ClassId) (a0 : Nat) (ak : Nat) (al : Nat) (ac : Nat) (sz : Nat) (N : Int32) (K : Nat → Int32) (L : Nat → Int32) (C : Nat → Int32) (i1 : Int32) (i2 : Int32) (hi1 : vp_in i1 6) : Met l yX0_turnToCoin wsX0_turnToCoin rmX0_turnToCoin (va_Pc [.ref a0, .int i1, .int i2] (cP dC dI [(cI, .int)] ([(a0, .inr (0, [.ref ak, .ref al, .ref ac, .int N])), (ak, .inl (cI, 6, .inl K)), (al, .inl (cI, 6, .inl L)), (ac, .inl (cI, 6, .inl C))]) sz)) (QX0_turnToCoin dC dI (va_A ([(a0, .inr (0, [.ref ak, .ref al, .ref ac, .int N])), (ak, .inl (cI, 6, .inl K)), (al, .inl (cI, 6, .inl L)), (ac, .inl (cI, 6, .inl C))]) sz) cI a0 ak al ac N K L C i1 i2) 0 0 (va_A ([(a0, .inr (0, [.ref ak, .ref al, .ref ac, .int N])), (ak, .inl (cI, 6, .inl K)), (al, .inl (cI, 6, .inl L)), (ac, .inl (cI, 6, .inl C))]) sz) := by
  refine Met.ofW (cc := cX0_turnToCoin) (maxL := 3) (ret := none) (by decide) rfl ?_
  intro p e s m args below meth c s₁ B hml hv
  obtain ⟨rfl, hsz, hP, hK, hD0, hN⟩ := hv
  have hx := B.exec
  have hb := B.bytes
  have hr := B.returns
  have hts := atoms_spec (ws := wsX0_turnToCoin) B.pre
  have hown : s.vm.findClass RX0 = some m.cls := findClass_of_methodNamed B.named
  have hlocks := B.notSynchronized
  subst hsz
  have hD := hD0.self (sz := s.heap.size)
  generalize hAe : va_A ([(a0, .inr (0, [.ref ak, .ref al, .ref ac, .int N])), (ak, .inl (cI, 6, .inl K)), (al, .inl (cI, 6, .inl L)), (ac, .inl (cI, 6, .inl C))]) s.heap.size = A at hD ⊢
  have hA : ∀ q : Nat, s.heap.size ≤ q → A q := fun q h => by rw [← hAe]; exact Or.inr h
  have hS : va_S A s.heap s.heap [] := va_S.rf
  have hP : va_P (dC, dI) vwCl ([(a0, .inr (0, [.ref ak, .ref al, .ref ac, .int N])), (ak, .inl (cI, 6, .inl K)), (al, .inl (cI, 6, .inl L)), (ac, .inl (cI, 6, .inl C))]) s.heap := hP
  have hin0 : ∀ w ∈ wsX00, w ∈ wsX0_turnToCoin := by decide +kernel
  have kf_15 := hts (.fieldLink RX0 15 "RicherChange$City" "land" "[I") (by decide +kernel)
  have kf_18 := hts (.fieldLink RX0 18 "RicherChange$City" "coin" "[I") (by decide +kernel)
  have hl := lv_entry ([.ref a0, .int i1, .int i2]) (n := 3) (Nat.le_of_ble_eq_true rfl)
  rw [lg_entry_eq]
  generalize (lg_sl ([.ref a0, .int i1, .int i2]) ++ List.replicate (3 - (lg_sl ([.ref a0, .int i1, .int i2])).length) Slot.unset).toArray = ls at hl ⊢
  have hl : lv_has ls 3 [(0, .ref a0), (1, .int i1), (2, .int i2)] := hl
  refine lv_aload_n hx hb dX0_turnToCoin_0 rfl (lv_at hl 0 rfl) ?_
  refine va_get (D := (dC, dI)) (ci := 0) (v := .ref al) (C := RX0) (T := TX0) (N := 4) hx hb hts hin0 hown hK hP 0 rfl rfl 1 (by decide) kf_15 (fun _ h9 => h9) rfl dX0_turnToCoin_1 ?_
  refine lv_iload_n hx hb dX0_turnToCoin_4 rfl (lv_at hl 1 rfl) ?_
  refine lv_dup2_11 hx hb dX0_turnToCoin_5 rfl rfl ?_
  refine va_iald hx hb hK hP 2 0 rfl rfl (by assumption) dX0_turnToCoin_6 ?_
  refine lv_iload_n hx hb dX0_turnToCoin_7 rfl (lv_at hl 2 rfl) ?_
  refine lv_isub hx hb dX0_turnToCoin_8 ?_
  refine va_iast hx hb hK hP hD hS 2 0 rfl rfl (by assumption) dX0_turnToCoin_9 (fun H locs hP hD hS => ?_)
  have hP : va_P (dC, dI) vwCl ([(a0, .inr (0, [.ref ak, .ref al, .ref ac, .int N])), (ak, .inl (cI, 6, .inl K)), (al, .inl (cI, 6, .inl (upd L i1.toNatClampNeg ((L i1.toNatClampNeg) - i2)))), (ac, .inl (cI, 6, .inl C))]) H := hP
  have hD : va_D A ([(a0, .inr (0, [.ref ak, .ref al, .ref ac, .int N])), (ak, .inl (cI, 6, .inl K)), (al, .inl (cI, 6, .inl (upd L i1.toNatClampNeg ((L i1.toNatClampNeg) - i2)))), (ac, .inl (cI, 6, .inl C))]) := hD
  refine lv_aload_n hx hb dX0_turnToCoin_10 rfl (lv_at hl 0 rfl) ?_
  refine va_get (D := (dC, dI)) (ci := 0) (v := .ref ac) (C := RX0) (T := TX0) (N := 4) hx hb hts hin0 hown hK hP 0 rfl rfl 2 (by decide) kf_18 (fun _ h9 => h9) rfl dX0_turnToCoin_11 ?_
  refine lv_iload_n hx hb dX0_turnToCoin_14 rfl (lv_at hl 1 rfl) ?_
  refine lv_dup2_11 hx hb dX0_turnToCoin_15 rfl rfl ?_
  refine va_iald hx hb hK hP 3 0 rfl rfl (by assumption) dX0_turnToCoin_16 ?_
  refine lv_iload_n hx hb dX0_turnToCoin_17 rfl (lv_at hl 2 rfl) ?_
  refine lv_iadd hx hb dX0_turnToCoin_18 ?_
  refine va_iast hx hb hK hP hD hS 3 0 rfl rfl (by assumption) dX0_turnToCoin_19 (fun H locs hP hD hS => ?_)
  have hP : va_P (dC, dI) vwCl ([(a0, .inr (0, [.ref ak, .ref al, .ref ac, .int N])), (ak, .inl (cI, 6, .inl K)), (al, .inl (cI, 6, .inl (upd L i1.toNatClampNeg ((L i1.toNatClampNeg) - i2)))), (ac, .inl (cI, 6, .inl (upd C i1.toNatClampNeg ((C i1.toNatClampNeg) + i2))))]) H := hP
  have hD : va_D A ([(a0, .inr (0, [.ref ak, .ref al, .ref ac, .int N])), (ak, .inl (cI, 6, .inl K)), (al, .inl (cI, 6, .inl (upd L i1.toNatClampNeg ((L i1.toNatClampNeg) - i2)))), (ac, .inl (cI, 6, .inl (upd C i1.toNatClampNeg ((C i1.toNatClampNeg) + i2))))]) := hD
  have hE9 : p0_turnToCoin L C i1 i2 = ((upd L i1.toNatClampNeg ((L i1.toNatClampNeg) - i2)), (upd C i1.toNatClampNeg ((C i1.toNatClampNeg) + i2))) := rfl
  exact W.vret hx hb hr (fun t ht hW => ⟨⟨(), rfl, trivial, by show va_P (dC, dI) vwCl _ t.heap; rw [ht, hE9]; exact hP⟩, hS.F ht⟩) hS.2.2 dX0_turnToCoin_20

def p0_sum_l4 (N : Int32) (F : Nat → Int32) : Nat → Int32 → Int32 → Int32
  | 0, _, _ => 0
  | n + 1, v2, v3 =>
    if N ≤ v3 then
      v2
    else
      p0_sum_l4 N F n (v2 + (F v3.toNatClampNeg)) (v3 + 1)
theorem p0_sum_l4_s (N : Int32) (F : Nat → Int32) (n : Nat) (v2 : Int32) (v3 : Int32) : p0_sum_l4 N F (n + 1) v2 v3 =
    (if N ≤ v3 then
      v2
    else
      p0_sum_l4 N F n (v2 + (F v3.toNatClampNeg)) (v3 + 1)) := rfl
def p0_sum (N : Int32) (F : Nat → Int32) : Int32 :=
  p0_sum_l4 N F 7 0 0
abbrev rmX0_sum : Room := { frames := 0, cells := 0, slots := 0, locals := 0 }
abbrev QX0_sum (dC : Nat → ClassId) (dI : Nat → Nat → Nat) (A : Nat → Prop) (cI : ClassId) (a0 : Nat) (ak : Nat) (al : Nat) (ac : Nat) (b0 : Nat) (N : Int32) (F : Nat → Int32) : Array Value → State → Outcome → State → Prop := va_Qi (fun (r : Int32) (_ : Unit) => r = p0_sum N F) (fun (_ : Unit) (t : State) => va_P (dC, dI) vwCl ([(a0, .inr (0, [.ref ak, .ref al, .ref ac, .int N])), (b0, .inl (cI, 6, .inl F))]) t.heap) A
set_option maxHeartbeats 4000000 in
set_option maxRecDepth 100000 in
theorem ctX0_sum (l : Launch) (dC : Nat → ClassId) (dI : Nat → Nat → Nat) (cI : ClassId) (a0 : Nat) (ak : Nat) (al : Nat) (ac : Nat) (b0 : Nat) (sz : Nat) (N : Int32) (F : Nat → Int32) (hNb : N.toInt ≤ 6) : Met l yX0_sum wsX0_sum rmX0_sum (va_Pc [.ref a0, .ref b0] (cP dC dI [(cI, .int)] ([(a0, .inr (0, [.ref ak, .ref al, .ref ac, .int N])), (b0, .inl (cI, 6, .inl F))]) sz)) (QX0_sum dC dI (va_A ([(a0, .inr (0, [.ref ak, .ref al, .ref ac, .int N])), (b0, .inl (cI, 6, .inl F))]) sz) cI a0 ak al ac b0 N F ) 0 0 (va_A ([(a0, .inr (0, [.ref ak, .ref al, .ref ac, .int N])), (b0, .inl (cI, 6, .inl F))]) sz) := by
  refine Met.ofW (cc := cX0_sum) (maxL := 4) (ret := (some .int)) (by decide) rfl ?_
  intro p e s m args below meth c s₁ B hml hv
  obtain ⟨rfl, hsz, hP, hK, hD0, hN⟩ := hv
  have hx := B.exec
  have hb := B.bytes
  have hr := B.returns
  have hts := atoms_spec (ws := wsX0_sum) B.pre
  have hown : s.vm.findClass RX0 = some m.cls := findClass_of_methodNamed B.named
  have hlocks := B.notSynchronized
  subst hsz
  have hD := hD0.self (sz := s.heap.size)
  generalize hAe : va_A ([(a0, .inr (0, [.ref ak, .ref al, .ref ac, .int N])), (b0, .inl (cI, 6, .inl F))]) s.heap.size = A at hD ⊢
  have hA : ∀ q : Nat, s.heap.size ≤ q → A q := fun q h => by rw [← hAe]; exact Or.inr h
  have hS : va_S A s.heap s.heap [] := va_S.rf
  have hP : va_P (dC, dI) vwCl ([(a0, .inr (0, [.ref ak, .ref al, .ref ac, .int N])), (b0, .inl (cI, 6, .inl F))]) s.heap := hP
  have hin0 : ∀ w ∈ wsX00, w ∈ wsX0_sum := by decide +kernel
  have kf_21 := hts (.fieldLink RX0 21 "RicherChange$City" "houses" "I") (by decide +kernel)
  have hl := lv_entry ([.ref a0, .ref b0]) (n := 4) (Nat.le_of_ble_eq_true rfl)
  rw [lg_entry_eq]
  generalize (lg_sl ([.ref a0, .ref b0]) ++ List.replicate (4 - (lg_sl ([.ref a0, .ref b0])).length) Slot.unset).toArray = ls at hl ⊢
  have hl : lv_has ls 4 [(0, .ref a0), (1, .ref b0)] := hl
  have lp_4 : ∀ (n : Nat) (v2 : Int32) (v3 : Int32) (H : Heap) (locs : List Loc) (ls : Array Slot), (up v3 N n) → va_P (dC, dI) vwCl ([(a0, .inr (0, [.ref ak, .ref al, .ref ac, .int N])), (b0, .inl (cI, 6, .inl F))]) H → va_D A ([(a0, .inr (0, [.ref ak, .ref al, .ref ac, .int N])), (b0, .inl (cI, 6, .inl F))]) → va_S A s.heap H locs → lv_has ls 4 [(3, .int v3), (2, .int v2), (0, .ref a0), (1, .ref b0)] → p0_sum N F = p0_sum_l4 N F n v2 v3 → W p l e (headSpec wsX0_sum rmX0_sum).room s m [.ref a0, .ref b0].toArray below meth c H locs 0 0 (MQ below (QX0_sum dC dI A cI a0 ak al ac b0 N F ) [.ref a0, .ref b0].toArray s 0 0 A) (F0 m 4 ls []) := by
    intro n
    induction n with
    | zero => intro v2 v3 _ _ _ hu; exact absurd hu up_no
    | succ n ih =>
      intro v2 v3 H locs ls hu hP hD hS hl hE
      refine lv_iload_n hx hb dX0_sum_4 rfl (lv_at hl 0 rfl) ?_
      refine lv_aload_n hx hb dX0_sum_5 rfl (lv_at hl 2 rfl) ?_
      refine va_get (D := (dC, dI)) (ci := 0) (v := .int N) (C := RX0) (T := TX0) (N := 4) hx hb hts hin0 hown hK hP 0 rfl rfl 3 (by decide) kf_21 (fun _ h9 => h9) rfl dX0_sum_6 ?_
      refine lv_icmp_ge (tgt := 24) hx hb dX0_sum_9 (by decide) (fun c_9 => ?_) (fun c_9 => ?_)
      · skip
        refine lv_iload_n hx hb dX0_sum_24 rfl (lv_at hl 1 rfl) ?_
        have hE9 : p0_sum N F = v2 := hE.trans (by rw [p0_sum_l4_s, if_pos c_9])
        exact W.iret (v := v2) hx hb hr (fun t ht hW => ⟨⟨_, (), rfl, by rw [hE9], by show va_P (dC, dI) vwCl _ t.heap; rw [ht]; exact hP⟩, hS.F ht⟩) hS.2.2 dX0_sum_25
      · skip
        have j3 : vp_in v3 6 := up_in 6 hu c_9 hNb
        refine lv_iload_n hx hb dX0_sum_12 rfl (lv_at hl 1 rfl) ?_
        refine lv_aload_n hx hb dX0_sum_13 rfl (lv_at hl 3 rfl) ?_
        refine lv_iload_n hx hb dX0_sum_14 rfl (lv_at hl 0 rfl) ?_
        refine va_iald hx hb hK hP 1 0 rfl rfl (by assumption) dX0_sum_15 ?_
        refine lv_iadd hx hb dX0_sum_16 ?_
        refine lv_istore_n (lv' := [(2, .int (v2 + (F v3.toNatClampNeg))), (3, .int v3), (0, .ref a0), (1, .ref b0)]) hx hb dX0_sum_17 rfl hl (by decide) rfl (fun ls hl => ?_)
        refine lv_iinc (v := (v3 + 1)) (lv' := [(3, .int (v3 + 1)), (2, .int (v2 + (F v3.toNatClampNeg))), (0, .ref a0), (1, .ref b0)]) hx hb dX0_sum_18 hl (k := 1) rfl rfl (by decide) rfl (fun ls hl => ?_)
        refine lv_goto (tgt := 4) hx hb dX0_sum_21 (by decide) ?_
        exact ih (v2 + (F v3.toNatClampNeg)) (v3 + 1) _ _ _ (up_s hu c_9) hP hD hS (lv_sub hl [0, 1, 2, 3] rfl) (hE.trans (by rw [p0_sum_l4_s, if_neg c_9]))
  refine lv_iconst (v := 0) hx hb dX0_sum_0 (by decide) ?_
  refine lv_istore_n (lv' := [(2, .int 0), (0, .ref a0), (1, .ref b0)]) hx hb dX0_sum_1 rfl hl (by decide) rfl (fun ls hl => ?_)
  refine lv_iconst (v := 0) hx hb dX0_sum_2 (by decide) ?_
  refine lv_istore_n (lv' := [(3, .int 0), (2, .int 0), (0, .ref a0), (1, .ref b0)]) hx hb dX0_sum_3 rfl hl (by decide) rfl (fun ls hl => ?_)
  exact lp_4 7 0 0  _ _ _ (up_i 6 (by decide) hNb) hP hD hS (lv_sub hl [0, 1, 2, 3] rfl) (rfl)

def p0_worth (i0 : Int32) (i1 : Int32) : Int32 :=
  if i0 = 0 then
    i1
  else
    if i0 = 2 then
      (2 * (i1 + 5))
    else
      (i1 + 5)
abbrev rmX0_worth : Room := { frames := 0, cells := 0, slots := 0, locals := 0 }
abbrev QX0_worth (dC : Nat → ClassId) (dI : Nat → Nat → Nat) (A : Nat → Prop) (cI : ClassId) (i0 : Int32) (i1 : Int32) : Array Value → State → Outcome → State → Prop := va_Qi (fun (r : Int32) (_ : Unit) => r = p0_worth i0 i1) (fun (_ : Unit) (t : State) => va_P (dC, dI) vwCl ([]) t.heap) A
set_option maxHeartbeats 4000000 in
set_option maxRecDepth 100000 in
theorem ctX0_worth (l : Launch) (dC : Nat → ClassId) (dI : Nat → Nat → Nat) (cI : ClassId) (sz : Nat) (i0 : Int32) (i1 : Int32) : Met l yX0_worth wsX0_worth rmX0_worth (va_Pc [.int i0, .int i1] (cP dC dI [(cI, .int)] ([]) sz)) (QX0_worth dC dI (va_A ([]) sz) cI i0 i1) 0 0 (va_A ([]) sz) := by
  refine Met.ofW (cc := cX0_worth) (maxL := 3) (ret := (some .int)) (by decide) rfl ?_
  intro p e s m args below meth c s₁ B hml hv
  obtain ⟨rfl, hsz, hP, hK, hD0, hN⟩ := hv
  have hx := B.exec
  have hb := B.bytes
  have hr := B.returns
  have hts := atoms_spec (ws := wsX0_worth) B.pre
  have hown : s.vm.findClass RX0 = some m.cls := findClass_of_methodNamed B.named
  have hlocks := B.notSynchronized
  subst hsz
  have hD := hD0.self (sz := s.heap.size)
  generalize hAe : va_A ([]) s.heap.size = A at hD ⊢
  have hA : ∀ q : Nat, s.heap.size ≤ q → A q := fun q h => by rw [← hAe]; exact Or.inr h
  have hS : va_S A s.heap s.heap [] := va_S.rf
  have hP : va_P (dC, dI) vwCl ([]) s.heap := hP
  have hl := lv_entry ([.int i0, .int i1]) (n := 3) (Nat.le_of_ble_eq_true rfl)
  rw [lg_entry_eq]
  generalize (lg_sl ([.int i0, .int i1]) ++ List.replicate (3 - (lg_sl ([.int i0, .int i1])).length) Slot.unset).toArray = ls at hl ⊢
  have hl : lv_has ls 3 [(0, .int i0), (1, .int i1)] := hl
  refine lv_iload_n hx hb dX0_worth_0 rfl (lv_at hl 0 rfl) ?_
  refine lv_if_ne (tgt := 6) hx hb dX0_worth_1 (by decide) (fun c_1 => ?_) (fun c_1 => ?_)
  · skip
    refine lv_iload_n hx hb dX0_worth_6 rfl (lv_at hl 1 rfl) ?_
    refine lv_iconst (v := 5) hx hb dX0_worth_7 (by decide) ?_
    refine lv_iadd hx hb dX0_worth_8 ?_
    refine lv_istore_n (lv' := [(2, .int (i1 + 5)), (0, .int i0), (1, .int i1)]) hx hb dX0_worth_9 rfl hl (by decide) rfl (fun ls hl => ?_)
    refine lv_iload_n hx hb dX0_worth_10 rfl (lv_at hl 1 rfl) ?_
    refine lv_iconst (v := 2) hx hb dX0_worth_11 (by decide) ?_
    refine lv_icmp_ne (tgt := 21) hx hb dX0_worth_12 (by decide) (fun c_12 => ?_) (fun c_12 => ?_)
    · skip
      refine lv_iload_n hx hb dX0_worth_21 rfl (lv_at hl 0 rfl) ?_
      have hE9 : p0_worth i0 i1 = (i1 + 5) := by unfold p0_worth; rw [if_neg c_1, if_neg c_12]
      exact W.iret (v := (i1 + 5)) hx hb hr (fun t ht hW => ⟨⟨_, (), rfl, by rw [hE9], by show va_P (dC, dI) vwCl _ t.heap; rw [ht]; exact hP⟩, hS.F ht⟩) hS.2.2 dX0_worth_22
    · skip
      refine lv_iconst (v := 2) hx hb dX0_worth_15 (by decide) ?_
      refine lv_iload_n hx hb dX0_worth_16 rfl (lv_at hl 0 rfl) ?_
      refine lv_imul hx hb dX0_worth_17 ?_
      refine lv_goto (tgt := 22) hx hb dX0_worth_18 (by decide) ?_
      have hE9 : p0_worth i0 i1 = (2 * (i1 + 5)) := by unfold p0_worth; rw [if_neg c_1, if_pos c_12]
      exact W.iret (v := (2 * (i1 + 5))) hx hb hr (fun t ht hW => ⟨⟨_, (), rfl, by rw [hE9], by show va_P (dC, dI) vwCl _ t.heap; rw [ht]; exact hP⟩, hS.F ht⟩) hS.2.2 dX0_worth_22
  · skip
    refine lv_iload_n hx hb dX0_worth_4 rfl (lv_at hl 1 rfl) ?_
    have hE9 : p0_worth i0 i1 = i1 := by unfold p0_worth; rw [if_pos c_1]
    exact W.iret (v := i1) hx hb hr (fun t ht hW => ⟨⟨_, (), rfl, by rw [hE9], by show va_P (dC, dI) vwCl _ t.heap; rw [ht]; exact hP⟩, hS.F ht⟩) hS.2.2 dX0_worth_5

def p0_wealth (L : Nat → Int32) (C : Nat → Int32) (i1 : Int32) : Int32 :=
  ((L i1.toNatClampNeg) + (C i1.toNatClampNeg))
abbrev rmX0_wealth : Room := { frames := 0, cells := 0, slots := 0, locals := 0 }
abbrev QX0_wealth (dC : Nat → ClassId) (dI : Nat → Nat → Nat) (A : Nat → Prop) (cI : ClassId) (a0 : Nat) (ak : Nat) (al : Nat) (ac : Nat) (N : Int32) (K : Nat → Int32) (L : Nat → Int32) (C : Nat → Int32) (i1 : Int32) : Array Value → State → Outcome → State → Prop := va_Qi (fun (r : Int32) (_ : Unit) => r = p0_wealth L C i1) (fun (_ : Unit) (t : State) => va_P (dC, dI) vwCl ([(a0, .inr (0, [.ref ak, .ref al, .ref ac, .int N])), (ak, .inl (cI, 6, .inl K)), (al, .inl (cI, 6, .inl L)), (ac, .inl (cI, 6, .inl C))]) t.heap) A
set_option maxHeartbeats 4000000 in
set_option maxRecDepth 100000 in
theorem ctX0_wealth (l : Launch) (dC : Nat → ClassId) (dI : Nat → Nat → Nat) (cI : ClassId) (a0 : Nat) (ak : Nat) (al : Nat) (ac : Nat) (sz : Nat) (N : Int32) (K : Nat → Int32) (L : Nat → Int32) (C : Nat → Int32) (i1 : Int32) (hi1 : vp_in i1 6) : Met l yX0_wealth wsX0_wealth rmX0_wealth (va_Pc [.ref a0, .int i1] (cP dC dI [(cI, .int)] ([(a0, .inr (0, [.ref ak, .ref al, .ref ac, .int N])), (ak, .inl (cI, 6, .inl K)), (al, .inl (cI, 6, .inl L)), (ac, .inl (cI, 6, .inl C))]) sz)) (QX0_wealth dC dI (va_A ([(a0, .inr (0, [.ref ak, .ref al, .ref ac, .int N])), (ak, .inl (cI, 6, .inl K)), (al, .inl (cI, 6, .inl L)), (ac, .inl (cI, 6, .inl C))]) sz) cI a0 ak al ac N K L C i1) 0 0 (va_A ([(a0, .inr (0, [.ref ak, .ref al, .ref ac, .int N])), (ak, .inl (cI, 6, .inl K)), (al, .inl (cI, 6, .inl L)), (ac, .inl (cI, 6, .inl C))]) sz) := by
  refine Met.ofW (cc := cX0_wealth) (maxL := 2) (ret := (some .int)) (by decide) rfl ?_
  intro p e s m args below meth c s₁ B hml hv
  obtain ⟨rfl, hsz, hP, hK, hD0, hN⟩ := hv
  have hx := B.exec
  have hb := B.bytes
  have hr := B.returns
  have hts := atoms_spec (ws := wsX0_wealth) B.pre
  have hown : s.vm.findClass RX0 = some m.cls := findClass_of_methodNamed B.named
  have hlocks := B.notSynchronized
  subst hsz
  have hD := hD0.self (sz := s.heap.size)
  generalize hAe : va_A ([(a0, .inr (0, [.ref ak, .ref al, .ref ac, .int N])), (ak, .inl (cI, 6, .inl K)), (al, .inl (cI, 6, .inl L)), (ac, .inl (cI, 6, .inl C))]) s.heap.size = A at hD ⊢
  have hA : ∀ q : Nat, s.heap.size ≤ q → A q := fun q h => by rw [← hAe]; exact Or.inr h
  have hS : va_S A s.heap s.heap [] := va_S.rf
  have hP : va_P (dC, dI) vwCl ([(a0, .inr (0, [.ref ak, .ref al, .ref ac, .int N])), (ak, .inl (cI, 6, .inl K)), (al, .inl (cI, 6, .inl L)), (ac, .inl (cI, 6, .inl C))]) s.heap := hP
  have hin0 : ∀ w ∈ wsX00, w ∈ wsX0_wealth := by decide +kernel
  have kf_15 := hts (.fieldLink RX0 15 "RicherChange$City" "land" "[I") (by decide +kernel)
  have kf_18 := hts (.fieldLink RX0 18 "RicherChange$City" "coin" "[I") (by decide +kernel)
  have hl := lv_entry ([.ref a0, .int i1]) (n := 2) (Nat.le_of_ble_eq_true rfl)
  rw [lg_entry_eq]
  generalize (lg_sl ([.ref a0, .int i1]) ++ List.replicate (2 - (lg_sl ([.ref a0, .int i1])).length) Slot.unset).toArray = ls at hl ⊢
  have hl : lv_has ls 2 [(0, .ref a0), (1, .int i1)] := hl
  refine lv_aload_n hx hb dX0_wealth_0 rfl (lv_at hl 0 rfl) ?_
  refine va_get (D := (dC, dI)) (ci := 0) (v := .ref al) (C := RX0) (T := TX0) (N := 4) hx hb hts hin0 hown hK hP 0 rfl rfl 1 (by decide) kf_15 (fun _ h9 => h9) rfl dX0_wealth_1 ?_
  refine lv_iload_n hx hb dX0_wealth_4 rfl (lv_at hl 1 rfl) ?_
  refine va_iald hx hb hK hP 2 0 rfl rfl (by assumption) dX0_wealth_5 ?_
  refine lv_aload_n hx hb dX0_wealth_6 rfl (lv_at hl 0 rfl) ?_
  refine va_get (D := (dC, dI)) (ci := 0) (v := .ref ac) (C := RX0) (T := TX0) (N := 4) hx hb hts hin0 hown hK hP 0 rfl rfl 2 (by decide) kf_18 (fun _ h9 => h9) rfl dX0_wealth_7 ?_
  refine lv_iload_n hx hb dX0_wealth_10 rfl (lv_at hl 1 rfl) ?_
  refine va_iald hx hb hK hP 3 0 rfl rfl (by assumption) dX0_wealth_11 ?_
  refine lv_iadd hx hb dX0_wealth_12 ?_
  have hE9 : p0_wealth L C i1 = ((L i1.toNatClampNeg) + (C i1.toNatClampNeg)) := rfl
  exact W.iret (v := ((L i1.toNatClampNeg) + (C i1.toNatClampNeg))) hx hb hr (fun t ht hW => ⟨⟨_, (), rfl, by rw [hE9], by show va_P (dC, dI) vwCl _ t.heap; rw [ht]; exact hP⟩, hS.F ht⟩) hS.2.2 dX0_wealth_13

def p0_wealthWhenPaid (L : Nat → Int32) (C : Nat → Int32) (i1 : Int32) (i2 : Int32) : Int32 :=
  if (((L i1.toNatClampNeg) + (C i1.toNatClampNeg)) - i2) ≤ 0 then
    0
  else
    (((L i1.toNatClampNeg) + (C i1.toNatClampNeg)) - i2)
abbrev rmX0_wealthWhenPaid : Room := { frames := 0, cells := 0, slots := 0, locals := 0 }
abbrev QX0_wealthWhenPaid (dC : Nat → ClassId) (dI : Nat → Nat → Nat) (A : Nat → Prop) (cI : ClassId) (a0 : Nat) (ak : Nat) (al : Nat) (ac : Nat) (N : Int32) (K : Nat → Int32) (L : Nat → Int32) (C : Nat → Int32) (i1 : Int32) (i2 : Int32) : Array Value → State → Outcome → State → Prop := va_Qi (fun (r : Int32) (_ : Unit) => r = p0_wealthWhenPaid L C i1 i2) (fun (_ : Unit) (t : State) => va_P (dC, dI) vwCl ([(a0, .inr (0, [.ref ak, .ref al, .ref ac, .int N])), (ak, .inl (cI, 6, .inl K)), (al, .inl (cI, 6, .inl L)), (ac, .inl (cI, 6, .inl C))]) t.heap) A
set_option maxHeartbeats 4000000 in
set_option maxRecDepth 100000 in
theorem ctX0_wealthWhenPaid (l : Launch) (dC : Nat → ClassId) (dI : Nat → Nat → Nat) (cI : ClassId) (a0 : Nat) (ak : Nat) (al : Nat) (ac : Nat) (sz : Nat) (N : Int32) (K : Nat → Int32) (L : Nat → Int32) (C : Nat → Int32) (i1 : Int32) (i2 : Int32) (hi1 : vp_in i1 6) : Met l yX0_wealthWhenPaid wsX0_wealthWhenPaid rmX0_wealthWhenPaid (va_Pc [.ref a0, .int i1, .int i2] (cP dC dI [(cI, .int)] ([(a0, .inr (0, [.ref ak, .ref al, .ref ac, .int N])), (ak, .inl (cI, 6, .inl K)), (al, .inl (cI, 6, .inl L)), (ac, .inl (cI, 6, .inl C))]) sz)) (QX0_wealthWhenPaid dC dI (va_A ([(a0, .inr (0, [.ref ak, .ref al, .ref ac, .int N])), (ak, .inl (cI, 6, .inl K)), (al, .inl (cI, 6, .inl L)), (ac, .inl (cI, 6, .inl C))]) sz) cI a0 ak al ac N K L C i1 i2) 0 0 (va_A ([(a0, .inr (0, [.ref ak, .ref al, .ref ac, .int N])), (ak, .inl (cI, 6, .inl K)), (al, .inl (cI, 6, .inl L)), (ac, .inl (cI, 6, .inl C))]) sz) := by
  refine Met.ofW (cc := cX0_wealthWhenPaid) (maxL := 4) (ret := (some .int)) (by decide) rfl ?_
  intro p e s m args below meth c s₁ B hml hv
  obtain ⟨rfl, hsz, hP, hK, hD0, hN⟩ := hv
  have hx := B.exec
  have hb := B.bytes
  have hr := B.returns
  have hts := atoms_spec (ws := wsX0_wealthWhenPaid) B.pre
  have hown : s.vm.findClass RX0 = some m.cls := findClass_of_methodNamed B.named
  have hlocks := B.notSynchronized
  subst hsz
  have hD := hD0.self (sz := s.heap.size)
  generalize hAe : va_A ([(a0, .inr (0, [.ref ak, .ref al, .ref ac, .int N])), (ak, .inl (cI, 6, .inl K)), (al, .inl (cI, 6, .inl L)), (ac, .inl (cI, 6, .inl C))]) s.heap.size = A at hD ⊢
  have hA : ∀ q : Nat, s.heap.size ≤ q → A q := fun q h => by rw [← hAe]; exact Or.inr h
  have hS : va_S A s.heap s.heap [] := va_S.rf
  have hP : va_P (dC, dI) vwCl ([(a0, .inr (0, [.ref ak, .ref al, .ref ac, .int N])), (ak, .inl (cI, 6, .inl K)), (al, .inl (cI, 6, .inl L)), (ac, .inl (cI, 6, .inl C))]) s.heap := hP
  have hin0 : ∀ w ∈ wsX00, w ∈ wsX0_wealthWhenPaid := by decide +kernel
  have kf_15 := hts (.fieldLink RX0 15 "RicherChange$City" "land" "[I") (by decide +kernel)
  have kf_18 := hts (.fieldLink RX0 18 "RicherChange$City" "coin" "[I") (by decide +kernel)
  have hl := lv_entry ([.ref a0, .int i1, .int i2]) (n := 4) (Nat.le_of_ble_eq_true rfl)
  rw [lg_entry_eq]
  generalize (lg_sl ([.ref a0, .int i1, .int i2]) ++ List.replicate (4 - (lg_sl ([.ref a0, .int i1, .int i2])).length) Slot.unset).toArray = ls at hl ⊢
  have hl : lv_has ls 4 [(0, .ref a0), (1, .int i1), (2, .int i2)] := hl
  refine lv_aload_n hx hb dX0_wealthWhenPaid_0 rfl (lv_at hl 0 rfl) ?_
  refine va_get (D := (dC, dI)) (ci := 0) (v := .ref al) (C := RX0) (T := TX0) (N := 4) hx hb hts hin0 hown hK hP 0 rfl rfl 1 (by decide) kf_15 (fun _ h9 => h9) rfl dX0_wealthWhenPaid_1 ?_
  refine lv_iload_n hx hb dX0_wealthWhenPaid_4 rfl (lv_at hl 1 rfl) ?_
  refine va_iald hx hb hK hP 2 0 rfl rfl (by assumption) dX0_wealthWhenPaid_5 ?_
  refine lv_aload_n hx hb dX0_wealthWhenPaid_6 rfl (lv_at hl 0 rfl) ?_
  refine va_get (D := (dC, dI)) (ci := 0) (v := .ref ac) (C := RX0) (T := TX0) (N := 4) hx hb hts hin0 hown hK hP 0 rfl rfl 2 (by decide) kf_18 (fun _ h9 => h9) rfl dX0_wealthWhenPaid_7 ?_
  refine lv_iload_n hx hb dX0_wealthWhenPaid_10 rfl (lv_at hl 1 rfl) ?_
  refine va_iald hx hb hK hP 3 0 rfl rfl (by assumption) dX0_wealthWhenPaid_11 ?_
  refine lv_iadd hx hb dX0_wealthWhenPaid_12 ?_
  refine lv_iload_n hx hb dX0_wealthWhenPaid_13 rfl (lv_at hl 2 rfl) ?_
  refine lv_isub hx hb dX0_wealthWhenPaid_14 ?_
  refine lv_istore_n (lv' := [(3, .int (((L i1.toNatClampNeg) + (C i1.toNatClampNeg)) - i2)), (0, .ref a0), (1, .int i1), (2, .int i2)]) hx hb dX0_wealthWhenPaid_15 rfl hl (by decide) rfl (fun ls hl => ?_)
  refine lv_iload_n hx hb dX0_wealthWhenPaid_16 rfl (lv_at hl 0 rfl) ?_
  refine lv_if_le (tgt := 24) hx hb dX0_wealthWhenPaid_17 (by decide) (fun c_17 => ?_) (fun c_17 => ?_)
  · skip
    refine lv_iconst (v := 0) hx hb dX0_wealthWhenPaid_24 (by decide) ?_
    have hE9 : p0_wealthWhenPaid L C i1 i2 = 0 := by unfold p0_wealthWhenPaid; rw [if_pos c_17]
    exact W.iret (v := 0) hx hb hr (fun t ht hW => ⟨⟨_, (), rfl, by rw [hE9], by show va_P (dC, dI) vwCl _ t.heap; rw [ht]; exact hP⟩, hS.F ht⟩) hS.2.2 dX0_wealthWhenPaid_25
  · skip
    refine lv_iload_n hx hb dX0_wealthWhenPaid_20 rfl (lv_at hl 0 rfl) ?_
    refine lv_goto (tgt := 25) hx hb dX0_wealthWhenPaid_21 (by decide) ?_
    have hE9 : p0_wealthWhenPaid L C i1 i2 = (((L i1.toNatClampNeg) + (C i1.toNatClampNeg)) - i2) := by unfold p0_wealthWhenPaid; rw [if_neg c_17]
    exact W.iret (v := (((L i1.toNatClampNeg) + (C i1.toNatClampNeg)) - i2)) hx hb hr (fun t ht hW => ⟨⟨_, (), rfl, by rw [hE9], by show va_P (dC, dI) vwCl _ t.heap; rw [ht]; exact hP⟩, hS.F ht⟩) hS.2.2 dX0_wealthWhenPaid_25

def p0_worthOf (K : Nat → Int32) (L : Nat → Int32) (C : Nat → Int32) (i1 : Int32) : Int32 :=
  (p0_worth (K i1.toNatClampNeg) (p0_wealth L C i1))
abbrev rmX0_worthOf : Room := { frames := 1, cells := 0, slots := 0, locals := 22 }
abbrev QX0_worthOf (dC : Nat → ClassId) (dI : Nat → Nat → Nat) (A : Nat → Prop) (cI : ClassId) (a0 : Nat) (ak : Nat) (al : Nat) (ac : Nat) (N : Int32) (K : Nat → Int32) (L : Nat → Int32) (C : Nat → Int32) (i1 : Int32) : Array Value → State → Outcome → State → Prop := va_Qi (fun (r : Int32) (_ : Unit) => r = p0_worthOf K L C i1) (fun (_ : Unit) (t : State) => va_P (dC, dI) vwCl ([(a0, .inr (0, [.ref ak, .ref al, .ref ac, .int N])), (ak, .inl (cI, 6, .inl K)), (al, .inl (cI, 6, .inl L)), (ac, .inl (cI, 6, .inl C))]) t.heap) A
set_option maxHeartbeats 4000000 in
set_option maxRecDepth 100000 in
theorem ctX0_worthOf (l : Launch) (dC : Nat → ClassId) (dI : Nat → Nat → Nat) (cI : ClassId) (a0 : Nat) (ak : Nat) (al : Nat) (ac : Nat) (sz : Nat) (N : Int32) (K : Nat → Int32) (L : Nat → Int32) (C : Nat → Int32) (i1 : Int32) (hi1 : vp_in i1 6) : Met l yX0_worthOf wsX0_worthOf rmX0_worthOf (va_Pc [.ref a0, .int i1] (cP dC dI [(cI, .int)] ([(a0, .inr (0, [.ref ak, .ref al, .ref ac, .int N])), (ak, .inl (cI, 6, .inl K)), (al, .inl (cI, 6, .inl L)), (ac, .inl (cI, 6, .inl C))]) sz)) (QX0_worthOf dC dI (va_A ([(a0, .inr (0, [.ref ak, .ref al, .ref ac, .int N])), (ak, .inl (cI, 6, .inl K)), (al, .inl (cI, 6, .inl L)), (ac, .inl (cI, 6, .inl C))]) sz) cI a0 ak al ac N K L C i1) 0 0 (va_A ([(a0, .inr (0, [.ref ak, .ref al, .ref ac, .int N])), (ak, .inl (cI, 6, .inl K)), (al, .inl (cI, 6, .inl L)), (ac, .inl (cI, 6, .inl C))]) sz) := by
  refine Met.ofW (cc := cX0_worthOf) (maxL := 2) (ret := (some .int)) (by decide) rfl ?_
  intro p e s m args below meth c s₁ B hml hv
  obtain ⟨rfl, hsz, hP, hK, hD0, hN⟩ := hv
  have hx := B.exec
  have hb := B.bytes
  have hr := B.returns
  have hts := atoms_spec (ws := wsX0_worthOf) B.pre
  have hown : s.vm.findClass RX0 = some m.cls := findClass_of_methodNamed B.named
  have hlocks := B.notSynchronized
  subst hsz
  have hD := hD0.self (sz := s.heap.size)
  generalize hAe : va_A ([(a0, .inr (0, [.ref ak, .ref al, .ref ac, .int N])), (ak, .inl (cI, 6, .inl K)), (al, .inl (cI, 6, .inl L)), (ac, .inl (cI, 6, .inl C))]) s.heap.size = A at hD ⊢
  have hA : ∀ q : Nat, s.heap.size ≤ q → A q := fun q h => by rw [← hAe]; exact Or.inr h
  have hS : va_S A s.heap s.heap [] := va_S.rf
  have hP : va_P (dC, dI) vwCl ([(a0, .inr (0, [.ref ak, .ref al, .ref ac, .int N])), (ak, .inl (cI, 6, .inl K)), (al, .inl (cI, 6, .inl L)), (ac, .inl (cI, 6, .inl C))]) s.heap := hP
  have hin0 : ∀ w ∈ wsX00, w ∈ wsX0_worthOf := by decide +kernel
  have kf_9 := hts (.fieldLink RX0 9 "RicherChange$City" "kind" "[I") (by decide +kernel)
  have hl := lv_entry ([.ref a0, .int i1]) (n := 2) (Nat.le_of_ble_eq_true rfl)
  rw [lg_entry_eq]
  generalize (lg_sl ([.ref a0, .int i1]) ++ List.replicate (2 - (lg_sl ([.ref a0, .int i1])).length) Slot.unset).toArray = ls at hl ⊢
  have hl : lv_has ls 2 [(0, .ref a0), (1, .int i1)] := hl
  refine lv_aload_n hx hb dX0_worthOf_0 rfl (lv_at hl 0 rfl) ?_
  refine va_get (D := (dC, dI)) (ci := 0) (v := .ref ak) (C := RX0) (T := TX0) (N := 4) hx hb hts hin0 hown hK hP 0 rfl rfl 0 (by decide) kf_9 (fun _ h9 => h9) rfl dX0_worthOf_1 ?_
  refine lv_iload_n hx hb dX0_worthOf_4 rfl (lv_at hl 1 rfl) ?_
  refine va_iald hx hb hK hP 1 0 rfl rfl (by assumption) dX0_worthOf_5 ?_
  refine lv_aload_n hx hb dX0_worthOf_6 rfl (lv_at hl 0 rfl) ?_
  refine lv_iload_n hx hb dX0_worthOf_7 rfl (lv_at hl 1 rfl) ?_
  have hPc := hP.sub (ws' := [(a0, .inr (0, [.ref ak, .ref al, .ref ac, .int N])), (ak, .inl (cI, 6, .inl K)), (al, .inl (cI, 6, .inl L)), (ac, .inl (cI, 6, .inl C))]) [0, 1, 2, 3] rfl
  have hDc := hD.sub (ws' := [(a0, .inr (0, [.ref ak, .ref al, .ref ac, .int N])), (ak, .inl (cI, 6, .inl K)), (al, .inl (cI, 6, .inl L)), (ac, .inl (cI, 6, .inl C))]) [0, 1, 2, 3] (by decide) rfl
  have hKc := hK.sub (tys' := [(cI, .int)]) [0] rfl
  have hFc := va_free (wc := [(a0, .inr (0, [.ref ak, .ref al, .ref ac, .int N])), (ak, .inl (cI, 6, .inl K)), (al, .inl (cI, 6, .inl L)), (ac, .inl (cI, 6, .inl C))]) hD hS hA [0, 1, 2, 3] rfl
  refine va_calli (va_runV (As := [.int i1]) (rest := [.int (K i1.toNatClampNeg)]) ⟨hx, hb, hml, hown, hts⟩ (ctX0_wealth l dC dI cI a0 ak al ac s.heap.size N K L C i1 (by assumption)) (cwV 1 hts gX0_worthOf_X0_wealth rfl rfl rfl (by decide +kernel) ⟨Nat.le_of_ble_eq_true rfl, Nat.le_of_ble_eq_true rfl⟩) (pre_V hKc hN hPc hDc (RX0, TX0, 4) 0 0 rfl rfl) rfl rfl hl.1 rfl (lv_room (Nat.le_of_ble_eq_true rfl)) dX0_worthOf_8 ⟨Nat.le_of_ble_eq_true rfl, Nat.le_of_ble_eq_true rfl⟩) hS (fun q _ h => hFc q h) hFc (fun r _ t H locs ht hvm hw hB hz1 hk1 hS => ?_)
  try dsimp only at hw
  subst hw
  rw [ht] at hB
  obtain ⟨hP, hD⟩ := rw_join ([(a0, .inr (0, [.ref ak, .ref al, .ref ac, .int N])), (ak, .inl (cI, 6, .inl K)), (al, .inl (cI, 6, .inl L)), (ac, .inl (cI, 6, .inl C))]) ([(a0, .inr (0, [.ref ak, .ref al, .ref ac, .int N])), (ak, .inl (cI, 6, .inl K)), (al, .inl (cI, 6, .inl L)), (ac, .inl (cI, 6, .inl C))]) ([(a0, .inr (0, [.ref ak, .ref al, .ref ac, .int N])), (ak, .inl (cI, 6, .inl K)), (al, .inl (cI, 6, .inl L)), (ac, .inl (cI, 6, .inl C))]) ([(a0, .inr (0, [.ref ak, .ref al, .ref ac, .int N])), (ak, .inl (cI, 6, .inl K)), (al, .inl (cI, 6, .inl L)), (ac, .inl (cI, 6, .inl C))]) ([]) hP hD [0, 1, 2, 3] [] [a0, ak, al, ac] 4 rfl rfl rfl rfl rfl (by decide) rfl rfl hk1 hB
  have hPc : va_P (dC, dI) vwCl [] H := hP.sub (ws' := []) [] rfl
  have hDc : va_D A [] := hD.sub (ws' := []) [] (by decide) rfl
  have hKc := hK.sub (tys' := [(cI, .int)]) [0] rfl
  have hFc := va_free (wc := []) hD hS hA [] rfl
  refine va_calli (va_runS (As := [.int (K i1.toNatClampNeg), .int (p0_wealth L C i1)]) (rest := []) ⟨hx, hb, hml, hown, hts⟩ (ctX0_worth l dC dI cI H.size (K i1.toNatClampNeg) (p0_wealth L C i1)) (va_cwS 2 hts gX0_worthOf_X0_worth rfl rfl rfl (by decide +kernel) ⟨Nat.le_of_ble_eq_true rfl, Nat.le_of_ble_eq_true rfl⟩) (pre_S hKc hN hPc hDc) rfl rfl hl.1 rfl (lv_room (Nat.le_of_ble_eq_true rfl)) dX0_worthOf_11 ⟨Nat.le_of_ble_eq_true rfl, Nat.le_of_ble_eq_true rfl⟩) hS (fun q _ h => hFc q h) hFc (fun r _ t H locs ht hvm hw hB hz1 hk1 hS => ?_)
  try dsimp only at hw
  subst hw
  rw [ht] at hB
  obtain ⟨hP, hD⟩ := rw_join ([(a0, .inr (0, [.ref ak, .ref al, .ref ac, .int N])), (ak, .inl (cI, 6, .inl K)), (al, .inl (cI, 6, .inl L)), (ac, .inl (cI, 6, .inl C))]) ([(a0, .inr (0, [.ref ak, .ref al, .ref ac, .int N])), (ak, .inl (cI, 6, .inl K)), (al, .inl (cI, 6, .inl L)), (ac, .inl (cI, 6, .inl C))]) ([]) ([]) ([(a0, .inr (0, [.ref ak, .ref al, .ref ac, .int N])), (ak, .inl (cI, 6, .inl K)), (al, .inl (cI, 6, .inl L)), (ac, .inl (cI, 6, .inl C))]) hP hD [] [0, 1, 2, 3] [a0, ak, al, ac] 4 rfl rfl rfl rfl rfl (by decide) rfl rfl hk1 hB
  have hE9 : p0_worthOf K L C i1 = (p0_worth (K i1.toNatClampNeg) (p0_wealth L C i1)) := rfl
  exact W.iret (v := (p0_worth (K i1.toNatClampNeg) (p0_wealth L C i1))) hx hb hr (fun t ht hW => ⟨⟨_, (), rfl, by rw [hE9], by show va_P (dC, dI) vwCl _ t.heap; rw [ht]; exact hP⟩, hS.F ht⟩) hS.2.2 dX0_worthOf_14

def p0_worthOfAll_l4 (N : Int32) (K : Nat → Int32) (L : Nat → Int32) (C : Nat → Int32) : Nat → Int32 → Int32 → Int32
  | 0, _, _ => 0
  | n + 1, v1, v2 =>
    if N ≤ v2 then
      v1
    else
      p0_worthOfAll_l4 N K L C n (v1 + (p0_worthOf K L C v2)) (v2 + 1)
theorem p0_worthOfAll_l4_s (N : Int32) (K : Nat → Int32) (L : Nat → Int32) (C : Nat → Int32) (n : Nat) (v1 : Int32) (v2 : Int32) : p0_worthOfAll_l4 N K L C (n + 1) v1 v2 =
    (if N ≤ v2 then
      v1
    else
      p0_worthOfAll_l4 N K L C n (v1 + (p0_worthOf K L C v2)) (v2 + 1)) := rfl
def p0_worthOfAll (N : Int32) (K : Nat → Int32) (L : Nat → Int32) (C : Nat → Int32) : Int32 :=
  p0_worthOfAll_l4 N K L C 7 0 0
abbrev rmX0_worthOfAll : Room := { frames := 2, cells := 0, slots := 0, locals := 43 }
abbrev QX0_worthOfAll (dC : Nat → ClassId) (dI : Nat → Nat → Nat) (A : Nat → Prop) (cI : ClassId) (a0 : Nat) (ak : Nat) (al : Nat) (ac : Nat) (N : Int32) (K : Nat → Int32) (L : Nat → Int32) (C : Nat → Int32) : Array Value → State → Outcome → State → Prop := va_Qi (fun (r : Int32) (_ : Unit) => r = p0_worthOfAll N K L C) (fun (_ : Unit) (t : State) => va_P (dC, dI) vwCl ([(a0, .inr (0, [.ref ak, .ref al, .ref ac, .int N])), (ak, .inl (cI, 6, .inl K)), (al, .inl (cI, 6, .inl L)), (ac, .inl (cI, 6, .inl C))]) t.heap) A
set_option maxHeartbeats 4000000 in
set_option maxRecDepth 100000 in
theorem ctX0_worthOfAll (l : Launch) (dC : Nat → ClassId) (dI : Nat → Nat → Nat) (cI : ClassId) (a0 : Nat) (ak : Nat) (al : Nat) (ac : Nat) (sz : Nat) (N : Int32) (K : Nat → Int32) (L : Nat → Int32) (C : Nat → Int32) (hNb : N.toInt ≤ 6) : Met l yX0_worthOfAll wsX0_worthOfAll rmX0_worthOfAll (va_Pc [.ref a0] (cP dC dI [(cI, .int)] ([(a0, .inr (0, [.ref ak, .ref al, .ref ac, .int N])), (ak, .inl (cI, 6, .inl K)), (al, .inl (cI, 6, .inl L)), (ac, .inl (cI, 6, .inl C))]) sz)) (QX0_worthOfAll dC dI (va_A ([(a0, .inr (0, [.ref ak, .ref al, .ref ac, .int N])), (ak, .inl (cI, 6, .inl K)), (al, .inl (cI, 6, .inl L)), (ac, .inl (cI, 6, .inl C))]) sz) cI a0 ak al ac N K L C ) 0 0 (va_A ([(a0, .inr (0, [.ref ak, .ref al, .ref ac, .int N])), (ak, .inl (cI, 6, .inl K)), (al, .inl (cI, 6, .inl L)), (ac, .inl (cI, 6, .inl C))]) sz) := by
  refine Met.ofW (cc := cX0_worthOfAll) (maxL := 3) (ret := (some .int)) (by decide) rfl ?_
  intro p e s m args below meth c s₁ B hml hv
  obtain ⟨rfl, hsz, hP, hK, hD0, hN⟩ := hv
  have hx := B.exec
  have hb := B.bytes
  have hr := B.returns
  have hts := atoms_spec (ws := wsX0_worthOfAll) B.pre
  have hown : s.vm.findClass RX0 = some m.cls := findClass_of_methodNamed B.named
  have hlocks := B.notSynchronized
  subst hsz
  have hD := hD0.self (sz := s.heap.size)
  generalize hAe : va_A ([(a0, .inr (0, [.ref ak, .ref al, .ref ac, .int N])), (ak, .inl (cI, 6, .inl K)), (al, .inl (cI, 6, .inl L)), (ac, .inl (cI, 6, .inl C))]) s.heap.size = A at hD ⊢
  have hA : ∀ q : Nat, s.heap.size ≤ q → A q := fun q h => by rw [← hAe]; exact Or.inr h
  have hS : va_S A s.heap s.heap [] := va_S.rf
  have hP : va_P (dC, dI) vwCl ([(a0, .inr (0, [.ref ak, .ref al, .ref ac, .int N])), (ak, .inl (cI, 6, .inl K)), (al, .inl (cI, 6, .inl L)), (ac, .inl (cI, 6, .inl C))]) s.heap := hP
  have hin0 : ∀ w ∈ wsX00, w ∈ wsX0_worthOfAll := by decide +kernel
  have kf_21 := hts (.fieldLink RX0 21 "RicherChange$City" "houses" "I") (by decide +kernel)
  have hl := lv_entry ([.ref a0]) (n := 3) (Nat.le_of_ble_eq_true rfl)
  rw [lg_entry_eq]
  generalize (lg_sl ([.ref a0]) ++ List.replicate (3 - (lg_sl ([.ref a0])).length) Slot.unset).toArray = ls at hl ⊢
  have hl : lv_has ls 3 [(0, .ref a0)] := hl
  have lp_4 : ∀ (n : Nat) (v1 : Int32) (v2 : Int32) (H : Heap) (locs : List Loc) (ls : Array Slot), (up v2 N n) → va_P (dC, dI) vwCl ([(a0, .inr (0, [.ref ak, .ref al, .ref ac, .int N])), (ak, .inl (cI, 6, .inl K)), (al, .inl (cI, 6, .inl L)), (ac, .inl (cI, 6, .inl C))]) H → va_D A ([(a0, .inr (0, [.ref ak, .ref al, .ref ac, .int N])), (ak, .inl (cI, 6, .inl K)), (al, .inl (cI, 6, .inl L)), (ac, .inl (cI, 6, .inl C))]) → va_S A s.heap H locs → lv_has ls 3 [(2, .int v2), (1, .int v1), (0, .ref a0)] → p0_worthOfAll N K L C = p0_worthOfAll_l4 N K L C n v1 v2 → W p l e (headSpec wsX0_worthOfAll rmX0_worthOfAll).room s m [.ref a0].toArray below meth c H locs 0 0 (MQ below (QX0_worthOfAll dC dI A cI a0 ak al ac N K L C ) [.ref a0].toArray s 0 0 A) (F0 m 4 ls []) := by
    intro n
    induction n with
    | zero => intro v1 v2 _ _ _ hu; exact absurd hu up_no
    | succ n ih =>
      intro v1 v2 H locs ls hu hP hD hS hl hE
      refine lv_iload_n hx hb dX0_worthOfAll_4 rfl (lv_at hl 0 rfl) ?_
      refine lv_aload_n hx hb dX0_worthOfAll_5 rfl (lv_at hl 2 rfl) ?_
      refine va_get (D := (dC, dI)) (ci := 0) (v := .int N) (C := RX0) (T := TX0) (N := 4) hx hb hts hin0 hown hK hP 0 rfl rfl 3 (by decide) kf_21 (fun _ h9 => h9) rfl dX0_worthOfAll_6 ?_
      refine lv_icmp_ge (tgt := 26) hx hb dX0_worthOfAll_9 (by decide) (fun c_9 => ?_) (fun c_9 => ?_)
      · skip
        refine lv_iload_n hx hb dX0_worthOfAll_26 rfl (lv_at hl 1 rfl) ?_
        have hE9 : p0_worthOfAll N K L C = v1 := hE.trans (by rw [p0_worthOfAll_l4_s, if_pos c_9])
        exact W.iret (v := v1) hx hb hr (fun t ht hW => ⟨⟨_, (), rfl, by rw [hE9], by show va_P (dC, dI) vwCl _ t.heap; rw [ht]; exact hP⟩, hS.F ht⟩) hS.2.2 dX0_worthOfAll_27
      · skip
        have j2 : vp_in v2 6 := up_in 6 hu c_9 hNb
        refine lv_iload_n hx hb dX0_worthOfAll_12 rfl (lv_at hl 1 rfl) ?_
        refine lv_aload_n hx hb dX0_worthOfAll_13 rfl (lv_at hl 2 rfl) ?_
        refine lv_iload_n hx hb dX0_worthOfAll_14 rfl (lv_at hl 0 rfl) ?_
        have hPc := hP.sub (ws' := [(a0, .inr (0, [.ref ak, .ref al, .ref ac, .int N])), (ak, .inl (cI, 6, .inl K)), (al, .inl (cI, 6, .inl L)), (ac, .inl (cI, 6, .inl C))]) [0, 1, 2, 3] rfl
        have hDc := hD.sub (ws' := [(a0, .inr (0, [.ref ak, .ref al, .ref ac, .int N])), (ak, .inl (cI, 6, .inl K)), (al, .inl (cI, 6, .inl L)), (ac, .inl (cI, 6, .inl C))]) [0, 1, 2, 3] (by decide) rfl
        have hKc := hK.sub (tys' := [(cI, .int)]) [0] rfl
        have hFc := va_free (wc := [(a0, .inr (0, [.ref ak, .ref al, .ref ac, .int N])), (ak, .inl (cI, 6, .inl K)), (al, .inl (cI, 6, .inl L)), (ac, .inl (cI, 6, .inl C))]) hD hS hA [0, 1, 2, 3] rfl
        refine va_calli (va_runV (As := [.int v2]) (rest := [.int v1]) ⟨hx, hb, hml, hown, hts⟩ (ctX0_worthOf l dC dI cI a0 ak al ac H.size N K L C v2 (by assumption)) (cwV 1 hts gX0_worthOfAll_X0_worthOf rfl rfl rfl (by decide +kernel) ⟨Nat.le_of_ble_eq_true rfl, Nat.le_of_ble_eq_true rfl⟩) (pre_V hKc hN hPc hDc (RX0, TX0, 4) 0 0 rfl rfl) rfl rfl hl.1 rfl (lv_room (Nat.le_of_ble_eq_true rfl)) dX0_worthOfAll_15 ⟨Nat.le_of_ble_eq_true rfl, Nat.le_of_ble_eq_true rfl⟩) hS (fun q _ h => hFc q h) hFc (fun r _ t H locs ht hvm hw hB hz1 hk1 hS => ?_)
        try dsimp only at hw
        subst hw
        rw [ht] at hB
        obtain ⟨hP, hD⟩ := rw_join ([(a0, .inr (0, [.ref ak, .ref al, .ref ac, .int N])), (ak, .inl (cI, 6, .inl K)), (al, .inl (cI, 6, .inl L)), (ac, .inl (cI, 6, .inl C))]) ([(a0, .inr (0, [.ref ak, .ref al, .ref ac, .int N])), (ak, .inl (cI, 6, .inl K)), (al, .inl (cI, 6, .inl L)), (ac, .inl (cI, 6, .inl C))]) ([(a0, .inr (0, [.ref ak, .ref al, .ref ac, .int N])), (ak, .inl (cI, 6, .inl K)), (al, .inl (cI, 6, .inl L)), (ac, .inl (cI, 6, .inl C))]) ([(a0, .inr (0, [.ref ak, .ref al, .ref ac, .int N])), (ak, .inl (cI, 6, .inl K)), (al, .inl (cI, 6, .inl L)), (ac, .inl (cI, 6, .inl C))]) ([]) hP hD [0, 1, 2, 3] [] [a0, ak, al, ac] 4 rfl rfl rfl rfl rfl (by decide) rfl rfl hk1 hB
        refine lv_iadd hx hb dX0_worthOfAll_18 ?_
        refine lv_istore_n (lv' := [(1, .int (v1 + (p0_worthOf K L C v2))), (2, .int v2), (0, .ref a0)]) hx hb dX0_worthOfAll_19 rfl hl (by decide) rfl (fun ls hl => ?_)
        refine lv_iinc (v := (v2 + 1)) (lv' := [(2, .int (v2 + 1)), (1, .int (v1 + (p0_worthOf K L C v2))), (0, .ref a0)]) hx hb dX0_worthOfAll_20 hl (k := 1) rfl rfl (by decide) rfl (fun ls hl => ?_)
        refine lv_goto (tgt := 4) hx hb dX0_worthOfAll_23 (by decide) ?_
        exact ih (v1 + (p0_worthOf K L C v2)) (v2 + 1) _ _ _ (up_s hu c_9) hP hD hS (lv_sub hl [0, 1, 2] rfl) (hE.trans (by rw [p0_worthOfAll_l4_s, if_neg c_9]))
  refine lv_iconst (v := 0) hx hb dX0_worthOfAll_0 (by decide) ?_
  refine lv_istore_n (lv' := [(1, .int 0), (0, .ref a0)]) hx hb dX0_worthOfAll_1 rfl hl (by decide) rfl (fun ls hl => ?_)
  refine lv_iconst (v := 0) hx hb dX0_worthOfAll_2 (by decide) ?_
  refine lv_istore_n (lv' := [(2, .int 0), (1, .int 0), (0, .ref a0)]) hx hb dX0_worthOfAll_3 rfl hl (by decide) rfl (fun ls hl => ?_)
  exact lp_4 7 0 0  _ _ _ (up_i 6 (by decide) hNb) hP hD hS (lv_sub hl [0, 1, 2] rfl) (rfl)

def p0_richest_l4 (N : Int32) (K : Nat → Int32) (L : Nat → Int32) (C : Nat → Int32) : Nat → Int32 → Int32 → Int32
  | 0, _, _ => 0
  | n + 1, v1, v2 =>
    if N ≤ v2 then
      v1
    else
      if (p0_worthOf K L C v2) ≤ (p0_worthOf K L C v1) then
        p0_richest_l4 N K L C n v1 (v2 + 1)
      else
        p0_richest_l4 N K L C n v2 (v2 + 1)
theorem p0_richest_l4_s (N : Int32) (K : Nat → Int32) (L : Nat → Int32) (C : Nat → Int32) (n : Nat) (v1 : Int32) (v2 : Int32) : p0_richest_l4 N K L C (n + 1) v1 v2 =
    (if N ≤ v2 then
      v1
    else
      if (p0_worthOf K L C v2) ≤ (p0_worthOf K L C v1) then
        p0_richest_l4 N K L C n v1 (v2 + 1)
      else
        p0_richest_l4 N K L C n v2 (v2 + 1)) := rfl
def p0_richest (N : Int32) (K : Nat → Int32) (L : Nat → Int32) (C : Nat → Int32) : Int32 :=
  p0_richest_l4 N K L C 7 0 1
abbrev rmX0_richest : Room := { frames := 2, cells := 0, slots := 0, locals := 43 }
abbrev QX0_richest (dC : Nat → ClassId) (dI : Nat → Nat → Nat) (A : Nat → Prop) (cI : ClassId) (a0 : Nat) (ak : Nat) (al : Nat) (ac : Nat) (N : Int32) (K : Nat → Int32) (L : Nat → Int32) (C : Nat → Int32) : Array Value → State → Outcome → State → Prop := va_Qi (fun (r : Int32) (_ : Unit) => r = p0_richest N K L C) (fun (_ : Unit) (t : State) => va_P (dC, dI) vwCl ([(a0, .inr (0, [.ref ak, .ref al, .ref ac, .int N])), (ak, .inl (cI, 6, .inl K)), (al, .inl (cI, 6, .inl L)), (ac, .inl (cI, 6, .inl C))]) t.heap) A
set_option maxHeartbeats 4000000 in
set_option maxRecDepth 100000 in
theorem ctX0_richest (l : Launch) (dC : Nat → ClassId) (dI : Nat → Nat → Nat) (cI : ClassId) (a0 : Nat) (ak : Nat) (al : Nat) (ac : Nat) (sz : Nat) (N : Int32) (K : Nat → Int32) (L : Nat → Int32) (C : Nat → Int32) (hNb : N.toInt ≤ 6) : Met l yX0_richest wsX0_richest rmX0_richest (va_Pc [.ref a0] (cP dC dI [(cI, .int)] ([(a0, .inr (0, [.ref ak, .ref al, .ref ac, .int N])), (ak, .inl (cI, 6, .inl K)), (al, .inl (cI, 6, .inl L)), (ac, .inl (cI, 6, .inl C))]) sz)) (QX0_richest dC dI (va_A ([(a0, .inr (0, [.ref ak, .ref al, .ref ac, .int N])), (ak, .inl (cI, 6, .inl K)), (al, .inl (cI, 6, .inl L)), (ac, .inl (cI, 6, .inl C))]) sz) cI a0 ak al ac N K L C ) 0 0 (va_A ([(a0, .inr (0, [.ref ak, .ref al, .ref ac, .int N])), (ak, .inl (cI, 6, .inl K)), (al, .inl (cI, 6, .inl L)), (ac, .inl (cI, 6, .inl C))]) sz) := by
  refine Met.ofW (cc := cX0_richest) (maxL := 3) (ret := (some .int)) (by decide) rfl ?_
  intro p e s m args below meth c s₁ B hml hv
  obtain ⟨rfl, hsz, hP, hK, hD0, hN⟩ := hv
  have hx := B.exec
  have hb := B.bytes
  have hr := B.returns
  have hts := atoms_spec (ws := wsX0_richest) B.pre
  have hown : s.vm.findClass RX0 = some m.cls := findClass_of_methodNamed B.named
  have hlocks := B.notSynchronized
  subst hsz
  have hD := hD0.self (sz := s.heap.size)
  generalize hAe : va_A ([(a0, .inr (0, [.ref ak, .ref al, .ref ac, .int N])), (ak, .inl (cI, 6, .inl K)), (al, .inl (cI, 6, .inl L)), (ac, .inl (cI, 6, .inl C))]) s.heap.size = A at hD ⊢
  have hA : ∀ q : Nat, s.heap.size ≤ q → A q := fun q h => by rw [← hAe]; exact Or.inr h
  have hS : va_S A s.heap s.heap [] := va_S.rf
  have hP : va_P (dC, dI) vwCl ([(a0, .inr (0, [.ref ak, .ref al, .ref ac, .int N])), (ak, .inl (cI, 6, .inl K)), (al, .inl (cI, 6, .inl L)), (ac, .inl (cI, 6, .inl C))]) s.heap := hP
  have hin0 : ∀ w ∈ wsX00, w ∈ wsX0_richest := by decide +kernel
  have kf_21 := hts (.fieldLink RX0 21 "RicherChange$City" "houses" "I") (by decide +kernel)
  have hl := lv_entry ([.ref a0]) (n := 3) (Nat.le_of_ble_eq_true rfl)
  rw [lg_entry_eq]
  generalize (lg_sl ([.ref a0]) ++ List.replicate (3 - (lg_sl ([.ref a0])).length) Slot.unset).toArray = ls at hl ⊢
  have hl : lv_has ls 3 [(0, .ref a0)] := hl
  have lp_4 : ∀ (n : Nat) (v1 : Int32) (v2 : Int32) (H : Heap) (locs : List Loc) (ls : Array Slot), (up v2 N n) → (vp_in v1 6) → va_P (dC, dI) vwCl ([(a0, .inr (0, [.ref ak, .ref al, .ref ac, .int N])), (ak, .inl (cI, 6, .inl K)), (al, .inl (cI, 6, .inl L)), (ac, .inl (cI, 6, .inl C))]) H → va_D A ([(a0, .inr (0, [.ref ak, .ref al, .ref ac, .int N])), (ak, .inl (cI, 6, .inl K)), (al, .inl (cI, 6, .inl L)), (ac, .inl (cI, 6, .inl C))]) → va_S A s.heap H locs → lv_has ls 3 [(2, .int v2), (1, .int v1), (0, .ref a0)] → p0_richest N K L C = p0_richest_l4 N K L C n v1 v2 → W p l e (headSpec wsX0_richest rmX0_richest).room s m [.ref a0].toArray below meth c H locs 0 0 (MQ below (QX0_richest dC dI A cI a0 ak al ac N K L C ) [.ref a0].toArray s 0 0 A) (F0 m 4 ls []) := by
    intro n
    induction n with
    | zero => intro v1 v2 _ _ _ hu hbe; exact absurd hu up_no
    | succ n ih =>
      intro v1 v2 H locs ls hu hbe hP hD hS hl hE
      refine lv_iload_n hx hb dX0_richest_4 rfl (lv_at hl 0 rfl) ?_
      refine lv_aload_n hx hb dX0_richest_5 rfl (lv_at hl 2 rfl) ?_
      refine va_get (D := (dC, dI)) (ci := 0) (v := .int N) (C := RX0) (T := TX0) (N := 4) hx hb hts hin0 hown hK hP 0 rfl rfl 3 (by decide) kf_21 (fun _ h9 => h9) rfl dX0_richest_6 ?_
      refine lv_icmp_ge (tgt := 33) hx hb dX0_richest_9 (by decide) (fun c_9 => ?_) (fun c_9 => ?_)
      · skip
        refine lv_iload_n hx hb dX0_richest_33 rfl (lv_at hl 1 rfl) ?_
        have hE9 : p0_richest N K L C = v1 := hE.trans (by rw [p0_richest_l4_s, if_pos c_9])
        exact W.iret (v := v1) hx hb hr (fun t ht hW => ⟨⟨_, (), rfl, by rw [hE9], by show va_P (dC, dI) vwCl _ t.heap; rw [ht]; exact hP⟩, hS.F ht⟩) hS.2.2 dX0_richest_34
      · skip
        have j2 : vp_in v2 6 := up_in 6 hu c_9 hNb
        refine lv_aload_n hx hb dX0_richest_12 rfl (lv_at hl 2 rfl) ?_
        refine lv_iload_n hx hb dX0_richest_13 rfl (lv_at hl 0 rfl) ?_
        have hPc := hP.sub (ws' := [(a0, .inr (0, [.ref ak, .ref al, .ref ac, .int N])), (ak, .inl (cI, 6, .inl K)), (al, .inl (cI, 6, .inl L)), (ac, .inl (cI, 6, .inl C))]) [0, 1, 2, 3] rfl
        have hDc := hD.sub (ws' := [(a0, .inr (0, [.ref ak, .ref al, .ref ac, .int N])), (ak, .inl (cI, 6, .inl K)), (al, .inl (cI, 6, .inl L)), (ac, .inl (cI, 6, .inl C))]) [0, 1, 2, 3] (by decide) rfl
        have hKc := hK.sub (tys' := [(cI, .int)]) [0] rfl
        have hFc := va_free (wc := [(a0, .inr (0, [.ref ak, .ref al, .ref ac, .int N])), (ak, .inl (cI, 6, .inl K)), (al, .inl (cI, 6, .inl L)), (ac, .inl (cI, 6, .inl C))]) hD hS hA [0, 1, 2, 3] rfl
        refine va_calli (va_runV (As := [.int v2]) (rest := []) ⟨hx, hb, hml, hown, hts⟩ (ctX0_worthOf l dC dI cI a0 ak al ac H.size N K L C v2 (by assumption)) (cwV 1 hts gX0_richest_X0_worthOf rfl rfl rfl (by decide +kernel) ⟨Nat.le_of_ble_eq_true rfl, Nat.le_of_ble_eq_true rfl⟩) (pre_V hKc hN hPc hDc (RX0, TX0, 4) 0 0 rfl rfl) rfl rfl hl.1 rfl (lv_room (Nat.le_of_ble_eq_true rfl)) dX0_richest_14 ⟨Nat.le_of_ble_eq_true rfl, Nat.le_of_ble_eq_true rfl⟩) hS (fun q _ h => hFc q h) hFc (fun r _ t H locs ht hvm hw hB hz1 hk1 hS => ?_)
        try dsimp only at hw
        subst hw
        rw [ht] at hB
        obtain ⟨hP, hD⟩ := rw_join ([(a0, .inr (0, [.ref ak, .ref al, .ref ac, .int N])), (ak, .inl (cI, 6, .inl K)), (al, .inl (cI, 6, .inl L)), (ac, .inl (cI, 6, .inl C))]) ([(a0, .inr (0, [.ref ak, .ref al, .ref ac, .int N])), (ak, .inl (cI, 6, .inl K)), (al, .inl (cI, 6, .inl L)), (ac, .inl (cI, 6, .inl C))]) ([(a0, .inr (0, [.ref ak, .ref al, .ref ac, .int N])), (ak, .inl (cI, 6, .inl K)), (al, .inl (cI, 6, .inl L)), (ac, .inl (cI, 6, .inl C))]) ([(a0, .inr (0, [.ref ak, .ref al, .ref ac, .int N])), (ak, .inl (cI, 6, .inl K)), (al, .inl (cI, 6, .inl L)), (ac, .inl (cI, 6, .inl C))]) ([]) hP hD [0, 1, 2, 3] [] [a0, ak, al, ac] 4 rfl rfl rfl rfl rfl (by decide) rfl rfl hk1 hB
        refine lv_aload_n hx hb dX0_richest_17 rfl (lv_at hl 2 rfl) ?_
        refine lv_iload_n hx hb dX0_richest_18 rfl (lv_at hl 1 rfl) ?_
        have hPc := hP.sub (ws' := [(a0, .inr (0, [.ref ak, .ref al, .ref ac, .int N])), (ak, .inl (cI, 6, .inl K)), (al, .inl (cI, 6, .inl L)), (ac, .inl (cI, 6, .inl C))]) [0, 1, 2, 3] rfl
        have hDc := hD.sub (ws' := [(a0, .inr (0, [.ref ak, .ref al, .ref ac, .int N])), (ak, .inl (cI, 6, .inl K)), (al, .inl (cI, 6, .inl L)), (ac, .inl (cI, 6, .inl C))]) [0, 1, 2, 3] (by decide) rfl
        have hKc := hK.sub (tys' := [(cI, .int)]) [0] rfl
        have hFc := va_free (wc := [(a0, .inr (0, [.ref ak, .ref al, .ref ac, .int N])), (ak, .inl (cI, 6, .inl K)), (al, .inl (cI, 6, .inl L)), (ac, .inl (cI, 6, .inl C))]) hD hS hA [0, 1, 2, 3] rfl
        refine va_calli (va_runV (As := [.int v1]) (rest := [.int (p0_worthOf K L C v2)]) ⟨hx, hb, hml, hown, hts⟩ (ctX0_worthOf l dC dI cI a0 ak al ac H.size N K L C v1 (by assumption)) (cwV 1 hts gX0_richest_X0_worthOf rfl rfl rfl (by decide +kernel) ⟨Nat.le_of_ble_eq_true rfl, Nat.le_of_ble_eq_true rfl⟩) (pre_V hKc hN hPc hDc (RX0, TX0, 4) 0 0 rfl rfl) rfl rfl hl.1 rfl (lv_room (Nat.le_of_ble_eq_true rfl)) dX0_richest_19 ⟨Nat.le_of_ble_eq_true rfl, Nat.le_of_ble_eq_true rfl⟩) hS (fun q _ h => hFc q h) hFc (fun r _ t H locs ht hvm hw hB hz1 hk1 hS => ?_)
        try dsimp only at hw
        subst hw
        rw [ht] at hB
        obtain ⟨hP, hD⟩ := rw_join ([(a0, .inr (0, [.ref ak, .ref al, .ref ac, .int N])), (ak, .inl (cI, 6, .inl K)), (al, .inl (cI, 6, .inl L)), (ac, .inl (cI, 6, .inl C))]) ([(a0, .inr (0, [.ref ak, .ref al, .ref ac, .int N])), (ak, .inl (cI, 6, .inl K)), (al, .inl (cI, 6, .inl L)), (ac, .inl (cI, 6, .inl C))]) ([(a0, .inr (0, [.ref ak, .ref al, .ref ac, .int N])), (ak, .inl (cI, 6, .inl K)), (al, .inl (cI, 6, .inl L)), (ac, .inl (cI, 6, .inl C))]) ([(a0, .inr (0, [.ref ak, .ref al, .ref ac, .int N])), (ak, .inl (cI, 6, .inl K)), (al, .inl (cI, 6, .inl L)), (ac, .inl (cI, 6, .inl C))]) ([]) hP hD [0, 1, 2, 3] [] [a0, ak, al, ac] 4 rfl rfl rfl rfl rfl (by decide) rfl rfl hk1 hB
        refine lv_icmp_le (tgt := 27) hx hb dX0_richest_22 (by decide) (fun c_22 => ?_) (fun c_22 => ?_)
        · skip
          refine lv_iinc (v := (v2 + 1)) (lv' := [(2, .int (v2 + 1)), (1, .int v1), (0, .ref a0)]) hx hb dX0_richest_27 hl (k := 0) rfl rfl (by decide) rfl (fun ls hl => ?_)
          refine lv_goto (tgt := 4) hx hb dX0_richest_30 (by decide) ?_
          exact ih v1 (v2 + 1) _ _ _ (up_s hu c_9) (by assumption) hP hD hS (lv_sub hl [0, 1, 2] rfl) (hE.trans (by rw [p0_richest_l4_s, if_neg c_9, if_pos c_22]))
        · skip
          refine lv_iload_n hx hb dX0_richest_25 rfl (lv_at hl 0 rfl) ?_
          refine lv_istore_n (lv' := [(1, .int v2), (2, .int v2), (0, .ref a0)]) hx hb dX0_richest_26 rfl hl (by decide) rfl (fun ls hl => ?_)
          refine lv_iinc (v := (v2 + 1)) (lv' := [(2, .int (v2 + 1)), (1, .int v2), (0, .ref a0)]) hx hb dX0_richest_27 hl (k := 1) rfl rfl (by decide) rfl (fun ls hl => ?_)
          refine lv_goto (tgt := 4) hx hb dX0_richest_30 (by decide) ?_
          exact ih v2 (v2 + 1) _ _ _ (up_s hu c_9) (by assumption) hP hD hS (lv_sub hl [0, 1, 2] rfl) (hE.trans (by rw [p0_richest_l4_s, if_neg c_9, if_neg c_22]))
  refine lv_iconst (v := 0) hx hb dX0_richest_0 (by decide) ?_
  refine lv_istore_n (lv' := [(1, .int 0), (0, .ref a0)]) hx hb dX0_richest_1 rfl hl (by decide) rfl (fun ls hl => ?_)
  refine lv_iconst (v := 1) hx hb dX0_richest_2 (by decide) ?_
  refine lv_istore_n (lv' := [(2, .int 1), (1, .int 0), (0, .ref a0)]) hx hb dX0_richest_3 rfl hl (by decide) rfl (fun ls hl => ?_)
  exact lp_4 7 0 1  _ _ _ (up_i 6 (by decide) hNb) (vi_c (by decide)) hP hD hS (lv_sub hl [0, 1, 2] rfl) (rfl)

def p0_mayPoint (L : Nat → Int32) (i1 : Int32) (i2 : Int32) : Int32 :=
  if (L i2.toNatClampNeg) ≤ (L i1.toNatClampNeg) then
    0
  else
    1
abbrev rmX0_mayPoint : Room := { frames := 0, cells := 0, slots := 0, locals := 0 }
abbrev QX0_mayPoint (dC : Nat → ClassId) (dI : Nat → Nat → Nat) (A : Nat → Prop) (cI : ClassId) (a0 : Nat) (ak : Nat) (al : Nat) (ac : Nat) (N : Int32) (K : Nat → Int32) (L : Nat → Int32) (C : Nat → Int32) (i1 : Int32) (i2 : Int32) : Array Value → State → Outcome → State → Prop := va_Qi (fun (r : Int32) (_ : Unit) => r = p0_mayPoint L i1 i2) (fun (_ : Unit) (t : State) => va_P (dC, dI) vwCl ([(a0, .inr (0, [.ref ak, .ref al, .ref ac, .int N])), (ak, .inl (cI, 6, .inl K)), (al, .inl (cI, 6, .inl L)), (ac, .inl (cI, 6, .inl C))]) t.heap) A
set_option maxHeartbeats 4000000 in
set_option maxRecDepth 100000 in
theorem ctX0_mayPoint (l : Launch) (dC : Nat → ClassId) (dI : Nat → Nat → Nat) (cI : ClassId) (a0 : Nat) (ak : Nat) (al : Nat) (ac : Nat) (sz : Nat) (N : Int32) (K : Nat → Int32) (L : Nat → Int32) (C : Nat → Int32) (i1 : Int32) (i2 : Int32) (hi1 : vp_in i1 6) (hi2 : vp_in i2 6) : Met l yX0_mayPoint wsX0_mayPoint rmX0_mayPoint (va_Pc [.ref a0, .int i1, .int i2] (cP dC dI [(cI, .int)] ([(a0, .inr (0, [.ref ak, .ref al, .ref ac, .int N])), (ak, .inl (cI, 6, .inl K)), (al, .inl (cI, 6, .inl L)), (ac, .inl (cI, 6, .inl C))]) sz)) (QX0_mayPoint dC dI (va_A ([(a0, .inr (0, [.ref ak, .ref al, .ref ac, .int N])), (ak, .inl (cI, 6, .inl K)), (al, .inl (cI, 6, .inl L)), (ac, .inl (cI, 6, .inl C))]) sz) cI a0 ak al ac N K L C i1 i2) 0 0 (va_A ([(a0, .inr (0, [.ref ak, .ref al, .ref ac, .int N])), (ak, .inl (cI, 6, .inl K)), (al, .inl (cI, 6, .inl L)), (ac, .inl (cI, 6, .inl C))]) sz) := by
  refine Met.ofW (cc := cX0_mayPoint) (maxL := 3) (ret := (some .boolean)) (by decide) rfl ?_
  intro p e s m args below meth c s₁ B hml hv
  obtain ⟨rfl, hsz, hP, hK, hD0, hN⟩ := hv
  have hx := B.exec
  have hb := B.bytes
  have hr := B.returns
  have hts := atoms_spec (ws := wsX0_mayPoint) B.pre
  have hown : s.vm.findClass RX0 = some m.cls := findClass_of_methodNamed B.named
  have hlocks := B.notSynchronized
  subst hsz
  have hD := hD0.self (sz := s.heap.size)
  generalize hAe : va_A ([(a0, .inr (0, [.ref ak, .ref al, .ref ac, .int N])), (ak, .inl (cI, 6, .inl K)), (al, .inl (cI, 6, .inl L)), (ac, .inl (cI, 6, .inl C))]) s.heap.size = A at hD ⊢
  have hA : ∀ q : Nat, s.heap.size ≤ q → A q := fun q h => by rw [← hAe]; exact Or.inr h
  have hS : va_S A s.heap s.heap [] := va_S.rf
  have hP : va_P (dC, dI) vwCl ([(a0, .inr (0, [.ref ak, .ref al, .ref ac, .int N])), (ak, .inl (cI, 6, .inl K)), (al, .inl (cI, 6, .inl L)), (ac, .inl (cI, 6, .inl C))]) s.heap := hP
  have hin0 : ∀ w ∈ wsX00, w ∈ wsX0_mayPoint := by decide +kernel
  have kf_15 := hts (.fieldLink RX0 15 "RicherChange$City" "land" "[I") (by decide +kernel)
  have hl := lv_entry ([.ref a0, .int i1, .int i2]) (n := 3) (Nat.le_of_ble_eq_true rfl)
  rw [lg_entry_eq]
  generalize (lg_sl ([.ref a0, .int i1, .int i2]) ++ List.replicate (3 - (lg_sl ([.ref a0, .int i1, .int i2])).length) Slot.unset).toArray = ls at hl ⊢
  have hl : lv_has ls 3 [(0, .ref a0), (1, .int i1), (2, .int i2)] := hl
  refine lv_aload_n hx hb dX0_mayPoint_0 rfl (lv_at hl 0 rfl) ?_
  refine va_get (D := (dC, dI)) (ci := 0) (v := .ref al) (C := RX0) (T := TX0) (N := 4) hx hb hts hin0 hown hK hP 0 rfl rfl 1 (by decide) kf_15 (fun _ h9 => h9) rfl dX0_mayPoint_1 ?_
  refine lv_iload_n hx hb dX0_mayPoint_4 rfl (lv_at hl 2 rfl) ?_
  refine va_iald hx hb hK hP 2 0 rfl rfl (by assumption) dX0_mayPoint_5 ?_
  refine lv_aload_n hx hb dX0_mayPoint_6 rfl (lv_at hl 0 rfl) ?_
  refine va_get (D := (dC, dI)) (ci := 0) (v := .ref al) (C := RX0) (T := TX0) (N := 4) hx hb hts hin0 hown hK hP 0 rfl rfl 1 (by decide) kf_15 (fun _ h9 => h9) rfl dX0_mayPoint_7 ?_
  refine lv_iload_n hx hb dX0_mayPoint_10 rfl (lv_at hl 1 rfl) ?_
  refine va_iald hx hb hK hP 2 0 rfl rfl (by assumption) dX0_mayPoint_11 ?_
  refine lv_icmp_le (tgt := 19) hx hb dX0_mayPoint_12 (by decide) (fun c_12 => ?_) (fun c_12 => ?_)
  · skip
    refine lv_iconst (v := 0) hx hb dX0_mayPoint_19 (by decide) ?_
    have hE9 : p0_mayPoint L i1 i2 = 0 := by unfold p0_mayPoint; rw [if_pos c_12]
    exact W.zret (v := 0) hx hb hr (by decide +kernel) (fun t ht hW => ⟨⟨_, (), rfl, by rw [hE9], by show va_P (dC, dI) vwCl _ t.heap; rw [ht]; exact hP⟩, hS.F ht⟩) hS.2.2 dX0_mayPoint_20
  · skip
    refine lv_iconst (v := 1) hx hb dX0_mayPoint_15 (by decide) ?_
    refine lv_goto (tgt := 20) hx hb dX0_mayPoint_16 (by decide) ?_
    have hE9 : p0_mayPoint L i1 i2 = 1 := by unfold p0_mayPoint; rw [if_neg c_12]
    exact W.zret (v := 1) hx hb hr (by decide +kernel) (fun t ht hW => ⟨⟨_, (), rfl, by rw [hE9], by show va_P (dC, dI) vwCl _ t.heap; rw [ht]; exact hP⟩, hS.F ht⟩) hS.2.2 dX0_mayPoint_20

def p0_changes (K : Nat → Int32) (L : Nat → Int32) (C : Nat → Int32) (i1 : Int32) (i2 : Int32) (i3 : Int32) : Int32 :=
  if i1 = i2 then
    0
  else
    if (p0_worth (K i2.toNatClampNeg) (p0_wealth L C i1)) ≤ (p0_worth (K i2.toNatClampNeg) (p0_wealthWhenPaid L C i2 i3)) then
      0
    else
      1
abbrev rmX0_changes : Room := { frames := 1, cells := 0, slots := 0, locals := 23 }
abbrev QX0_changes (dC : Nat → ClassId) (dI : Nat → Nat → Nat) (A : Nat → Prop) (cI : ClassId) (a0 : Nat) (ak : Nat) (al : Nat) (ac : Nat) (N : Int32) (K : Nat → Int32) (L : Nat → Int32) (C : Nat → Int32) (i1 : Int32) (i2 : Int32) (i3 : Int32) : Array Value → State → Outcome → State → Prop := va_Qi (fun (r : Int32) (_ : Unit) => r = p0_changes K L C i1 i2 i3) (fun (_ : Unit) (t : State) => va_P (dC, dI) vwCl ([(a0, .inr (0, [.ref ak, .ref al, .ref ac, .int N])), (ak, .inl (cI, 6, .inl K)), (al, .inl (cI, 6, .inl L)), (ac, .inl (cI, 6, .inl C))]) t.heap) A
set_option maxHeartbeats 4000000 in
set_option maxRecDepth 100000 in
theorem ctX0_changes (l : Launch) (dC : Nat → ClassId) (dI : Nat → Nat → Nat) (cI : ClassId) (a0 : Nat) (ak : Nat) (al : Nat) (ac : Nat) (sz : Nat) (N : Int32) (K : Nat → Int32) (L : Nat → Int32) (C : Nat → Int32) (i1 : Int32) (i2 : Int32) (i3 : Int32) (hi1 : vp_in i1 6) (hi2 : vp_in i2 6) : Met l yX0_changes wsX0_changes rmX0_changes (va_Pc [.ref a0, .int i1, .int i2, .int i3] (cP dC dI [(cI, .int)] ([(a0, .inr (0, [.ref ak, .ref al, .ref ac, .int N])), (ak, .inl (cI, 6, .inl K)), (al, .inl (cI, 6, .inl L)), (ac, .inl (cI, 6, .inl C))]) sz)) (QX0_changes dC dI (va_A ([(a0, .inr (0, [.ref ak, .ref al, .ref ac, .int N])), (ak, .inl (cI, 6, .inl K)), (al, .inl (cI, 6, .inl L)), (ac, .inl (cI, 6, .inl C))]) sz) cI a0 ak al ac N K L C i1 i2 i3) 0 0 (va_A ([(a0, .inr (0, [.ref ak, .ref al, .ref ac, .int N])), (ak, .inl (cI, 6, .inl K)), (al, .inl (cI, 6, .inl L)), (ac, .inl (cI, 6, .inl C))]) sz) := by
  refine Met.ofW (cc := cX0_changes) (maxL := 4) (ret := (some .boolean)) (by decide) rfl ?_
  intro p e s m args below meth c s₁ B hml hv
  obtain ⟨rfl, hsz, hP, hK, hD0, hN⟩ := hv
  have hx := B.exec
  have hb := B.bytes
  have hr := B.returns
  have hts := atoms_spec (ws := wsX0_changes) B.pre
  have hown : s.vm.findClass RX0 = some m.cls := findClass_of_methodNamed B.named
  have hlocks := B.notSynchronized
  subst hsz
  have hD := hD0.self (sz := s.heap.size)
  generalize hAe : va_A ([(a0, .inr (0, [.ref ak, .ref al, .ref ac, .int N])), (ak, .inl (cI, 6, .inl K)), (al, .inl (cI, 6, .inl L)), (ac, .inl (cI, 6, .inl C))]) s.heap.size = A at hD ⊢
  have hA : ∀ q : Nat, s.heap.size ≤ q → A q := fun q h => by rw [← hAe]; exact Or.inr h
  have hS : va_S A s.heap s.heap [] := va_S.rf
  have hP : va_P (dC, dI) vwCl ([(a0, .inr (0, [.ref ak, .ref al, .ref ac, .int N])), (ak, .inl (cI, 6, .inl K)), (al, .inl (cI, 6, .inl L)), (ac, .inl (cI, 6, .inl C))]) s.heap := hP
  have hin0 : ∀ w ∈ wsX00, w ∈ wsX0_changes := by decide +kernel
  have kf_9 := hts (.fieldLink RX0 9 "RicherChange$City" "kind" "[I") (by decide +kernel)
  have hl := lv_entry ([.ref a0, .int i1, .int i2, .int i3]) (n := 4) (Nat.le_of_ble_eq_true rfl)
  rw [lg_entry_eq]
  generalize (lg_sl ([.ref a0, .int i1, .int i2, .int i3]) ++ List.replicate (4 - (lg_sl ([.ref a0, .int i1, .int i2, .int i3])).length) Slot.unset).toArray = ls at hl ⊢
  have hl : lv_has ls 4 [(0, .ref a0), (1, .int i1), (2, .int i2), (3, .int i3)] := hl
  refine lv_iload_n hx hb dX0_changes_0 rfl (lv_at hl 1 rfl) ?_
  refine lv_iload_n hx hb dX0_changes_1 rfl (lv_at hl 2 rfl) ?_
  refine lv_icmp_eq (tgt := 41) hx hb dX0_changes_2 (by decide) (fun c_2 => ?_) (fun c_2 => ?_)
  · skip
    refine lv_iconst (v := 0) hx hb dX0_changes_41 (by decide) ?_
    have hE9 : p0_changes K L C i1 i2 i3 = 0 := by unfold p0_changes; rw [if_pos c_2]
    exact W.zret (v := 0) hx hb hr (by decide +kernel) (fun t ht hW => ⟨⟨_, (), rfl, by rw [hE9], by show va_P (dC, dI) vwCl _ t.heap; rw [ht]; exact hP⟩, hS.F ht⟩) hS.2.2 dX0_changes_42
  · skip
    refine lv_aload_n hx hb dX0_changes_5 rfl (lv_at hl 0 rfl) ?_
    refine va_get (D := (dC, dI)) (ci := 0) (v := .ref ak) (C := RX0) (T := TX0) (N := 4) hx hb hts hin0 hown hK hP 0 rfl rfl 0 (by decide) kf_9 (fun _ h9 => h9) rfl dX0_changes_6 ?_
    refine lv_iload_n hx hb dX0_changes_9 rfl (lv_at hl 2 rfl) ?_
    refine va_iald hx hb hK hP 1 0 rfl rfl (by assumption) dX0_changes_10 ?_
    refine lv_aload_n hx hb dX0_changes_11 rfl (lv_at hl 0 rfl) ?_
    refine lv_iload_n hx hb dX0_changes_12 rfl (lv_at hl 1 rfl) ?_
    have hPc := hP.sub (ws' := [(a0, .inr (0, [.ref ak, .ref al, .ref ac, .int N])), (ak, .inl (cI, 6, .inl K)), (al, .inl (cI, 6, .inl L)), (ac, .inl (cI, 6, .inl C))]) [0, 1, 2, 3] rfl
    have hDc := hD.sub (ws' := [(a0, .inr (0, [.ref ak, .ref al, .ref ac, .int N])), (ak, .inl (cI, 6, .inl K)), (al, .inl (cI, 6, .inl L)), (ac, .inl (cI, 6, .inl C))]) [0, 1, 2, 3] (by decide) rfl
    have hKc := hK.sub (tys' := [(cI, .int)]) [0] rfl
    have hFc := va_free (wc := [(a0, .inr (0, [.ref ak, .ref al, .ref ac, .int N])), (ak, .inl (cI, 6, .inl K)), (al, .inl (cI, 6, .inl L)), (ac, .inl (cI, 6, .inl C))]) hD hS hA [0, 1, 2, 3] rfl
    refine va_calli (va_runV (As := [.int i1]) (rest := [.int (K i2.toNatClampNeg)]) ⟨hx, hb, hml, hown, hts⟩ (ctX0_wealth l dC dI cI a0 ak al ac s.heap.size N K L C i1 (by assumption)) (cwV 1 hts gX0_changes_X0_wealth rfl rfl rfl (by decide +kernel) ⟨Nat.le_of_ble_eq_true rfl, Nat.le_of_ble_eq_true rfl⟩) (pre_V hKc hN hPc hDc (RX0, TX0, 4) 0 0 rfl rfl) rfl rfl hl.1 rfl (lv_room (Nat.le_of_ble_eq_true rfl)) dX0_changes_13 ⟨Nat.le_of_ble_eq_true rfl, Nat.le_of_ble_eq_true rfl⟩) hS (fun q _ h => hFc q h) hFc (fun r _ t H locs ht hvm hw hB hz1 hk1 hS => ?_)
    try dsimp only at hw
    subst hw
    rw [ht] at hB
    obtain ⟨hP, hD⟩ := rw_join ([(a0, .inr (0, [.ref ak, .ref al, .ref ac, .int N])), (ak, .inl (cI, 6, .inl K)), (al, .inl (cI, 6, .inl L)), (ac, .inl (cI, 6, .inl C))]) ([(a0, .inr (0, [.ref ak, .ref al, .ref ac, .int N])), (ak, .inl (cI, 6, .inl K)), (al, .inl (cI, 6, .inl L)), (ac, .inl (cI, 6, .inl C))]) ([(a0, .inr (0, [.ref ak, .ref al, .ref ac, .int N])), (ak, .inl (cI, 6, .inl K)), (al, .inl (cI, 6, .inl L)), (ac, .inl (cI, 6, .inl C))]) ([(a0, .inr (0, [.ref ak, .ref al, .ref ac, .int N])), (ak, .inl (cI, 6, .inl K)), (al, .inl (cI, 6, .inl L)), (ac, .inl (cI, 6, .inl C))]) ([]) hP hD [0, 1, 2, 3] [] [a0, ak, al, ac] 4 rfl rfl rfl rfl rfl (by decide) rfl rfl hk1 hB
    have hPc : va_P (dC, dI) vwCl [] H := hP.sub (ws' := []) [] rfl
    have hDc : va_D A [] := hD.sub (ws' := []) [] (by decide) rfl
    have hKc := hK.sub (tys' := [(cI, .int)]) [0] rfl
    have hFc := va_free (wc := []) hD hS hA [] rfl
    refine va_calli (va_runS (As := [.int (K i2.toNatClampNeg), .int (p0_wealth L C i1)]) (rest := []) ⟨hx, hb, hml, hown, hts⟩ (ctX0_worth l dC dI cI H.size (K i2.toNatClampNeg) (p0_wealth L C i1)) (va_cwS 2 hts gX0_changes_X0_worth rfl rfl rfl (by decide +kernel) ⟨Nat.le_of_ble_eq_true rfl, Nat.le_of_ble_eq_true rfl⟩) (pre_S hKc hN hPc hDc) rfl rfl hl.1 rfl (lv_room (Nat.le_of_ble_eq_true rfl)) dX0_changes_16 ⟨Nat.le_of_ble_eq_true rfl, Nat.le_of_ble_eq_true rfl⟩) hS (fun q _ h => hFc q h) hFc (fun r _ t H locs ht hvm hw hB hz1 hk1 hS => ?_)
    try dsimp only at hw
    subst hw
    rw [ht] at hB
    obtain ⟨hP, hD⟩ := rw_join ([(a0, .inr (0, [.ref ak, .ref al, .ref ac, .int N])), (ak, .inl (cI, 6, .inl K)), (al, .inl (cI, 6, .inl L)), (ac, .inl (cI, 6, .inl C))]) ([(a0, .inr (0, [.ref ak, .ref al, .ref ac, .int N])), (ak, .inl (cI, 6, .inl K)), (al, .inl (cI, 6, .inl L)), (ac, .inl (cI, 6, .inl C))]) ([]) ([]) ([(a0, .inr (0, [.ref ak, .ref al, .ref ac, .int N])), (ak, .inl (cI, 6, .inl K)), (al, .inl (cI, 6, .inl L)), (ac, .inl (cI, 6, .inl C))]) hP hD [] [0, 1, 2, 3] [a0, ak, al, ac] 4 rfl rfl rfl rfl rfl (by decide) rfl rfl hk1 hB
    refine lv_aload_n hx hb dX0_changes_19 rfl (lv_at hl 0 rfl) ?_
    refine va_get (D := (dC, dI)) (ci := 0) (v := .ref ak) (C := RX0) (T := TX0) (N := 4) hx hb hts hin0 hown hK hP 0 rfl rfl 0 (by decide) kf_9 (fun _ h9 => h9) rfl dX0_changes_20 ?_
    refine lv_iload_n hx hb dX0_changes_23 rfl (lv_at hl 2 rfl) ?_
    refine va_iald hx hb hK hP 1 0 rfl rfl (by assumption) dX0_changes_24 ?_
    refine lv_aload_n hx hb dX0_changes_25 rfl (lv_at hl 0 rfl) ?_
    refine lv_iload_n hx hb dX0_changes_26 rfl (lv_at hl 2 rfl) ?_
    refine lv_iload_n hx hb dX0_changes_27 rfl (lv_at hl 3 rfl) ?_
    have hPc := hP.sub (ws' := [(a0, .inr (0, [.ref ak, .ref al, .ref ac, .int N])), (ak, .inl (cI, 6, .inl K)), (al, .inl (cI, 6, .inl L)), (ac, .inl (cI, 6, .inl C))]) [0, 1, 2, 3] rfl
    have hDc := hD.sub (ws' := [(a0, .inr (0, [.ref ak, .ref al, .ref ac, .int N])), (ak, .inl (cI, 6, .inl K)), (al, .inl (cI, 6, .inl L)), (ac, .inl (cI, 6, .inl C))]) [0, 1, 2, 3] (by decide) rfl
    have hKc := hK.sub (tys' := [(cI, .int)]) [0] rfl
    have hFc := va_free (wc := [(a0, .inr (0, [.ref ak, .ref al, .ref ac, .int N])), (ak, .inl (cI, 6, .inl K)), (al, .inl (cI, 6, .inl L)), (ac, .inl (cI, 6, .inl C))]) hD hS hA [0, 1, 2, 3] rfl
    refine va_calli (va_runV (As := [.int i2, .int i3]) (rest := [.int (K i2.toNatClampNeg), .int (p0_worth (K i2.toNatClampNeg) (p0_wealth L C i1))]) ⟨hx, hb, hml, hown, hts⟩ (ctX0_wealthWhenPaid l dC dI cI a0 ak al ac H.size N K L C i2 i3 (by assumption)) (cwV 2 hts gX0_changes_X0_wealthWhenPaid rfl rfl rfl (by decide +kernel) ⟨Nat.le_of_ble_eq_true rfl, Nat.le_of_ble_eq_true rfl⟩) (pre_V hKc hN hPc hDc (RX0, TX0, 4) 0 0 rfl rfl) rfl rfl hl.1 rfl (lv_room (Nat.le_of_ble_eq_true rfl)) dX0_changes_28 ⟨Nat.le_of_ble_eq_true rfl, Nat.le_of_ble_eq_true rfl⟩) hS (fun q _ h => hFc q h) hFc (fun r _ t H locs ht hvm hw hB hz1 hk1 hS => ?_)
    try dsimp only at hw
    subst hw
    rw [ht] at hB
    obtain ⟨hP, hD⟩ := rw_join ([(a0, .inr (0, [.ref ak, .ref al, .ref ac, .int N])), (ak, .inl (cI, 6, .inl K)), (al, .inl (cI, 6, .inl L)), (ac, .inl (cI, 6, .inl C))]) ([(a0, .inr (0, [.ref ak, .ref al, .ref ac, .int N])), (ak, .inl (cI, 6, .inl K)), (al, .inl (cI, 6, .inl L)), (ac, .inl (cI, 6, .inl C))]) ([(a0, .inr (0, [.ref ak, .ref al, .ref ac, .int N])), (ak, .inl (cI, 6, .inl K)), (al, .inl (cI, 6, .inl L)), (ac, .inl (cI, 6, .inl C))]) ([(a0, .inr (0, [.ref ak, .ref al, .ref ac, .int N])), (ak, .inl (cI, 6, .inl K)), (al, .inl (cI, 6, .inl L)), (ac, .inl (cI, 6, .inl C))]) ([]) hP hD [0, 1, 2, 3] [] [a0, ak, al, ac] 4 rfl rfl rfl rfl rfl (by decide) rfl rfl hk1 hB
    have hPc : va_P (dC, dI) vwCl [] H := hP.sub (ws' := []) [] rfl
    have hDc : va_D A [] := hD.sub (ws' := []) [] (by decide) rfl
    have hKc := hK.sub (tys' := [(cI, .int)]) [0] rfl
    have hFc := va_free (wc := []) hD hS hA [] rfl
    refine va_calli (va_runS (As := [.int (K i2.toNatClampNeg), .int (p0_wealthWhenPaid L C i2 i3)]) (rest := [.int (p0_worth (K i2.toNatClampNeg) (p0_wealth L C i1))]) ⟨hx, hb, hml, hown, hts⟩ (ctX0_worth l dC dI cI H.size (K i2.toNatClampNeg) (p0_wealthWhenPaid L C i2 i3)) (va_cwS 2 hts gX0_changes_X0_worth rfl rfl rfl (by decide +kernel) ⟨Nat.le_of_ble_eq_true rfl, Nat.le_of_ble_eq_true rfl⟩) (pre_S hKc hN hPc hDc) rfl rfl hl.1 rfl (lv_room (Nat.le_of_ble_eq_true rfl)) dX0_changes_31 ⟨Nat.le_of_ble_eq_true rfl, Nat.le_of_ble_eq_true rfl⟩) hS (fun q _ h => hFc q h) hFc (fun r _ t H locs ht hvm hw hB hz1 hk1 hS => ?_)
    try dsimp only at hw
    subst hw
    rw [ht] at hB
    obtain ⟨hP, hD⟩ := rw_join ([(a0, .inr (0, [.ref ak, .ref al, .ref ac, .int N])), (ak, .inl (cI, 6, .inl K)), (al, .inl (cI, 6, .inl L)), (ac, .inl (cI, 6, .inl C))]) ([(a0, .inr (0, [.ref ak, .ref al, .ref ac, .int N])), (ak, .inl (cI, 6, .inl K)), (al, .inl (cI, 6, .inl L)), (ac, .inl (cI, 6, .inl C))]) ([]) ([]) ([(a0, .inr (0, [.ref ak, .ref al, .ref ac, .int N])), (ak, .inl (cI, 6, .inl K)), (al, .inl (cI, 6, .inl L)), (ac, .inl (cI, 6, .inl C))]) hP hD [] [0, 1, 2, 3] [a0, ak, al, ac] 4 rfl rfl rfl rfl rfl (by decide) rfl rfl hk1 hB
    refine lv_icmp_le (tgt := 41) hx hb dX0_changes_34 (by decide) (fun c_34 => ?_) (fun c_34 => ?_)
    · skip
      refine lv_iconst (v := 0) hx hb dX0_changes_41 (by decide) ?_
      have hE9 : p0_changes K L C i1 i2 i3 = 0 := by unfold p0_changes; rw [if_neg c_2, if_pos c_34]
      exact W.zret (v := 0) hx hb hr (by decide +kernel) (fun t ht hW => ⟨⟨_, (), rfl, by rw [hE9], by show va_P (dC, dI) vwCl _ t.heap; rw [ht]; exact hP⟩, hS.F ht⟩) hS.2.2 dX0_changes_42
    · skip
      refine lv_iconst (v := 1) hx hb dX0_changes_37 (by decide) ?_
      refine lv_goto (tgt := 42) hx hb dX0_changes_38 (by decide) ?_
      have hE9 : p0_changes K L C i1 i2 i3 = 1 := by unfold p0_changes; rw [if_neg c_2, if_neg c_34]
      exact W.zret (v := 1) hx hb hr (by decide +kernel) (fun t ht hW => ⟨⟨_, (), rfl, by rw [hE9], by show va_P (dC, dI) vwCl _ t.heap; rw [ht]; exact hP⟩, hS.F ht⟩) hS.2.2 dX0_changes_42

def p0_payer (K : Nat → Int32) (L : Nat → Int32) (C : Nat → Int32) (i1 : Int32) (i2 : Int32) (i3 : Int32) : Int32 :=
  if (p0_changes K L C i1 i2 i3) = 0 then
    i2
  else
    i1
abbrev rmX0_payer : Room := { frames := 2, cells := 0, slots := 0, locals := 46 }
abbrev QX0_payer (dC : Nat → ClassId) (dI : Nat → Nat → Nat) (A : Nat → Prop) (cI : ClassId) (a0 : Nat) (ak : Nat) (al : Nat) (ac : Nat) (N : Int32) (K : Nat → Int32) (L : Nat → Int32) (C : Nat → Int32) (i1 : Int32) (i2 : Int32) (i3 : Int32) : Array Value → State → Outcome → State → Prop := va_Qi (fun (r : Int32) (_ : Unit) => r = p0_payer K L C i1 i2 i3) (fun (_ : Unit) (t : State) => va_P (dC, dI) vwCl ([(a0, .inr (0, [.ref ak, .ref al, .ref ac, .int N])), (ak, .inl (cI, 6, .inl K)), (al, .inl (cI, 6, .inl L)), (ac, .inl (cI, 6, .inl C))]) t.heap) A
set_option maxHeartbeats 4000000 in
set_option maxRecDepth 100000 in
theorem ctX0_payer (l : Launch) (dC : Nat → ClassId) (dI : Nat → Nat → Nat) (cI : ClassId) (a0 : Nat) (ak : Nat) (al : Nat) (ac : Nat) (sz : Nat) (N : Int32) (K : Nat → Int32) (L : Nat → Int32) (C : Nat → Int32) (i1 : Int32) (i2 : Int32) (i3 : Int32) (hi1 : vp_in i1 6) (hi2 : vp_in i2 6) : Met l yX0_payer wsX0_payer rmX0_payer (va_Pc [.ref a0, .int i1, .int i2, .int i3] (cP dC dI [(cI, .int)] ([(a0, .inr (0, [.ref ak, .ref al, .ref ac, .int N])), (ak, .inl (cI, 6, .inl K)), (al, .inl (cI, 6, .inl L)), (ac, .inl (cI, 6, .inl C))]) sz)) (QX0_payer dC dI (va_A ([(a0, .inr (0, [.ref ak, .ref al, .ref ac, .int N])), (ak, .inl (cI, 6, .inl K)), (al, .inl (cI, 6, .inl L)), (ac, .inl (cI, 6, .inl C))]) sz) cI a0 ak al ac N K L C i1 i2 i3) 0 0 (va_A ([(a0, .inr (0, [.ref ak, .ref al, .ref ac, .int N])), (ak, .inl (cI, 6, .inl K)), (al, .inl (cI, 6, .inl L)), (ac, .inl (cI, 6, .inl C))]) sz) := by
  refine Met.ofW (cc := cX0_payer) (maxL := 4) (ret := (some .int)) (by decide) rfl ?_
  intro p e s m args below meth c s₁ B hml hv
  obtain ⟨rfl, hsz, hP, hK, hD0, hN⟩ := hv
  have hx := B.exec
  have hb := B.bytes
  have hr := B.returns
  have hts := atoms_spec (ws := wsX0_payer) B.pre
  have hown : s.vm.findClass RX0 = some m.cls := findClass_of_methodNamed B.named
  have hlocks := B.notSynchronized
  subst hsz
  have hD := hD0.self (sz := s.heap.size)
  generalize hAe : va_A ([(a0, .inr (0, [.ref ak, .ref al, .ref ac, .int N])), (ak, .inl (cI, 6, .inl K)), (al, .inl (cI, 6, .inl L)), (ac, .inl (cI, 6, .inl C))]) s.heap.size = A at hD ⊢
  have hA : ∀ q : Nat, s.heap.size ≤ q → A q := fun q h => by rw [← hAe]; exact Or.inr h
  have hS : va_S A s.heap s.heap [] := va_S.rf
  have hP : va_P (dC, dI) vwCl ([(a0, .inr (0, [.ref ak, .ref al, .ref ac, .int N])), (ak, .inl (cI, 6, .inl K)), (al, .inl (cI, 6, .inl L)), (ac, .inl (cI, 6, .inl C))]) s.heap := hP
  have hl := lv_entry ([.ref a0, .int i1, .int i2, .int i3]) (n := 4) (Nat.le_of_ble_eq_true rfl)
  rw [lg_entry_eq]
  generalize (lg_sl ([.ref a0, .int i1, .int i2, .int i3]) ++ List.replicate (4 - (lg_sl ([.ref a0, .int i1, .int i2, .int i3])).length) Slot.unset).toArray = ls at hl ⊢
  have hl : lv_has ls 4 [(0, .ref a0), (1, .int i1), (2, .int i2), (3, .int i3)] := hl
  refine lv_aload_n hx hb dX0_payer_0 rfl (lv_at hl 0 rfl) ?_
  refine lv_iload_n hx hb dX0_payer_1 rfl (lv_at hl 1 rfl) ?_
  refine lv_iload_n hx hb dX0_payer_2 rfl (lv_at hl 2 rfl) ?_
  refine lv_iload_n hx hb dX0_payer_3 rfl (lv_at hl 3 rfl) ?_
  have hPc := hP.sub (ws' := [(a0, .inr (0, [.ref ak, .ref al, .ref ac, .int N])), (ak, .inl (cI, 6, .inl K)), (al, .inl (cI, 6, .inl L)), (ac, .inl (cI, 6, .inl C))]) [0, 1, 2, 3] rfl
  have hDc := hD.sub (ws' := [(a0, .inr (0, [.ref ak, .ref al, .ref ac, .int N])), (ak, .inl (cI, 6, .inl K)), (al, .inl (cI, 6, .inl L)), (ac, .inl (cI, 6, .inl C))]) [0, 1, 2, 3] (by decide) rfl
  have hKc := hK.sub (tys' := [(cI, .int)]) [0] rfl
  have hFc := va_free (wc := [(a0, .inr (0, [.ref ak, .ref al, .ref ac, .int N])), (ak, .inl (cI, 6, .inl K)), (al, .inl (cI, 6, .inl L)), (ac, .inl (cI, 6, .inl C))]) hD hS hA [0, 1, 2, 3] rfl
  refine va_calli (va_runV (As := [.int i1, .int i2, .int i3]) (rest := []) ⟨hx, hb, hml, hown, hts⟩ (ctX0_changes l dC dI cI a0 ak al ac s.heap.size N K L C i1 i2 i3 (by assumption) (by assumption)) (cwV 3 hts gX0_payer_X0_changes rfl rfl rfl (by decide +kernel) ⟨Nat.le_of_ble_eq_true rfl, Nat.le_of_ble_eq_true rfl⟩) (pre_V hKc hN hPc hDc (RX0, TX0, 4) 0 0 rfl rfl) rfl rfl hl.1 rfl (lv_room (Nat.le_of_ble_eq_true rfl)) dX0_payer_4 ⟨Nat.le_of_ble_eq_true rfl, Nat.le_of_ble_eq_true rfl⟩) hS (fun q _ h => hFc q h) hFc (fun r _ t H locs ht hvm hw hB hz1 hk1 hS => ?_)
  try dsimp only at hw
  subst hw
  rw [ht] at hB
  obtain ⟨hP, hD⟩ := rw_join ([(a0, .inr (0, [.ref ak, .ref al, .ref ac, .int N])), (ak, .inl (cI, 6, .inl K)), (al, .inl (cI, 6, .inl L)), (ac, .inl (cI, 6, .inl C))]) ([(a0, .inr (0, [.ref ak, .ref al, .ref ac, .int N])), (ak, .inl (cI, 6, .inl K)), (al, .inl (cI, 6, .inl L)), (ac, .inl (cI, 6, .inl C))]) ([(a0, .inr (0, [.ref ak, .ref al, .ref ac, .int N])), (ak, .inl (cI, 6, .inl K)), (al, .inl (cI, 6, .inl L)), (ac, .inl (cI, 6, .inl C))]) ([(a0, .inr (0, [.ref ak, .ref al, .ref ac, .int N])), (ak, .inl (cI, 6, .inl K)), (al, .inl (cI, 6, .inl L)), (ac, .inl (cI, 6, .inl C))]) ([]) hP hD [0, 1, 2, 3] [] [a0, ak, al, ac] 4 rfl rfl rfl rfl rfl (by decide) rfl rfl hk1 hB
  refine lv_if_eq (tgt := 14) hx hb dX0_payer_7 (by decide) (fun c_7 => ?_) (fun c_7 => ?_)
  · skip
    refine lv_iload_n hx hb dX0_payer_14 rfl (lv_at hl 2 rfl) ?_
    have hE9 : p0_payer K L C i1 i2 i3 = i2 := by unfold p0_payer; rw [if_pos c_7]
    exact W.iret (v := i2) hx hb hr (fun t ht hW => ⟨⟨_, (), rfl, by rw [hE9], by show va_P (dC, dI) vwCl _ t.heap; rw [ht]; exact hP⟩, hS.F ht⟩) hS.2.2 dX0_payer_15
  · skip
    refine lv_iload_n hx hb dX0_payer_10 rfl (lv_at hl 1 rfl) ?_
    refine lv_goto (tgt := 15) hx hb dX0_payer_11 (by decide) ?_
    have hE9 : p0_payer K L C i1 i2 i3 = i1 := by unfold p0_payer; rw [if_neg c_7]
    exact W.iret (v := i1) hx hb hr (fun t ht hW => ⟨⟨_, (), rfl, by rw [hE9], by show va_P (dC, dI) vwCl _ t.heap; rw [ht]; exact hP⟩, hS.F ht⟩) hS.2.2 dX0_payer_15

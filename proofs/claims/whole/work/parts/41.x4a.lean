def p4_isCost (i0 : Int32) : Int32 :=
  if i0 < 0 then
    0
  else
    if 9 < i0 then
      0
    else
      1
abbrev rmX4_isCost : Room := { frames := 0, cells := 0, slots := 0, locals := 0 }
abbrev QX4_isCost (dC : Nat → ClassId) (dI : Nat → Nat → Nat) (A : Nat → Prop) (cI : ClassId) (i0 : Int32) : Array Value → State → Outcome → State → Prop := va_Qi (fun (r : Int32) (_ : Unit) => r = p4_isCost i0) (fun (_ : Unit) (t : State) => va_P (dC, dI) vwCl ([]) t.heap) A
set_option maxHeartbeats 4000000 in
set_option maxRecDepth 100000 in
theorem ctX4_isCost (l : Launch) (dC : Nat → ClassId) (dI : Nat → Nat → Nat) (cI : ClassId) (sz : Nat) (i0 : Int32) : Met l yX4_isCost wsX4_isCost rmX4_isCost (va_Pc [.int i0] (cP dC dI [(cI, .int)] ([]) sz)) (QX4_isCost dC dI (va_A ([]) sz) cI i0) 0 0 (va_A ([]) sz) := by
  refine Met.ofW (cc := cX4_isCost) (maxL := 1) (ret := (some .boolean)) (by decide) rfl ?_
  intro p e s m args below meth c s₁ B hml hv
  obtain ⟨rfl, hsz, hP, hK, hD0, hN⟩ := hv
  have hx := B.exec
  have hb := B.bytes
  have hr := B.returns
  have hts := atoms_spec (ws := wsX4_isCost) B.pre
  have hown : s.vm.findClass RX4 = some m.cls := findClass_of_methodNamed B.named
  have hlocks := B.notSynchronized
  subst hsz
  have hD := hD0.self (sz := s.heap.size)
  generalize hAe : va_A ([]) s.heap.size = A at hD ⊢
  have hA : ∀ q : Nat, s.heap.size ≤ q → A q := fun q h => by rw [← hAe]; exact Or.inr h
  have hS : va_S A s.heap s.heap [] := va_S.rf
  have hP : va_P (dC, dI) vwCl ([]) s.heap := hP
  have hl := lv_entry ([.int i0]) (n := 1) (Nat.le_of_ble_eq_true rfl)
  rw [lg_entry_eq]
  generalize (lg_sl ([.int i0]) ++ List.replicate (1 - (lg_sl ([.int i0])).length) Slot.unset).toArray = ls at hl ⊢
  have hl : lv_has ls 1 [(0, .int i0)] := hl
  refine lv_iload_n hx hb dX4_isCost_0 rfl (lv_at hl 0 rfl) ?_
  refine lv_if_lt (tgt := 14) hx hb dX4_isCost_1 (by decide) (fun c_1 => ?_) (fun c_1 => ?_)
  · skip
    refine lv_iconst (v := 0) hx hb dX4_isCost_14 (by decide) ?_
    have hE9 : p4_isCost i0 = 0 := by unfold p4_isCost; rw [if_pos c_1]
    exact W.zret (v := 0) hx hb hr (by decide +kernel) (fun t ht hW => ⟨⟨_, (), rfl, by rw [hE9], by show va_P (dC, dI) vwCl _ t.heap; rw [ht]; exact hP⟩, hS.F ht⟩) hS.2.2 dX4_isCost_15
  · skip
    refine lv_iload_n hx hb dX4_isCost_4 rfl (lv_at hl 0 rfl) ?_
    refine lv_bipush (v := 9) hx hb dX4_isCost_5 (by decide) ?_
    refine lv_icmp_gt (tgt := 14) hx hb dX4_isCost_7 (by decide) (fun c_7 => ?_) (fun c_7 => ?_)
    · skip
      refine lv_iconst (v := 0) hx hb dX4_isCost_14 (by decide) ?_
      have hE9 : p4_isCost i0 = 0 := by unfold p4_isCost; rw [if_neg c_1, if_pos c_7]
      exact W.zret (v := 0) hx hb hr (by decide +kernel) (fun t ht hW => ⟨⟨_, (), rfl, by rw [hE9], by show va_P (dC, dI) vwCl _ t.heap; rw [ht]; exact hP⟩, hS.F ht⟩) hS.2.2 dX4_isCost_15
    · skip
      refine lv_iconst (v := 1) hx hb dX4_isCost_10 (by decide) ?_
      refine lv_goto (tgt := 15) hx hb dX4_isCost_11 (by decide) ?_
      have hE9 : p4_isCost i0 = 1 := by unfold p4_isCost; rw [if_neg c_1, if_neg c_7]
      exact W.zret (v := 1) hx hb hr (by decide +kernel) (fun t ht hW => ⟨⟨_, (), rfl, by rw [hE9], by show va_P (dC, dI) vwCl _ t.heap; rw [ht]; exact hP⟩, hS.F ht⟩) hS.2.2 dX4_isCost_15

def p4_failed (LF : Int32) (i1 : Int32) : Int32 × Int32 :=
  (((-10) - i1), i1)
abbrev rmX4_failed : Room := { frames := 0, cells := 0, slots := 0, locals := 0 }
abbrev QX4_failed (dC : Nat → ClassId) (dI : Nat → Nat → Nat) (A : Nat → Prop) (cI : ClassId) (x0 : Nat) (t0 : Nat) (r0 : Nat) (y0 : Nat) (g0 : Nat) (w0 : Nat) (TR : Int32) (LF : Int32) (i1 : Int32) : Array Value → State → Outcome → State → Prop := va_Qi (fun (r : Int32) (_ : Unit) => r = (p4_failed LF i1).1) (fun (_ : Unit) (t : State) => va_P (dC, dI) vwCl ([(x0, .inr (4, [.ref t0, .ref r0, .ref y0, .ref g0, .ref w0, .int TR, .int ((p4_failed LF i1).2)]))]) t.heap) A
set_option maxHeartbeats 4000000 in
set_option maxRecDepth 100000 in
theorem ctX4_failed (l : Launch) (dC : Nat → ClassId) (dI : Nat → Nat → Nat) (cI : ClassId) (x0 : Nat) (t0 : Nat) (r0 : Nat) (y0 : Nat) (g0 : Nat) (w0 : Nat) (sz : Nat) (TR : Int32) (LF : Int32) (i1 : Int32) : Met l yX4_failed wsX4_failed rmX4_failed (va_Pc [.ref x0, .int i1] (cP dC dI [(cI, .int)] ([(x0, .inr (4, [.ref t0, .ref r0, .ref y0, .ref g0, .ref w0, .int TR, .int LF]))]) sz)) (QX4_failed dC dI (va_A ([(x0, .inr (4, [.ref t0, .ref r0, .ref y0, .ref g0, .ref w0, .int TR, .int LF]))]) sz) cI x0 t0 r0 y0 g0 w0 TR LF i1) 0 0 (va_A ([(x0, .inr (4, [.ref t0, .ref r0, .ref y0, .ref g0, .ref w0, .int TR, .int LF]))]) sz) := by
  refine Met.ofW (cc := cX4_failed) (maxL := 2) (ret := (some .int)) (by decide) rfl ?_
  intro p e s m args below meth c s₁ B hml hv
  obtain ⟨rfl, hsz, hP, hK, hD0, hN⟩ := hv
  have hx := B.exec
  have hb := B.bytes
  have hr := B.returns
  have hts := atoms_spec (ws := wsX4_failed) B.pre
  have hown : s.vm.findClass RX4 = some m.cls := findClass_of_methodNamed B.named
  have hlocks := B.notSynchronized
  subst hsz
  have hD := hD0.self (sz := s.heap.size)
  generalize hAe : va_A ([(x0, .inr (4, [.ref t0, .ref r0, .ref y0, .ref g0, .ref w0, .int TR, .int LF]))]) s.heap.size = A at hD ⊢
  have hA : ∀ q : Nat, s.heap.size ≤ q → A q := fun q h => by rw [← hAe]; exact Or.inr h
  have hS : va_S A s.heap s.heap [] := va_S.rf
  have hP : va_P (dC, dI) vwCl ([(x0, .inr (4, [.ref t0, .ref r0, .ref y0, .ref g0, .ref w0, .int TR, .int LF]))]) s.heap := hP
  have hin4 : ∀ w ∈ wsX40, w ∈ wsX4_failed := by decide +kernel
  have kf_42 := hts (.fieldLink RX4 42 "RicherChange" "latestFault" "I") (by decide +kernel)
  have hl := lv_entry ([.ref x0, .int i1]) (n := 2) (Nat.le_of_ble_eq_true rfl)
  rw [lg_entry_eq]
  generalize (lg_sl ([.ref x0, .int i1]) ++ List.replicate (2 - (lg_sl ([.ref x0, .int i1])).length) Slot.unset).toArray = ls at hl ⊢
  have hl : lv_has ls 2 [(0, .ref x0), (1, .int i1)] := hl
  refine lv_aload_n hx hb dX4_failed_0 rfl (lv_at hl 0 rfl) ?_
  refine lv_iload_n hx hb dX4_failed_1 rfl (lv_at hl 1 rfl) ?_
  refine va_put (D := (dC, dI)) (ci := 4) (v := .int i1) (ty := .int) (C := RX4) (T := TX4) (N := 7) hx hb hts hin4 tyX4 tyX4_ok nmX4 hown hK hP hD hS 0 rfl rfl 6 (by decide) kf_42 (fun _ h9 => h9) rfl (by decide +kernel) rfl rfl (Nat.le_of_ble_eq_true rfl) dX4_failed_2 (fun H locs hP hD hS => ?_)
  have hP : va_P (dC, dI) vwCl ([(x0, .inr (4, [.ref t0, .ref r0, .ref y0, .ref g0, .ref w0, .int TR, .int i1]))]) H := hP
  have hD : va_D A ([(x0, .inr (4, [.ref t0, .ref r0, .ref y0, .ref g0, .ref w0, .int TR, .int i1]))]) := hD
  refine lv_bipush (v := (-10)) hx hb dX4_failed_5 (by decide) ?_
  refine lv_iload_n hx hb dX4_failed_7 rfl (lv_at hl 1 rfl) ?_
  refine lv_isub hx hb dX4_failed_8 ?_
  have hE9 : p4_failed LF i1 = (((-10) - i1), i1) := rfl
  exact W.iret (v := ((-10) - i1)) hx hb hr (fun t ht hW => ⟨⟨_, (), rfl, by rw [hE9], by show va_P (dC, dI) vwCl _ t.heap; rw [ht, hE9]; exact hP⟩, hS.F ht⟩) hS.2.2 dX4_failed_9

def p4_goesOn (i0 : Int32) (i1 : Int32) : Int32 :=
  if i0 = 0 then
    if i1 = 113 then
      1
    else
      0
  else
    if ((i0 - 1) - (i0 - 1) / 4 * 4) = 0 then
      if i1 = 59 then
        if 24 ≤ i0 then
          0
        else
          1
      else
        0
    else
      if ((i0 - 1) - (i0 - 1) / 4 * 4) = 1 then
        if i1 = 104 then
          1
        else
          if i1 = 107 then
            1
          else
            if i1 = 116 then
              1
            else
              0
      else
        if i1 < 48 then
          0
        else
          if 57 < i1 then
            0
          else
            1
abbrev rmX4_goesOn : Room := { frames := 0, cells := 0, slots := 0, locals := 0 }
abbrev QX4_goesOn (dC : Nat → ClassId) (dI : Nat → Nat → Nat) (A : Nat → Prop) (cI : ClassId) (i0 : Int32) (i1 : Int32) : Array Value → State → Outcome → State → Prop := va_Qi (fun (r : Int32) (_ : Unit) => r = p4_goesOn i0 i1) (fun (_ : Unit) (t : State) => va_P (dC, dI) vwCl ([]) t.heap) A
set_option maxHeartbeats 4000000 in
set_option maxRecDepth 100000 in
theorem ctX4_goesOn (l : Launch) (dC : Nat → ClassId) (dI : Nat → Nat → Nat) (cI : ClassId) (sz : Nat) (i0 : Int32) (i1 : Int32) : Met l yX4_goesOn wsX4_goesOn rmX4_goesOn (va_Pc [.int i0, .int i1] (cP dC dI [(cI, .int)] ([]) sz)) (QX4_goesOn dC dI (va_A ([]) sz) cI i0 i1) 0 0 (va_A ([]) sz) := by
  refine Met.ofW (cc := cX4_goesOn) (maxL := 2) (ret := (some .boolean)) (by decide) rfl ?_
  intro p e s m args below meth c s₁ B hml hv
  obtain ⟨rfl, hsz, hP, hK, hD0, hN⟩ := hv
  have hx := B.exec
  have hb := B.bytes
  have hr := B.returns
  have hts := atoms_spec (ws := wsX4_goesOn) B.pre
  have hown : s.vm.findClass RX4 = some m.cls := findClass_of_methodNamed B.named
  have hlocks := B.notSynchronized
  subst hsz
  have hD := hD0.self (sz := s.heap.size)
  generalize hAe : va_A ([]) s.heap.size = A at hD ⊢
  have hA : ∀ q : Nat, s.heap.size ≤ q → A q := fun q h => by rw [← hAe]; exact Or.inr h
  have hS : va_S A s.heap s.heap [] := va_S.rf
  have hP : va_P (dC, dI) vwCl ([]) s.heap := hP
  have hl := lv_entry ([.int i0, .int i1]) (n := 2) (Nat.le_of_ble_eq_true rfl)
  rw [lg_entry_eq]
  generalize (lg_sl ([.int i0, .int i1]) ++ List.replicate (2 - (lg_sl ([.int i0, .int i1])).length) Slot.unset).toArray = ls at hl ⊢
  have hl : lv_has ls 2 [(0, .int i0), (1, .int i1)] := hl
  refine lv_iload_n hx hb dX4_goesOn_0 rfl (lv_at hl 0 rfl) ?_
  refine lv_if_ne (tgt := 16) hx hb dX4_goesOn_1 (by decide) (fun c_1 => ?_) (fun c_1 => ?_)
  · skip
    refine lv_iload_n hx hb dX4_goesOn_16 rfl (lv_at hl 0 rfl) ?_
    refine lv_iconst (v := 1) hx hb dX4_goesOn_17 (by decide) ?_
    refine lv_isub hx hb dX4_goesOn_18 ?_
    refine lv_iconst (v := 4) hx hb dX4_goesOn_19 (by decide) ?_
    refine lv_irem hx hb dX4_goesOn_20 (by decide) ?_
    by_cases c_21_0 : ((i0 - 1) - (i0 - 1) / 4 * 4) = 0
    · skip
      refine lv_lookup (off := 27) (tgt := 48) hx hb dX4_goesOn_21 (by decide) (by rw [c_21_0]; decide) (by decide) ?_
      refine lv_iload_n hx hb dX4_goesOn_48 rfl (lv_at hl 1 rfl) ?_
      refine lv_bipush (v := 59) hx hb dX4_goesOn_49 (by decide) ?_
      refine lv_icmp_ne (tgt := 64) hx hb dX4_goesOn_51 (by decide) (fun c_51 => ?_) (fun c_51 => ?_)
      · skip
        refine lv_iconst (v := 0) hx hb dX4_goesOn_64 (by decide) ?_
        have hE9 : p4_goesOn i0 i1 = 0 := by unfold p4_goesOn; rw [if_neg c_1, if_pos c_21_0, if_neg c_51]
        exact W.zret (v := 0) hx hb hr (by decide +kernel) (fun t ht hW => ⟨⟨_, (), rfl, by rw [hE9], by show va_P (dC, dI) vwCl _ t.heap; rw [ht]; exact hP⟩, hS.F ht⟩) hS.2.2 dX4_goesOn_65
      · skip
        refine lv_iload_n hx hb dX4_goesOn_54 rfl (lv_at hl 0 rfl) ?_
        refine lv_bipush (v := 24) hx hb dX4_goesOn_55 (by decide) ?_
        refine lv_icmp_ge (tgt := 64) hx hb dX4_goesOn_57 (by decide) (fun c_57 => ?_) (fun c_57 => ?_)
        · skip
          refine lv_iconst (v := 0) hx hb dX4_goesOn_64 (by decide) ?_
          have hE9 : p4_goesOn i0 i1 = 0 := by unfold p4_goesOn; rw [if_neg c_1, if_pos c_21_0, if_pos c_51, if_pos c_57]
          exact W.zret (v := 0) hx hb hr (by decide +kernel) (fun t ht hW => ⟨⟨_, (), rfl, by rw [hE9], by show va_P (dC, dI) vwCl _ t.heap; rw [ht]; exact hP⟩, hS.F ht⟩) hS.2.2 dX4_goesOn_65
        · skip
          refine lv_iconst (v := 1) hx hb dX4_goesOn_60 (by decide) ?_
          refine lv_goto (tgt := 65) hx hb dX4_goesOn_61 (by decide) ?_
          have hE9 : p4_goesOn i0 i1 = 1 := by unfold p4_goesOn; rw [if_neg c_1, if_pos c_21_0, if_pos c_51, if_neg c_57]
          exact W.zret (v := 1) hx hb hr (by decide +kernel) (fun t ht hW => ⟨⟨_, (), rfl, by rw [hE9], by show va_P (dC, dI) vwCl _ t.heap; rw [ht]; exact hP⟩, hS.F ht⟩) hS.2.2 dX4_goesOn_65
    · skip
      by_cases c_21_1 : ((i0 - 1) - (i0 - 1) / 4 * 4) = 1
      · skip
        refine lv_lookup (off := 45) (tgt := 66) hx hb dX4_goesOn_21 (by decide) (by rw [c_21_1]; decide) (by decide) ?_
        refine lv_iload_n hx hb dX4_goesOn_66 rfl (lv_at hl 1 rfl) ?_
        refine lv_bipush (v := 104) hx hb dX4_goesOn_67 (by decide) ?_
        refine lv_icmp_eq (tgt := 84) hx hb dX4_goesOn_69 (by decide) (fun c_69 => ?_) (fun c_69 => ?_)
        · skip
          refine lv_iconst (v := 1) hx hb dX4_goesOn_84 (by decide) ?_
          refine lv_goto (tgt := 89) hx hb dX4_goesOn_85 (by decide) ?_
          have hE9 : p4_goesOn i0 i1 = 1 := by unfold p4_goesOn; rw [if_neg c_1, if_neg c_21_0, if_pos c_21_1, if_pos c_69]
          exact W.zret (v := 1) hx hb hr (by decide +kernel) (fun t ht hW => ⟨⟨_, (), rfl, by rw [hE9], by show va_P (dC, dI) vwCl _ t.heap; rw [ht]; exact hP⟩, hS.F ht⟩) hS.2.2 dX4_goesOn_89
        · skip
          refine lv_iload_n hx hb dX4_goesOn_72 rfl (lv_at hl 1 rfl) ?_
          refine lv_bipush (v := 107) hx hb dX4_goesOn_73 (by decide) ?_
          refine lv_icmp_eq (tgt := 84) hx hb dX4_goesOn_75 (by decide) (fun c_75 => ?_) (fun c_75 => ?_)
          · skip
            refine lv_iconst (v := 1) hx hb dX4_goesOn_84 (by decide) ?_
            refine lv_goto (tgt := 89) hx hb dX4_goesOn_85 (by decide) ?_
            have hE9 : p4_goesOn i0 i1 = 1 := by unfold p4_goesOn; rw [if_neg c_1, if_neg c_21_0, if_pos c_21_1, if_neg c_69, if_pos c_75]
            exact W.zret (v := 1) hx hb hr (by decide +kernel) (fun t ht hW => ⟨⟨_, (), rfl, by rw [hE9], by show va_P (dC, dI) vwCl _ t.heap; rw [ht]; exact hP⟩, hS.F ht⟩) hS.2.2 dX4_goesOn_89
          · skip
            refine lv_iload_n hx hb dX4_goesOn_78 rfl (lv_at hl 1 rfl) ?_
            refine lv_bipush (v := 116) hx hb dX4_goesOn_79 (by decide) ?_
            refine lv_icmp_ne (tgt := 88) hx hb dX4_goesOn_81 (by decide) (fun c_81 => ?_) (fun c_81 => ?_)
            · skip
              refine lv_iconst (v := 0) hx hb dX4_goesOn_88 (by decide) ?_
              have hE9 : p4_goesOn i0 i1 = 0 := by unfold p4_goesOn; rw [if_neg c_1, if_neg c_21_0, if_pos c_21_1, if_neg c_69, if_neg c_75, if_neg c_81]
              exact W.zret (v := 0) hx hb hr (by decide +kernel) (fun t ht hW => ⟨⟨_, (), rfl, by rw [hE9], by show va_P (dC, dI) vwCl _ t.heap; rw [ht]; exact hP⟩, hS.F ht⟩) hS.2.2 dX4_goesOn_89
            · skip
              refine lv_iconst (v := 1) hx hb dX4_goesOn_84 (by decide) ?_
              refine lv_goto (tgt := 89) hx hb dX4_goesOn_85 (by decide) ?_
              have hE9 : p4_goesOn i0 i1 = 1 := by unfold p4_goesOn; rw [if_neg c_1, if_neg c_21_0, if_pos c_21_1, if_neg c_69, if_neg c_75, if_pos c_81]
              exact W.zret (v := 1) hx hb hr (by decide +kernel) (fun t ht hW => ⟨⟨_, (), rfl, by rw [hE9], by show va_P (dC, dI) vwCl _ t.heap; rw [ht]; exact hP⟩, hS.F ht⟩) hS.2.2 dX4_goesOn_89
      · skip
        refine lv_lookup (off := 69) (tgt := 90) hx hb dX4_goesOn_21 (by decide) (by show Op.lookupswitch.offset [(0, 27), (1, 45)] 69 _ = _; rw [lv_osw c_21_0 (by decide), lv_osw c_21_1 (by decide)]; rfl) (by decide) ?_
        refine lv_iload_n hx hb dX4_goesOn_90 rfl (lv_at hl 1 rfl) ?_
        refine lv_bipush (v := 48) hx hb dX4_goesOn_91 (by decide) ?_
        refine lv_icmp_lt (tgt := 106) hx hb dX4_goesOn_93 (by decide) (fun c_93 => ?_) (fun c_93 => ?_)
        · skip
          refine lv_iconst (v := 0) hx hb dX4_goesOn_106 (by decide) ?_
          have hE9 : p4_goesOn i0 i1 = 0 := by unfold p4_goesOn; rw [if_neg c_1, if_neg c_21_0, if_neg c_21_1, if_pos c_93]
          exact W.zret (v := 0) hx hb hr (by decide +kernel) (fun t ht hW => ⟨⟨_, (), rfl, by rw [hE9], by show va_P (dC, dI) vwCl _ t.heap; rw [ht]; exact hP⟩, hS.F ht⟩) hS.2.2 dX4_goesOn_107
        · skip
          refine lv_iload_n hx hb dX4_goesOn_96 rfl (lv_at hl 1 rfl) ?_
          refine lv_bipush (v := 57) hx hb dX4_goesOn_97 (by decide) ?_
          refine lv_icmp_gt (tgt := 106) hx hb dX4_goesOn_99 (by decide) (fun c_99 => ?_) (fun c_99 => ?_)
          · skip
            refine lv_iconst (v := 0) hx hb dX4_goesOn_106 (by decide) ?_
            have hE9 : p4_goesOn i0 i1 = 0 := by unfold p4_goesOn; rw [if_neg c_1, if_neg c_21_0, if_neg c_21_1, if_neg c_93, if_pos c_99]
            exact W.zret (v := 0) hx hb hr (by decide +kernel) (fun t ht hW => ⟨⟨_, (), rfl, by rw [hE9], by show va_P (dC, dI) vwCl _ t.heap; rw [ht]; exact hP⟩, hS.F ht⟩) hS.2.2 dX4_goesOn_107
          · skip
            refine lv_iconst (v := 1) hx hb dX4_goesOn_102 (by decide) ?_
            refine lv_goto (tgt := 107) hx hb dX4_goesOn_103 (by decide) ?_
            have hE9 : p4_goesOn i0 i1 = 1 := by unfold p4_goesOn; rw [if_neg c_1, if_neg c_21_0, if_neg c_21_1, if_neg c_93, if_neg c_99]
            exact W.zret (v := 1) hx hb hr (by decide +kernel) (fun t ht hW => ⟨⟨_, (), rfl, by rw [hE9], by show va_P (dC, dI) vwCl _ t.heap; rw [ht]; exact hP⟩, hS.F ht⟩) hS.2.2 dX4_goesOn_107
  · skip
    refine lv_iload_n hx hb dX4_goesOn_4 rfl (lv_at hl 1 rfl) ?_
    refine lv_bipush (v := 113) hx hb dX4_goesOn_5 (by decide) ?_
    refine lv_icmp_ne (tgt := 14) hx hb dX4_goesOn_7 (by decide) (fun c_7 => ?_) (fun c_7 => ?_)
    · skip
      refine lv_iconst (v := 0) hx hb dX4_goesOn_14 (by decide) ?_
      have hE9 : p4_goesOn i0 i1 = 0 := by unfold p4_goesOn; rw [if_pos c_1, if_neg c_7]
      exact W.zret (v := 0) hx hb hr (by decide +kernel) (fun t ht hW => ⟨⟨_, (), rfl, by rw [hE9], by show va_P (dC, dI) vwCl _ t.heap; rw [ht]; exact hP⟩, hS.F ht⟩) hS.2.2 dX4_goesOn_15
    · skip
      refine lv_iconst (v := 1) hx hb dX4_goesOn_10 (by decide) ?_
      refine lv_goto (tgt := 15) hx hb dX4_goesOn_11 (by decide) ?_
      have hE9 : p4_goesOn i0 i1 = 1 := by unfold p4_goesOn; rw [if_pos c_1, if_pos c_7]
      exact W.zret (v := 1) hx hb hr (by decide +kernel) (fun t ht hW => ⟨⟨_, (), rfl, by rw [hE9], by show va_P (dC, dI) vwCl _ t.heap; rw [ht]; exact hP⟩, hS.F ht⟩) hS.2.2 dX4_goesOn_15

def p4_kindOf (i0 : Int32) : Int32 :=
  if i0 = 116 then
    2
  else
    if i0 = 107 then
      1
    else
      0
abbrev rmX4_kindOf : Room := { frames := 0, cells := 0, slots := 0, locals := 0 }
abbrev QX4_kindOf (dC : Nat → ClassId) (dI : Nat → Nat → Nat) (A : Nat → Prop) (cI : ClassId) (i0 : Int32) : Array Value → State → Outcome → State → Prop := va_Qi (fun (r : Int32) (_ : Unit) => r = p4_kindOf i0) (fun (_ : Unit) (t : State) => va_P (dC, dI) vwCl ([]) t.heap) A
set_option maxHeartbeats 4000000 in
set_option maxRecDepth 100000 in
theorem ctX4_kindOf (l : Launch) (dC : Nat → ClassId) (dI : Nat → Nat → Nat) (cI : ClassId) (sz : Nat) (i0 : Int32) : Met l yX4_kindOf wsX4_kindOf rmX4_kindOf (va_Pc [.int i0] (cP dC dI [(cI, .int)] ([]) sz)) (QX4_kindOf dC dI (va_A ([]) sz) cI i0) 0 0 (va_A ([]) sz) := by
  refine Met.ofW (cc := cX4_kindOf) (maxL := 1) (ret := (some .int)) (by decide) rfl ?_
  intro p e s m args below meth c s₁ B hml hv
  obtain ⟨rfl, hsz, hP, hK, hD0, hN⟩ := hv
  have hx := B.exec
  have hb := B.bytes
  have hr := B.returns
  have hts := atoms_spec (ws := wsX4_kindOf) B.pre
  have hown : s.vm.findClass RX4 = some m.cls := findClass_of_methodNamed B.named
  have hlocks := B.notSynchronized
  subst hsz
  have hD := hD0.self (sz := s.heap.size)
  generalize hAe : va_A ([]) s.heap.size = A at hD ⊢
  have hA : ∀ q : Nat, s.heap.size ≤ q → A q := fun q h => by rw [← hAe]; exact Or.inr h
  have hS : va_S A s.heap s.heap [] := va_S.rf
  have hP : va_P (dC, dI) vwCl ([]) s.heap := hP
  have hl := lv_entry ([.int i0]) (n := 1) (Nat.le_of_ble_eq_true rfl)
  rw [lg_entry_eq]
  generalize (lg_sl ([.int i0]) ++ List.replicate (1 - (lg_sl ([.int i0])).length) Slot.unset).toArray = ls at hl ⊢
  have hl : lv_has ls 1 [(0, .int i0)] := hl
  refine lv_iload_n hx hb dX4_kindOf_0 rfl (lv_at hl 0 rfl) ?_
  refine lv_bipush (v := 116) hx hb dX4_kindOf_1 (by decide) ?_
  refine lv_icmp_ne (tgt := 8) hx hb dX4_kindOf_3 (by decide) (fun c_3 => ?_) (fun c_3 => ?_)
  · skip
    refine lv_iload_n hx hb dX4_kindOf_8 rfl (lv_at hl 0 rfl) ?_
    refine lv_bipush (v := 107) hx hb dX4_kindOf_9 (by decide) ?_
    refine lv_icmp_ne (tgt := 18) hx hb dX4_kindOf_11 (by decide) (fun c_11 => ?_) (fun c_11 => ?_)
    · skip
      refine lv_iconst (v := 0) hx hb dX4_kindOf_18 (by decide) ?_
      have hE9 : p4_kindOf i0 = 0 := by unfold p4_kindOf; rw [if_neg c_3, if_neg c_11]
      exact W.iret (v := 0) hx hb hr (fun t ht hW => ⟨⟨_, (), rfl, by rw [hE9], by show va_P (dC, dI) vwCl _ t.heap; rw [ht]; exact hP⟩, hS.F ht⟩) hS.2.2 dX4_kindOf_19
    · skip
      refine lv_iconst (v := 1) hx hb dX4_kindOf_14 (by decide) ?_
      refine lv_goto (tgt := 19) hx hb dX4_kindOf_15 (by decide) ?_
      have hE9 : p4_kindOf i0 = 1 := by unfold p4_kindOf; rw [if_neg c_3, if_pos c_11]
      exact W.iret (v := 1) hx hb hr (fun t ht hW => ⟨⟨_, (), rfl, by rw [hE9], by show va_P (dC, dI) vwCl _ t.heap; rw [ht]; exact hP⟩, hS.F ht⟩) hS.2.2 dX4_kindOf_19
  · skip
    refine lv_iconst (v := 2) hx hb dX4_kindOf_6 (by decide) ?_
    have hE9 : p4_kindOf i0 = 2 := by unfold p4_kindOf; rw [if_pos c_3]
    exact W.iret (v := 2) hx hb hr (fun t ht hW => ⟨⟨_, (), rfl, by rw [hE9], by show va_P (dC, dI) vwCl _ t.heap; rw [ht]; exact hP⟩, hS.F ht⟩) hS.2.2 dX4_kindOf_7

def p4_commonPart_l2 (i0 : Int32) (i1 : Int32) : Nat → Int32 → Int32
  | 0, _ => 0
  | n + 1, v2 =>
    if v2 ≤ 1 then
      1
    else
      if (i0 - i0 / v2 * v2) = 0 then
        if (i1 - i1 / v2 * v2) = 0 then
          v2
        else
          p4_commonPart_l2 i0 i1 n (v2 + (-1))
      else
        p4_commonPart_l2 i0 i1 n (v2 + (-1))
theorem p4_commonPart_l2_s (i0 : Int32) (i1 : Int32) (n : Nat) (v2 : Int32) : p4_commonPart_l2 i0 i1 (n + 1) v2 =
    (if v2 ≤ 1 then
      1
    else
      if (i0 - i0 / v2 * v2) = 0 then
        if (i1 - i1 / v2 * v2) = 0 then
          v2
        else
          p4_commonPart_l2 i0 i1 n (v2 + (-1))
      else
        p4_commonPart_l2 i0 i1 n (v2 + (-1))) := rfl
def p4_commonPart (i0 : Int32) (i1 : Int32) : Int32 :=
  p4_commonPart_l2 i0 i1 6 i1
abbrev rmX4_commonPart : Room := { frames := 0, cells := 0, slots := 0, locals := 0 }
abbrev QX4_commonPart (dC : Nat → ClassId) (dI : Nat → Nat → Nat) (A : Nat → Prop) (cI : ClassId) (i0 : Int32) (i1 : Int32) : Array Value → State → Outcome → State → Prop := va_Qi (fun (r : Int32) (_ : Unit) => r = p4_commonPart i0 i1) (fun (_ : Unit) (t : State) => va_P (dC, dI) vwCl ([]) t.heap) A
set_option maxHeartbeats 4000000 in
set_option maxRecDepth 100000 in
theorem ctX4_commonPart (l : Launch) (dC : Nat → ClassId) (dI : Nat → Nat → Nat) (cI : ClassId) (sz : Nat) (i0 : Int32) (i1 : Int32) (hb6 : i1.toInt ≤ 6) : Met l yX4_commonPart wsX4_commonPart rmX4_commonPart (va_Pc [.int i0, .int i1] (cP dC dI [(cI, .int)] ([]) sz)) (QX4_commonPart dC dI (va_A ([]) sz) cI i0 i1) 0 0 (va_A ([]) sz) := by
  refine Met.ofW (cc := cX4_commonPart) (maxL := 3) (ret := (some .int)) (by decide) rfl ?_
  intro p e s m args below meth c s₁ B hml hv
  obtain ⟨rfl, hsz, hP, hK, hD0, hN⟩ := hv
  have hx := B.exec
  have hb := B.bytes
  have hr := B.returns
  have hts := atoms_spec (ws := wsX4_commonPart) B.pre
  have hown : s.vm.findClass RX4 = some m.cls := findClass_of_methodNamed B.named
  have hlocks := B.notSynchronized
  subst hsz
  have hD := hD0.self (sz := s.heap.size)
  generalize hAe : va_A ([]) s.heap.size = A at hD ⊢
  have hA : ∀ q : Nat, s.heap.size ≤ q → A q := fun q h => by rw [← hAe]; exact Or.inr h
  have hS : va_S A s.heap s.heap [] := va_S.rf
  have hP : va_P (dC, dI) vwCl ([]) s.heap := hP
  have hl := lv_entry ([.int i0, .int i1]) (n := 3) (Nat.le_of_ble_eq_true rfl)
  rw [lg_entry_eq]
  generalize (lg_sl ([.int i0, .int i1]) ++ List.replicate (3 - (lg_sl ([.int i0, .int i1])).length) Slot.unset).toArray = ls at hl ⊢
  have hl : lv_has ls 3 [(0, .int i0), (1, .int i1)] := hl
  have lp_2 : ∀ (n : Nat) (v2 : Int32) (H : Heap) (locs : List Loc) (ls : Array Slot), (dn v2 n) → va_P (dC, dI) vwCl ([]) H → va_D A ([]) → va_S A s.heap H locs → lv_has ls 3 [(2, .int v2), (0, .int i0), (1, .int i1)] → p4_commonPart i0 i1 = p4_commonPart_l2 i0 i1 n v2 → W p l e (headSpec wsX4_commonPart rmX4_commonPart).room s m [.int i0, .int i1].toArray below meth c H locs 0 0 (MQ below (QX4_commonPart dC dI A cI i0 i1) [.int i0, .int i1].toArray s 0 0 A) (F0 m 2 ls []) := by
    intro n
    induction n with
    | zero => intro v2 _ _ _ hu; exact absurd hu dn_no
    | succ n ih =>
      intro v2 H locs ls hu hP hD hS hl hE
      refine lv_iload_n hx hb dX4_commonPart_2 rfl (lv_at hl 0 rfl) ?_
      refine lv_iconst (v := 1) hx hb dX4_commonPart_3 (by decide) ?_
      refine lv_icmp_le (tgt := 27) hx hb dX4_commonPart_4 (by decide) (fun c_4 => ?_) (fun c_4 => ?_)
      · skip
        refine lv_iconst (v := 1) hx hb dX4_commonPart_27 (by decide) ?_
        have hE9 : p4_commonPart i0 i1 = 1 := hE.trans (by rw [p4_commonPart_l2_s, if_pos c_4])
        exact W.iret (v := 1) hx hb hr (fun t ht hW => ⟨⟨_, (), rfl, by rw [hE9], by show va_P (dC, dI) vwCl _ t.heap; rw [ht]; exact hP⟩, hS.F ht⟩) hS.2.2 dX4_commonPart_28
      · skip
        refine lv_iload_n hx hb dX4_commonPart_7 rfl (lv_at hl 1 rfl) ?_
        refine lv_iload_n hx hb dX4_commonPart_8 rfl (lv_at hl 0 rfl) ?_
        refine lv_irem hx hb dX4_commonPart_9 (dn_nz c_4) ?_
        refine lv_if_ne (tgt := 21) hx hb dX4_commonPart_10 (by decide) (fun c_10 => ?_) (fun c_10 => ?_)
        · skip
          refine lv_iinc (v := (v2 + (-1))) (lv' := [(2, .int (v2 + (-1))), (0, .int i0), (1, .int i1)]) hx hb dX4_commonPart_21 hl (k := 0) rfl rfl (by decide) rfl (fun ls hl => ?_)
          refine lv_goto (tgt := 2) hx hb dX4_commonPart_24 (by decide) ?_
          exact ih (v2 + (-1)) _ _ _ (dn_s hu c_4) hP hD hS (lv_sub hl [0, 1, 2] rfl) (hE.trans (by rw [p4_commonPart_l2_s, if_neg c_4, if_neg c_10]))
        · skip
          refine lv_iload_n hx hb dX4_commonPart_13 rfl (lv_at hl 2 rfl) ?_
          refine lv_iload_n hx hb dX4_commonPart_14 rfl (lv_at hl 0 rfl) ?_
          refine lv_irem hx hb dX4_commonPart_15 (dn_nz c_4) ?_
          refine lv_if_ne (tgt := 21) hx hb dX4_commonPart_16 (by decide) (fun c_16 => ?_) (fun c_16 => ?_)
          · skip
            refine lv_iinc (v := (v2 + (-1))) (lv' := [(2, .int (v2 + (-1))), (0, .int i0), (1, .int i1)]) hx hb dX4_commonPart_21 hl (k := 0) rfl rfl (by decide) rfl (fun ls hl => ?_)
            refine lv_goto (tgt := 2) hx hb dX4_commonPart_24 (by decide) ?_
            exact ih (v2 + (-1)) _ _ _ (dn_s hu c_4) hP hD hS (lv_sub hl [0, 1, 2] rfl) (hE.trans (by rw [p4_commonPart_l2_s, if_neg c_4, if_pos c_10, if_neg c_16]))
          · skip
            refine lv_iload_n hx hb dX4_commonPart_19 rfl (lv_at hl 0 rfl) ?_
            have hE9 : p4_commonPart i0 i1 = v2 := hE.trans (by rw [p4_commonPart_l2_s, if_neg c_4, if_pos c_10, if_pos c_16])
            exact W.iret (v := v2) hx hb hr (fun t ht hW => ⟨⟨_, (), rfl, by rw [hE9], by show va_P (dC, dI) vwCl _ t.heap; rw [ht]; exact hP⟩, hS.F ht⟩) hS.2.2 dX4_commonPart_20
  refine lv_iload_n hx hb dX4_commonPart_0 rfl (lv_at hl 1 rfl) ?_
  refine lv_istore_n (lv' := [(2, .int i1), (0, .int i0), (1, .int i1)]) hx hb dX4_commonPart_1 rfl hl (by decide) rfl (fun ls hl => ?_)
  exact lp_2 6 i1 _ _ _ ⟨by decide, hb6⟩ hP hD hS (lv_sub hl [0, 1, 2] rfl) (rfl)

def p4_leave (TR : Int32) (i1 : Int32) : Int32 :=
  ((31 * TR) + i1)
abbrev rmX4_leave : Room := { frames := 0, cells := 0, slots := 0, locals := 0 }
abbrev QX4_leave (dC : Nat → ClassId) (dI : Nat → Nat → Nat) (A : Nat → Prop) (cI : ClassId) (x0 : Nat) (t0 : Nat) (r0 : Nat) (y0 : Nat) (g0 : Nat) (w0 : Nat) (TR : Int32) (LF : Int32) (i1 : Int32) : Array Value → State → Outcome → State → Prop := va_Qv (fun (_ : Unit) => True) (fun (_ : Unit) (t : State) => va_P (dC, dI) vwCl ([(x0, .inr (4, [.ref t0, .ref r0, .ref y0, .ref g0, .ref w0, .int (p4_leave TR i1), .int LF]))]) t.heap) A
set_option maxHeartbeats 4000000 in
set_option maxRecDepth 100000 in
theorem ctX4_leave (l : Launch) (dC : Nat → ClassId) (dI : Nat → Nat → Nat) (cI : ClassId) (x0 : Nat) (t0 : Nat) (r0 : Nat) (y0 : Nat) (g0 : Nat) (w0 : Nat) (sz : Nat) (TR : Int32) (LF : Int32) (i1 : Int32) : Met l yX4_leave wsX4_leave rmX4_leave (va_Pc [.ref x0, .int i1] (cP dC dI [(cI, .int)] ([(x0, .inr (4, [.ref t0, .ref r0, .ref y0, .ref g0, .ref w0, .int TR, .int LF]))]) sz)) (QX4_leave dC dI (va_A ([(x0, .inr (4, [.ref t0, .ref r0, .ref y0, .ref g0, .ref w0, .int TR, .int LF]))]) sz) cI x0 t0 r0 y0 g0 w0 TR LF i1) 0 0 (va_A ([(x0, .inr (4, [.ref t0, .ref r0, .ref y0, .ref g0, .ref w0, .int TR, .int LF]))]) sz) := by
  refine Met.ofW (cc := cX4_leave) (maxL := 2) (ret := none) (by decide) rfl ?_
  intro p e s m args below meth c s₁ B hml hv
  obtain ⟨rfl, hsz, hP, hK, hD0, hN⟩ := hv
  have hx := B.exec
  have hb := B.bytes
  have hr := B.returns
  have hts := atoms_spec (ws := wsX4_leave) B.pre
  have hown : s.vm.findClass RX4 = some m.cls := findClass_of_methodNamed B.named
  have hlocks := B.notSynchronized
  subst hsz
  have hD := hD0.self (sz := s.heap.size)
  generalize hAe : va_A ([(x0, .inr (4, [.ref t0, .ref r0, .ref y0, .ref g0, .ref w0, .int TR, .int LF]))]) s.heap.size = A at hD ⊢
  have hA : ∀ q : Nat, s.heap.size ≤ q → A q := fun q h => by rw [← hAe]; exact Or.inr h
  have hS : va_S A s.heap s.heap [] := va_S.rf
  have hP : va_P (dC, dI) vwCl ([(x0, .inr (4, [.ref t0, .ref r0, .ref y0, .ref g0, .ref w0, .int TR, .int LF]))]) s.heap := hP
  have hin4 : ∀ w ∈ wsX40, w ∈ wsX4_leave := by decide +kernel
  have kf_197 := hts (.fieldLink RX4 197 "RicherChange" "traced" "I") (by decide +kernel)
  have hl := lv_entry ([.ref x0, .int i1]) (n := 2) (Nat.le_of_ble_eq_true rfl)
  rw [lg_entry_eq]
  generalize (lg_sl ([.ref x0, .int i1]) ++ List.replicate (2 - (lg_sl ([.ref x0, .int i1])).length) Slot.unset).toArray = ls at hl ⊢
  have hl : lv_has ls 2 [(0, .ref x0), (1, .int i1)] := hl
  refine lv_aload_n hx hb dX4_leave_0 rfl (lv_at hl 0 rfl) ?_
  refine lv_bipush (v := 31) hx hb dX4_leave_1 (by decide) ?_
  refine lv_aload_n hx hb dX4_leave_3 rfl (lv_at hl 0 rfl) ?_
  refine va_get (D := (dC, dI)) (ci := 4) (v := .int TR) (C := RX4) (T := TX4) (N := 7) hx hb hts hin4 hown hK hP 0 rfl rfl 5 (by decide) kf_197 (fun _ h9 => h9) rfl dX4_leave_4 ?_
  refine lv_imul hx hb dX4_leave_7 ?_
  refine lv_iload_n hx hb dX4_leave_8 rfl (lv_at hl 1 rfl) ?_
  refine lv_iadd hx hb dX4_leave_9 ?_
  refine va_put (D := (dC, dI)) (ci := 4) (v := .int ((31 * TR) + i1)) (ty := .int) (C := RX4) (T := TX4) (N := 7) hx hb hts hin4 tyX4 tyX4_ok nmX4 hown hK hP hD hS 0 rfl rfl 5 (by decide) kf_197 (fun _ h9 => h9) rfl (by decide +kernel) rfl rfl (Nat.le_of_ble_eq_true rfl) dX4_leave_10 (fun H locs hP hD hS => ?_)
  have hP : va_P (dC, dI) vwCl ([(x0, .inr (4, [.ref t0, .ref r0, .ref y0, .ref g0, .ref w0, .int ((31 * TR) + i1), .int LF]))]) H := hP
  have hD : va_D A ([(x0, .inr (4, [.ref t0, .ref r0, .ref y0, .ref g0, .ref w0, .int ((31 * TR) + i1), .int LF]))]) := hD
  have hE9 : p4_leave TR i1 = ((31 * TR) + i1) := rfl
  exact W.vret hx hb hr (fun t ht hW => ⟨⟨(), rfl, trivial, by show va_P (dC, dI) vwCl _ t.heap; rw [ht, hE9]; exact hP⟩, hS.F ht⟩) hS.2.2 dX4_leave_13

def p4_houseTelling (TR : Int32) (L : Nat → Int32) (i1 : Int32) : Int32 × Int32 :=
  ((L i1.toNatClampNeg), (p4_leave TR 1))
abbrev rmX4_houseTelling : Room := { frames := 1, cells := 0, slots := 0, locals := 21 }
abbrev QX4_houseTelling (dC : Nat → ClassId) (dI : Nat → Nat → Nat) (A : Nat → Prop) (cI : ClassId) (x0 : Nat) (t0 : Nat) (r0 : Nat) (y0 : Nat) (g0 : Nat) (w0 : Nat) (tk : Nat) (tl : Nat) (tc : Nat) (TR : Int32) (LF : Int32) (N : Int32) (K : Nat → Int32) (L : Nat → Int32) (C : Nat → Int32) (i1 : Int32) : Array Value → State → Outcome → State → Prop := va_Qi (fun (r : Int32) (_ : Unit) => r = (p4_houseTelling TR L i1).1) (fun (_ : Unit) (t : State) => va_P (dC, dI) vwCl ([(x0, .inr (4, [.ref t0, .ref r0, .ref y0, .ref g0, .ref w0, .int ((p4_houseTelling TR L i1).2), .int LF])), (t0, .inr (0, [.ref tk, .ref tl, .ref tc, .int N])), (tk, .inl (cI, 6, .inl K)), (tl, .inl (cI, 6, .inl L)), (tc, .inl (cI, 6, .inl C))]) t.heap) A
set_option maxHeartbeats 4000000 in
set_option maxRecDepth 100000 in
theorem ctX4_houseTelling (l : Launch) (dC : Nat → ClassId) (dI : Nat → Nat → Nat) (cI : ClassId) (x0 : Nat) (t0 : Nat) (r0 : Nat) (y0 : Nat) (g0 : Nat) (w0 : Nat) (tk : Nat) (tl : Nat) (tc : Nat) (sz : Nat) (TR : Int32) (LF : Int32) (N : Int32) (K : Nat → Int32) (L : Nat → Int32) (C : Nat → Int32) (i1 : Int32) (hi1 : vp_in i1 6) : Met l yX4_houseTelling wsX4_houseTelling rmX4_houseTelling (va_Pc [.ref x0, .int i1] (cP dC dI [(cI, .int)] ([(x0, .inr (4, [.ref t0, .ref r0, .ref y0, .ref g0, .ref w0, .int TR, .int LF])), (t0, .inr (0, [.ref tk, .ref tl, .ref tc, .int N])), (tk, .inl (cI, 6, .inl K)), (tl, .inl (cI, 6, .inl L)), (tc, .inl (cI, 6, .inl C))]) sz)) (QX4_houseTelling dC dI (va_A ([(x0, .inr (4, [.ref t0, .ref r0, .ref y0, .ref g0, .ref w0, .int TR, .int LF])), (t0, .inr (0, [.ref tk, .ref tl, .ref tc, .int N])), (tk, .inl (cI, 6, .inl K)), (tl, .inl (cI, 6, .inl L)), (tc, .inl (cI, 6, .inl C))]) sz) cI x0 t0 r0 y0 g0 w0 tk tl tc TR LF N K L C i1) 0 0 (va_A ([(x0, .inr (4, [.ref t0, .ref r0, .ref y0, .ref g0, .ref w0, .int TR, .int LF])), (t0, .inr (0, [.ref tk, .ref tl, .ref tc, .int N])), (tk, .inl (cI, 6, .inl K)), (tl, .inl (cI, 6, .inl L)), (tc, .inl (cI, 6, .inl C))]) sz) := by
  refine Met.ofW (cc := cX4_houseTelling) (maxL := 2) (ret := (some .int)) (by decide) rfl ?_
  intro p e s m args below meth c s₁ B hml hv
  obtain ⟨rfl, hsz, hP, hK, hD0, hN⟩ := hv
  have hx := B.exec
  have hb := B.bytes
  have hr := B.returns
  have hts := atoms_spec (ws := wsX4_houseTelling) B.pre
  have hown : s.vm.findClass RX4 = some m.cls := findClass_of_methodNamed B.named
  have hlocks := B.notSynchronized
  subst hsz
  have hD := hD0.self (sz := s.heap.size)
  generalize hAe : va_A ([(x0, .inr (4, [.ref t0, .ref r0, .ref y0, .ref g0, .ref w0, .int TR, .int LF])), (t0, .inr (0, [.ref tk, .ref tl, .ref tc, .int N])), (tk, .inl (cI, 6, .inl K)), (tl, .inl (cI, 6, .inl L)), (tc, .inl (cI, 6, .inl C))]) s.heap.size = A at hD ⊢
  have hA : ∀ q : Nat, s.heap.size ≤ q → A q := fun q h => by rw [← hAe]; exact Or.inr h
  have hS : va_S A s.heap s.heap [] := va_S.rf
  have hP : va_P (dC, dI) vwCl ([(x0, .inr (4, [.ref t0, .ref r0, .ref y0, .ref g0, .ref w0, .int TR, .int LF])), (t0, .inr (0, [.ref tk, .ref tl, .ref tc, .int N])), (tk, .inl (cI, 6, .inl K)), (tl, .inl (cI, 6, .inl L)), (tc, .inl (cI, 6, .inl C))]) s.heap := hP
  have hin0 : ∀ w ∈ wsX00, w ∈ wsX4_houseTelling := by decide +kernel
  have hin4 : ∀ w ∈ wsX40, w ∈ wsX4_houseTelling := by decide +kernel
  have kf_12 := hts (.fieldLink RX4 12 "RicherChange" "town" "LRicherChange$City;") (by decide +kernel)
  have hn_82 := va_Nw.use (A := [.ref x0, .int i1].toArray) rfl hN.2.1
  have hl := lv_entry ([.ref x0, .int i1]) (n := 2) (Nat.le_of_ble_eq_true rfl)
  rw [lg_entry_eq]
  generalize (lg_sl ([.ref x0, .int i1]) ++ List.replicate (2 - (lg_sl ([.ref x0, .int i1])).length) Slot.unset).toArray = ls at hl ⊢
  have hl : lv_has ls 2 [(0, .ref x0), (1, .int i1)] := hl
  refine lv_aload_n hx hb dX4_houseTelling_0 rfl (lv_at hl 0 rfl) ?_
  refine lv_iconst (v := 1) hx hb dX4_houseTelling_1 (by decide) ?_
  have hPc := hP.sub (ws' := [(x0, .inr (4, [.ref t0, .ref r0, .ref y0, .ref g0, .ref w0, .int TR, .int LF]))]) [0] rfl
  have hDc := hD.sub (ws' := [(x0, .inr (4, [.ref t0, .ref r0, .ref y0, .ref g0, .ref w0, .int TR, .int LF]))]) [0] (by decide) rfl
  have hKc := hK.sub (tys' := [(cI, .int)]) [0] rfl
  have hFc := va_free (wc := [(x0, .inr (4, [.ref t0, .ref r0, .ref y0, .ref g0, .ref w0, .int TR, .int LF]))]) hD hS hA [0] rfl
  refine va_callv (va_runV (As := [.int 1]) (rest := []) ⟨hx, hb, hml, hown, hts⟩ (ctX4_leave l dC dI cI x0 t0 r0 y0 g0 w0 s.heap.size TR LF 1) (cwV 1 hts gX4_houseTelling_X4_leave rfl rfl rfl (by decide +kernel) ⟨Nat.le_of_ble_eq_true rfl, Nat.le_of_ble_eq_true rfl⟩) (pre_V hKc hN hPc hDc (RX4, TX4, 7) 4 0 rfl rfl) rfl rfl hl.1 rfl (lv_room (Nat.le_of_ble_eq_true rfl)) dX4_houseTelling_2 ⟨Nat.le_of_ble_eq_true rfl, Nat.le_of_ble_eq_true rfl⟩) hS (fun q _ h => hFc q h) hFc (fun _ t H locs ht hvm hw hB hz1 hk1 hS => ?_)
  rw [ht] at hB
  refine nm_gen ((p4_leave TR 1)) (fun TR_2 eTR_2 => ?_)
  rw [eTR_2] at hB
  obtain ⟨hP, hD⟩ := rw_join ([(x0, .inr (4, [.ref t0, .ref r0, .ref y0, .ref g0, .ref w0, .int TR, .int LF])), (t0, .inr (0, [.ref tk, .ref tl, .ref tc, .int N])), (tk, .inl (cI, 6, .inl K)), (tl, .inl (cI, 6, .inl L)), (tc, .inl (cI, 6, .inl C))]) ([(x0, .inr (4, [.ref t0, .ref r0, .ref y0, .ref g0, .ref w0, .int TR_2, .int LF])), (t0, .inr (0, [.ref tk, .ref tl, .ref tc, .int N])), (tk, .inl (cI, 6, .inl K)), (tl, .inl (cI, 6, .inl L)), (tc, .inl (cI, 6, .inl C))]) ([(x0, .inr (4, [.ref t0, .ref r0, .ref y0, .ref g0, .ref w0, .int TR, .int LF]))]) ([(x0, .inr (4, [.ref t0, .ref r0, .ref y0, .ref g0, .ref w0, .int TR_2, .int LF]))]) ([(t0, .inr (0, [.ref tk, .ref tl, .ref tc, .int N])), (tk, .inl (cI, 6, .inl K)), (tl, .inl (cI, 6, .inl L)), (tc, .inl (cI, 6, .inl C))]) hP hD [0] [1, 2, 3, 4] [x0, t0, tk, tl, tc] 5 rfl rfl rfl rfl rfl (by decide) rfl rfl hk1 hB
  refine lv_aload_n hx hb dX4_houseTelling_5 rfl (lv_at hl 0 rfl) ?_
  refine va_get (D := (dC, dI)) (ci := 4) (v := .ref t0) (C := RX4) (T := TX4) (N := 7) hx hb hts hin4 hown hK hP 0 rfl rfl 0 (by decide) kf_12 (fun _ h9 => h9) rfl dX4_houseTelling_6 ?_
  refine va_getN (D := (dC, dI)) (ci := 0) (v := .ref tl) (C := RX0) (T := TX0) (N := 4) hx hb hts hin0 hown hK hP 1 rfl rfl 1 (by decide) hn_82 (fun _ h9 => h9) rfl dX4_houseTelling_9 ?_
  refine lv_iload_n hx hb dX4_houseTelling_12 rfl (lv_at hl 1 rfl) ?_
  refine va_iald hx hb hK hP 3 0 rfl rfl (by assumption) dX4_houseTelling_13 ?_
  have hE9 : p4_houseTelling TR L i1 = ((L i1.toNatClampNeg), TR_2) := by unfold p4_houseTelling; simp only [eTR_2]
  exact W.iret (v := (L i1.toNatClampNeg)) hx hb hr (fun t ht hW => ⟨⟨_, (), rfl, by rw [hE9], by show va_P (dC, dI) vwCl _ t.heap; rw [ht, hE9]; exact hP⟩, hS.F ht⟩) hS.2.2 dX4_houseTelling_14

def p4_kinTelling (TR : Int32) (L : Nat → Int32) (i1 : Int32) : Int32 × Int32 :=
  ((((p4_houseTelling (p4_leave TR 2) L i1).1) + 100), ((p4_houseTelling (p4_leave TR 2) L i1).2))
abbrev rmX4_kinTelling : Room := { frames := 2, cells := 0, slots := 0, locals := 42 }
abbrev QX4_kinTelling (dC : Nat → ClassId) (dI : Nat → Nat → Nat) (A : Nat → Prop) (cI : ClassId) (x0 : Nat) (t0 : Nat) (r0 : Nat) (y0 : Nat) (g0 : Nat) (w0 : Nat) (tk : Nat) (tl : Nat) (tc : Nat) (TR : Int32) (LF : Int32) (N : Int32) (K : Nat → Int32) (L : Nat → Int32) (C : Nat → Int32) (i1 : Int32) : Array Value → State → Outcome → State → Prop := va_Qi (fun (r : Int32) (_ : Unit) => r = (p4_kinTelling TR L i1).1) (fun (_ : Unit) (t : State) => va_P (dC, dI) vwCl ([(x0, .inr (4, [.ref t0, .ref r0, .ref y0, .ref g0, .ref w0, .int ((p4_kinTelling TR L i1).2), .int LF])), (t0, .inr (0, [.ref tk, .ref tl, .ref tc, .int N])), (tk, .inl (cI, 6, .inl K)), (tl, .inl (cI, 6, .inl L)), (tc, .inl (cI, 6, .inl C))]) t.heap) A
set_option maxHeartbeats 4000000 in
set_option maxRecDepth 100000 in
theorem ctX4_kinTelling (l : Launch) (dC : Nat → ClassId) (dI : Nat → Nat → Nat) (cI : ClassId) (x0 : Nat) (t0 : Nat) (r0 : Nat) (y0 : Nat) (g0 : Nat) (w0 : Nat) (tk : Nat) (tl : Nat) (tc : Nat) (sz : Nat) (TR : Int32) (LF : Int32) (N : Int32) (K : Nat → Int32) (L : Nat → Int32) (C : Nat → Int32) (i1 : Int32) (hi1 : vp_in i1 6) : Met l yX4_kinTelling wsX4_kinTelling rmX4_kinTelling (va_Pc [.ref x0, .int i1] (cP dC dI [(cI, .int)] ([(x0, .inr (4, [.ref t0, .ref r0, .ref y0, .ref g0, .ref w0, .int TR, .int LF])), (t0, .inr (0, [.ref tk, .ref tl, .ref tc, .int N])), (tk, .inl (cI, 6, .inl K)), (tl, .inl (cI, 6, .inl L)), (tc, .inl (cI, 6, .inl C))]) sz)) (QX4_kinTelling dC dI (va_A ([(x0, .inr (4, [.ref t0, .ref r0, .ref y0, .ref g0, .ref w0, .int TR, .int LF])), (t0, .inr (0, [.ref tk, .ref tl, .ref tc, .int N])), (tk, .inl (cI, 6, .inl K)), (tl, .inl (cI, 6, .inl L)), (tc, .inl (cI, 6, .inl C))]) sz) cI x0 t0 r0 y0 g0 w0 tk tl tc TR LF N K L C i1) 0 0 (va_A ([(x0, .inr (4, [.ref t0, .ref r0, .ref y0, .ref g0, .ref w0, .int TR, .int LF])), (t0, .inr (0, [.ref tk, .ref tl, .ref tc, .int N])), (tk, .inl (cI, 6, .inl K)), (tl, .inl (cI, 6, .inl L)), (tc, .inl (cI, 6, .inl C))]) sz) := by
  refine Met.ofW (cc := cX4_kinTelling) (maxL := 2) (ret := (some .int)) (by decide) rfl ?_
  intro p e s m args below meth c s₁ B hml hv
  obtain ⟨rfl, hsz, hP, hK, hD0, hN⟩ := hv
  have hx := B.exec
  have hb := B.bytes
  have hr := B.returns
  have hts := atoms_spec (ws := wsX4_kinTelling) B.pre
  have hown : s.vm.findClass RX4 = some m.cls := findClass_of_methodNamed B.named
  have hlocks := B.notSynchronized
  subst hsz
  have hD := hD0.self (sz := s.heap.size)
  generalize hAe : va_A ([(x0, .inr (4, [.ref t0, .ref r0, .ref y0, .ref g0, .ref w0, .int TR, .int LF])), (t0, .inr (0, [.ref tk, .ref tl, .ref tc, .int N])), (tk, .inl (cI, 6, .inl K)), (tl, .inl (cI, 6, .inl L)), (tc, .inl (cI, 6, .inl C))]) s.heap.size = A at hD ⊢
  have hA : ∀ q : Nat, s.heap.size ≤ q → A q := fun q h => by rw [← hAe]; exact Or.inr h
  have hS : va_S A s.heap s.heap [] := va_S.rf
  have hP : va_P (dC, dI) vwCl ([(x0, .inr (4, [.ref t0, .ref r0, .ref y0, .ref g0, .ref w0, .int TR, .int LF])), (t0, .inr (0, [.ref tk, .ref tl, .ref tc, .int N])), (tk, .inl (cI, 6, .inl K)), (tl, .inl (cI, 6, .inl L)), (tc, .inl (cI, 6, .inl C))]) s.heap := hP
  have hl := lv_entry ([.ref x0, .int i1]) (n := 2) (Nat.le_of_ble_eq_true rfl)
  rw [lg_entry_eq]
  generalize (lg_sl ([.ref x0, .int i1]) ++ List.replicate (2 - (lg_sl ([.ref x0, .int i1])).length) Slot.unset).toArray = ls at hl ⊢
  have hl : lv_has ls 2 [(0, .ref x0), (1, .int i1)] := hl
  refine lv_aload_n hx hb dX4_kinTelling_0 rfl (lv_at hl 0 rfl) ?_
  refine lv_iconst (v := 2) hx hb dX4_kinTelling_1 (by decide) ?_
  have hPc := hP.sub (ws' := [(x0, .inr (4, [.ref t0, .ref r0, .ref y0, .ref g0, .ref w0, .int TR, .int LF]))]) [0] rfl
  have hDc := hD.sub (ws' := [(x0, .inr (4, [.ref t0, .ref r0, .ref y0, .ref g0, .ref w0, .int TR, .int LF]))]) [0] (by decide) rfl
  have hKc := hK.sub (tys' := [(cI, .int)]) [0] rfl
  have hFc := va_free (wc := [(x0, .inr (4, [.ref t0, .ref r0, .ref y0, .ref g0, .ref w0, .int TR, .int LF]))]) hD hS hA [0] rfl
  refine va_callv (va_runV (As := [.int 2]) (rest := []) ⟨hx, hb, hml, hown, hts⟩ (ctX4_leave l dC dI cI x0 t0 r0 y0 g0 w0 s.heap.size TR LF 2) (cwV 1 hts gX4_kinTelling_X4_leave rfl rfl rfl (by decide +kernel) ⟨Nat.le_of_ble_eq_true rfl, Nat.le_of_ble_eq_true rfl⟩) (pre_V hKc hN hPc hDc (RX4, TX4, 7) 4 0 rfl rfl) rfl rfl hl.1 rfl (lv_room (Nat.le_of_ble_eq_true rfl)) dX4_kinTelling_2 ⟨Nat.le_of_ble_eq_true rfl, Nat.le_of_ble_eq_true rfl⟩) hS (fun q _ h => hFc q h) hFc (fun _ t H locs ht hvm hw hB hz1 hk1 hS => ?_)
  rw [ht] at hB
  refine nm_gen ((p4_leave TR 2)) (fun TR_2 eTR_2 => ?_)
  rw [eTR_2] at hB
  obtain ⟨hP, hD⟩ := rw_join ([(x0, .inr (4, [.ref t0, .ref r0, .ref y0, .ref g0, .ref w0, .int TR, .int LF])), (t0, .inr (0, [.ref tk, .ref tl, .ref tc, .int N])), (tk, .inl (cI, 6, .inl K)), (tl, .inl (cI, 6, .inl L)), (tc, .inl (cI, 6, .inl C))]) ([(x0, .inr (4, [.ref t0, .ref r0, .ref y0, .ref g0, .ref w0, .int TR_2, .int LF])), (t0, .inr (0, [.ref tk, .ref tl, .ref tc, .int N])), (tk, .inl (cI, 6, .inl K)), (tl, .inl (cI, 6, .inl L)), (tc, .inl (cI, 6, .inl C))]) ([(x0, .inr (4, [.ref t0, .ref r0, .ref y0, .ref g0, .ref w0, .int TR, .int LF]))]) ([(x0, .inr (4, [.ref t0, .ref r0, .ref y0, .ref g0, .ref w0, .int TR_2, .int LF]))]) ([(t0, .inr (0, [.ref tk, .ref tl, .ref tc, .int N])), (tk, .inl (cI, 6, .inl K)), (tl, .inl (cI, 6, .inl L)), (tc, .inl (cI, 6, .inl C))]) hP hD [0] [1, 2, 3, 4] [x0, t0, tk, tl, tc] 5 rfl rfl rfl rfl rfl (by decide) rfl rfl hk1 hB
  refine lv_aload_n hx hb dX4_kinTelling_5 rfl (lv_at hl 0 rfl) ?_
  refine lv_iload_n hx hb dX4_kinTelling_6 rfl (lv_at hl 1 rfl) ?_
  have hPc := hP.sub (ws' := [(x0, .inr (4, [.ref t0, .ref r0, .ref y0, .ref g0, .ref w0, .int TR_2, .int LF])), (t0, .inr (0, [.ref tk, .ref tl, .ref tc, .int N])), (tk, .inl (cI, 6, .inl K)), (tl, .inl (cI, 6, .inl L)), (tc, .inl (cI, 6, .inl C))]) [0, 1, 2, 3, 4] rfl
  have hDc := hD.sub (ws' := [(x0, .inr (4, [.ref t0, .ref r0, .ref y0, .ref g0, .ref w0, .int TR_2, .int LF])), (t0, .inr (0, [.ref tk, .ref tl, .ref tc, .int N])), (tk, .inl (cI, 6, .inl K)), (tl, .inl (cI, 6, .inl L)), (tc, .inl (cI, 6, .inl C))]) [0, 1, 2, 3, 4] (by decide) rfl
  have hKc := hK.sub (tys' := [(cI, .int)]) [0] rfl
  have hFc := va_free (wc := [(x0, .inr (4, [.ref t0, .ref r0, .ref y0, .ref g0, .ref w0, .int TR_2, .int LF])), (t0, .inr (0, [.ref tk, .ref tl, .ref tc, .int N])), (tk, .inl (cI, 6, .inl K)), (tl, .inl (cI, 6, .inl L)), (tc, .inl (cI, 6, .inl C))]) hD hS hA [0, 1, 2, 3, 4] rfl
  refine va_calli (va_runV (As := [.int i1]) (rest := []) ⟨hx, hb, hml, hown, hts⟩ (ctX4_houseTelling l dC dI cI x0 t0 r0 y0 g0 w0 tk tl tc H.size TR_2 LF N K L C i1 (by assumption)) (cwV 1 hts gX4_kinTelling_X4_houseTelling rfl rfl rfl (by decide +kernel) ⟨Nat.le_of_ble_eq_true rfl, Nat.le_of_ble_eq_true rfl⟩) (pre_V hKc hN hPc hDc (RX4, TX4, 7) 4 0 rfl rfl) rfl rfl hl.1 rfl (lv_room (Nat.le_of_ble_eq_true rfl)) dX4_kinTelling_7 ⟨Nat.le_of_ble_eq_true rfl, Nat.le_of_ble_eq_true rfl⟩) hS (fun q _ h => hFc q h) hFc (fun r_7 _ t H locs ht hvm hw hB hz1 hk1 hS => ?_)
  try dsimp only at hw
  have er_7 := hw.symm
  rw [ht] at hB
  refine nm_gen ((p4_houseTelling TR_2 L i1).2) (fun TR_7 eTR_7 => ?_)
  rw [eTR_7] at hB
  obtain ⟨hP, hD⟩ := rw_join ([(x0, .inr (4, [.ref t0, .ref r0, .ref y0, .ref g0, .ref w0, .int TR_2, .int LF])), (t0, .inr (0, [.ref tk, .ref tl, .ref tc, .int N])), (tk, .inl (cI, 6, .inl K)), (tl, .inl (cI, 6, .inl L)), (tc, .inl (cI, 6, .inl C))]) ([(x0, .inr (4, [.ref t0, .ref r0, .ref y0, .ref g0, .ref w0, .int TR_7, .int LF])), (t0, .inr (0, [.ref tk, .ref tl, .ref tc, .int N])), (tk, .inl (cI, 6, .inl K)), (tl, .inl (cI, 6, .inl L)), (tc, .inl (cI, 6, .inl C))]) ([(x0, .inr (4, [.ref t0, .ref r0, .ref y0, .ref g0, .ref w0, .int TR_2, .int LF])), (t0, .inr (0, [.ref tk, .ref tl, .ref tc, .int N])), (tk, .inl (cI, 6, .inl K)), (tl, .inl (cI, 6, .inl L)), (tc, .inl (cI, 6, .inl C))]) ([(x0, .inr (4, [.ref t0, .ref r0, .ref y0, .ref g0, .ref w0, .int TR_7, .int LF])), (t0, .inr (0, [.ref tk, .ref tl, .ref tc, .int N])), (tk, .inl (cI, 6, .inl K)), (tl, .inl (cI, 6, .inl L)), (tc, .inl (cI, 6, .inl C))]) ([]) hP hD [0, 1, 2, 3, 4] [] [x0, t0, tk, tl, tc] 5 rfl rfl rfl rfl rfl (by decide) rfl rfl hk1 hB
  refine lv_bipush (v := 100) hx hb dX4_kinTelling_10 (by decide) ?_
  refine lv_iadd hx hb dX4_kinTelling_12 ?_
  have hE9 : p4_kinTelling TR L i1 = ((r_7 + 100), TR_7) := by unfold p4_kinTelling; simp only [eTR_2, er_7, eTR_7]
  exact W.iret (v := (r_7 + 100)) hx hb hr (fun t ht hW => ⟨⟨_, (), rfl, by rw [hE9], by show va_P (dC, dI) vwCl _ t.heap; rw [ht, hE9]; exact hP⟩, hS.F ht⟩) hS.2.2 dX4_kinTelling_13

def p4_templeTelling (TR : Int32) (L : Nat → Int32) (i1 : Int32) : Int32 × Int32 :=
  ((((p4_kinTelling (p4_leave TR 3) L i1).1) + ((p4_houseTelling ((p4_kinTelling (p4_leave TR 3) L i1).2) L i1).1)), ((p4_houseTelling ((p4_kinTelling (p4_leave TR 3) L i1).2) L i1).2))
abbrev rmX4_templeTelling : Room := { frames := 3, cells := 0, slots := 0, locals := 63 }
abbrev QX4_templeTelling (dC : Nat → ClassId) (dI : Nat → Nat → Nat) (A : Nat → Prop) (cI : ClassId) (x0 : Nat) (t0 : Nat) (r0 : Nat) (y0 : Nat) (g0 : Nat) (w0 : Nat) (tk : Nat) (tl : Nat) (tc : Nat) (TR : Int32) (LF : Int32) (N : Int32) (K : Nat → Int32) (L : Nat → Int32) (C : Nat → Int32) (i1 : Int32) : Array Value → State → Outcome → State → Prop := va_Qi (fun (r : Int32) (_ : Unit) => r = (p4_templeTelling TR L i1).1) (fun (_ : Unit) (t : State) => va_P (dC, dI) vwCl ([(x0, .inr (4, [.ref t0, .ref r0, .ref y0, .ref g0, .ref w0, .int ((p4_templeTelling TR L i1).2), .int LF])), (t0, .inr (0, [.ref tk, .ref tl, .ref tc, .int N])), (tk, .inl (cI, 6, .inl K)), (tl, .inl (cI, 6, .inl L)), (tc, .inl (cI, 6, .inl C))]) t.heap) A
set_option maxHeartbeats 4000000 in
set_option maxRecDepth 100000 in
theorem ctX4_templeTelling (l : Launch) (dC : Nat → ClassId) (dI : Nat → Nat → Nat) (cI : ClassId) (x0 : Nat) (t0 : Nat) (r0 : Nat) (y0 : Nat) (g0 : Nat) (w0 : Nat) (tk : Nat) (tl : Nat) (tc : Nat) (sz : Nat) (TR : Int32) (LF : Int32) (N : Int32) (K : Nat → Int32) (L : Nat → Int32) (C : Nat → Int32) (i1 : Int32) (hi1 : vp_in i1 6) : Met l yX4_templeTelling wsX4_templeTelling rmX4_templeTelling (va_Pc [.ref x0, .int i1] (cP dC dI [(cI, .int)] ([(x0, .inr (4, [.ref t0, .ref r0, .ref y0, .ref g0, .ref w0, .int TR, .int LF])), (t0, .inr (0, [.ref tk, .ref tl, .ref tc, .int N])), (tk, .inl (cI, 6, .inl K)), (tl, .inl (cI, 6, .inl L)), (tc, .inl (cI, 6, .inl C))]) sz)) (QX4_templeTelling dC dI (va_A ([(x0, .inr (4, [.ref t0, .ref r0, .ref y0, .ref g0, .ref w0, .int TR, .int LF])), (t0, .inr (0, [.ref tk, .ref tl, .ref tc, .int N])), (tk, .inl (cI, 6, .inl K)), (tl, .inl (cI, 6, .inl L)), (tc, .inl (cI, 6, .inl C))]) sz) cI x0 t0 r0 y0 g0 w0 tk tl tc TR LF N K L C i1) 0 0 (va_A ([(x0, .inr (4, [.ref t0, .ref r0, .ref y0, .ref g0, .ref w0, .int TR, .int LF])), (t0, .inr (0, [.ref tk, .ref tl, .ref tc, .int N])), (tk, .inl (cI, 6, .inl K)), (tl, .inl (cI, 6, .inl L)), (tc, .inl (cI, 6, .inl C))]) sz) := by
  refine Met.ofW (cc := cX4_templeTelling) (maxL := 3) (ret := (some .int)) (by decide) rfl ?_
  intro p e s m args below meth c s₁ B hml hv
  obtain ⟨rfl, hsz, hP, hK, hD0, hN⟩ := hv
  have hx := B.exec
  have hb := B.bytes
  have hr := B.returns
  have hts := atoms_spec (ws := wsX4_templeTelling) B.pre
  have hown : s.vm.findClass RX4 = some m.cls := findClass_of_methodNamed B.named
  have hlocks := B.notSynchronized
  subst hsz
  have hD := hD0.self (sz := s.heap.size)
  generalize hAe : va_A ([(x0, .inr (4, [.ref t0, .ref r0, .ref y0, .ref g0, .ref w0, .int TR, .int LF])), (t0, .inr (0, [.ref tk, .ref tl, .ref tc, .int N])), (tk, .inl (cI, 6, .inl K)), (tl, .inl (cI, 6, .inl L)), (tc, .inl (cI, 6, .inl C))]) s.heap.size = A at hD ⊢
  have hA : ∀ q : Nat, s.heap.size ≤ q → A q := fun q h => by rw [← hAe]; exact Or.inr h
  have hS : va_S A s.heap s.heap [] := va_S.rf
  have hP : va_P (dC, dI) vwCl ([(x0, .inr (4, [.ref t0, .ref r0, .ref y0, .ref g0, .ref w0, .int TR, .int LF])), (t0, .inr (0, [.ref tk, .ref tl, .ref tc, .int N])), (tk, .inl (cI, 6, .inl K)), (tl, .inl (cI, 6, .inl L)), (tc, .inl (cI, 6, .inl C))]) s.heap := hP
  have hl := lv_entry ([.ref x0, .int i1]) (n := 3) (Nat.le_of_ble_eq_true rfl)
  rw [lg_entry_eq]
  generalize (lg_sl ([.ref x0, .int i1]) ++ List.replicate (3 - (lg_sl ([.ref x0, .int i1])).length) Slot.unset).toArray = ls at hl ⊢
  have hl : lv_has ls 3 [(0, .ref x0), (1, .int i1)] := hl
  refine lv_aload_n hx hb dX4_templeTelling_0 rfl (lv_at hl 0 rfl) ?_
  refine lv_iconst (v := 3) hx hb dX4_templeTelling_1 (by decide) ?_
  have hPc := hP.sub (ws' := [(x0, .inr (4, [.ref t0, .ref r0, .ref y0, .ref g0, .ref w0, .int TR, .int LF]))]) [0] rfl
  have hDc := hD.sub (ws' := [(x0, .inr (4, [.ref t0, .ref r0, .ref y0, .ref g0, .ref w0, .int TR, .int LF]))]) [0] (by decide) rfl
  have hKc := hK.sub (tys' := [(cI, .int)]) [0] rfl
  have hFc := va_free (wc := [(x0, .inr (4, [.ref t0, .ref r0, .ref y0, .ref g0, .ref w0, .int TR, .int LF]))]) hD hS hA [0] rfl
  refine va_callv (va_runV (As := [.int 3]) (rest := []) ⟨hx, hb, hml, hown, hts⟩ (ctX4_leave l dC dI cI x0 t0 r0 y0 g0 w0 s.heap.size TR LF 3) (cwV 1 hts gX4_templeTelling_X4_leave rfl rfl rfl (by decide +kernel) ⟨Nat.le_of_ble_eq_true rfl, Nat.le_of_ble_eq_true rfl⟩) (pre_V hKc hN hPc hDc (RX4, TX4, 7) 4 0 rfl rfl) rfl rfl hl.1 rfl (lv_room (Nat.le_of_ble_eq_true rfl)) dX4_templeTelling_2 ⟨Nat.le_of_ble_eq_true rfl, Nat.le_of_ble_eq_true rfl⟩) hS (fun q _ h => hFc q h) hFc (fun _ t H locs ht hvm hw hB hz1 hk1 hS => ?_)
  rw [ht] at hB
  refine nm_gen ((p4_leave TR 3)) (fun TR_2 eTR_2 => ?_)
  rw [eTR_2] at hB
  obtain ⟨hP, hD⟩ := rw_join ([(x0, .inr (4, [.ref t0, .ref r0, .ref y0, .ref g0, .ref w0, .int TR, .int LF])), (t0, .inr (0, [.ref tk, .ref tl, .ref tc, .int N])), (tk, .inl (cI, 6, .inl K)), (tl, .inl (cI, 6, .inl L)), (tc, .inl (cI, 6, .inl C))]) ([(x0, .inr (4, [.ref t0, .ref r0, .ref y0, .ref g0, .ref w0, .int TR_2, .int LF])), (t0, .inr (0, [.ref tk, .ref tl, .ref tc, .int N])), (tk, .inl (cI, 6, .inl K)), (tl, .inl (cI, 6, .inl L)), (tc, .inl (cI, 6, .inl C))]) ([(x0, .inr (4, [.ref t0, .ref r0, .ref y0, .ref g0, .ref w0, .int TR, .int LF]))]) ([(x0, .inr (4, [.ref t0, .ref r0, .ref y0, .ref g0, .ref w0, .int TR_2, .int LF]))]) ([(t0, .inr (0, [.ref tk, .ref tl, .ref tc, .int N])), (tk, .inl (cI, 6, .inl K)), (tl, .inl (cI, 6, .inl L)), (tc, .inl (cI, 6, .inl C))]) hP hD [0] [1, 2, 3, 4] [x0, t0, tk, tl, tc] 5 rfl rfl rfl rfl rfl (by decide) rfl rfl hk1 hB
  refine lv_aload_n hx hb dX4_templeTelling_5 rfl (lv_at hl 0 rfl) ?_
  refine lv_iload_n hx hb dX4_templeTelling_6 rfl (lv_at hl 1 rfl) ?_
  have hPc := hP.sub (ws' := [(x0, .inr (4, [.ref t0, .ref r0, .ref y0, .ref g0, .ref w0, .int TR_2, .int LF])), (t0, .inr (0, [.ref tk, .ref tl, .ref tc, .int N])), (tk, .inl (cI, 6, .inl K)), (tl, .inl (cI, 6, .inl L)), (tc, .inl (cI, 6, .inl C))]) [0, 1, 2, 3, 4] rfl
  have hDc := hD.sub (ws' := [(x0, .inr (4, [.ref t0, .ref r0, .ref y0, .ref g0, .ref w0, .int TR_2, .int LF])), (t0, .inr (0, [.ref tk, .ref tl, .ref tc, .int N])), (tk, .inl (cI, 6, .inl K)), (tl, .inl (cI, 6, .inl L)), (tc, .inl (cI, 6, .inl C))]) [0, 1, 2, 3, 4] (by decide) rfl
  have hKc := hK.sub (tys' := [(cI, .int)]) [0] rfl
  have hFc := va_free (wc := [(x0, .inr (4, [.ref t0, .ref r0, .ref y0, .ref g0, .ref w0, .int TR_2, .int LF])), (t0, .inr (0, [.ref tk, .ref tl, .ref tc, .int N])), (tk, .inl (cI, 6, .inl K)), (tl, .inl (cI, 6, .inl L)), (tc, .inl (cI, 6, .inl C))]) hD hS hA [0, 1, 2, 3, 4] rfl
  refine va_calli (va_runV (As := [.int i1]) (rest := []) ⟨hx, hb, hml, hown, hts⟩ (ctX4_kinTelling l dC dI cI x0 t0 r0 y0 g0 w0 tk tl tc H.size TR_2 LF N K L C i1 (by assumption)) (cwV 1 hts gX4_templeTelling_X4_kinTelling rfl rfl rfl (by decide +kernel) ⟨Nat.le_of_ble_eq_true rfl, Nat.le_of_ble_eq_true rfl⟩) (pre_V hKc hN hPc hDc (RX4, TX4, 7) 4 0 rfl rfl) rfl rfl hl.1 rfl (lv_room (Nat.le_of_ble_eq_true rfl)) dX4_templeTelling_7 ⟨Nat.le_of_ble_eq_true rfl, Nat.le_of_ble_eq_true rfl⟩) hS (fun q _ h => hFc q h) hFc (fun r_7 _ t H locs ht hvm hw hB hz1 hk1 hS => ?_)
  try dsimp only at hw
  have er_7 := hw.symm
  rw [ht] at hB
  refine nm_gen ((p4_kinTelling TR_2 L i1).2) (fun TR_7 eTR_7 => ?_)
  rw [eTR_7] at hB
  obtain ⟨hP, hD⟩ := rw_join ([(x0, .inr (4, [.ref t0, .ref r0, .ref y0, .ref g0, .ref w0, .int TR_2, .int LF])), (t0, .inr (0, [.ref tk, .ref tl, .ref tc, .int N])), (tk, .inl (cI, 6, .inl K)), (tl, .inl (cI, 6, .inl L)), (tc, .inl (cI, 6, .inl C))]) ([(x0, .inr (4, [.ref t0, .ref r0, .ref y0, .ref g0, .ref w0, .int TR_7, .int LF])), (t0, .inr (0, [.ref tk, .ref tl, .ref tc, .int N])), (tk, .inl (cI, 6, .inl K)), (tl, .inl (cI, 6, .inl L)), (tc, .inl (cI, 6, .inl C))]) ([(x0, .inr (4, [.ref t0, .ref r0, .ref y0, .ref g0, .ref w0, .int TR_2, .int LF])), (t0, .inr (0, [.ref tk, .ref tl, .ref tc, .int N])), (tk, .inl (cI, 6, .inl K)), (tl, .inl (cI, 6, .inl L)), (tc, .inl (cI, 6, .inl C))]) ([(x0, .inr (4, [.ref t0, .ref r0, .ref y0, .ref g0, .ref w0, .int TR_7, .int LF])), (t0, .inr (0, [.ref tk, .ref tl, .ref tc, .int N])), (tk, .inl (cI, 6, .inl K)), (tl, .inl (cI, 6, .inl L)), (tc, .inl (cI, 6, .inl C))]) ([]) hP hD [0, 1, 2, 3, 4] [] [x0, t0, tk, tl, tc] 5 rfl rfl rfl rfl rfl (by decide) rfl rfl hk1 hB
  refine lv_istore_n (lv' := [(2, .int r_7), (0, .ref x0), (1, .int i1)]) hx hb dX4_templeTelling_10 rfl hl (by decide) rfl (fun ls hl => ?_)
  refine lv_iload_n hx hb dX4_templeTelling_11 rfl (lv_at hl 0 rfl) ?_
  refine lv_aload_n hx hb dX4_templeTelling_12 rfl (lv_at hl 1 rfl) ?_
  refine lv_iload_n hx hb dX4_templeTelling_13 rfl (lv_at hl 2 rfl) ?_
  have hPc := hP.sub (ws' := [(x0, .inr (4, [.ref t0, .ref r0, .ref y0, .ref g0, .ref w0, .int TR_7, .int LF])), (t0, .inr (0, [.ref tk, .ref tl, .ref tc, .int N])), (tk, .inl (cI, 6, .inl K)), (tl, .inl (cI, 6, .inl L)), (tc, .inl (cI, 6, .inl C))]) [0, 1, 2, 3, 4] rfl
  have hDc := hD.sub (ws' := [(x0, .inr (4, [.ref t0, .ref r0, .ref y0, .ref g0, .ref w0, .int TR_7, .int LF])), (t0, .inr (0, [.ref tk, .ref tl, .ref tc, .int N])), (tk, .inl (cI, 6, .inl K)), (tl, .inl (cI, 6, .inl L)), (tc, .inl (cI, 6, .inl C))]) [0, 1, 2, 3, 4] (by decide) rfl
  have hKc := hK.sub (tys' := [(cI, .int)]) [0] rfl
  have hFc := va_free (wc := [(x0, .inr (4, [.ref t0, .ref r0, .ref y0, .ref g0, .ref w0, .int TR_7, .int LF])), (t0, .inr (0, [.ref tk, .ref tl, .ref tc, .int N])), (tk, .inl (cI, 6, .inl K)), (tl, .inl (cI, 6, .inl L)), (tc, .inl (cI, 6, .inl C))]) hD hS hA [0, 1, 2, 3, 4] rfl
  refine va_calli (va_runV (As := [.int i1]) (rest := [.int r_7]) ⟨hx, hb, hml, hown, hts⟩ (ctX4_houseTelling l dC dI cI x0 t0 r0 y0 g0 w0 tk tl tc H.size TR_7 LF N K L C i1 (by assumption)) (cwV 1 hts gX4_templeTelling_X4_houseTelling rfl rfl rfl (by decide +kernel) ⟨Nat.le_of_ble_eq_true rfl, Nat.le_of_ble_eq_true rfl⟩) (pre_V hKc hN hPc hDc (RX4, TX4, 7) 4 0 rfl rfl) rfl rfl hl.1 rfl (lv_room (Nat.le_of_ble_eq_true rfl)) dX4_templeTelling_14 ⟨Nat.le_of_ble_eq_true rfl, Nat.le_of_ble_eq_true rfl⟩) hS (fun q _ h => hFc q h) hFc (fun r_14 _ t H locs ht hvm hw hB hz1 hk1 hS => ?_)
  try dsimp only at hw
  have er_14 := hw.symm
  rw [ht] at hB
  refine nm_gen ((p4_houseTelling TR_7 L i1).2) (fun TR_14 eTR_14 => ?_)
  rw [eTR_14] at hB
  obtain ⟨hP, hD⟩ := rw_join ([(x0, .inr (4, [.ref t0, .ref r0, .ref y0, .ref g0, .ref w0, .int TR_7, .int LF])), (t0, .inr (0, [.ref tk, .ref tl, .ref tc, .int N])), (tk, .inl (cI, 6, .inl K)), (tl, .inl (cI, 6, .inl L)), (tc, .inl (cI, 6, .inl C))]) ([(x0, .inr (4, [.ref t0, .ref r0, .ref y0, .ref g0, .ref w0, .int TR_14, .int LF])), (t0, .inr (0, [.ref tk, .ref tl, .ref tc, .int N])), (tk, .inl (cI, 6, .inl K)), (tl, .inl (cI, 6, .inl L)), (tc, .inl (cI, 6, .inl C))]) ([(x0, .inr (4, [.ref t0, .ref r0, .ref y0, .ref g0, .ref w0, .int TR_7, .int LF])), (t0, .inr (0, [.ref tk, .ref tl, .ref tc, .int N])), (tk, .inl (cI, 6, .inl K)), (tl, .inl (cI, 6, .inl L)), (tc, .inl (cI, 6, .inl C))]) ([(x0, .inr (4, [.ref t0, .ref r0, .ref y0, .ref g0, .ref w0, .int TR_14, .int LF])), (t0, .inr (0, [.ref tk, .ref tl, .ref tc, .int N])), (tk, .inl (cI, 6, .inl K)), (tl, .inl (cI, 6, .inl L)), (tc, .inl (cI, 6, .inl C))]) ([]) hP hD [0, 1, 2, 3, 4] [] [x0, t0, tk, tl, tc] 5 rfl rfl rfl rfl rfl (by decide) rfl rfl hk1 hB
  refine lv_iadd hx hb dX4_templeTelling_17 ?_
  have hE9 : p4_templeTelling TR L i1 = ((r_7 + r_14), TR_14) := by unfold p4_templeTelling; simp only [eTR_2, er_7, eTR_7, er_14, eTR_14]
  exact W.iret (v := (r_7 + r_14)) hx hb hr (fun t ht hW => ⟨⟨_, (), rfl, by rw [hE9], by show va_P (dC, dI) vwCl _ t.heap; rw [ht, hE9]; exact hP⟩, hS.F ht⟩) hS.2.2 dX4_templeTelling_18

def p4_lentSeal (TR : Int32) (i1 : Int32) : Int32 × Int32 :=
  (i1, (p4_leave TR 4))
abbrev rmX4_lentSeal : Room := { frames := 1, cells := 0, slots := 0, locals := 21 }
abbrev QX4_lentSeal (dC : Nat → ClassId) (dI : Nat → Nat → Nat) (A : Nat → Prop) (cI : ClassId) (x0 : Nat) (t0 : Nat) (r0 : Nat) (y0 : Nat) (g0 : Nat) (w0 : Nat) (TR : Int32) (LF : Int32) (i1 : Int32) : Array Value → State → Outcome → State → Prop := va_Qi (fun (r : Int32) (_ : Unit) => r = (p4_lentSeal TR i1).1) (fun (_ : Unit) (t : State) => va_P (dC, dI) vwCl ([(x0, .inr (4, [.ref t0, .ref r0, .ref y0, .ref g0, .ref w0, .int ((p4_lentSeal TR i1).2), .int LF]))]) t.heap) A
set_option maxHeartbeats 4000000 in
set_option maxRecDepth 100000 in
theorem ctX4_lentSeal (l : Launch) (dC : Nat → ClassId) (dI : Nat → Nat → Nat) (cI : ClassId) (x0 : Nat) (t0 : Nat) (r0 : Nat) (y0 : Nat) (g0 : Nat) (w0 : Nat) (sz : Nat) (TR : Int32) (LF : Int32) (i1 : Int32) : Met l yX4_lentSeal wsX4_lentSeal rmX4_lentSeal (va_Pc [.ref x0, .int i1] (cP dC dI [(cI, .int)] ([(x0, .inr (4, [.ref t0, .ref r0, .ref y0, .ref g0, .ref w0, .int TR, .int LF]))]) sz)) (QX4_lentSeal dC dI (va_A ([(x0, .inr (4, [.ref t0, .ref r0, .ref y0, .ref g0, .ref w0, .int TR, .int LF]))]) sz) cI x0 t0 r0 y0 g0 w0 TR LF i1) 0 0 (va_A ([(x0, .inr (4, [.ref t0, .ref r0, .ref y0, .ref g0, .ref w0, .int TR, .int LF]))]) sz) := by
  refine Met.ofW (cc := cX4_lentSeal) (maxL := 2) (ret := (some .int)) (by decide) rfl ?_
  intro p e s m args below meth c s₁ B hml hv
  obtain ⟨rfl, hsz, hP, hK, hD0, hN⟩ := hv
  have hx := B.exec
  have hb := B.bytes
  have hr := B.returns
  have hts := atoms_spec (ws := wsX4_lentSeal) B.pre
  have hown : s.vm.findClass RX4 = some m.cls := findClass_of_methodNamed B.named
  have hlocks := B.notSynchronized
  subst hsz
  have hD := hD0.self (sz := s.heap.size)
  generalize hAe : va_A ([(x0, .inr (4, [.ref t0, .ref r0, .ref y0, .ref g0, .ref w0, .int TR, .int LF]))]) s.heap.size = A at hD ⊢
  have hA : ∀ q : Nat, s.heap.size ≤ q → A q := fun q h => by rw [← hAe]; exact Or.inr h
  have hS : va_S A s.heap s.heap [] := va_S.rf
  have hP : va_P (dC, dI) vwCl ([(x0, .inr (4, [.ref t0, .ref r0, .ref y0, .ref g0, .ref w0, .int TR, .int LF]))]) s.heap := hP
  have hl := lv_entry ([.ref x0, .int i1]) (n := 2) (Nat.le_of_ble_eq_true rfl)
  rw [lg_entry_eq]
  generalize (lg_sl ([.ref x0, .int i1]) ++ List.replicate (2 - (lg_sl ([.ref x0, .int i1])).length) Slot.unset).toArray = ls at hl ⊢
  have hl : lv_has ls 2 [(0, .ref x0), (1, .int i1)] := hl
  refine lv_aload_n hx hb dX4_lentSeal_0 rfl (lv_at hl 0 rfl) ?_
  refine lv_iconst (v := 4) hx hb dX4_lentSeal_1 (by decide) ?_
  have hPc := hP.sub (ws' := [(x0, .inr (4, [.ref t0, .ref r0, .ref y0, .ref g0, .ref w0, .int TR, .int LF]))]) [0] rfl
  have hDc := hD.sub (ws' := [(x0, .inr (4, [.ref t0, .ref r0, .ref y0, .ref g0, .ref w0, .int TR, .int LF]))]) [0] (by decide) rfl
  have hKc := hK.sub (tys' := [(cI, .int)]) [0] rfl
  have hFc := va_free (wc := [(x0, .inr (4, [.ref t0, .ref r0, .ref y0, .ref g0, .ref w0, .int TR, .int LF]))]) hD hS hA [0] rfl
  refine va_callv (va_runV (As := [.int 4]) (rest := []) ⟨hx, hb, hml, hown, hts⟩ (ctX4_leave l dC dI cI x0 t0 r0 y0 g0 w0 s.heap.size TR LF 4) (cwV 1 hts gX4_lentSeal_X4_leave rfl rfl rfl (by decide +kernel) ⟨Nat.le_of_ble_eq_true rfl, Nat.le_of_ble_eq_true rfl⟩) (pre_V hKc hN hPc hDc (RX4, TX4, 7) 4 0 rfl rfl) rfl rfl hl.1 rfl (lv_room (Nat.le_of_ble_eq_true rfl)) dX4_lentSeal_2 ⟨Nat.le_of_ble_eq_true rfl, Nat.le_of_ble_eq_true rfl⟩) hS (fun q _ h => hFc q h) hFc (fun _ t H locs ht hvm hw hB hz1 hk1 hS => ?_)
  rw [ht] at hB
  refine nm_gen ((p4_leave TR 4)) (fun TR_2 eTR_2 => ?_)
  rw [eTR_2] at hB
  obtain ⟨hP, hD⟩ := rw_join ([(x0, .inr (4, [.ref t0, .ref r0, .ref y0, .ref g0, .ref w0, .int TR, .int LF]))]) ([(x0, .inr (4, [.ref t0, .ref r0, .ref y0, .ref g0, .ref w0, .int TR_2, .int LF]))]) ([(x0, .inr (4, [.ref t0, .ref r0, .ref y0, .ref g0, .ref w0, .int TR, .int LF]))]) ([(x0, .inr (4, [.ref t0, .ref r0, .ref y0, .ref g0, .ref w0, .int TR_2, .int LF]))]) ([]) hP hD [0] [] [x0] 1 rfl rfl rfl rfl rfl (by decide) rfl rfl hk1 hB
  refine lv_iload_n hx hb dX4_lentSeal_5 rfl (lv_at hl 1 rfl) ?_
  have hE9 : p4_lentSeal TR i1 = (i1, TR_2) := by unfold p4_lentSeal; simp only [eTR_2]
  exact W.iret (v := i1) hx hb hr (fun t ht hW => ⟨⟨_, (), rfl, by rw [hE9], by show va_P (dC, dI) vwCl _ t.heap; rw [ht, hE9]; exact hP⟩, hS.F ht⟩) hS.2.2 dX4_lentSeal_6

def p4_templeSeal (TR : Int32) : Int32 × Int32 :=
  (90, (p4_leave TR 5))
abbrev rmX4_templeSeal : Room := { frames := 1, cells := 0, slots := 0, locals := 21 }
abbrev QX4_templeSeal (dC : Nat → ClassId) (dI : Nat → Nat → Nat) (A : Nat → Prop) (cI : ClassId) (x0 : Nat) (t0 : Nat) (r0 : Nat) (y0 : Nat) (g0 : Nat) (w0 : Nat) (TR : Int32) (LF : Int32) : Array Value → State → Outcome → State → Prop := va_Qi (fun (r : Int32) (_ : Unit) => r = (p4_templeSeal TR).1) (fun (_ : Unit) (t : State) => va_P (dC, dI) vwCl ([(x0, .inr (4, [.ref t0, .ref r0, .ref y0, .ref g0, .ref w0, .int ((p4_templeSeal TR).2), .int LF]))]) t.heap) A
set_option maxHeartbeats 4000000 in
set_option maxRecDepth 100000 in
theorem ctX4_templeSeal (l : Launch) (dC : Nat → ClassId) (dI : Nat → Nat → Nat) (cI : ClassId) (x0 : Nat) (t0 : Nat) (r0 : Nat) (y0 : Nat) (g0 : Nat) (w0 : Nat) (sz : Nat) (TR : Int32) (LF : Int32) : Met l yX4_templeSeal wsX4_templeSeal rmX4_templeSeal (va_Pc [.ref x0] (cP dC dI [(cI, .int)] ([(x0, .inr (4, [.ref t0, .ref r0, .ref y0, .ref g0, .ref w0, .int TR, .int LF]))]) sz)) (QX4_templeSeal dC dI (va_A ([(x0, .inr (4, [.ref t0, .ref r0, .ref y0, .ref g0, .ref w0, .int TR, .int LF]))]) sz) cI x0 t0 r0 y0 g0 w0 TR LF ) 0 0 (va_A ([(x0, .inr (4, [.ref t0, .ref r0, .ref y0, .ref g0, .ref w0, .int TR, .int LF]))]) sz) := by
  refine Met.ofW (cc := cX4_templeSeal) (maxL := 1) (ret := (some .int)) (by decide) rfl ?_
  intro p e s m args below meth c s₁ B hml hv
  obtain ⟨rfl, hsz, hP, hK, hD0, hN⟩ := hv
  have hx := B.exec
  have hb := B.bytes
  have hr := B.returns
  have hts := atoms_spec (ws := wsX4_templeSeal) B.pre
  have hown : s.vm.findClass RX4 = some m.cls := findClass_of_methodNamed B.named
  have hlocks := B.notSynchronized
  subst hsz
  have hD := hD0.self (sz := s.heap.size)
  generalize hAe : va_A ([(x0, .inr (4, [.ref t0, .ref r0, .ref y0, .ref g0, .ref w0, .int TR, .int LF]))]) s.heap.size = A at hD ⊢
  have hA : ∀ q : Nat, s.heap.size ≤ q → A q := fun q h => by rw [← hAe]; exact Or.inr h
  have hS : va_S A s.heap s.heap [] := va_S.rf
  have hP : va_P (dC, dI) vwCl ([(x0, .inr (4, [.ref t0, .ref r0, .ref y0, .ref g0, .ref w0, .int TR, .int LF]))]) s.heap := hP
  have hl := lv_entry ([.ref x0]) (n := 1) (Nat.le_of_ble_eq_true rfl)
  rw [lg_entry_eq]
  generalize (lg_sl ([.ref x0]) ++ List.replicate (1 - (lg_sl ([.ref x0])).length) Slot.unset).toArray = ls at hl ⊢
  have hl : lv_has ls 1 [(0, .ref x0)] := hl
  refine lv_aload_n hx hb dX4_templeSeal_0 rfl (lv_at hl 0 rfl) ?_
  refine lv_iconst (v := 5) hx hb dX4_templeSeal_1 (by decide) ?_
  have hPc := hP.sub (ws' := [(x0, .inr (4, [.ref t0, .ref r0, .ref y0, .ref g0, .ref w0, .int TR, .int LF]))]) [0] rfl
  have hDc := hD.sub (ws' := [(x0, .inr (4, [.ref t0, .ref r0, .ref y0, .ref g0, .ref w0, .int TR, .int LF]))]) [0] (by decide) rfl
  have hKc := hK.sub (tys' := [(cI, .int)]) [0] rfl
  have hFc := va_free (wc := [(x0, .inr (4, [.ref t0, .ref r0, .ref y0, .ref g0, .ref w0, .int TR, .int LF]))]) hD hS hA [0] rfl
  refine va_callv (va_runV (As := [.int 5]) (rest := []) ⟨hx, hb, hml, hown, hts⟩ (ctX4_leave l dC dI cI x0 t0 r0 y0 g0 w0 s.heap.size TR LF 5) (cwV 1 hts gX4_templeSeal_X4_leave rfl rfl rfl (by decide +kernel) ⟨Nat.le_of_ble_eq_true rfl, Nat.le_of_ble_eq_true rfl⟩) (pre_V hKc hN hPc hDc (RX4, TX4, 7) 4 0 rfl rfl) rfl rfl hl.1 rfl (lv_room (Nat.le_of_ble_eq_true rfl)) dX4_templeSeal_2 ⟨Nat.le_of_ble_eq_true rfl, Nat.le_of_ble_eq_true rfl⟩) hS (fun q _ h => hFc q h) hFc (fun _ t H locs ht hvm hw hB hz1 hk1 hS => ?_)
  rw [ht] at hB
  refine nm_gen ((p4_leave TR 5)) (fun TR_2 eTR_2 => ?_)
  rw [eTR_2] at hB
  obtain ⟨hP, hD⟩ := rw_join ([(x0, .inr (4, [.ref t0, .ref r0, .ref y0, .ref g0, .ref w0, .int TR, .int LF]))]) ([(x0, .inr (4, [.ref t0, .ref r0, .ref y0, .ref g0, .ref w0, .int TR_2, .int LF]))]) ([(x0, .inr (4, [.ref t0, .ref r0, .ref y0, .ref g0, .ref w0, .int TR, .int LF]))]) ([(x0, .inr (4, [.ref t0, .ref r0, .ref y0, .ref g0, .ref w0, .int TR_2, .int LF]))]) ([]) hP hD [0] [] [x0] 1 rfl rfl rfl rfl rfl (by decide) rfl rfl hk1 hB
  refine lv_bipush (v := 90) hx hb dX4_templeSeal_5 (by decide) ?_
  have hE9 : p4_templeSeal TR = (90, TR_2) := by unfold p4_templeSeal; simp only [eTR_2]
  exact W.iret (v := 90) hx hb hr (fun t ht hW => ⟨⟨_, (), rfl, by rw [hE9], by show va_P (dC, dI) vwCl _ t.heap; rw [ht, hE9]; exact hP⟩, hS.F ht⟩) hS.2.2 dX4_templeSeal_7

def p4_areHouses_l3 (M : Nat → Nat → Int32) (N : Int32) (i1 : Int32) (i2 : Int32) (i3 : Int32) : Nat → Int32 → Int32
  | 0, _ => 0
  | n + 1, v4 =>
    if i3 ≤ v4 then
      1
    else
      if (p0_has N (M i1.toNatClampNeg (i2 + v4).toNatClampNeg)) = 0 then
        0
      else
        p4_areHouses_l3 M N i1 i2 i3 n (v4 + 1)
theorem p4_areHouses_l3_s (M : Nat → Nat → Int32) (N : Int32) (i1 : Int32) (i2 : Int32) (i3 : Int32) (n : Nat) (v4 : Int32) : p4_areHouses_l3 M N i1 i2 i3 (n + 1) v4 =
    (if i3 ≤ v4 then
      1
    else
      if (p0_has N (M i1.toNatClampNeg (i2 + v4).toNatClampNeg)) = 0 then
        0
      else
        p4_areHouses_l3 M N i1 i2 i3 n (v4 + 1)) := rfl
def p4_areHouses (M : Nat → Nat → Int32) (N : Int32) (i1 : Int32) (i2 : Int32) (i3 : Int32) : Int32 :=
  p4_areHouses_l3 M N i1 i2 i3 61 0
abbrev rmX4_areHouses : Room := { frames := 1, cells := 0, slots := 0, locals := 21 }
abbrev QX4_areHouses (dC : Nat → ClassId) (dI : Nat → Nat → Nat) (A : Nat → Prop) (cI : ClassId) (cR : ClassId) (rr : Nat → Nat) (x0 : Nat) (t0 : Nat) (r0 : Nat) (y0 : Nat) (g0 : Nat) (w0 : Nat) (tk : Nat) (tl : Nat) (tc : Nat) (wr : Nat) (wl : Nat) (wn : Nat) (M : Nat → Nat → Int32) (TR : Int32) (LF : Int32) (N : Int32) (K : Nat → Int32) (L : Nat → Int32) (C : Nat → Int32) (LA : Nat → Int32) (LE : Nat → Int32) (i1 : Int32) (i2 : Int32) (i3 : Int32) : Array Value → State → Outcome → State → Prop := va_Qi (fun (r : Int32) (_ : Unit) => r = p4_areHouses M N i1 i2 i3) (fun (_ : Unit) (t : State) => va_P (dC, dI) vwCl (rowsW cI rr M ++ [(x0, .inr (4, [.ref t0, .ref r0, .ref y0, .ref g0, .ref w0, .int TR, .int LF])), (t0, .inr (0, [.ref tk, .ref tl, .ref tc, .int N])), (tk, .inl (cI, 6, .inl K)), (tl, .inl (cI, 6, .inl L)), (tc, .inl (cI, 6, .inl C)), (w0, .inr (2, [.ref wr, .ref wl, .ref wn])), (wr, .inl (cR, 4, .inr (.inr (.inr (.inr (fun i => if i < 4 then some (rr i) else none)))))), (wl, .inl (cI, 4, .inl LA)), (wn, .inl (cI, 4, .inl LE))]) t.heap) A
set_option maxHeartbeats 4000000 in
set_option maxRecDepth 100000 in
theorem ctX4_areHouses (l : Launch) (dC : Nat → ClassId) (dI : Nat → Nat → Nat) (cI : ClassId) (cR : ClassId) (rr : Nat → Nat) (x0 : Nat) (t0 : Nat) (r0 : Nat) (y0 : Nat) (g0 : Nat) (w0 : Nat) (tk : Nat) (tl : Nat) (tc : Nat) (wr : Nat) (wl : Nat) (wn : Nat) (sz : Nat) (M : Nat → Nat → Int32) (TR : Int32) (LF : Int32) (N : Int32) (K : Nat → Int32) (L : Nat → Int32) (C : Nat → Int32) (LA : Nat → Int32) (LE : Nat → Int32) (i1 : Int32) (i2 : Int32) (i3 : Int32) (hi1 : vp_in i1 4) (hsp : ¬ i2 < 0 ∧ ¬ i3 < 0 ∧ i2.toNatClampNeg + i3.toNatClampNeg ≤ 60) : Met l yX4_areHouses wsX4_areHouses rmX4_areHouses (va_Pc [.ref x0, .int i1, .int i2, .int i3] (cP dC dI [(cI, .int), (cR, .array .int)] (rowsW cI rr M ++ [(x0, .inr (4, [.ref t0, .ref r0, .ref y0, .ref g0, .ref w0, .int TR, .int LF])), (t0, .inr (0, [.ref tk, .ref tl, .ref tc, .int N])), (tk, .inl (cI, 6, .inl K)), (tl, .inl (cI, 6, .inl L)), (tc, .inl (cI, 6, .inl C)), (w0, .inr (2, [.ref wr, .ref wl, .ref wn])), (wr, .inl (cR, 4, .inr (.inr (.inr (.inr (fun i => if i < 4 then some (rr i) else none)))))), (wl, .inl (cI, 4, .inl LA)), (wn, .inl (cI, 4, .inl LE))]) sz)) (QX4_areHouses dC dI (va_A (rowsW cI rr M ++ [(x0, .inr (4, [.ref t0, .ref r0, .ref y0, .ref g0, .ref w0, .int TR, .int LF])), (t0, .inr (0, [.ref tk, .ref tl, .ref tc, .int N])), (tk, .inl (cI, 6, .inl K)), (tl, .inl (cI, 6, .inl L)), (tc, .inl (cI, 6, .inl C)), (w0, .inr (2, [.ref wr, .ref wl, .ref wn])), (wr, .inl (cR, 4, .inr (.inr (.inr (.inr (fun i => if i < 4 then some (rr i) else none)))))), (wl, .inl (cI, 4, .inl LA)), (wn, .inl (cI, 4, .inl LE))]) sz) cI cR rr x0 t0 r0 y0 g0 w0 tk tl tc wr wl wn M TR LF N K L C LA LE i1 i2 i3) 0 0 (va_A (rowsW cI rr M ++ [(x0, .inr (4, [.ref t0, .ref r0, .ref y0, .ref g0, .ref w0, .int TR, .int LF])), (t0, .inr (0, [.ref tk, .ref tl, .ref tc, .int N])), (tk, .inl (cI, 6, .inl K)), (tl, .inl (cI, 6, .inl L)), (tc, .inl (cI, 6, .inl C)), (w0, .inr (2, [.ref wr, .ref wl, .ref wn])), (wr, .inl (cR, 4, .inr (.inr (.inr (.inr (fun i => if i < 4 then some (rr i) else none)))))), (wl, .inl (cI, 4, .inl LA)), (wn, .inl (cI, 4, .inl LE))]) sz) := by
  refine Met.ofW (cc := cX4_areHouses) (maxL := 5) (ret := (some .boolean)) (by decide) rfl ?_
  intro p e s m args below meth c s₁ B hml hv
  obtain ⟨rfl, hsz, hP, hK, hD0, hN⟩ := hv
  have hx := B.exec
  have hb := B.bytes
  have hr := B.returns
  have hts := atoms_spec (ws := wsX4_areHouses) B.pre
  have hown : s.vm.findClass RX4 = some m.cls := findClass_of_methodNamed B.named
  have hlocks := B.notSynchronized
  subst hsz
  have hD := hD0.self (sz := s.heap.size)
  generalize hAe : va_A (rowsW cI rr M ++ [(x0, .inr (4, [.ref t0, .ref r0, .ref y0, .ref g0, .ref w0, .int TR, .int LF])), (t0, .inr (0, [.ref tk, .ref tl, .ref tc, .int N])), (tk, .inl (cI, 6, .inl K)), (tl, .inl (cI, 6, .inl L)), (tc, .inl (cI, 6, .inl C)), (w0, .inr (2, [.ref wr, .ref wl, .ref wn])), (wr, .inl (cR, 4, .inr (.inr (.inr (.inr (fun i => if i < 4 then some (rr i) else none)))))), (wl, .inl (cI, 4, .inl LA)), (wn, .inl (cI, 4, .inl LE))]) s.heap.size = A at hD ⊢
  have hA : ∀ q : Nat, s.heap.size ≤ q → A q := fun q h => by rw [← hAe]; exact Or.inr h
  have hS : va_S A s.heap s.heap [] := va_S.rf
  have hP : va_P (dC, dI) vwCl (rowsW cI rr M ++ [(x0, .inr (4, [.ref t0, .ref r0, .ref y0, .ref g0, .ref w0, .int TR, .int LF])), (t0, .inr (0, [.ref tk, .ref tl, .ref tc, .int N])), (tk, .inl (cI, 6, .inl K)), (tl, .inl (cI, 6, .inl L)), (tc, .inl (cI, 6, .inl C)), (w0, .inr (2, [.ref wr, .ref wl, .ref wn])), (wr, .inl (cR, 4, .inr (.inr (.inr (.inr (fun i => if i < 4 then some (rr i) else none)))))), (wl, .inl (cI, 4, .inl LA)), (wn, .inl (cI, 4, .inl LE))]) s.heap := hP
  have hin2 : ∀ w ∈ wsX20, w ∈ wsX4_areHouses := by decide +kernel
  have hin4 : ∀ w ∈ wsX40, w ∈ wsX4_areHouses := by decide +kernel
  have kf_12 := hts (.fieldLink RX4 12 "RicherChange" "town" "LRicherChange$City;") (by decide +kernel)
  have kf_38 := hts (.fieldLink RX4 38 "RicherChange" "sheets" "LRicherChange$Sheets;") (by decide +kernel)
  have hn_168 := va_Nw.use (A := [.ref x0, .int i1, .int i2, .int i3].toArray) rfl hN.2.2.2.2.2.2.2.1
  have hl := lv_entry ([.ref x0, .int i1, .int i2, .int i3]) (n := 5) (Nat.le_of_ble_eq_true rfl)
  rw [lg_entry_eq]
  generalize (lg_sl ([.ref x0, .int i1, .int i2, .int i3]) ++ List.replicate (5 - (lg_sl ([.ref x0, .int i1, .int i2, .int i3])).length) Slot.unset).toArray = ls at hl ⊢
  have hl : lv_has ls 5 [(0, .ref x0), (1, .int i1), (2, .int i2), (3, .int i3)] := hl
  have lp_3 : ∀ (n : Nat) (v4 : Int32) (H : Heap) (locs : List Loc) (ls : Array Slot), (up v4 i3 n) → va_P (dC, dI) vwCl (rowsW cI rr M ++ [(x0, .inr (4, [.ref t0, .ref r0, .ref y0, .ref g0, .ref w0, .int TR, .int LF])), (t0, .inr (0, [.ref tk, .ref tl, .ref tc, .int N])), (tk, .inl (cI, 6, .inl K)), (tl, .inl (cI, 6, .inl L)), (tc, .inl (cI, 6, .inl C)), (w0, .inr (2, [.ref wr, .ref wl, .ref wn])), (wr, .inl (cR, 4, .inr (.inr (.inr (.inr (fun i => if i < 4 then some (rr i) else none)))))), (wl, .inl (cI, 4, .inl LA)), (wn, .inl (cI, 4, .inl LE))]) H → va_D A (rowsW cI rr M ++ [(x0, .inr (4, [.ref t0, .ref r0, .ref y0, .ref g0, .ref w0, .int TR, .int LF])), (t0, .inr (0, [.ref tk, .ref tl, .ref tc, .int N])), (tk, .inl (cI, 6, .inl K)), (tl, .inl (cI, 6, .inl L)), (tc, .inl (cI, 6, .inl C)), (w0, .inr (2, [.ref wr, .ref wl, .ref wn])), (wr, .inl (cR, 4, .inr (.inr (.inr (.inr (fun i => if i < 4 then some (rr i) else none)))))), (wl, .inl (cI, 4, .inl LA)), (wn, .inl (cI, 4, .inl LE))]) → va_S A s.heap H locs → lv_has ls 5 [(4, .int v4), (0, .ref x0), (1, .int i1), (2, .int i2), (3, .int i3)] → p4_areHouses M N i1 i2 i3 = p4_areHouses_l3 M N i1 i2 i3 n v4 → W p l e (headSpec wsX4_areHouses rmX4_areHouses).room s m [.ref x0, .int i1, .int i2, .int i3].toArray below meth c H locs 0 0 (MQ below (QX4_areHouses dC dI A cI cR rr x0 t0 r0 y0 g0 w0 tk tl tc wr wl wn M TR LF N K L C LA LE i1 i2 i3) [.ref x0, .int i1, .int i2, .int i3].toArray s 0 0 A) (F0 m 3 ls []) := by
    intro n
    induction n with
    | zero => intro v4 _ _ _ hu; exact absurd hu up_no
    | succ n ih =>
      intro v4 H locs ls hu hP hD hS hl hE
      refine lv_iload hx hb dX4_areHouses_3 (lv_at hl 0 rfl) ?_
      refine lv_iload_n hx hb dX4_areHouses_5 rfl (lv_at hl 4 rfl) ?_
      refine lv_icmp_ge (tgt := 41) hx hb dX4_areHouses_6 (by decide) (fun c_6 => ?_) (fun c_6 => ?_)
      · skip
        refine lv_iconst (v := 1) hx hb dX4_areHouses_41 (by decide) ?_
        have hE9 : p4_areHouses M N i1 i2 i3 = 1 := hE.trans (by rw [p4_areHouses_l3_s, if_pos c_6])
        exact W.zret (v := 1) hx hb hr (by decide +kernel) (fun t ht hW => ⟨⟨_, (), rfl, by rw [hE9], by show va_P (dC, dI) vwCl _ t.heap; rw [ht]; exact hP⟩, hS.F ht⟩) hS.2.2 dX4_areHouses_42
      · skip
        refine lv_aload_n hx hb dX4_areHouses_9 rfl (lv_at hl 1 rfl) ?_
        refine va_get (D := (dC, dI)) (ci := 4) (v := .ref t0) (C := RX4) (T := TX4) (N := 7) hx hb hts hin4 hown hK hP 4 rfl rfl 0 (by decide) kf_12 (fun _ h9 => h9) rfl dX4_areHouses_10 ?_
        refine lv_aload_n hx hb dX4_areHouses_13 rfl (lv_at hl 1 rfl) ?_
        refine va_get (D := (dC, dI)) (ci := 4) (v := .ref w0) (C := RX4) (T := TX4) (N := 7) hx hb hts hin4 hown hK hP 4 rfl rfl 4 (by decide) kf_38 (fun _ h9 => h9) rfl dX4_areHouses_14 ?_
        refine va_getN (D := (dC, dI)) (ci := 2) (v := .ref wr) (C := RX2) (T := TX2) (N := 3) hx hb hts hin2 hown hK hP 9 rfl rfl 0 (by decide) hn_168 (fun _ h9 => h9) rfl dX4_areHouses_17 ?_
        refine lv_iload_n hx hb dX4_areHouses_20 rfl (lv_at hl 2 rfl) ?_
        refine va_alda (v := rr i1.toNatClampNeg) hx hb hK hP 10 1 rfl rfl hi1 (if_pos (vp_lt hi1)) dX4_areHouses_21 ?_
        refine lv_iload_n hx hb dX4_areHouses_22 rfl (lv_at hl 3 rfl) ?_
        refine lv_iload hx hb dX4_areHouses_23 (lv_at hl 0 rfl) ?_
        refine lv_iadd hx hb dX4_areHouses_25 ?_
        refine va_iald hx hb hK hP i1.toNatClampNeg 0 (rows_get cI rr M ([(x0, .inr (4, [.ref t0, .ref r0, .ref y0, .ref g0, .ref w0, .int TR, .int LF])), (t0, .inr (0, [.ref tk, .ref tl, .ref tc, .int N])), (tk, .inl (cI, 6, .inl K)), (tl, .inl (cI, 6, .inl L)), (tc, .inl (cI, 6, .inl C)), (w0, .inr (2, [.ref wr, .ref wl, .ref wn])), (wr, .inl (cR, 4, .inr (.inr (.inr (.inr (fun i => if i < 4 then some (rr i) else none)))))), (wl, .inl (cI, 4, .inl LA)), (wn, .inl (cI, 4, .inl LE))]) (vp_lt hi1)) rfl (sp_ix hsp hu c_6) dX4_areHouses_26 ?_
        have hPc := hP.sub (ws' := [(t0, .inr (0, [.ref tk, .ref tl, .ref tc, .int N]))]) [5] rfl
        have hDc := hD.sub (ws' := [(t0, .inr (0, [.ref tk, .ref tl, .ref tc, .int N]))]) [5] (by decide) rfl
        have hKc := hK.sub (tys' := [(cI, .int)]) [0] rfl
        have hFc := va_free (wc := [(t0, .inr (0, [.ref tk, .ref tl, .ref tc, .int N]))]) hD hS hA [5] rfl
        refine va_calli (va_runV (As := [.int (M i1.toNatClampNeg (i2 + v4).toNatClampNeg)]) (rest := []) ⟨hx, hb, hml, hown, hts⟩ (ctX0_has l dC dI cI t0 tk tl tc H.size N (M i1.toNatClampNeg (i2 + v4).toNatClampNeg)) (cwV 1 hts gX4_areHouses_X0_has rfl rfl rfl (by decide +kernel) ⟨Nat.le_of_ble_eq_true rfl, Nat.le_of_ble_eq_true rfl⟩) (pre_V hKc hN hPc hDc (RX0, TX0, 4) 0 0 rfl rfl) rfl rfl hl.1 rfl (lv_room (Nat.le_of_ble_eq_true rfl)) dX4_areHouses_27 ⟨Nat.le_of_ble_eq_true rfl, Nat.le_of_ble_eq_true rfl⟩) hS (fun q _ h => hFc q h) hFc (fun r _ t H locs ht hvm hw hB hz1 hk1 hS => ?_)
        try dsimp only at hw
        subst hw
        rw [ht] at hB
        obtain ⟨hP, hD⟩ := rw_join (rowsW cI rr M ++ [(x0, .inr (4, [.ref t0, .ref r0, .ref y0, .ref g0, .ref w0, .int TR, .int LF])), (t0, .inr (0, [.ref tk, .ref tl, .ref tc, .int N])), (tk, .inl (cI, 6, .inl K)), (tl, .inl (cI, 6, .inl L)), (tc, .inl (cI, 6, .inl C)), (w0, .inr (2, [.ref wr, .ref wl, .ref wn])), (wr, .inl (cR, 4, .inr (.inr (.inr (.inr (fun i => if i < 4 then some (rr i) else none)))))), (wl, .inl (cI, 4, .inl LA)), (wn, .inl (cI, 4, .inl LE))]) (rowsW cI rr M ++ [(x0, .inr (4, [.ref t0, .ref r0, .ref y0, .ref g0, .ref w0, .int TR, .int LF])), (t0, .inr (0, [.ref tk, .ref tl, .ref tc, .int N])), (tk, .inl (cI, 6, .inl K)), (tl, .inl (cI, 6, .inl L)), (tc, .inl (cI, 6, .inl C)), (w0, .inr (2, [.ref wr, .ref wl, .ref wn])), (wr, .inl (cR, 4, .inr (.inr (.inr (.inr (fun i => if i < 4 then some (rr i) else none)))))), (wl, .inl (cI, 4, .inl LA)), (wn, .inl (cI, 4, .inl LE))]) ([(t0, .inr (0, [.ref tk, .ref tl, .ref tc, .int N]))]) ([(t0, .inr (0, [.ref tk, .ref tl, .ref tc, .int N]))]) ([(rr 0, .inl (cI, 60, .inl (M 0))), (rr 1, .inl (cI, 60, .inl (M 1))), (rr 2, .inl (cI, 60, .inl (M 2))), (rr 3, .inl (cI, 60, .inl (M 3))), (x0, .inr (4, [.ref t0, .ref r0, .ref y0, .ref g0, .ref w0, .int TR, .int LF])), (tk, .inl (cI, 6, .inl K)), (tl, .inl (cI, 6, .inl L)), (tc, .inl (cI, 6, .inl C)), (w0, .inr (2, [.ref wr, .ref wl, .ref wn])), (wr, .inl (cR, 4, .inr (.inr (.inr (.inr (fun i => if i < 4 then some (rr i) else none)))))), (wl, .inl (cI, 4, .inl LA)), (wn, .inl (cI, 4, .inl LE))]) hP hD [5] [0, 1, 2, 3, 4, 6, 7, 8, 9, 10, 11, 12] [rr 0, rr 1, rr 2, rr 3, x0, t0, tk, tl, tc, w0, wr, wl, wn] 13 rfl rfl rfl rfl rfl (by decide) rfl rfl hk1 hB
        refine lv_if_ne (tgt := 35) hx hb dX4_areHouses_30 (by decide) (fun c_30 => ?_) (fun c_30 => ?_)
        · skip
          refine lv_iinc (v := (v4 + 1)) (lv' := [(4, .int (v4 + 1)), (0, .ref x0), (1, .int i1), (2, .int i2), (3, .int i3)]) hx hb dX4_areHouses_35 hl (k := 0) rfl rfl (by decide) rfl (fun ls hl => ?_)
          refine lv_goto (tgt := 3) hx hb dX4_areHouses_38 (by decide) ?_
          exact ih (v4 + 1) _ _ _ (up_s hu c_6) hP hD hS (lv_sub hl [0, 1, 2, 3, 4] rfl) (hE.trans (by rw [p4_areHouses_l3_s, if_neg c_6, if_neg c_30]))
        · skip
          refine lv_iconst (v := 0) hx hb dX4_areHouses_33 (by decide) ?_
          have hE9 : p4_areHouses M N i1 i2 i3 = 0 := hE.trans (by rw [p4_areHouses_l3_s, if_neg c_6, if_pos c_30])
          exact W.zret (v := 0) hx hb hr (by decide +kernel) (fun t ht hW => ⟨⟨_, (), rfl, by rw [hE9], by show va_P (dC, dI) vwCl _ t.heap; rw [ht]; exact hP⟩, hS.F ht⟩) hS.2.2 dX4_areHouses_34
  refine lv_iconst (v := 0) hx hb dX4_areHouses_0 (by decide) ?_
  refine lv_istore (lv' := [(4, .int 0), (0, .ref x0), (1, .int i1), (2, .int i2), (3, .int i3)]) hx hb dX4_areHouses_1 hl (by decide) rfl (fun ls hl => ?_)
  exact lp_3 61 0  _ _ _ (up_i 60 (by decide) (sp_n hsp)) hP hD hS (lv_sub hl [0, 1, 2, 3, 4] rfl) (rfl)

def p4_firstFault_l3 (M : Nat → Nat → Int32) (i1 : Int32) (i2 : Int32) (i3 : Int32) : Nat → Int32 → Int32
  | 0, _ => 0
  | n + 1, v4 =>
    if i3 ≤ v4 then
      if i3 ≤ 8 then
        i3
      else
        if (i3 - i3 / 4 * 4) = 1 then
          (-9)
        else
          i3
    else
      if (p4_goesOn v4 (M i1.toNatClampNeg (i2 + v4).toNatClampNeg)) = 0 then
        v4
      else
        p4_firstFault_l3 M i1 i2 i3 n (v4 + 1)
theorem p4_firstFault_l3_s (M : Nat → Nat → Int32) (i1 : Int32) (i2 : Int32) (i3 : Int32) (n : Nat) (v4 : Int32) : p4_firstFault_l3 M i1 i2 i3 (n + 1) v4 =
    (if i3 ≤ v4 then
      if i3 ≤ 8 then
        i3
      else
        if (i3 - i3 / 4 * 4) = 1 then
          (-9)
        else
          i3
    else
      if (p4_goesOn v4 (M i1.toNatClampNeg (i2 + v4).toNatClampNeg)) = 0 then
        v4
      else
        p4_firstFault_l3 M i1 i2 i3 n (v4 + 1)) := rfl
def p4_firstFault (M : Nat → Nat → Int32) (i1 : Int32) (i2 : Int32) (i3 : Int32) : Int32 :=
  p4_firstFault_l3 M i1 i2 i3 61 0
abbrev rmX4_firstFault : Room := { frames := 1, cells := 0, slots := 0, locals := 21 }
abbrev QX4_firstFault (dC : Nat → ClassId) (dI : Nat → Nat → Nat) (A : Nat → Prop) (cI : ClassId) (cR : ClassId) (rr : Nat → Nat) (x0 : Nat) (t0 : Nat) (r0 : Nat) (y0 : Nat) (g0 : Nat) (w0 : Nat) (wr : Nat) (wl : Nat) (wn : Nat) (M : Nat → Nat → Int32) (TR : Int32) (LF : Int32) (LA : Nat → Int32) (LE : Nat → Int32) (i1 : Int32) (i2 : Int32) (i3 : Int32) : Array Value → State → Outcome → State → Prop := va_Qi (fun (r : Int32) (_ : Unit) => r = p4_firstFault M i1 i2 i3) (fun (_ : Unit) (t : State) => va_P (dC, dI) vwCl (rowsW cI rr M ++ [(x0, .inr (4, [.ref t0, .ref r0, .ref y0, .ref g0, .ref w0, .int TR, .int LF])), (w0, .inr (2, [.ref wr, .ref wl, .ref wn])), (wr, .inl (cR, 4, .inr (.inr (.inr (.inr (fun i => if i < 4 then some (rr i) else none)))))), (wl, .inl (cI, 4, .inl LA)), (wn, .inl (cI, 4, .inl LE))]) t.heap) A
set_option maxHeartbeats 4000000 in
set_option maxRecDepth 100000 in
theorem ctX4_firstFault (l : Launch) (dC : Nat → ClassId) (dI : Nat → Nat → Nat) (cI : ClassId) (cR : ClassId) (rr : Nat → Nat) (x0 : Nat) (t0 : Nat) (r0 : Nat) (y0 : Nat) (g0 : Nat) (w0 : Nat) (wr : Nat) (wl : Nat) (wn : Nat) (sz : Nat) (M : Nat → Nat → Int32) (TR : Int32) (LF : Int32) (LA : Nat → Int32) (LE : Nat → Int32) (i1 : Int32) (i2 : Int32) (i3 : Int32) (hi1 : vp_in i1 4) (hsp : ¬ i2 < 0 ∧ ¬ i3 < 0 ∧ i2.toNatClampNeg + i3.toNatClampNeg ≤ 60) : Met l yX4_firstFault wsX4_firstFault rmX4_firstFault (va_Pc [.ref x0, .int i1, .int i2, .int i3] (cP dC dI [(cI, .int), (cR, .array .int)] (rowsW cI rr M ++ [(x0, .inr (4, [.ref t0, .ref r0, .ref y0, .ref g0, .ref w0, .int TR, .int LF])), (w0, .inr (2, [.ref wr, .ref wl, .ref wn])), (wr, .inl (cR, 4, .inr (.inr (.inr (.inr (fun i => if i < 4 then some (rr i) else none)))))), (wl, .inl (cI, 4, .inl LA)), (wn, .inl (cI, 4, .inl LE))]) sz)) (QX4_firstFault dC dI (va_A (rowsW cI rr M ++ [(x0, .inr (4, [.ref t0, .ref r0, .ref y0, .ref g0, .ref w0, .int TR, .int LF])), (w0, .inr (2, [.ref wr, .ref wl, .ref wn])), (wr, .inl (cR, 4, .inr (.inr (.inr (.inr (fun i => if i < 4 then some (rr i) else none)))))), (wl, .inl (cI, 4, .inl LA)), (wn, .inl (cI, 4, .inl LE))]) sz) cI cR rr x0 t0 r0 y0 g0 w0 wr wl wn M TR LF LA LE i1 i2 i3) 0 0 (va_A (rowsW cI rr M ++ [(x0, .inr (4, [.ref t0, .ref r0, .ref y0, .ref g0, .ref w0, .int TR, .int LF])), (w0, .inr (2, [.ref wr, .ref wl, .ref wn])), (wr, .inl (cR, 4, .inr (.inr (.inr (.inr (fun i => if i < 4 then some (rr i) else none)))))), (wl, .inl (cI, 4, .inl LA)), (wn, .inl (cI, 4, .inl LE))]) sz) := by
  refine Met.ofW (cc := cX4_firstFault) (maxL := 5) (ret := (some .int)) (by decide) rfl ?_
  intro p e s m args below meth c s₁ B hml hv
  obtain ⟨rfl, hsz, hP, hK, hD0, hN⟩ := hv
  have hx := B.exec
  have hb := B.bytes
  have hr := B.returns
  have hts := atoms_spec (ws := wsX4_firstFault) B.pre
  have hown : s.vm.findClass RX4 = some m.cls := findClass_of_methodNamed B.named
  have hlocks := B.notSynchronized
  subst hsz
  have hD := hD0.self (sz := s.heap.size)
  generalize hAe : va_A (rowsW cI rr M ++ [(x0, .inr (4, [.ref t0, .ref r0, .ref y0, .ref g0, .ref w0, .int TR, .int LF])), (w0, .inr (2, [.ref wr, .ref wl, .ref wn])), (wr, .inl (cR, 4, .inr (.inr (.inr (.inr (fun i => if i < 4 then some (rr i) else none)))))), (wl, .inl (cI, 4, .inl LA)), (wn, .inl (cI, 4, .inl LE))]) s.heap.size = A at hD ⊢
  have hA : ∀ q : Nat, s.heap.size ≤ q → A q := fun q h => by rw [← hAe]; exact Or.inr h
  have hS : va_S A s.heap s.heap [] := va_S.rf
  have hP : va_P (dC, dI) vwCl (rowsW cI rr M ++ [(x0, .inr (4, [.ref t0, .ref r0, .ref y0, .ref g0, .ref w0, .int TR, .int LF])), (w0, .inr (2, [.ref wr, .ref wl, .ref wn])), (wr, .inl (cR, 4, .inr (.inr (.inr (.inr (fun i => if i < 4 then some (rr i) else none)))))), (wl, .inl (cI, 4, .inl LA)), (wn, .inl (cI, 4, .inl LE))]) s.heap := hP
  have hin2 : ∀ w ∈ wsX20, w ∈ wsX4_firstFault := by decide +kernel
  have hin4 : ∀ w ∈ wsX40, w ∈ wsX4_firstFault := by decide +kernel
  have kf_38 := hts (.fieldLink RX4 38 "RicherChange" "sheets" "LRicherChange$Sheets;") (by decide +kernel)
  have hn_168 := va_Nw.use (A := [.ref x0, .int i1, .int i2, .int i3].toArray) rfl hN.2.2.2.2.2.2.2.1
  have hl := lv_entry ([.ref x0, .int i1, .int i2, .int i3]) (n := 5) (Nat.le_of_ble_eq_true rfl)
  rw [lg_entry_eq]
  generalize (lg_sl ([.ref x0, .int i1, .int i2, .int i3]) ++ List.replicate (5 - (lg_sl ([.ref x0, .int i1, .int i2, .int i3])).length) Slot.unset).toArray = ls at hl ⊢
  have hl : lv_has ls 5 [(0, .ref x0), (1, .int i1), (2, .int i2), (3, .int i3)] := hl
  have lp_3 : ∀ (n : Nat) (v4 : Int32) (H : Heap) (locs : List Loc) (ls : Array Slot), (up v4 i3 n) → va_P (dC, dI) vwCl (rowsW cI rr M ++ [(x0, .inr (4, [.ref t0, .ref r0, .ref y0, .ref g0, .ref w0, .int TR, .int LF])), (w0, .inr (2, [.ref wr, .ref wl, .ref wn])), (wr, .inl (cR, 4, .inr (.inr (.inr (.inr (fun i => if i < 4 then some (rr i) else none)))))), (wl, .inl (cI, 4, .inl LA)), (wn, .inl (cI, 4, .inl LE))]) H → va_D A (rowsW cI rr M ++ [(x0, .inr (4, [.ref t0, .ref r0, .ref y0, .ref g0, .ref w0, .int TR, .int LF])), (w0, .inr (2, [.ref wr, .ref wl, .ref wn])), (wr, .inl (cR, 4, .inr (.inr (.inr (.inr (fun i => if i < 4 then some (rr i) else none)))))), (wl, .inl (cI, 4, .inl LA)), (wn, .inl (cI, 4, .inl LE))]) → va_S A s.heap H locs → lv_has ls 5 [(4, .int v4), (0, .ref x0), (1, .int i1), (2, .int i2), (3, .int i3)] → p4_firstFault M i1 i2 i3 = p4_firstFault_l3 M i1 i2 i3 n v4 → W p l e (headSpec wsX4_firstFault rmX4_firstFault).room s m [.ref x0, .int i1, .int i2, .int i3].toArray below meth c H locs 0 0 (MQ below (QX4_firstFault dC dI A cI cR rr x0 t0 r0 y0 g0 w0 wr wl wn M TR LF LA LE i1 i2 i3) [.ref x0, .int i1, .int i2, .int i3].toArray s 0 0 A) (F0 m 3 ls []) := by
    intro n
    induction n with
    | zero => intro v4 _ _ _ hu; exact absurd hu up_no
    | succ n ih =>
      intro v4 H locs ls hu hP hD hS hl hE
      refine lv_iload hx hb dX4_firstFault_3 (lv_at hl 0 rfl) ?_
      refine lv_iload_n hx hb dX4_firstFault_5 rfl (lv_at hl 4 rfl) ?_
      refine lv_icmp_ge (tgt := 40) hx hb dX4_firstFault_6 (by decide) (fun c_6 => ?_) (fun c_6 => ?_)
      · skip
        refine lv_iload_n hx hb dX4_firstFault_40 rfl (lv_at hl 4 rfl) ?_
        refine lv_bipush (v := 8) hx hb dX4_firstFault_41 (by decide) ?_
        refine lv_icmp_le (tgt := 57) hx hb dX4_firstFault_43 (by decide) (fun c_43 => ?_) (fun c_43 => ?_)
        · skip
          refine lv_iconst (v := 0) hx hb dX4_firstFault_57 (by decide) ?_
          refine lv_istore (lv' := [(4, .int 0), (0, .ref x0), (1, .int i1), (2, .int i2), (3, .int i3)]) hx hb dX4_firstFault_58 hl (by decide) rfl (fun ls hl => ?_)
          refine lv_iload hx hb dX4_firstFault_60 (lv_at hl 0 rfl) ?_
          refine lv_if_eq (tgt := 70) hx hb dX4_firstFault_62 (by decide) (fun c_62 => ?_) (fun c_62 => ?_)
          · skip
            refine lv_iload_n hx hb dX4_firstFault_70 rfl (lv_at hl 4 rfl) ?_
            have hE9 : p4_firstFault M i1 i2 i3 = i3 := hE.trans (by rw [p4_firstFault_l3_s, if_pos c_6, if_pos c_43])
            exact W.iret (v := i3) hx hb hr (fun t ht hW => ⟨⟨_, (), rfl, by rw [hE9], by show va_P (dC, dI) vwCl _ t.heap; rw [ht]; exact hP⟩, hS.F ht⟩) hS.2.2 dX4_firstFault_71
          · exact absurd c_62 (by decide)
        · skip
          refine lv_iload_n hx hb dX4_firstFault_46 rfl (lv_at hl 4 rfl) ?_
          refine lv_iconst (v := 4) hx hb dX4_firstFault_47 (by decide) ?_
          refine lv_irem hx hb dX4_firstFault_48 (by decide) ?_
          refine lv_iconst (v := 1) hx hb dX4_firstFault_49 (by decide) ?_
          refine lv_icmp_ne (tgt := 57) hx hb dX4_firstFault_50 (by decide) (fun c_50 => ?_) (fun c_50 => ?_)
          · skip
            refine lv_iconst (v := 0) hx hb dX4_firstFault_57 (by decide) ?_
            refine lv_istore (lv' := [(4, .int 0), (0, .ref x0), (1, .int i1), (2, .int i2), (3, .int i3)]) hx hb dX4_firstFault_58 hl (by decide) rfl (fun ls hl => ?_)
            refine lv_iload hx hb dX4_firstFault_60 (lv_at hl 0 rfl) ?_
            refine lv_if_eq (tgt := 70) hx hb dX4_firstFault_62 (by decide) (fun c_62 => ?_) (fun c_62 => ?_)
            · skip
              refine lv_iload_n hx hb dX4_firstFault_70 rfl (lv_at hl 4 rfl) ?_
              have hE9 : p4_firstFault M i1 i2 i3 = i3 := hE.trans (by rw [p4_firstFault_l3_s, if_pos c_6, if_neg c_43, if_neg c_50])
              exact W.iret (v := i3) hx hb hr (fun t ht hW => ⟨⟨_, (), rfl, by rw [hE9], by show va_P (dC, dI) vwCl _ t.heap; rw [ht]; exact hP⟩, hS.F ht⟩) hS.2.2 dX4_firstFault_71
            · exact absurd c_62 (by decide)
          · skip
            refine lv_iconst (v := 1) hx hb dX4_firstFault_53 (by decide) ?_
            refine lv_goto (tgt := 58) hx hb dX4_firstFault_54 (by decide) ?_
            refine lv_istore (lv' := [(4, .int 1), (0, .ref x0), (1, .int i1), (2, .int i2), (3, .int i3)]) hx hb dX4_firstFault_58 hl (by decide) rfl (fun ls hl => ?_)
            refine lv_iload hx hb dX4_firstFault_60 (lv_at hl 0 rfl) ?_
            refine lv_if_eq (tgt := 70) hx hb dX4_firstFault_62 (by decide) (fun c_62 => ?_) (fun c_62 => ?_)
            · exact absurd c_62 (by decide)
            · skip
              refine lv_bipush (v := (-9)) hx hb dX4_firstFault_65 (by decide) ?_
              refine lv_goto (tgt := 71) hx hb dX4_firstFault_67 (by decide) ?_
              have hE9 : p4_firstFault M i1 i2 i3 = (-9) := hE.trans (by rw [p4_firstFault_l3_s, if_pos c_6, if_neg c_43, if_pos c_50])
              exact W.iret (v := (-9)) hx hb hr (fun t ht hW => ⟨⟨_, (), rfl, by rw [hE9], by show va_P (dC, dI) vwCl _ t.heap; rw [ht]; exact hP⟩, hS.F ht⟩) hS.2.2 dX4_firstFault_71
      · skip
        refine lv_iload hx hb dX4_firstFault_9 (lv_at hl 0 rfl) ?_
        refine lv_aload_n hx hb dX4_firstFault_11 rfl (lv_at hl 1 rfl) ?_
        refine va_get (D := (dC, dI)) (ci := 4) (v := .ref w0) (C := RX4) (T := TX4) (N := 7) hx hb hts hin4 hown hK hP 4 rfl rfl 4 (by decide) kf_38 (fun _ h9 => h9) rfl dX4_firstFault_12 ?_
        refine va_getN (D := (dC, dI)) (ci := 2) (v := .ref wr) (C := RX2) (T := TX2) (N := 3) hx hb hts hin2 hown hK hP 5 rfl rfl 0 (by decide) hn_168 (fun _ h9 => h9) rfl dX4_firstFault_15 ?_
        refine lv_iload_n hx hb dX4_firstFault_18 rfl (lv_at hl 2 rfl) ?_
        refine va_alda (v := rr i1.toNatClampNeg) hx hb hK hP 6 1 rfl rfl hi1 (if_pos (vp_lt hi1)) dX4_firstFault_19 ?_
        refine lv_iload_n hx hb dX4_firstFault_20 rfl (lv_at hl 3 rfl) ?_
        refine lv_iload hx hb dX4_firstFault_21 (lv_at hl 0 rfl) ?_
        refine lv_iadd hx hb dX4_firstFault_23 ?_
        refine va_iald hx hb hK hP i1.toNatClampNeg 0 (rows_get cI rr M ([(x0, .inr (4, [.ref t0, .ref r0, .ref y0, .ref g0, .ref w0, .int TR, .int LF])), (w0, .inr (2, [.ref wr, .ref wl, .ref wn])), (wr, .inl (cR, 4, .inr (.inr (.inr (.inr (fun i => if i < 4 then some (rr i) else none)))))), (wl, .inl (cI, 4, .inl LA)), (wn, .inl (cI, 4, .inl LE))]) (vp_lt hi1)) rfl (sp_ix hsp hu c_6) dX4_firstFault_24 ?_
        have hPc : va_P (dC, dI) vwCl [] H := hP.sub (ws' := []) [] rfl
        have hDc : va_D A [] := hD.sub (ws' := []) [] (by decide) rfl
        have hKc := hK.sub (tys' := [(cI, .int)]) [0] rfl
        have hFc := va_free (wc := []) hD hS hA [] rfl
        refine va_calli (va_runS (As := [.int v4, .int (M i1.toNatClampNeg (i2 + v4).toNatClampNeg)]) (rest := []) ⟨hx, hb, hml, hown, hts⟩ (ctX4_goesOn l dC dI cI H.size v4 (M i1.toNatClampNeg (i2 + v4).toNatClampNeg)) (va_cwS 2 hts gX4_firstFault_X4_goesOn rfl rfl rfl (by decide +kernel) ⟨Nat.le_of_ble_eq_true rfl, Nat.le_of_ble_eq_true rfl⟩) (pre_S hKc hN hPc hDc) rfl rfl hl.1 rfl (lv_room (Nat.le_of_ble_eq_true rfl)) dX4_firstFault_25 ⟨Nat.le_of_ble_eq_true rfl, Nat.le_of_ble_eq_true rfl⟩) hS (fun q _ h => hFc q h) hFc (fun r _ t H locs ht hvm hw hB hz1 hk1 hS => ?_)
        try dsimp only at hw
        subst hw
        rw [ht] at hB
        obtain ⟨hP, hD⟩ := rw_join (rowsW cI rr M ++ [(x0, .inr (4, [.ref t0, .ref r0, .ref y0, .ref g0, .ref w0, .int TR, .int LF])), (w0, .inr (2, [.ref wr, .ref wl, .ref wn])), (wr, .inl (cR, 4, .inr (.inr (.inr (.inr (fun i => if i < 4 then some (rr i) else none)))))), (wl, .inl (cI, 4, .inl LA)), (wn, .inl (cI, 4, .inl LE))]) (rowsW cI rr M ++ [(x0, .inr (4, [.ref t0, .ref r0, .ref y0, .ref g0, .ref w0, .int TR, .int LF])), (w0, .inr (2, [.ref wr, .ref wl, .ref wn])), (wr, .inl (cR, 4, .inr (.inr (.inr (.inr (fun i => if i < 4 then some (rr i) else none)))))), (wl, .inl (cI, 4, .inl LA)), (wn, .inl (cI, 4, .inl LE))]) ([]) ([]) ([(rr 0, .inl (cI, 60, .inl (M 0))), (rr 1, .inl (cI, 60, .inl (M 1))), (rr 2, .inl (cI, 60, .inl (M 2))), (rr 3, .inl (cI, 60, .inl (M 3))), (x0, .inr (4, [.ref t0, .ref r0, .ref y0, .ref g0, .ref w0, .int TR, .int LF])), (w0, .inr (2, [.ref wr, .ref wl, .ref wn])), (wr, .inl (cR, 4, .inr (.inr (.inr (.inr (fun i => if i < 4 then some (rr i) else none)))))), (wl, .inl (cI, 4, .inl LA)), (wn, .inl (cI, 4, .inl LE))]) hP hD [] [0, 1, 2, 3, 4, 5, 6, 7, 8] [rr 0, rr 1, rr 2, rr 3, x0, w0, wr, wl, wn] 9 rfl rfl rfl rfl rfl (by decide) rfl rfl hk1 hB
        refine lv_if_ne (tgt := 34) hx hb dX4_firstFault_28 (by decide) (fun c_28 => ?_) (fun c_28 => ?_)
        · skip
          refine lv_iinc (v := (v4 + 1)) (lv' := [(4, .int (v4 + 1)), (0, .ref x0), (1, .int i1), (2, .int i2), (3, .int i3)]) hx hb dX4_firstFault_34 hl (k := 0) rfl rfl (by decide) rfl (fun ls hl => ?_)
          refine lv_goto (tgt := 3) hx hb dX4_firstFault_37 (by decide) ?_
          exact ih (v4 + 1) _ _ _ (up_s hu c_6) hP hD hS (lv_sub hl [0, 1, 2, 3, 4] rfl) (hE.trans (by rw [p4_firstFault_l3_s, if_neg c_6, if_neg c_28]))
        · skip
          refine lv_iload hx hb dX4_firstFault_31 (lv_at hl 0 rfl) ?_
          have hE9 : p4_firstFault M i1 i2 i3 = v4 := hE.trans (by rw [p4_firstFault_l3_s, if_neg c_6, if_pos c_28])
          exact W.iret (v := v4) hx hb hr (fun t ht hW => ⟨⟨_, (), rfl, by rw [hE9], by show va_P (dC, dI) vwCl _ t.heap; rw [ht]; exact hP⟩, hS.F ht⟩) hS.2.2 dX4_firstFault_33
  refine lv_iconst (v := 0) hx hb dX4_firstFault_0 (by decide) ?_
  refine lv_istore (lv' := [(4, .int 0), (0, .ref x0), (1, .int i1), (2, .int i2), (3, .int i3)]) hx hb dX4_firstFault_1 hl (by decide) rfl (fun ls hl => ?_)
  exact lp_3 61 0  _ _ _ (up_i 60 (by decide) (sp_n hsp)) hP hD hS (lv_sub hl [0, 1, 2, 3, 4] rfl) (rfl)

def p4_settle_l26 (M : Nat → Nat → Int32) (N : Int32) (K : Nat → Int32) (L : Nat → Int32) (C : Nat → Int32) (GK : Int32) (i1 : Int32) (i2 : Int32) (i3 : Int32) : Nat → Int32 → (Nat → Int32) → (Nat → Int32) → (Nat → Int32) → Int32 × (Nat → Int32) × (Nat → Int32) × (Nat → Int32) × Int32
  | 0, _, _, _, _ => (0, fun _ => 0, fun _ => 0, fun _ => 0, 0)
  | n + 1, v6, K_, L_, C_ =>
    if (if 6 < ((i3 - 1) / 4) then 6 else ((i3 - 1) / 4)) ≤ v6 then
      ((if 6 < ((i3 - 1) / 4) then 6 else ((i3 - 1) / 4)), K_, L_, C_, 0)
    else
      p4_settle_l26 M N K L C GK i1 i2 i3 n (v6 + 1) (upd K_ v6.toNatClampNeg (p4_kindOf (M i1.toNatClampNeg ((i2 + 2) + (4 * v6)).toNatClampNeg))) (upd L_ v6.toNatClampNeg ((M i1.toNatClampNeg (((i2 + 2) + (4 * v6)) + 1).toNatClampNeg) - 48)) (upd C_ v6.toNatClampNeg ((M i1.toNatClampNeg (((i2 + 2) + (4 * v6)) + 2).toNatClampNeg) - 48))
theorem p4_settle_l26_s (M : Nat → Nat → Int32) (N : Int32) (K : Nat → Int32) (L : Nat → Int32) (C : Nat → Int32) (GK : Int32) (i1 : Int32) (i2 : Int32) (i3 : Int32) (n : Nat) (v6 : Int32) (K_ : Nat → Int32) (L_ : Nat → Int32) (C_ : Nat → Int32) : p4_settle_l26 M N K L C GK i1 i2 i3 (n + 1) v6 K_ L_ C_ =
    (if (if 6 < ((i3 - 1) / 4) then 6 else ((i3 - 1) / 4)) ≤ v6 then
      ((if 6 < ((i3 - 1) / 4) then 6 else ((i3 - 1) / 4)), K_, L_, C_, 0)
    else
      p4_settle_l26 M N K L C GK i1 i2 i3 n (v6 + 1) (upd K_ v6.toNatClampNeg (p4_kindOf (M i1.toNatClampNeg ((i2 + 2) + (4 * v6)).toNatClampNeg))) (upd L_ v6.toNatClampNeg ((M i1.toNatClampNeg (((i2 + 2) + (4 * v6)) + 1).toNatClampNeg) - 48)) (upd C_ v6.toNatClampNeg ((M i1.toNatClampNeg (((i2 + 2) + (4 * v6)) + 2).toNatClampNeg) - 48))) := rfl
def p4_settle (M : Nat → Nat → Int32) (N : Int32) (K : Nat → Int32) (L : Nat → Int32) (C : Nat → Int32) (GK : Int32) (i1 : Int32) (i2 : Int32) (i3 : Int32) : Int32 × (Nat → Int32) × (Nat → Int32) × (Nat → Int32) × Int32 :=
  p4_settle_l26 M N K L C GK i1 i2 i3 7 0 K L C
abbrev rmX4_settle : Room := { frames := 1, cells := 0, slots := 0, locals := 21 }
abbrev QX4_settle (dC : Nat → ClassId) (dI : Nat → Nat → Nat) (A : Nat → Prop) (cI : ClassId) (cR : ClassId) (rr : Nat → Nat) (x0 : Nat) (t0 : Nat) (r0 : Nat) (y0 : Nat) (g0 : Nat) (w0 : Nat) (tk : Nat) (tl : Nat) (tc : Nat) (gn : Nat) (gc : Nat) (gh : Nat) (wr : Nat) (wl : Nat) (wn : Nat) (M : Nat → Nat → Int32) (TR : Int32) (LF : Int32) (N : Int32) (K : Nat → Int32) (L : Nat → Int32) (C : Nat → Int32) (GK : Int32) (GN : Nat → Int32) (GC : Nat → Int32) (GH : Nat → Int32) (LA : Nat → Int32) (LE : Nat → Int32) (i1 : Int32) (i2 : Int32) (i3 : Int32) : Array Value → State → Outcome → State → Prop := va_Qv (fun (_ : Unit) => True) (fun (_ : Unit) (t : State) => va_P (dC, dI) vwCl (rowsW cI rr M ++ [(x0, .inr (4, [.ref t0, .ref r0, .ref y0, .ref g0, .ref w0, .int TR, .int LF])), (t0, .inr (0, [.ref tk, .ref tl, .ref tc, .int ((p4_settle M N K L C GK i1 i2 i3).1)])), (tk, .inl (cI, 6, .inl ((p4_settle M N K L C GK i1 i2 i3).2.1))), (tl, .inl (cI, 6, .inl ((p4_settle M N K L C GK i1 i2 i3).2.2.1))), (tc, .inl (cI, 6, .inl ((p4_settle M N K L C GK i1 i2 i3).2.2.2.1))), (g0, .inr (1, [.ref gn, .ref gc, .ref gh, .int ((p4_settle M N K L C GK i1 i2 i3).2.2.2.2)])), (gn, .inl (cI, 8, .inl GN)), (gc, .inl (cI, 8, .inl GC)), (gh, .inl (cI, 8, .inl GH)), (w0, .inr (2, [.ref wr, .ref wl, .ref wn])), (wr, .inl (cR, 4, .inr (.inr (.inr (.inr (fun i => if i < 4 then some (rr i) else none)))))), (wl, .inl (cI, 4, .inl LA)), (wn, .inl (cI, 4, .inl LE))]) t.heap) A
set_option maxHeartbeats 4000000 in
set_option maxRecDepth 100000 in
theorem ctX4_settle (l : Launch) (dC : Nat → ClassId) (dI : Nat → Nat → Nat) (cI : ClassId) (cR : ClassId) (rr : Nat → Nat) (x0 : Nat) (t0 : Nat) (r0 : Nat) (y0 : Nat) (g0 : Nat) (w0 : Nat) (tk : Nat) (tl : Nat) (tc : Nat) (gn : Nat) (gc : Nat) (gh : Nat) (wr : Nat) (wl : Nat) (wn : Nat) (sz : Nat) (M : Nat → Nat → Int32) (TR : Int32) (LF : Int32) (N : Int32) (K : Nat → Int32) (L : Nat → Int32) (C : Nat → Int32) (GK : Int32) (GN : Nat → Int32) (GC : Nat → Int32) (GH : Nat → Int32) (LA : Nat → Int32) (LE : Nat → Int32) (i1 : Int32) (i2 : Int32) (i3 : Int32) (hi1 : vp_in i1 4) (hsp : ¬ i2 < 0 ∧ ¬ i3 < 0 ∧ i2.toNatClampNeg + i3.toNatClampNeg ≤ 60) : Met l yX4_settle wsX4_settle rmX4_settle (va_Pc [.ref x0, .int i1, .int i2, .int i3] (cP dC dI [(cI, .int), (cR, .array .int)] (rowsW cI rr M ++ [(x0, .inr (4, [.ref t0, .ref r0, .ref y0, .ref g0, .ref w0, .int TR, .int LF])), (t0, .inr (0, [.ref tk, .ref tl, .ref tc, .int N])), (tk, .inl (cI, 6, .inl K)), (tl, .inl (cI, 6, .inl L)), (tc, .inl (cI, 6, .inl C)), (g0, .inr (1, [.ref gn, .ref gc, .ref gh, .int GK])), (gn, .inl (cI, 8, .inl GN)), (gc, .inl (cI, 8, .inl GC)), (gh, .inl (cI, 8, .inl GH)), (w0, .inr (2, [.ref wr, .ref wl, .ref wn])), (wr, .inl (cR, 4, .inr (.inr (.inr (.inr (fun i => if i < 4 then some (rr i) else none)))))), (wl, .inl (cI, 4, .inl LA)), (wn, .inl (cI, 4, .inl LE))]) sz)) (QX4_settle dC dI (va_A (rowsW cI rr M ++ [(x0, .inr (4, [.ref t0, .ref r0, .ref y0, .ref g0, .ref w0, .int TR, .int LF])), (t0, .inr (0, [.ref tk, .ref tl, .ref tc, .int N])), (tk, .inl (cI, 6, .inl K)), (tl, .inl (cI, 6, .inl L)), (tc, .inl (cI, 6, .inl C)), (g0, .inr (1, [.ref gn, .ref gc, .ref gh, .int GK])), (gn, .inl (cI, 8, .inl GN)), (gc, .inl (cI, 8, .inl GC)), (gh, .inl (cI, 8, .inl GH)), (w0, .inr (2, [.ref wr, .ref wl, .ref wn])), (wr, .inl (cR, 4, .inr (.inr (.inr (.inr (fun i => if i < 4 then some (rr i) else none)))))), (wl, .inl (cI, 4, .inl LA)), (wn, .inl (cI, 4, .inl LE))]) sz) cI cR rr x0 t0 r0 y0 g0 w0 tk tl tc gn gc gh wr wl wn M TR LF N K L C GK GN GC GH LA LE i1 i2 i3) 0 0 (va_A (rowsW cI rr M ++ [(x0, .inr (4, [.ref t0, .ref r0, .ref y0, .ref g0, .ref w0, .int TR, .int LF])), (t0, .inr (0, [.ref tk, .ref tl, .ref tc, .int N])), (tk, .inl (cI, 6, .inl K)), (tl, .inl (cI, 6, .inl L)), (tc, .inl (cI, 6, .inl C)), (g0, .inr (1, [.ref gn, .ref gc, .ref gh, .int GK])), (gn, .inl (cI, 8, .inl GN)), (gc, .inl (cI, 8, .inl GC)), (gh, .inl (cI, 8, .inl GH)), (w0, .inr (2, [.ref wr, .ref wl, .ref wn])), (wr, .inl (cR, 4, .inr (.inr (.inr (.inr (fun i => if i < 4 then some (rr i) else none)))))), (wl, .inl (cI, 4, .inl LA)), (wn, .inl (cI, 4, .inl LE))]) sz) := by
  refine Met.ofW (cc := cX4_settle) (maxL := 8) (ret := none) (by decide) rfl ?_
  intro p e s m args below meth c s₁ B hml hv
  obtain ⟨rfl, hsz, hP, hK, hD0, hN⟩ := hv
  have hx := B.exec
  have hb := B.bytes
  have hr := B.returns
  have hts := atoms_spec (ws := wsX4_settle) B.pre
  have hown : s.vm.findClass RX4 = some m.cls := findClass_of_methodNamed B.named
  have hlocks := B.notSynchronized
  subst hsz
  have hD := hD0.self (sz := s.heap.size)
  generalize hAe : va_A (rowsW cI rr M ++ [(x0, .inr (4, [.ref t0, .ref r0, .ref y0, .ref g0, .ref w0, .int TR, .int LF])), (t0, .inr (0, [.ref tk, .ref tl, .ref tc, .int N])), (tk, .inl (cI, 6, .inl K)), (tl, .inl (cI, 6, .inl L)), (tc, .inl (cI, 6, .inl C)), (g0, .inr (1, [.ref gn, .ref gc, .ref gh, .int GK])), (gn, .inl (cI, 8, .inl GN)), (gc, .inl (cI, 8, .inl GC)), (gh, .inl (cI, 8, .inl GH)), (w0, .inr (2, [.ref wr, .ref wl, .ref wn])), (wr, .inl (cR, 4, .inr (.inr (.inr (.inr (fun i => if i < 4 then some (rr i) else none)))))), (wl, .inl (cI, 4, .inl LA)), (wn, .inl (cI, 4, .inl LE))]) s.heap.size = A at hD ⊢
  have hA : ∀ q : Nat, s.heap.size ≤ q → A q := fun q h => by rw [← hAe]; exact Or.inr h
  have hS : va_S A s.heap s.heap [] := va_S.rf
  have hP : va_P (dC, dI) vwCl (rowsW cI rr M ++ [(x0, .inr (4, [.ref t0, .ref r0, .ref y0, .ref g0, .ref w0, .int TR, .int LF])), (t0, .inr (0, [.ref tk, .ref tl, .ref tc, .int N])), (tk, .inl (cI, 6, .inl K)), (tl, .inl (cI, 6, .inl L)), (tc, .inl (cI, 6, .inl C)), (g0, .inr (1, [.ref gn, .ref gc, .ref gh, .int GK])), (gn, .inl (cI, 8, .inl GN)), (gc, .inl (cI, 8, .inl GC)), (gh, .inl (cI, 8, .inl GH)), (w0, .inr (2, [.ref wr, .ref wl, .ref wn])), (wr, .inl (cR, 4, .inr (.inr (.inr (.inr (fun i => if i < 4 then some (rr i) else none)))))), (wl, .inl (cI, 4, .inl LA)), (wn, .inl (cI, 4, .inl LE))]) s.heap := hP
  have hin0 : ∀ w ∈ wsX00, w ∈ wsX4_settle := by decide +kernel
  have hin1 : ∀ w ∈ wsX10, w ∈ wsX4_settle := by decide +kernel
  have hin2 : ∀ w ∈ wsX20, w ∈ wsX4_settle := by decide +kernel
  have hin4 : ∀ w ∈ wsX40, w ∈ wsX4_settle := by decide +kernel
  have kf_12 := hts (.fieldLink RX4 12 "RicherChange" "town" "LRicherChange$City;") (by decide +kernel)
  have kf_31 := hts (.fieldLink RX4 31 "RicherChange" "readings" "LRicherChange$Readings;") (by decide +kernel)
  have kf_38 := hts (.fieldLink RX4 38 "RicherChange" "sheets" "LRicherChange$Sheets;") (by decide +kernel)
  have hn_72 := va_Nw.use (A := [.ref x0, .int i1, .int i2, .int i3].toArray) rfl hN.2.2.2.1
  have hn_78 := va_Nw.use (A := [.ref x0, .int i1, .int i2, .int i3].toArray) rfl hN.1
  have hn_82 := va_Nw.use (A := [.ref x0, .int i1, .int i2, .int i3].toArray) rfl hN.2.1
  have hn_85 := va_Nw.use (A := [.ref x0, .int i1, .int i2, .int i3].toArray) rfl hN.2.2.1
  have hn_138 := va_Nw.use (A := [.ref x0, .int i1, .int i2, .int i3].toArray) rfl hN.2.2.2.2.2.2.1
  have hn_168 := va_Nw.use (A := [.ref x0, .int i1, .int i2, .int i3].toArray) rfl hN.2.2.2.2.2.2.2.1
  have hl := lv_entry ([.ref x0, .int i1, .int i2, .int i3]) (n := 8) (Nat.le_of_ble_eq_true rfl)
  rw [lg_entry_eq]
  generalize (lg_sl ([.ref x0, .int i1, .int i2, .int i3]) ++ List.replicate (8 - (lg_sl ([.ref x0, .int i1, .int i2, .int i3])).length) Slot.unset).toArray = ls at hl ⊢
  have hl : lv_has ls 8 [(0, .ref x0), (1, .int i1), (2, .int i2), (3, .int i3)] := hl
  have lp_26 : ∀ (n : Nat) (v6 : Int32) (K_ : Nat → Int32) (L_ : Nat → Int32) (C_ : Nat → Int32) (H : Heap) (locs : List Loc) (ls : Array Slot), (up v6 (if 6 < ((i3 - 1) / 4) then 6 else ((i3 - 1) / 4)) n) → va_P (dC, dI) vwCl (rowsW cI rr M ++ [(x0, .inr (4, [.ref t0, .ref r0, .ref y0, .ref g0, .ref w0, .int TR, .int LF])), (t0, .inr (0, [.ref tk, .ref tl, .ref tc, .int N])), (tk, .inl (cI, 6, .inl K_)), (tl, .inl (cI, 6, .inl L_)), (tc, .inl (cI, 6, .inl C_)), (g0, .inr (1, [.ref gn, .ref gc, .ref gh, .int GK])), (gn, .inl (cI, 8, .inl GN)), (gc, .inl (cI, 8, .inl GC)), (gh, .inl (cI, 8, .inl GH)), (w0, .inr (2, [.ref wr, .ref wl, .ref wn])), (wr, .inl (cR, 4, .inr (.inr (.inr (.inr (fun i => if i < 4 then some (rr i) else none)))))), (wl, .inl (cI, 4, .inl LA)), (wn, .inl (cI, 4, .inl LE))]) H → va_D A (rowsW cI rr M ++ [(x0, .inr (4, [.ref t0, .ref r0, .ref y0, .ref g0, .ref w0, .int TR, .int LF])), (t0, .inr (0, [.ref tk, .ref tl, .ref tc, .int N])), (tk, .inl (cI, 6, .inl K_)), (tl, .inl (cI, 6, .inl L_)), (tc, .inl (cI, 6, .inl C_)), (g0, .inr (1, [.ref gn, .ref gc, .ref gh, .int GK])), (gn, .inl (cI, 8, .inl GN)), (gc, .inl (cI, 8, .inl GC)), (gh, .inl (cI, 8, .inl GH)), (w0, .inr (2, [.ref wr, .ref wl, .ref wn])), (wr, .inl (cR, 4, .inr (.inr (.inr (.inr (fun i => if i < 4 then some (rr i) else none)))))), (wl, .inl (cI, 4, .inl LA)), (wn, .inl (cI, 4, .inl LE))]) → va_S A s.heap H locs → lv_has ls 8 [(6, .int v6), (5, .int (if 6 < ((i3 - 1) / 4) then 6 else ((i3 - 1) / 4))), (4, .ref (rr i1.toNatClampNeg)), (0, .ref x0), (1, .int i1), (2, .int i2), (3, .int i3)] → p4_settle M N K L C GK i1 i2 i3 = p4_settle_l26 M N K L C GK i1 i2 i3 n v6 K_ L_ C_ → W p l e (headSpec wsX4_settle rmX4_settle).room s m [.ref x0, .int i1, .int i2, .int i3].toArray below meth c H locs 0 0 (MQ below (QX4_settle dC dI A cI cR rr x0 t0 r0 y0 g0 w0 tk tl tc gn gc gh wr wl wn M TR LF N K L C GK GN GC GH LA LE i1 i2 i3) [.ref x0, .int i1, .int i2, .int i3].toArray s 0 0 A) (F0 m 26 ls []) := by
    intro n
    induction n with
    | zero => intro v6 K_ L_ C_ _ _ _ hu; exact absurd hu up_no
    | succ n ih =>
      intro v6 K_ L_ C_ H locs ls hu hP hD hS hl hE
      refine lv_iload hx hb dX4_settle_26 (lv_at hl 0 rfl) ?_
      refine lv_iload hx hb dX4_settle_28 (lv_at hl 1 rfl) ?_
      refine lv_icmp_ge (tgt := 107) hx hb dX4_settle_30 (by decide) (fun c_30 => ?_) (fun c_30 => ?_)
      · skip
        refine lv_aload_n hx hb dX4_settle_107 rfl (lv_at hl 3 rfl) ?_
        refine va_get (D := (dC, dI)) (ci := 4) (v := .ref t0) (C := RX4) (T := TX4) (N := 7) hx hb hts hin4 hown hK hP 4 rfl rfl 0 (by decide) kf_12 (fun _ h9 => h9) rfl dX4_settle_108 ?_
        refine lv_iload hx hb dX4_settle_111 (lv_at hl 1 rfl) ?_
        refine va_putN (D := (dC, dI)) (ci := 0) (v := .int (if 6 < ((i3 - 1) / 4) then 6 else ((i3 - 1) / 4))) (ty := .int) (C := RX0) (T := TX0) (N := 4) hx hb hts hin0 tyX0 tyX0_ok nmX0 hown hK hP hD hS 5 rfl rfl 3 (by decide) hn_72 (fun _ h9 => h9) rfl (by decide +kernel) rfl rfl (Nat.le_of_ble_eq_true rfl) dX4_settle_113 (fun H locs hP hD hS => ?_)
        have hP : va_P (dC, dI) vwCl (rowsW cI rr M ++ [(x0, .inr (4, [.ref t0, .ref r0, .ref y0, .ref g0, .ref w0, .int TR, .int LF])), (t0, .inr (0, [.ref tk, .ref tl, .ref tc, .int (if 6 < ((i3 - 1) / 4) then 6 else ((i3 - 1) / 4))])), (tk, .inl (cI, 6, .inl K_)), (tl, .inl (cI, 6, .inl L_)), (tc, .inl (cI, 6, .inl C_)), (g0, .inr (1, [.ref gn, .ref gc, .ref gh, .int GK])), (gn, .inl (cI, 8, .inl GN)), (gc, .inl (cI, 8, .inl GC)), (gh, .inl (cI, 8, .inl GH)), (w0, .inr (2, [.ref wr, .ref wl, .ref wn])), (wr, .inl (cR, 4, .inr (.inr (.inr (.inr (fun i => if i < 4 then some (rr i) else none)))))), (wl, .inl (cI, 4, .inl LA)), (wn, .inl (cI, 4, .inl LE))]) H := hP
        have hD : va_D A (rowsW cI rr M ++ [(x0, .inr (4, [.ref t0, .ref r0, .ref y0, .ref g0, .ref w0, .int TR, .int LF])), (t0, .inr (0, [.ref tk, .ref tl, .ref tc, .int (if 6 < ((i3 - 1) / 4) then 6 else ((i3 - 1) / 4))])), (tk, .inl (cI, 6, .inl K_)), (tl, .inl (cI, 6, .inl L_)), (tc, .inl (cI, 6, .inl C_)), (g0, .inr (1, [.ref gn, .ref gc, .ref gh, .int GK])), (gn, .inl (cI, 8, .inl GN)), (gc, .inl (cI, 8, .inl GC)), (gh, .inl (cI, 8, .inl GH)), (w0, .inr (2, [.ref wr, .ref wl, .ref wn])), (wr, .inl (cR, 4, .inr (.inr (.inr (.inr (fun i => if i < 4 then some (rr i) else none)))))), (wl, .inl (cI, 4, .inl LA)), (wn, .inl (cI, 4, .inl LE))]) := hD
        refine lv_aload_n hx hb dX4_settle_116 rfl (lv_at hl 3 rfl) ?_
        refine va_get (D := (dC, dI)) (ci := 4) (v := .ref g0) (C := RX4) (T := TX4) (N := 7) hx hb hts hin4 hown hK hP 4 rfl rfl 3 (by decide) kf_31 (fun _ h9 => h9) rfl dX4_settle_117 ?_
        refine lv_iconst (v := 0) hx hb dX4_settle_120 (by decide) ?_
        refine va_putN (D := (dC, dI)) (ci := 1) (v := .int 0) (ty := .int) (C := RX1) (T := TX1) (N := 4) hx hb hts hin1 tyX1 tyX1_ok nmX1 hown hK hP hD hS 9 rfl rfl 3 (by decide) hn_138 (fun _ h9 => h9) rfl (by decide +kernel) rfl rfl (Nat.le_of_ble_eq_true rfl) dX4_settle_121 (fun H locs hP hD hS => ?_)
        have hP : va_P (dC, dI) vwCl (rowsW cI rr M ++ [(x0, .inr (4, [.ref t0, .ref r0, .ref y0, .ref g0, .ref w0, .int TR, .int LF])), (t0, .inr (0, [.ref tk, .ref tl, .ref tc, .int (if 6 < ((i3 - 1) / 4) then 6 else ((i3 - 1) / 4))])), (tk, .inl (cI, 6, .inl K_)), (tl, .inl (cI, 6, .inl L_)), (tc, .inl (cI, 6, .inl C_)), (g0, .inr (1, [.ref gn, .ref gc, .ref gh, .int 0])), (gn, .inl (cI, 8, .inl GN)), (gc, .inl (cI, 8, .inl GC)), (gh, .inl (cI, 8, .inl GH)), (w0, .inr (2, [.ref wr, .ref wl, .ref wn])), (wr, .inl (cR, 4, .inr (.inr (.inr (.inr (fun i => if i < 4 then some (rr i) else none)))))), (wl, .inl (cI, 4, .inl LA)), (wn, .inl (cI, 4, .inl LE))]) H := hP
        have hD : va_D A (rowsW cI rr M ++ [(x0, .inr (4, [.ref t0, .ref r0, .ref y0, .ref g0, .ref w0, .int TR, .int LF])), (t0, .inr (0, [.ref tk, .ref tl, .ref tc, .int (if 6 < ((i3 - 1) / 4) then 6 else ((i3 - 1) / 4))])), (tk, .inl (cI, 6, .inl K_)), (tl, .inl (cI, 6, .inl L_)), (tc, .inl (cI, 6, .inl C_)), (g0, .inr (1, [.ref gn, .ref gc, .ref gh, .int 0])), (gn, .inl (cI, 8, .inl GN)), (gc, .inl (cI, 8, .inl GC)), (gh, .inl (cI, 8, .inl GH)), (w0, .inr (2, [.ref wr, .ref wl, .ref wn])), (wr, .inl (cR, 4, .inr (.inr (.inr (.inr (fun i => if i < 4 then some (rr i) else none)))))), (wl, .inl (cI, 4, .inl LA)), (wn, .inl (cI, 4, .inl LE))]) := hD
        have hE9 : p4_settle M N K L C GK i1 i2 i3 = ((if 6 < ((i3 - 1) / 4) then 6 else ((i3 - 1) / 4)), K_, L_, C_, 0) := hE.trans (by rw [p4_settle_l26_s, if_pos c_30])
        exact W.vret hx hb hr (fun t ht hW => ⟨⟨(), rfl, trivial, by show va_P (dC, dI) vwCl _ t.heap; rw [ht, hE9]; exact hP⟩, hS.F ht⟩) hS.2.2 dX4_settle_124
      · skip
        have j6 : vp_in v6 6 := up_in 6 hu c_30 (set_b (nn' hsp.2.1) (sp_n hsp)).1
        obtain ⟨jx, jy, jz⟩ := set_ix hsp hu c_30
        refine lv_iload_n hx hb dX4_settle_33 rfl (lv_at hl 5 rfl) ?_
        refine lv_iconst (v := 2) hx hb dX4_settle_34 (by decide) ?_
        refine lv_iadd hx hb dX4_settle_35 ?_
        refine lv_iconst (v := 4) hx hb dX4_settle_36 (by decide) ?_
        refine lv_iload hx hb dX4_settle_37 (lv_at hl 0 rfl) ?_
        refine lv_imul hx hb dX4_settle_39 ?_
        refine lv_iadd hx hb dX4_settle_40 ?_
        refine lv_istore (lv' := [(7, .int ((i2 + 2) + (4 * v6))), (6, .int v6), (5, .int (if 6 < ((i3 - 1) / 4) then 6 else ((i3 - 1) / 4))), (4, .ref (rr i1.toNatClampNeg)), (0, .ref x0), (1, .int i1), (2, .int i2), (3, .int i3)]) hx hb dX4_settle_41 hl (by decide) rfl (fun ls hl => ?_)
        refine lv_aload_n hx hb dX4_settle_43 rfl (lv_at hl 4 rfl) ?_
        refine va_get (D := (dC, dI)) (ci := 4) (v := .ref t0) (C := RX4) (T := TX4) (N := 7) hx hb hts hin4 hown hK hP 4 rfl rfl 0 (by decide) kf_12 (fun _ h9 => h9) rfl dX4_settle_44 ?_
        refine va_getN (D := (dC, dI)) (ci := 0) (v := .ref tk) (C := RX0) (T := TX0) (N := 4) hx hb hts hin0 hown hK hP 5 rfl rfl 0 (by decide) hn_78 (fun _ h9 => h9) rfl dX4_settle_47 ?_
        refine lv_iload hx hb dX4_settle_50 (lv_at hl 1 rfl) ?_
        refine lv_aload hx hb dX4_settle_52 (lv_at hl 3 rfl) ?_
        refine lv_iload hx hb dX4_settle_54 (lv_at hl 0 rfl) ?_
        refine va_iald hx hb hK hP i1.toNatClampNeg 0 (rows_get cI rr M ([(x0, .inr (4, [.ref t0, .ref r0, .ref y0, .ref g0, .ref w0, .int TR, .int LF])), (t0, .inr (0, [.ref tk, .ref tl, .ref tc, .int N])), (tk, .inl (cI, 6, .inl K_)), (tl, .inl (cI, 6, .inl L_)), (tc, .inl (cI, 6, .inl C_)), (g0, .inr (1, [.ref gn, .ref gc, .ref gh, .int GK])), (gn, .inl (cI, 8, .inl GN)), (gc, .inl (cI, 8, .inl GC)), (gh, .inl (cI, 8, .inl GH)), (w0, .inr (2, [.ref wr, .ref wl, .ref wn])), (wr, .inl (cR, 4, .inr (.inr (.inr (.inr (fun i => if i < 4 then some (rr i) else none)))))), (wl, .inl (cI, 4, .inl LA)), (wn, .inl (cI, 4, .inl LE))]) (vp_lt hi1)) rfl jx dX4_settle_56 ?_
        have hPc : va_P (dC, dI) vwCl [] H := hP.sub (ws' := []) [] rfl
        have hDc : va_D A [] := hD.sub (ws' := []) [] (by decide) rfl
        have hKc := hK.sub (tys' := [(cI, .int)]) [0] rfl
        have hFc := va_free (wc := []) hD hS hA [] rfl
        refine va_calli (va_runS (As := [.int (M i1.toNatClampNeg ((i2 + 2) + (4 * v6)).toNatClampNeg)]) (rest := [.int v6, .ref tk]) ⟨hx, hb, hml, hown, hts⟩ (ctX4_kindOf l dC dI cI H.size (M i1.toNatClampNeg ((i2 + 2) + (4 * v6)).toNatClampNeg)) (va_cwS 1 hts gX4_settle_X4_kindOf rfl rfl rfl (by decide +kernel) ⟨Nat.le_of_ble_eq_true rfl, Nat.le_of_ble_eq_true rfl⟩) (pre_S hKc hN hPc hDc) rfl rfl hl.1 rfl (lv_room (Nat.le_of_ble_eq_true rfl)) dX4_settle_57 ⟨Nat.le_of_ble_eq_true rfl, Nat.le_of_ble_eq_true rfl⟩) hS (fun q _ h => hFc q h) hFc (fun r _ t H locs ht hvm hw hB hz1 hk1 hS => ?_)
        try dsimp only at hw
        subst hw
        rw [ht] at hB
        obtain ⟨hP, hD⟩ := rw_join (rowsW cI rr M ++ [(x0, .inr (4, [.ref t0, .ref r0, .ref y0, .ref g0, .ref w0, .int TR, .int LF])), (t0, .inr (0, [.ref tk, .ref tl, .ref tc, .int N])), (tk, .inl (cI, 6, .inl K_)), (tl, .inl (cI, 6, .inl L_)), (tc, .inl (cI, 6, .inl C_)), (g0, .inr (1, [.ref gn, .ref gc, .ref gh, .int GK])), (gn, .inl (cI, 8, .inl GN)), (gc, .inl (cI, 8, .inl GC)), (gh, .inl (cI, 8, .inl GH)), (w0, .inr (2, [.ref wr, .ref wl, .ref wn])), (wr, .inl (cR, 4, .inr (.inr (.inr (.inr (fun i => if i < 4 then some (rr i) else none)))))), (wl, .inl (cI, 4, .inl LA)), (wn, .inl (cI, 4, .inl LE))]) (rowsW cI rr M ++ [(x0, .inr (4, [.ref t0, .ref r0, .ref y0, .ref g0, .ref w0, .int TR, .int LF])), (t0, .inr (0, [.ref tk, .ref tl, .ref tc, .int N])), (tk, .inl (cI, 6, .inl K_)), (tl, .inl (cI, 6, .inl L_)), (tc, .inl (cI, 6, .inl C_)), (g0, .inr (1, [.ref gn, .ref gc, .ref gh, .int GK])), (gn, .inl (cI, 8, .inl GN)), (gc, .inl (cI, 8, .inl GC)), (gh, .inl (cI, 8, .inl GH)), (w0, .inr (2, [.ref wr, .ref wl, .ref wn])), (wr, .inl (cR, 4, .inr (.inr (.inr (.inr (fun i => if i < 4 then some (rr i) else none)))))), (wl, .inl (cI, 4, .inl LA)), (wn, .inl (cI, 4, .inl LE))]) ([]) ([]) ([(rr 0, .inl (cI, 60, .inl (M 0))), (rr 1, .inl (cI, 60, .inl (M 1))), (rr 2, .inl (cI, 60, .inl (M 2))), (rr 3, .inl (cI, 60, .inl (M 3))), (x0, .inr (4, [.ref t0, .ref r0, .ref y0, .ref g0, .ref w0, .int TR, .int LF])), (t0, .inr (0, [.ref tk, .ref tl, .ref tc, .int N])), (tk, .inl (cI, 6, .inl K_)), (tl, .inl (cI, 6, .inl L_)), (tc, .inl (cI, 6, .inl C_)), (g0, .inr (1, [.ref gn, .ref gc, .ref gh, .int GK])), (gn, .inl (cI, 8, .inl GN)), (gc, .inl (cI, 8, .inl GC)), (gh, .inl (cI, 8, .inl GH)), (w0, .inr (2, [.ref wr, .ref wl, .ref wn])), (wr, .inl (cR, 4, .inr (.inr (.inr (.inr (fun i => if i < 4 then some (rr i) else none)))))), (wl, .inl (cI, 4, .inl LA)), (wn, .inl (cI, 4, .inl LE))]) hP hD [] [0, 1, 2, 3, 4, 5, 6, 7, 8, 9, 10, 11, 12, 13, 14, 15, 16] [rr 0, rr 1, rr 2, rr 3, x0, t0, tk, tl, tc, g0, gn, gc, gh, w0, wr, wl, wn] 17 rfl rfl rfl rfl rfl (by decide) rfl rfl hk1 hB
        refine va_iast hx hb hK hP hD hS 6 0 rfl rfl (by assumption) dX4_settle_60 (fun H locs hP hD hS => ?_)
        have hP : va_P (dC, dI) vwCl (rowsW cI rr M ++ [(x0, .inr (4, [.ref t0, .ref r0, .ref y0, .ref g0, .ref w0, .int TR, .int LF])), (t0, .inr (0, [.ref tk, .ref tl, .ref tc, .int N])), (tk, .inl (cI, 6, .inl (upd K_ v6.toNatClampNeg (p4_kindOf (M i1.toNatClampNeg ((i2 + 2) + (4 * v6)).toNatClampNeg))))), (tl, .inl (cI, 6, .inl L_)), (tc, .inl (cI, 6, .inl C_)), (g0, .inr (1, [.ref gn, .ref gc, .ref gh, .int GK])), (gn, .inl (cI, 8, .inl GN)), (gc, .inl (cI, 8, .inl GC)), (gh, .inl (cI, 8, .inl GH)), (w0, .inr (2, [.ref wr, .ref wl, .ref wn])), (wr, .inl (cR, 4, .inr (.inr (.inr (.inr (fun i => if i < 4 then some (rr i) else none)))))), (wl, .inl (cI, 4, .inl LA)), (wn, .inl (cI, 4, .inl LE))]) H := hP
        have hD : va_D A (rowsW cI rr M ++ [(x0, .inr (4, [.ref t0, .ref r0, .ref y0, .ref g0, .ref w0, .int TR, .int LF])), (t0, .inr (0, [.ref tk, .ref tl, .ref tc, .int N])), (tk, .inl (cI, 6, .inl (upd K_ v6.toNatClampNeg (p4_kindOf (M i1.toNatClampNeg ((i2 + 2) + (4 * v6)).toNatClampNeg))))), (tl, .inl (cI, 6, .inl L_)), (tc, .inl (cI, 6, .inl C_)), (g0, .inr (1, [.ref gn, .ref gc, .ref gh, .int GK])), (gn, .inl (cI, 8, .inl GN)), (gc, .inl (cI, 8, .inl GC)), (gh, .inl (cI, 8, .inl GH)), (w0, .inr (2, [.ref wr, .ref wl, .ref wn])), (wr, .inl (cR, 4, .inr (.inr (.inr (.inr (fun i => if i < 4 then some (rr i) else none)))))), (wl, .inl (cI, 4, .inl LA)), (wn, .inl (cI, 4, .inl LE))]) := hD
        refine lv_aload_n hx hb dX4_settle_61 rfl (lv_at hl 4 rfl) ?_
        refine va_get (D := (dC, dI)) (ci := 4) (v := .ref t0) (C := RX4) (T := TX4) (N := 7) hx hb hts hin4 hown hK hP 4 rfl rfl 0 (by decide) kf_12 (fun _ h9 => h9) rfl dX4_settle_62 ?_
        refine va_getN (D := (dC, dI)) (ci := 0) (v := .ref tl) (C := RX0) (T := TX0) (N := 4) hx hb hts hin0 hown hK hP 5 rfl rfl 1 (by decide) hn_82 (fun _ h9 => h9) rfl dX4_settle_65 ?_
        refine lv_iload hx hb dX4_settle_68 (lv_at hl 1 rfl) ?_
        refine lv_aload hx hb dX4_settle_70 (lv_at hl 3 rfl) ?_
        refine lv_iload hx hb dX4_settle_72 (lv_at hl 0 rfl) ?_
        refine lv_iconst (v := 1) hx hb dX4_settle_74 (by decide) ?_
        refine lv_iadd hx hb dX4_settle_75 ?_
        refine va_iald hx hb hK hP i1.toNatClampNeg 0 (rows_get cI rr M ([(x0, .inr (4, [.ref t0, .ref r0, .ref y0, .ref g0, .ref w0, .int TR, .int LF])), (t0, .inr (0, [.ref tk, .ref tl, .ref tc, .int N])), (tk, .inl (cI, 6, .inl (upd K_ v6.toNatClampNeg (p4_kindOf (M i1.toNatClampNeg ((i2 + 2) + (4 * v6)).toNatClampNeg))))), (tl, .inl (cI, 6, .inl L_)), (tc, .inl (cI, 6, .inl C_)), (g0, .inr (1, [.ref gn, .ref gc, .ref gh, .int GK])), (gn, .inl (cI, 8, .inl GN)), (gc, .inl (cI, 8, .inl GC)), (gh, .inl (cI, 8, .inl GH)), (w0, .inr (2, [.ref wr, .ref wl, .ref wn])), (wr, .inl (cR, 4, .inr (.inr (.inr (.inr (fun i => if i < 4 then some (rr i) else none)))))), (wl, .inl (cI, 4, .inl LA)), (wn, .inl (cI, 4, .inl LE))]) (vp_lt hi1)) rfl jy dX4_settle_76 ?_
        refine lv_bipush (v := 48) hx hb dX4_settle_77 (by decide) ?_
        refine lv_isub hx hb dX4_settle_79 ?_
        refine va_iast hx hb hK hP hD hS 7 0 rfl rfl (by assumption) dX4_settle_80 (fun H locs hP hD hS => ?_)
        have hP : va_P (dC, dI) vwCl (rowsW cI rr M ++ [(x0, .inr (4, [.ref t0, .ref r0, .ref y0, .ref g0, .ref w0, .int TR, .int LF])), (t0, .inr (0, [.ref tk, .ref tl, .ref tc, .int N])), (tk, .inl (cI, 6, .inl (upd K_ v6.toNatClampNeg (p4_kindOf (M i1.toNatClampNeg ((i2 + 2) + (4 * v6)).toNatClampNeg))))), (tl, .inl (cI, 6, .inl (upd L_ v6.toNatClampNeg ((M i1.toNatClampNeg (((i2 + 2) + (4 * v6)) + 1).toNatClampNeg) - 48)))), (tc, .inl (cI, 6, .inl C_)), (g0, .inr (1, [.ref gn, .ref gc, .ref gh, .int GK])), (gn, .inl (cI, 8, .inl GN)), (gc, .inl (cI, 8, .inl GC)), (gh, .inl (cI, 8, .inl GH)), (w0, .inr (2, [.ref wr, .ref wl, .ref wn])), (wr, .inl (cR, 4, .inr (.inr (.inr (.inr (fun i => if i < 4 then some (rr i) else none)))))), (wl, .inl (cI, 4, .inl LA)), (wn, .inl (cI, 4, .inl LE))]) H := hP
        have hD : va_D A (rowsW cI rr M ++ [(x0, .inr (4, [.ref t0, .ref r0, .ref y0, .ref g0, .ref w0, .int TR, .int LF])), (t0, .inr (0, [.ref tk, .ref tl, .ref tc, .int N])), (tk, .inl (cI, 6, .inl (upd K_ v6.toNatClampNeg (p4_kindOf (M i1.toNatClampNeg ((i2 + 2) + (4 * v6)).toNatClampNeg))))), (tl, .inl (cI, 6, .inl (upd L_ v6.toNatClampNeg ((M i1.toNatClampNeg (((i2 + 2) + (4 * v6)) + 1).toNatClampNeg) - 48)))), (tc, .inl (cI, 6, .inl C_)), (g0, .inr (1, [.ref gn, .ref gc, .ref gh, .int GK])), (gn, .inl (cI, 8, .inl GN)), (gc, .inl (cI, 8, .inl GC)), (gh, .inl (cI, 8, .inl GH)), (w0, .inr (2, [.ref wr, .ref wl, .ref wn])), (wr, .inl (cR, 4, .inr (.inr (.inr (.inr (fun i => if i < 4 then some (rr i) else none)))))), (wl, .inl (cI, 4, .inl LA)), (wn, .inl (cI, 4, .inl LE))]) := hD
        refine lv_aload_n hx hb dX4_settle_81 rfl (lv_at hl 4 rfl) ?_
        refine va_get (D := (dC, dI)) (ci := 4) (v := .ref t0) (C := RX4) (T := TX4) (N := 7) hx hb hts hin4 hown hK hP 4 rfl rfl 0 (by decide) kf_12 (fun _ h9 => h9) rfl dX4_settle_82 ?_
        refine va_getN (D := (dC, dI)) (ci := 0) (v := .ref tc) (C := RX0) (T := TX0) (N := 4) hx hb hts hin0 hown hK hP 5 rfl rfl 2 (by decide) hn_85 (fun _ h9 => h9) rfl dX4_settle_85 ?_
        refine lv_iload hx hb dX4_settle_88 (lv_at hl 1 rfl) ?_
        refine lv_aload hx hb dX4_settle_90 (lv_at hl 3 rfl) ?_
        refine lv_iload hx hb dX4_settle_92 (lv_at hl 0 rfl) ?_
        refine lv_iconst (v := 2) hx hb dX4_settle_94 (by decide) ?_
        refine lv_iadd hx hb dX4_settle_95 ?_
        refine va_iald hx hb hK hP i1.toNatClampNeg 0 (rows_get cI rr M ([(x0, .inr (4, [.ref t0, .ref r0, .ref y0, .ref g0, .ref w0, .int TR, .int LF])), (t0, .inr (0, [.ref tk, .ref tl, .ref tc, .int N])), (tk, .inl (cI, 6, .inl (upd K_ v6.toNatClampNeg (p4_kindOf (M i1.toNatClampNeg ((i2 + 2) + (4 * v6)).toNatClampNeg))))), (tl, .inl (cI, 6, .inl (upd L_ v6.toNatClampNeg ((M i1.toNatClampNeg (((i2 + 2) + (4 * v6)) + 1).toNatClampNeg) - 48)))), (tc, .inl (cI, 6, .inl C_)), (g0, .inr (1, [.ref gn, .ref gc, .ref gh, .int GK])), (gn, .inl (cI, 8, .inl GN)), (gc, .inl (cI, 8, .inl GC)), (gh, .inl (cI, 8, .inl GH)), (w0, .inr (2, [.ref wr, .ref wl, .ref wn])), (wr, .inl (cR, 4, .inr (.inr (.inr (.inr (fun i => if i < 4 then some (rr i) else none)))))), (wl, .inl (cI, 4, .inl LA)), (wn, .inl (cI, 4, .inl LE))]) (vp_lt hi1)) rfl jz dX4_settle_96 ?_
        refine lv_bipush (v := 48) hx hb dX4_settle_97 (by decide) ?_
        refine lv_isub hx hb dX4_settle_99 ?_
        refine va_iast hx hb hK hP hD hS 8 0 rfl rfl (by assumption) dX4_settle_100 (fun H locs hP hD hS => ?_)
        have hP : va_P (dC, dI) vwCl (rowsW cI rr M ++ [(x0, .inr (4, [.ref t0, .ref r0, .ref y0, .ref g0, .ref w0, .int TR, .int LF])), (t0, .inr (0, [.ref tk, .ref tl, .ref tc, .int N])), (tk, .inl (cI, 6, .inl (upd K_ v6.toNatClampNeg (p4_kindOf (M i1.toNatClampNeg ((i2 + 2) + (4 * v6)).toNatClampNeg))))), (tl, .inl (cI, 6, .inl (upd L_ v6.toNatClampNeg ((M i1.toNatClampNeg (((i2 + 2) + (4 * v6)) + 1).toNatClampNeg) - 48)))), (tc, .inl (cI, 6, .inl (upd C_ v6.toNatClampNeg ((M i1.toNatClampNeg (((i2 + 2) + (4 * v6)) + 2).toNatClampNeg) - 48)))), (g0, .inr (1, [.ref gn, .ref gc, .ref gh, .int GK])), (gn, .inl (cI, 8, .inl GN)), (gc, .inl (cI, 8, .inl GC)), (gh, .inl (cI, 8, .inl GH)), (w0, .inr (2, [.ref wr, .ref wl, .ref wn])), (wr, .inl (cR, 4, .inr (.inr (.inr (.inr (fun i => if i < 4 then some (rr i) else none)))))), (wl, .inl (cI, 4, .inl LA)), (wn, .inl (cI, 4, .inl LE))]) H := hP
        have hD : va_D A (rowsW cI rr M ++ [(x0, .inr (4, [.ref t0, .ref r0, .ref y0, .ref g0, .ref w0, .int TR, .int LF])), (t0, .inr (0, [.ref tk, .ref tl, .ref tc, .int N])), (tk, .inl (cI, 6, .inl (upd K_ v6.toNatClampNeg (p4_kindOf (M i1.toNatClampNeg ((i2 + 2) + (4 * v6)).toNatClampNeg))))), (tl, .inl (cI, 6, .inl (upd L_ v6.toNatClampNeg ((M i1.toNatClampNeg (((i2 + 2) + (4 * v6)) + 1).toNatClampNeg) - 48)))), (tc, .inl (cI, 6, .inl (upd C_ v6.toNatClampNeg ((M i1.toNatClampNeg (((i2 + 2) + (4 * v6)) + 2).toNatClampNeg) - 48)))), (g0, .inr (1, [.ref gn, .ref gc, .ref gh, .int GK])), (gn, .inl (cI, 8, .inl GN)), (gc, .inl (cI, 8, .inl GC)), (gh, .inl (cI, 8, .inl GH)), (w0, .inr (2, [.ref wr, .ref wl, .ref wn])), (wr, .inl (cR, 4, .inr (.inr (.inr (.inr (fun i => if i < 4 then some (rr i) else none)))))), (wl, .inl (cI, 4, .inl LA)), (wn, .inl (cI, 4, .inl LE))]) := hD
        refine lv_iinc (v := (v6 + 1)) (lv' := [(6, .int (v6 + 1)), (7, .int ((i2 + 2) + (4 * v6))), (5, .int (if 6 < ((i3 - 1) / 4) then 6 else ((i3 - 1) / 4))), (4, .ref (rr i1.toNatClampNeg)), (0, .ref x0), (1, .int i1), (2, .int i2), (3, .int i3)]) hx hb dX4_settle_101 hl (k := 1) rfl rfl (by decide) rfl (fun ls hl => ?_)
        refine lv_goto (tgt := 26) hx hb dX4_settle_104 (by decide) ?_
        exact ih (v6 + 1) (upd K_ v6.toNatClampNeg (p4_kindOf (M i1.toNatClampNeg ((i2 + 2) + (4 * v6)).toNatClampNeg))) (upd L_ v6.toNatClampNeg ((M i1.toNatClampNeg (((i2 + 2) + (4 * v6)) + 1).toNatClampNeg) - 48)) (upd C_ v6.toNatClampNeg ((M i1.toNatClampNeg (((i2 + 2) + (4 * v6)) + 2).toNatClampNeg) - 48)) _ _ _ (up_s hu c_30) hP hD hS (lv_sub hl [0, 2, 3, 4, 5, 6, 7] rfl) (hE.trans (by rw [p4_settle_l26_s, if_neg c_30]))
  refine lv_aload_n hx hb dX4_settle_0 rfl (lv_at hl 0 rfl) ?_
  refine va_get (D := (dC, dI)) (ci := 4) (v := .ref w0) (C := RX4) (T := TX4) (N := 7) hx hb hts hin4 hown hK hP 4 rfl rfl 4 (by decide) kf_38 (fun _ h9 => h9) rfl dX4_settle_1 ?_
  refine va_getN (D := (dC, dI)) (ci := 2) (v := .ref wr) (C := RX2) (T := TX2) (N := 3) hx hb hts hin2 hown hK hP 13 rfl rfl 0 (by decide) hn_168 (fun _ h9 => h9) rfl dX4_settle_4 ?_
  refine lv_iload_n hx hb dX4_settle_7 rfl (lv_at hl 1 rfl) ?_
  refine va_alda (v := rr i1.toNatClampNeg) hx hb hK hP 14 1 rfl rfl hi1 (if_pos (vp_lt hi1)) dX4_settle_8 ?_
  refine lv_astore (lv' := [(4, .ref (rr i1.toNatClampNeg)), (0, .ref x0), (1, .int i1), (2, .int i2), (3, .int i3)]) hx hb dX4_settle_9 hl (by decide) rfl (fun ls hl => ?_)
  refine lv_iload_n hx hb dX4_settle_11 rfl (lv_at hl 4 rfl) ?_
  refine lv_iconst (v := 1) hx hb dX4_settle_12 (by decide) ?_
  refine lv_isub hx hb dX4_settle_13 ?_
  refine lv_iconst (v := 4) hx hb dX4_settle_14 (by decide) ?_
  refine lv_idiv hx hb dX4_settle_15 (by decide) ?_
  refine lv_bipush (v := 6) hx hb dX4_settle_16 (by decide) ?_
  refine va_mmin hx hb (hml.trans hl.1.symm) hown (hts (.methodLink RX4 207 Lib.Math.min.name) (by decide +kernel)) (hts (.static Lib.Math.min.name) (by decide +kernel)) (hts (.initialized "java/lang/Math") (by decide +kernel)) (hts (.code Lib.Math.min.name Lib.Math.min.code 2 (some .int)) (by decide +kernel)) (Nat.le_of_ble_eq_true rfl) (Nat.le_of_ble_eq_true rfl) (Nat.le_of_ble_eq_true rfl) (Nat.le_of_ble_eq_true rfl) dX4_settle_18 ?_
  refine lv_istore (lv' := [(5, .int (if 6 < ((i3 - 1) / 4) then 6 else ((i3 - 1) / 4))), (4, .ref (rr i1.toNatClampNeg)), (0, .ref x0), (1, .int i1), (2, .int i2), (3, .int i3)]) hx hb dX4_settle_21 hl (by decide) rfl (fun ls hl => ?_)
  refine lv_iconst (v := 0) hx hb dX4_settle_23 (by decide) ?_
  refine lv_istore (lv' := [(6, .int 0), (5, .int (if 6 < ((i3 - 1) / 4) then 6 else ((i3 - 1) / 4))), (4, .ref (rr i1.toNatClampNeg)), (0, .ref x0), (1, .int i1), (2, .int i2), (3, .int i3)]) hx hb dX4_settle_24 hl (by decide) rfl (fun ls hl => ?_)
  exact lp_26 7 0 K L C  _ _ _ (up_i 6 (by decide) (set_b (nn' hsp.2.1) (sp_n hsp)).1) hP hD hS (lv_sub hl [0, 1, 2, 3, 4, 5, 6] rfl) (rfl)

def p4_possible_l17 (N : Int32) (K : Nat → Int32) (L : Nat → Int32) (C : Nat → Int32) (N2 : Int32) (K2 : Nat → Int32) (L2 : Nat → Int32) (C2 : Nat → Int32) (GK : Int32) (GN : Nat → Int32) (GC : Nat → Int32) (GH : Nat → Int32) (i1 : Int32) (i2 : Int32) (i3 : Int32) : Nat → Int32 → Int32 → Int32 → (Nat → Int32) → (Nat → Int32) → (Nat → Int32) → Int32 × Int32 × (Nat → Int32) × (Nat → Int32) × (Nat → Int32)
  | 0, _, _, _, _, _, _ => (0, 0, fun _ => 0, fun _ => 0, fun _ => 0)
  | n + 1, v4, v5, N2_, K2_, L2_, C2_ =>
    if i3 ≤ v5 then
      (v4, N2_, K2_, L2_, C2_)
    else
      if (p1_holdIn GK GN GC GH N2_ ((p0_become K2_ L2_ C2_ i1 i2 v5).1) ((p0_become K2_ L2_ C2_ i1 i2 v5).2.1) ((p0_become K2_ L2_ C2_ i1 i2 v5).2.2)) = 0 then
        p4_possible_l17 N K L C N2 K2 L2 C2 GK GN GC GH i1 i2 i3 n v4 (v5 + 1) N2_ ((p0_become K2_ L2_ C2_ i1 i2 v5).1) ((p0_become K2_ L2_ C2_ i1 i2 v5).2.1) ((p0_become K2_ L2_ C2_ i1 i2 v5).2.2)
      else
        p4_possible_l17 N K L C N2 K2 L2 C2 GK GN GC GH i1 i2 i3 n (v4 ||| ((1 : Int32) <<< (v5 &&& 31))) (v5 + 1) N2_ ((p0_become K2_ L2_ C2_ i1 i2 v5).1) ((p0_become K2_ L2_ C2_ i1 i2 v5).2.1) ((p0_become K2_ L2_ C2_ i1 i2 v5).2.2)
theorem p4_possible_l17_s (N : Int32) (K : Nat → Int32) (L : Nat → Int32) (C : Nat → Int32) (N2 : Int32) (K2 : Nat → Int32) (L2 : Nat → Int32) (C2 : Nat → Int32) (GK : Int32) (GN : Nat → Int32) (GC : Nat → Int32) (GH : Nat → Int32) (i1 : Int32) (i2 : Int32) (i3 : Int32) (n : Nat) (v4 : Int32) (v5 : Int32) (N2_ : Int32) (K2_ : Nat → Int32) (L2_ : Nat → Int32) (C2_ : Nat → Int32) : p4_possible_l17 N K L C N2 K2 L2 C2 GK GN GC GH i1 i2 i3 (n + 1) v4 v5 N2_ K2_ L2_ C2_ =
    (if i3 ≤ v5 then
      (v4, N2_, K2_, L2_, C2_)
    else
      if (p1_holdIn GK GN GC GH N2_ ((p0_become K2_ L2_ C2_ i1 i2 v5).1) ((p0_become K2_ L2_ C2_ i1 i2 v5).2.1) ((p0_become K2_ L2_ C2_ i1 i2 v5).2.2)) = 0 then
        p4_possible_l17 N K L C N2 K2 L2 C2 GK GN GC GH i1 i2 i3 n v4 (v5 + 1) N2_ ((p0_become K2_ L2_ C2_ i1 i2 v5).1) ((p0_become K2_ L2_ C2_ i1 i2 v5).2.1) ((p0_become K2_ L2_ C2_ i1 i2 v5).2.2)
      else
        p4_possible_l17 N K L C N2 K2 L2 C2 GK GN GC GH i1 i2 i3 n (v4 ||| ((1 : Int32) <<< (v5 &&& 31))) (v5 + 1) N2_ ((p0_become K2_ L2_ C2_ i1 i2 v5).1) ((p0_become K2_ L2_ C2_ i1 i2 v5).2.1) ((p0_become K2_ L2_ C2_ i1 i2 v5).2.2)) := rfl
def p4_possible (N : Int32) (K : Nat → Int32) (L : Nat → Int32) (C : Nat → Int32) (N2 : Int32) (K2 : Nat → Int32) (L2 : Nat → Int32) (C2 : Nat → Int32) (GK : Int32) (GN : Nat → Int32) (GC : Nat → Int32) (GH : Nat → Int32) (i1 : Int32) (i2 : Int32) (i3 : Int32) : Int32 × Int32 × (Nat → Int32) × (Nat → Int32) × (Nat → Int32) :=
  p4_possible_l17 N K L C N2 K2 L2 C2 GK GN GC GH i1 i2 i3 11 0 0 ((p0_likeThat N2 K2 L2 C2 N K L C).1) ((p0_likeThat N2 K2 L2 C2 N K L C).2.1) ((p0_likeThat N2 K2 L2 C2 N K L C).2.2.1) ((p0_likeThat N2 K2 L2 C2 N K L C).2.2.2)
abbrev rmX4_possible : Room := { frames := 5, cells := 0, slots := 0, locals := 117 }
abbrev QX4_possible (dC : Nat → ClassId) (dI : Nat → Nat → Nat) (A : Nat → Prop) (cI : ClassId) (x0 : Nat) (t0 : Nat) (r0 : Nat) (y0 : Nat) (g0 : Nat) (w0 : Nat) (tk : Nat) (tl : Nat) (tc : Nat) (rk : Nat) (rl : Nat) (rc : Nat) (gn : Nat) (gc : Nat) (gh : Nat) (TR : Int32) (LF : Int32) (N : Int32) (K : Nat → Int32) (L : Nat → Int32) (C : Nat → Int32) (N2 : Int32) (K2 : Nat → Int32) (L2 : Nat → Int32) (C2 : Nat → Int32) (GK : Int32) (GN : Nat → Int32) (GC : Nat → Int32) (GH : Nat → Int32) (i1 : Int32) (i2 : Int32) (i3 : Int32) : Array Value → State → Outcome → State → Prop := va_Qi (fun (r : Int32) (_ : Unit) => r = (p4_possible N K L C N2 K2 L2 C2 GK GN GC GH i1 i2 i3).1) (fun (_ : Unit) (t : State) => va_P (dC, dI) vwCl ([(x0, .inr (4, [.ref t0, .ref r0, .ref y0, .ref g0, .ref w0, .int TR, .int LF])), (t0, .inr (0, [.ref tk, .ref tl, .ref tc, .int N])), (tk, .inl (cI, 6, .inl K)), (tl, .inl (cI, 6, .inl L)), (tc, .inl (cI, 6, .inl C)), (r0, .inr (0, [.ref rk, .ref rl, .ref rc, .int ((p4_possible N K L C N2 K2 L2 C2 GK GN GC GH i1 i2 i3).2.1)])), (rk, .inl (cI, 6, .inl ((p4_possible N K L C N2 K2 L2 C2 GK GN GC GH i1 i2 i3).2.2.1))), (rl, .inl (cI, 6, .inl ((p4_possible N K L C N2 K2 L2 C2 GK GN GC GH i1 i2 i3).2.2.2.1))), (rc, .inl (cI, 6, .inl ((p4_possible N K L C N2 K2 L2 C2 GK GN GC GH i1 i2 i3).2.2.2.2))), (g0, .inr (1, [.ref gn, .ref gc, .ref gh, .int GK])), (gn, .inl (cI, 8, .inl GN)), (gc, .inl (cI, 8, .inl GC)), (gh, .inl (cI, 8, .inl GH))]) t.heap) A
set_option maxHeartbeats 4000000 in
set_option maxRecDepth 100000 in
theorem ctX4_possible (l : Launch) (dC : Nat → ClassId) (dI : Nat → Nat → Nat) (cI : ClassId) (x0 : Nat) (t0 : Nat) (r0 : Nat) (y0 : Nat) (g0 : Nat) (w0 : Nat) (tk : Nat) (tl : Nat) (tc : Nat) (rk : Nat) (rl : Nat) (rc : Nat) (gn : Nat) (gc : Nat) (gh : Nat) (sz : Nat) (TR : Int32) (LF : Int32) (N : Int32) (K : Nat → Int32) (L : Nat → Int32) (C : Nat → Int32) (N2 : Int32) (K2 : Nat → Int32) (L2 : Nat → Int32) (C2 : Nat → Int32) (GK : Int32) (GN : Nat → Int32) (GC : Nat → Int32) (GH : Nat → Int32) (i1 : Int32) (i2 : Int32) (i3 : Int32) (hi1 : vp_in i1 6) (h3 : i3.toInt ≤ 10) (hG8 : GK.toInt ≤ 8) (hGN : ∀ j : Nat, (j : Int) < GK.toInt → vp_in (GN j) 6) (hNb : N.toInt ≤ 6) : Met l yX4_possible wsX4_possible rmX4_possible (va_Pc [.ref x0, .int i1, .int i2, .int i3] (cP dC dI [(cI, .int)] ([(x0, .inr (4, [.ref t0, .ref r0, .ref y0, .ref g0, .ref w0, .int TR, .int LF])), (t0, .inr (0, [.ref tk, .ref tl, .ref tc, .int N])), (tk, .inl (cI, 6, .inl K)), (tl, .inl (cI, 6, .inl L)), (tc, .inl (cI, 6, .inl C)), (r0, .inr (0, [.ref rk, .ref rl, .ref rc, .int N2])), (rk, .inl (cI, 6, .inl K2)), (rl, .inl (cI, 6, .inl L2)), (rc, .inl (cI, 6, .inl C2)), (g0, .inr (1, [.ref gn, .ref gc, .ref gh, .int GK])), (gn, .inl (cI, 8, .inl GN)), (gc, .inl (cI, 8, .inl GC)), (gh, .inl (cI, 8, .inl GH))]) sz)) (QX4_possible dC dI (va_A ([(x0, .inr (4, [.ref t0, .ref r0, .ref y0, .ref g0, .ref w0, .int TR, .int LF])), (t0, .inr (0, [.ref tk, .ref tl, .ref tc, .int N])), (tk, .inl (cI, 6, .inl K)), (tl, .inl (cI, 6, .inl L)), (tc, .inl (cI, 6, .inl C)), (r0, .inr (0, [.ref rk, .ref rl, .ref rc, .int N2])), (rk, .inl (cI, 6, .inl K2)), (rl, .inl (cI, 6, .inl L2)), (rc, .inl (cI, 6, .inl C2)), (g0, .inr (1, [.ref gn, .ref gc, .ref gh, .int GK])), (gn, .inl (cI, 8, .inl GN)), (gc, .inl (cI, 8, .inl GC)), (gh, .inl (cI, 8, .inl GH))]) sz) cI x0 t0 r0 y0 g0 w0 tk tl tc rk rl rc gn gc gh TR LF N K L C N2 K2 L2 C2 GK GN GC GH i1 i2 i3) 0 0 (va_A ([(x0, .inr (4, [.ref t0, .ref r0, .ref y0, .ref g0, .ref w0, .int TR, .int LF])), (t0, .inr (0, [.ref tk, .ref tl, .ref tc, .int N])), (tk, .inl (cI, 6, .inl K)), (tl, .inl (cI, 6, .inl L)), (tc, .inl (cI, 6, .inl C)), (r0, .inr (0, [.ref rk, .ref rl, .ref rc, .int N2])), (rk, .inl (cI, 6, .inl K2)), (rl, .inl (cI, 6, .inl L2)), (rc, .inl (cI, 6, .inl C2)), (g0, .inr (1, [.ref gn, .ref gc, .ref gh, .int GK])), (gn, .inl (cI, 8, .inl GN)), (gc, .inl (cI, 8, .inl GC)), (gh, .inl (cI, 8, .inl GH))]) sz) := by
  refine Met.ofW (cc := cX4_possible) (maxL := 6) (ret := (some .int)) (by decide) rfl ?_
  intro p e s m args below meth c s₁ B hml hv
  obtain ⟨rfl, hsz, hP, hK, hD0, hN⟩ := hv
  have hx := B.exec
  have hb := B.bytes
  have hr := B.returns
  have hts := atoms_spec (ws := wsX4_possible) B.pre
  have hown : s.vm.findClass RX4 = some m.cls := findClass_of_methodNamed B.named
  have hlocks := B.notSynchronized
  subst hsz
  have hD := hD0.self (sz := s.heap.size)
  generalize hAe : va_A ([(x0, .inr (4, [.ref t0, .ref r0, .ref y0, .ref g0, .ref w0, .int TR, .int LF])), (t0, .inr (0, [.ref tk, .ref tl, .ref tc, .int N])), (tk, .inl (cI, 6, .inl K)), (tl, .inl (cI, 6, .inl L)), (tc, .inl (cI, 6, .inl C)), (r0, .inr (0, [.ref rk, .ref rl, .ref rc, .int N2])), (rk, .inl (cI, 6, .inl K2)), (rl, .inl (cI, 6, .inl L2)), (rc, .inl (cI, 6, .inl C2)), (g0, .inr (1, [.ref gn, .ref gc, .ref gh, .int GK])), (gn, .inl (cI, 8, .inl GN)), (gc, .inl (cI, 8, .inl GC)), (gh, .inl (cI, 8, .inl GH))]) s.heap.size = A at hD ⊢
  have hA : ∀ q : Nat, s.heap.size ≤ q → A q := fun q h => by rw [← hAe]; exact Or.inr h
  have hS : va_S A s.heap s.heap [] := va_S.rf
  have hP : va_P (dC, dI) vwCl ([(x0, .inr (4, [.ref t0, .ref r0, .ref y0, .ref g0, .ref w0, .int TR, .int LF])), (t0, .inr (0, [.ref tk, .ref tl, .ref tc, .int N])), (tk, .inl (cI, 6, .inl K)), (tl, .inl (cI, 6, .inl L)), (tc, .inl (cI, 6, .inl C)), (r0, .inr (0, [.ref rk, .ref rl, .ref rc, .int N2])), (rk, .inl (cI, 6, .inl K2)), (rl, .inl (cI, 6, .inl L2)), (rc, .inl (cI, 6, .inl C2)), (g0, .inr (1, [.ref gn, .ref gc, .ref gh, .int GK])), (gn, .inl (cI, 8, .inl GN)), (gc, .inl (cI, 8, .inl GC)), (gh, .inl (cI, 8, .inl GH))]) s.heap := hP
  have hin4 : ∀ w ∈ wsX40, w ∈ wsX4_possible := by decide +kernel
  have kf_12 := hts (.fieldLink RX4 12 "RicherChange" "town" "LRicherChange$City;") (by decide +kernel)
  have kf_18 := hts (.fieldLink RX4 18 "RicherChange" "trial" "LRicherChange$City;") (by decide +kernel)
  have kf_31 := hts (.fieldLink RX4 31 "RicherChange" "readings" "LRicherChange$Readings;") (by decide +kernel)
  have hl := lv_entry ([.ref x0, .int i1, .int i2, .int i3]) (n := 6) (Nat.le_of_ble_eq_true rfl)
  rw [lg_entry_eq]
  generalize (lg_sl ([.ref x0, .int i1, .int i2, .int i3]) ++ List.replicate (6 - (lg_sl ([.ref x0, .int i1, .int i2, .int i3])).length) Slot.unset).toArray = ls at hl ⊢
  have hl : lv_has ls 6 [(0, .ref x0), (1, .int i1), (2, .int i2), (3, .int i3)] := hl
  have lp_17 : ∀ (n : Nat) (v4 : Int32) (v5 : Int32) (N2_ : Int32) (K2_ : Nat → Int32) (L2_ : Nat → Int32) (C2_ : Nat → Int32) (H : Heap) (locs : List Loc) (ls : Array Slot), (up v5 i3 n) → (N2_.toInt ≤ 6) → va_P (dC, dI) vwCl ([(x0, .inr (4, [.ref t0, .ref r0, .ref y0, .ref g0, .ref w0, .int TR, .int LF])), (t0, .inr (0, [.ref tk, .ref tl, .ref tc, .int N])), (tk, .inl (cI, 6, .inl K)), (tl, .inl (cI, 6, .inl L)), (tc, .inl (cI, 6, .inl C)), (r0, .inr (0, [.ref rk, .ref rl, .ref rc, .int N2_])), (rk, .inl (cI, 6, .inl K2_)), (rl, .inl (cI, 6, .inl L2_)), (rc, .inl (cI, 6, .inl C2_)), (g0, .inr (1, [.ref gn, .ref gc, .ref gh, .int GK])), (gn, .inl (cI, 8, .inl GN)), (gc, .inl (cI, 8, .inl GC)), (gh, .inl (cI, 8, .inl GH))]) H → va_D A ([(x0, .inr (4, [.ref t0, .ref r0, .ref y0, .ref g0, .ref w0, .int TR, .int LF])), (t0, .inr (0, [.ref tk, .ref tl, .ref tc, .int N])), (tk, .inl (cI, 6, .inl K)), (tl, .inl (cI, 6, .inl L)), (tc, .inl (cI, 6, .inl C)), (r0, .inr (0, [.ref rk, .ref rl, .ref rc, .int N2_])), (rk, .inl (cI, 6, .inl K2_)), (rl, .inl (cI, 6, .inl L2_)), (rc, .inl (cI, 6, .inl C2_)), (g0, .inr (1, [.ref gn, .ref gc, .ref gh, .int GK])), (gn, .inl (cI, 8, .inl GN)), (gc, .inl (cI, 8, .inl GC)), (gh, .inl (cI, 8, .inl GH))]) → va_S A s.heap H locs → lv_has ls 6 [(5, .int v5), (4, .int v4), (0, .ref x0), (1, .int i1), (2, .int i2), (3, .int i3)] → p4_possible N K L C N2 K2 L2 C2 GK GN GC GH i1 i2 i3 = p4_possible_l17 N K L C N2 K2 L2 C2 GK GN GC GH i1 i2 i3 n v4 v5 N2_ K2_ L2_ C2_ → W p l e (headSpec wsX4_possible rmX4_possible).room s m [.ref x0, .int i1, .int i2, .int i3].toArray below meth c H locs 0 0 (MQ below (QX4_possible dC dI A cI x0 t0 r0 y0 g0 w0 tk tl tc rk rl rc gn gc gh TR LF N K L C N2 K2 L2 C2 GK GN GC GH i1 i2 i3) [.ref x0, .int i1, .int i2, .int i3].toArray s 0 0 A) (F0 m 17 ls []) := by
    intro n
    induction n with
    | zero => intro v4 v5 N2_ K2_ L2_ C2_ _ _ _ hu hN2; exact absurd hu up_no
    | succ n ih =>
      intro v4 v5 N2_ K2_ L2_ C2_ H locs ls hu hN2 hP hD hS hl hE
      refine lv_iload hx hb dX4_possible_17 (lv_at hl 0 rfl) ?_
      refine lv_iload_n hx hb dX4_possible_19 rfl (lv_at hl 5 rfl) ?_
      refine lv_icmp_ge (tgt := 63) hx hb dX4_possible_20 (by decide) (fun c_20 => ?_) (fun c_20 => ?_)
      · skip
        refine lv_iload hx hb dX4_possible_63 (lv_at hl 1 rfl) ?_
        have hE9 : p4_possible N K L C N2 K2 L2 C2 GK GN GC GH i1 i2 i3 = (v4, N2_, K2_, L2_, C2_) := hE.trans (by rw [p4_possible_l17_s, if_pos c_20])
        exact W.iret (v := v4) hx hb hr (fun t ht hW => ⟨⟨_, (), rfl, by rw [hE9], by show va_P (dC, dI) vwCl _ t.heap; rw [ht, hE9]; exact hP⟩, hS.F ht⟩) hS.2.2 dX4_possible_65
      · skip
        refine lv_aload_n hx hb dX4_possible_23 rfl (lv_at hl 2 rfl) ?_
        refine va_get (D := (dC, dI)) (ci := 4) (v := .ref r0) (C := RX4) (T := TX4) (N := 7) hx hb hts hin4 hown hK hP 0 rfl rfl 1 (by decide) kf_18 (fun _ h9 => h9) rfl dX4_possible_24 ?_
        refine lv_iload_n hx hb dX4_possible_27 rfl (lv_at hl 3 rfl) ?_
        refine lv_iload_n hx hb dX4_possible_28 rfl (lv_at hl 4 rfl) ?_
        refine lv_iload hx hb dX4_possible_29 (lv_at hl 0 rfl) ?_
        have hPc := hP.sub (ws' := [(r0, .inr (0, [.ref rk, .ref rl, .ref rc, .int N2_])), (rk, .inl (cI, 6, .inl K2_)), (rl, .inl (cI, 6, .inl L2_)), (rc, .inl (cI, 6, .inl C2_))]) [5, 6, 7, 8] rfl
        have hDc := hD.sub (ws' := [(r0, .inr (0, [.ref rk, .ref rl, .ref rc, .int N2_])), (rk, .inl (cI, 6, .inl K2_)), (rl, .inl (cI, 6, .inl L2_)), (rc, .inl (cI, 6, .inl C2_))]) [5, 6, 7, 8] (by decide) rfl
        have hKc := hK.sub (tys' := [(cI, .int)]) [0] rfl
        have hFc := va_free (wc := [(r0, .inr (0, [.ref rk, .ref rl, .ref rc, .int N2_])), (rk, .inl (cI, 6, .inl K2_)), (rl, .inl (cI, 6, .inl L2_)), (rc, .inl (cI, 6, .inl C2_))]) hD hS hA [5, 6, 7, 8] rfl
        refine va_callv (va_runV (As := [.int i1, .int i2, .int v5]) (rest := []) ⟨hx, hb, hml, hown, hts⟩ (ctX0_become l dC dI cI r0 rk rl rc H.size N2_ K2_ L2_ C2_ i1 i2 v5 (by assumption)) (cwV 3 hts gX4_possible_X0_become rfl rfl rfl (by decide +kernel) ⟨Nat.le_of_ble_eq_true rfl, Nat.le_of_ble_eq_true rfl⟩) (pre_V hKc hN hPc hDc (RX0, TX0, 4) 0 0 rfl rfl) rfl rfl hl.1 rfl (lv_room (Nat.le_of_ble_eq_true rfl)) dX4_possible_31 ⟨Nat.le_of_ble_eq_true rfl, Nat.le_of_ble_eq_true rfl⟩) hS (fun q _ h => hFc q h) hFc (fun _ t H locs ht hvm hw hB hz1 hk1 hS => ?_)
        rw [ht] at hB
        refine nm_gen ((p0_become K2_ L2_ C2_ i1 i2 v5).1) (fun K2_31 eK2_31 => ?_)
        rw [eK2_31] at hB
        refine nm_gen ((p0_become K2_ L2_ C2_ i1 i2 v5).2.1) (fun L2_31 eL2_31 => ?_)
        rw [eL2_31] at hB
        refine nm_gen ((p0_become K2_ L2_ C2_ i1 i2 v5).2.2) (fun C2_31 eC2_31 => ?_)
        rw [eC2_31] at hB
        obtain ⟨hP, hD⟩ := rw_join ([(x0, .inr (4, [.ref t0, .ref r0, .ref y0, .ref g0, .ref w0, .int TR, .int LF])), (t0, .inr (0, [.ref tk, .ref tl, .ref tc, .int N])), (tk, .inl (cI, 6, .inl K)), (tl, .inl (cI, 6, .inl L)), (tc, .inl (cI, 6, .inl C)), (r0, .inr (0, [.ref rk, .ref rl, .ref rc, .int N2_])), (rk, .inl (cI, 6, .inl K2_)), (rl, .inl (cI, 6, .inl L2_)), (rc, .inl (cI, 6, .inl C2_)), (g0, .inr (1, [.ref gn, .ref gc, .ref gh, .int GK])), (gn, .inl (cI, 8, .inl GN)), (gc, .inl (cI, 8, .inl GC)), (gh, .inl (cI, 8, .inl GH))]) ([(x0, .inr (4, [.ref t0, .ref r0, .ref y0, .ref g0, .ref w0, .int TR, .int LF])), (t0, .inr (0, [.ref tk, .ref tl, .ref tc, .int N])), (tk, .inl (cI, 6, .inl K)), (tl, .inl (cI, 6, .inl L)), (tc, .inl (cI, 6, .inl C)), (r0, .inr (0, [.ref rk, .ref rl, .ref rc, .int N2_])), (rk, .inl (cI, 6, .inl K2_31)), (rl, .inl (cI, 6, .inl L2_31)), (rc, .inl (cI, 6, .inl C2_31)), (g0, .inr (1, [.ref gn, .ref gc, .ref gh, .int GK])), (gn, .inl (cI, 8, .inl GN)), (gc, .inl (cI, 8, .inl GC)), (gh, .inl (cI, 8, .inl GH))]) ([(r0, .inr (0, [.ref rk, .ref rl, .ref rc, .int N2_])), (rk, .inl (cI, 6, .inl K2_)), (rl, .inl (cI, 6, .inl L2_)), (rc, .inl (cI, 6, .inl C2_))]) ([(r0, .inr (0, [.ref rk, .ref rl, .ref rc, .int N2_])), (rk, .inl (cI, 6, .inl K2_31)), (rl, .inl (cI, 6, .inl L2_31)), (rc, .inl (cI, 6, .inl C2_31))]) ([(x0, .inr (4, [.ref t0, .ref r0, .ref y0, .ref g0, .ref w0, .int TR, .int LF])), (t0, .inr (0, [.ref tk, .ref tl, .ref tc, .int N])), (tk, .inl (cI, 6, .inl K)), (tl, .inl (cI, 6, .inl L)), (tc, .inl (cI, 6, .inl C)), (g0, .inr (1, [.ref gn, .ref gc, .ref gh, .int GK])), (gn, .inl (cI, 8, .inl GN)), (gc, .inl (cI, 8, .inl GC)), (gh, .inl (cI, 8, .inl GH))]) hP hD [5, 6, 7, 8] [0, 1, 2, 3, 4, 9, 10, 11, 12] [x0, t0, tk, tl, tc, r0, rk, rl, rc, g0, gn, gc, gh] 13 rfl rfl rfl rfl rfl (by decide) rfl rfl hk1 hB
        refine lv_aload_n hx hb dX4_possible_34 rfl (lv_at hl 2 rfl) ?_
        refine va_get (D := (dC, dI)) (ci := 4) (v := .ref g0) (C := RX4) (T := TX4) (N := 7) hx hb hts hin4 hown hK hP 0 rfl rfl 3 (by decide) kf_31 (fun _ h9 => h9) rfl dX4_possible_35 ?_
        refine lv_aload_n hx hb dX4_possible_38 rfl (lv_at hl 2 rfl) ?_
        refine va_get (D := (dC, dI)) (ci := 4) (v := .ref r0) (C := RX4) (T := TX4) (N := 7) hx hb hts hin4 hown hK hP 0 rfl rfl 1 (by decide) kf_18 (fun _ h9 => h9) rfl dX4_possible_39 ?_
        have hPc := hP.sub (ws' := [(g0, .inr (1, [.ref gn, .ref gc, .ref gh, .int GK])), (gn, .inl (cI, 8, .inl GN)), (gc, .inl (cI, 8, .inl GC)), (gh, .inl (cI, 8, .inl GH)), (r0, .inr (0, [.ref rk, .ref rl, .ref rc, .int N2_])), (rk, .inl (cI, 6, .inl K2_31)), (rl, .inl (cI, 6, .inl L2_31)), (rc, .inl (cI, 6, .inl C2_31))]) [9, 10, 11, 12, 5, 6, 7, 8] rfl
        have hDc := hD.sub (ws' := [(g0, .inr (1, [.ref gn, .ref gc, .ref gh, .int GK])), (gn, .inl (cI, 8, .inl GN)), (gc, .inl (cI, 8, .inl GC)), (gh, .inl (cI, 8, .inl GH)), (r0, .inr (0, [.ref rk, .ref rl, .ref rc, .int N2_])), (rk, .inl (cI, 6, .inl K2_31)), (rl, .inl (cI, 6, .inl L2_31)), (rc, .inl (cI, 6, .inl C2_31))]) [9, 10, 11, 12, 5, 6, 7, 8] (by decide) rfl
        have hKc := hK.sub (tys' := [(cI, .int)]) [0] rfl
        have hFc := va_free (wc := [(g0, .inr (1, [.ref gn, .ref gc, .ref gh, .int GK])), (gn, .inl (cI, 8, .inl GN)), (gc, .inl (cI, 8, .inl GC)), (gh, .inl (cI, 8, .inl GH)), (r0, .inr (0, [.ref rk, .ref rl, .ref rc, .int N2_])), (rk, .inl (cI, 6, .inl K2_31)), (rl, .inl (cI, 6, .inl L2_31)), (rc, .inl (cI, 6, .inl C2_31))]) hD hS hA [9, 10, 11, 12, 5, 6, 7, 8] rfl
        refine va_calli (va_runV (As := [.ref r0]) (rest := []) ⟨hx, hb, hml, hown, hts⟩ (ctX1_holdIn l dC dI cI g0 gn gc gh r0 rk rl rc H.size GK GN GC GH N2_ K2_31 L2_31 C2_31 (by assumption) (by assumption) hN2) (cwV 1 hts gX4_possible_X1_holdIn rfl rfl rfl (by decide +kernel) ⟨Nat.le_of_ble_eq_true rfl, Nat.le_of_ble_eq_true rfl⟩) (pre_V hKc hN hPc hDc (RX1, TX1, 4) 1 0 rfl rfl) rfl rfl hl.1 rfl (lv_room (Nat.le_of_ble_eq_true rfl)) dX4_possible_42 ⟨Nat.le_of_ble_eq_true rfl, Nat.le_of_ble_eq_true rfl⟩) hS (fun q _ h => hFc q h) hFc (fun r _ t H locs ht hvm hw hB hz1 hk1 hS => ?_)
        try dsimp only at hw
        subst hw
        rw [ht] at hB
        obtain ⟨hP, hD⟩ := rw_join ([(x0, .inr (4, [.ref t0, .ref r0, .ref y0, .ref g0, .ref w0, .int TR, .int LF])), (t0, .inr (0, [.ref tk, .ref tl, .ref tc, .int N])), (tk, .inl (cI, 6, .inl K)), (tl, .inl (cI, 6, .inl L)), (tc, .inl (cI, 6, .inl C)), (r0, .inr (0, [.ref rk, .ref rl, .ref rc, .int N2_])), (rk, .inl (cI, 6, .inl K2_31)), (rl, .inl (cI, 6, .inl L2_31)), (rc, .inl (cI, 6, .inl C2_31)), (g0, .inr (1, [.ref gn, .ref gc, .ref gh, .int GK])), (gn, .inl (cI, 8, .inl GN)), (gc, .inl (cI, 8, .inl GC)), (gh, .inl (cI, 8, .inl GH))]) ([(x0, .inr (4, [.ref t0, .ref r0, .ref y0, .ref g0, .ref w0, .int TR, .int LF])), (t0, .inr (0, [.ref tk, .ref tl, .ref tc, .int N])), (tk, .inl (cI, 6, .inl K)), (tl, .inl (cI, 6, .inl L)), (tc, .inl (cI, 6, .inl C)), (r0, .inr (0, [.ref rk, .ref rl, .ref rc, .int N2_])), (rk, .inl (cI, 6, .inl K2_31)), (rl, .inl (cI, 6, .inl L2_31)), (rc, .inl (cI, 6, .inl C2_31)), (g0, .inr (1, [.ref gn, .ref gc, .ref gh, .int GK])), (gn, .inl (cI, 8, .inl GN)), (gc, .inl (cI, 8, .inl GC)), (gh, .inl (cI, 8, .inl GH))]) ([(g0, .inr (1, [.ref gn, .ref gc, .ref gh, .int GK])), (gn, .inl (cI, 8, .inl GN)), (gc, .inl (cI, 8, .inl GC)), (gh, .inl (cI, 8, .inl GH)), (r0, .inr (0, [.ref rk, .ref rl, .ref rc, .int N2_])), (rk, .inl (cI, 6, .inl K2_31)), (rl, .inl (cI, 6, .inl L2_31)), (rc, .inl (cI, 6, .inl C2_31))]) ([(g0, .inr (1, [.ref gn, .ref gc, .ref gh, .int GK])), (gn, .inl (cI, 8, .inl GN)), (gc, .inl (cI, 8, .inl GC)), (gh, .inl (cI, 8, .inl GH)), (r0, .inr (0, [.ref rk, .ref rl, .ref rc, .int N2_])), (rk, .inl (cI, 6, .inl K2_31)), (rl, .inl (cI, 6, .inl L2_31)), (rc, .inl (cI, 6, .inl C2_31))]) ([(x0, .inr (4, [.ref t0, .ref r0, .ref y0, .ref g0, .ref w0, .int TR, .int LF])), (t0, .inr (0, [.ref tk, .ref tl, .ref tc, .int N])), (tk, .inl (cI, 6, .inl K)), (tl, .inl (cI, 6, .inl L)), (tc, .inl (cI, 6, .inl C))]) hP hD [9, 10, 11, 12, 5, 6, 7, 8] [0, 1, 2, 3, 4] [x0, t0, tk, tl, tc, r0, rk, rl, rc, g0, gn, gc, gh] 13 rfl rfl rfl rfl rfl (by decide) rfl rfl hk1 hB
        refine lv_if_eq (tgt := 57) hx hb dX4_possible_45 (by decide) (fun c_45 => ?_) (fun c_45 => ?_)
        · skip
          refine lv_iinc (v := (v5 + 1)) (lv' := [(5, .int (v5 + 1)), (4, .int v4), (0, .ref x0), (1, .int i1), (2, .int i2), (3, .int i3)]) hx hb dX4_possible_57 hl (k := 0) rfl rfl (by decide) rfl (fun ls hl => ?_)
          refine lv_goto (tgt := 17) hx hb dX4_possible_60 (by decide) ?_
          exact ih v4 (v5 + 1) N2_ K2_31 L2_31 C2_31 _ _ _ (up_s hu c_20) hN2 hP hD hS (lv_sub hl [0, 1, 2, 3, 4, 5] rfl) (hE.trans (by rw [p4_possible_l17_s]; simp only [eK2_31, eL2_31, eC2_31]; rw [if_neg c_20, if_pos c_45]))
        · skip
          refine lv_iload hx hb dX4_possible_48 (lv_at hl 1 rfl) ?_
          refine lv_iconst (v := 1) hx hb dX4_possible_50 (by decide) ?_
          refine lv_iload hx hb dX4_possible_51 (lv_at hl 0 rfl) ?_
          refine lv_ishl hx hb dX4_possible_53 ?_
          refine lv_ior hx hb dX4_possible_54 ?_
          refine lv_istore (lv' := [(4, .int (v4 ||| ((1 : Int32) <<< (v5 &&& 31)))), (5, .int v5), (0, .ref x0), (1, .int i1), (2, .int i2), (3, .int i3)]) hx hb dX4_possible_55 hl (by decide) rfl (fun ls hl => ?_)
          refine lv_iinc (v := (v5 + 1)) (lv' := [(5, .int (v5 + 1)), (4, .int (v4 ||| ((1 : Int32) <<< (v5 &&& 31)))), (0, .ref x0), (1, .int i1), (2, .int i2), (3, .int i3)]) hx hb dX4_possible_57 hl (k := 1) rfl rfl (by decide) rfl (fun ls hl => ?_)
          refine lv_goto (tgt := 17) hx hb dX4_possible_60 (by decide) ?_
          exact ih (v4 ||| ((1 : Int32) <<< (v5 &&& 31))) (v5 + 1) N2_ K2_31 L2_31 C2_31 _ _ _ (up_s hu c_20) hN2 hP hD hS (lv_sub hl [0, 1, 2, 3, 4, 5] rfl) (hE.trans (by rw [p4_possible_l17_s]; simp only [eK2_31, eL2_31, eC2_31]; rw [if_neg c_20, if_neg c_45]))
  refine lv_iconst (v := 0) hx hb dX4_possible_0 (by decide) ?_
  refine lv_istore (lv' := [(4, .int 0), (0, .ref x0), (1, .int i1), (2, .int i2), (3, .int i3)]) hx hb dX4_possible_1 hl (by decide) rfl (fun ls hl => ?_)
  refine lv_aload_n hx hb dX4_possible_3 rfl (lv_at hl 1 rfl) ?_
  refine va_get (D := (dC, dI)) (ci := 4) (v := .ref r0) (C := RX4) (T := TX4) (N := 7) hx hb hts hin4 hown hK hP 0 rfl rfl 1 (by decide) kf_18 (fun _ h9 => h9) rfl dX4_possible_4 ?_
  refine lv_aload_n hx hb dX4_possible_7 rfl (lv_at hl 1 rfl) ?_
  refine va_get (D := (dC, dI)) (ci := 4) (v := .ref t0) (C := RX4) (T := TX4) (N := 7) hx hb hts hin4 hown hK hP 0 rfl rfl 0 (by decide) kf_12 (fun _ h9 => h9) rfl dX4_possible_8 ?_
  have hPc := hP.sub (ws' := [(r0, .inr (0, [.ref rk, .ref rl, .ref rc, .int N2])), (rk, .inl (cI, 6, .inl K2)), (rl, .inl (cI, 6, .inl L2)), (rc, .inl (cI, 6, .inl C2)), (t0, .inr (0, [.ref tk, .ref tl, .ref tc, .int N])), (tk, .inl (cI, 6, .inl K)), (tl, .inl (cI, 6, .inl L)), (tc, .inl (cI, 6, .inl C))]) [5, 6, 7, 8, 1, 2, 3, 4] rfl
  have hDc := hD.sub (ws' := [(r0, .inr (0, [.ref rk, .ref rl, .ref rc, .int N2])), (rk, .inl (cI, 6, .inl K2)), (rl, .inl (cI, 6, .inl L2)), (rc, .inl (cI, 6, .inl C2)), (t0, .inr (0, [.ref tk, .ref tl, .ref tc, .int N])), (tk, .inl (cI, 6, .inl K)), (tl, .inl (cI, 6, .inl L)), (tc, .inl (cI, 6, .inl C))]) [5, 6, 7, 8, 1, 2, 3, 4] (by decide) rfl
  have hKc := hK.sub (tys' := [(cI, .int)]) [0] rfl
  have hFc := va_free (wc := [(r0, .inr (0, [.ref rk, .ref rl, .ref rc, .int N2])), (rk, .inl (cI, 6, .inl K2)), (rl, .inl (cI, 6, .inl L2)), (rc, .inl (cI, 6, .inl C2)), (t0, .inr (0, [.ref tk, .ref tl, .ref tc, .int N])), (tk, .inl (cI, 6, .inl K)), (tl, .inl (cI, 6, .inl L)), (tc, .inl (cI, 6, .inl C))]) hD hS hA [5, 6, 7, 8, 1, 2, 3, 4] rfl
  refine va_callv (va_runV (As := [.ref t0]) (rest := []) ⟨hx, hb, hml, hown, hts⟩ (ctX0_likeThat l dC dI cI r0 rk rl rc t0 tk tl tc s.heap.size N2 K2 L2 C2 N K L C) (cwV 1 hts gX4_possible_X0_likeThat rfl rfl rfl (by decide +kernel) ⟨Nat.le_of_ble_eq_true rfl, Nat.le_of_ble_eq_true rfl⟩) (pre_V hKc hN hPc hDc (RX0, TX0, 4) 0 0 rfl rfl) rfl rfl hl.1 rfl (lv_room (Nat.le_of_ble_eq_true rfl)) dX4_possible_11 ⟨Nat.le_of_ble_eq_true rfl, Nat.le_of_ble_eq_true rfl⟩) hS (fun q _ h => hFc q h) hFc (fun _ t H locs ht hvm hw hB hz1 hk1 hS => ?_)
  rw [ht] at hB
  refine nm_gen ((p0_likeThat N2 K2 L2 C2 N K L C).1) (fun N2_11 eN2_11 => ?_)
  rw [eN2_11] at hB
  refine nm_gen ((p0_likeThat N2 K2 L2 C2 N K L C).2.1) (fun K2_11 eK2_11 => ?_)
  rw [eK2_11] at hB
  refine nm_gen ((p0_likeThat N2 K2 L2 C2 N K L C).2.2.1) (fun L2_11 eL2_11 => ?_)
  rw [eL2_11] at hB
  refine nm_gen ((p0_likeThat N2 K2 L2 C2 N K L C).2.2.2) (fun C2_11 eC2_11 => ?_)
  rw [eC2_11] at hB
  obtain ⟨hP, hD⟩ := rw_join ([(x0, .inr (4, [.ref t0, .ref r0, .ref y0, .ref g0, .ref w0, .int TR, .int LF])), (t0, .inr (0, [.ref tk, .ref tl, .ref tc, .int N])), (tk, .inl (cI, 6, .inl K)), (tl, .inl (cI, 6, .inl L)), (tc, .inl (cI, 6, .inl C)), (r0, .inr (0, [.ref rk, .ref rl, .ref rc, .int N2])), (rk, .inl (cI, 6, .inl K2)), (rl, .inl (cI, 6, .inl L2)), (rc, .inl (cI, 6, .inl C2)), (g0, .inr (1, [.ref gn, .ref gc, .ref gh, .int GK])), (gn, .inl (cI, 8, .inl GN)), (gc, .inl (cI, 8, .inl GC)), (gh, .inl (cI, 8, .inl GH))]) ([(x0, .inr (4, [.ref t0, .ref r0, .ref y0, .ref g0, .ref w0, .int TR, .int LF])), (t0, .inr (0, [.ref tk, .ref tl, .ref tc, .int N])), (tk, .inl (cI, 6, .inl K)), (tl, .inl (cI, 6, .inl L)), (tc, .inl (cI, 6, .inl C)), (r0, .inr (0, [.ref rk, .ref rl, .ref rc, .int N2_11])), (rk, .inl (cI, 6, .inl K2_11)), (rl, .inl (cI, 6, .inl L2_11)), (rc, .inl (cI, 6, .inl C2_11)), (g0, .inr (1, [.ref gn, .ref gc, .ref gh, .int GK])), (gn, .inl (cI, 8, .inl GN)), (gc, .inl (cI, 8, .inl GC)), (gh, .inl (cI, 8, .inl GH))]) ([(r0, .inr (0, [.ref rk, .ref rl, .ref rc, .int N2])), (rk, .inl (cI, 6, .inl K2)), (rl, .inl (cI, 6, .inl L2)), (rc, .inl (cI, 6, .inl C2)), (t0, .inr (0, [.ref tk, .ref tl, .ref tc, .int N])), (tk, .inl (cI, 6, .inl K)), (tl, .inl (cI, 6, .inl L)), (tc, .inl (cI, 6, .inl C))]) ([(r0, .inr (0, [.ref rk, .ref rl, .ref rc, .int N2_11])), (rk, .inl (cI, 6, .inl K2_11)), (rl, .inl (cI, 6, .inl L2_11)), (rc, .inl (cI, 6, .inl C2_11)), (t0, .inr (0, [.ref tk, .ref tl, .ref tc, .int N])), (tk, .inl (cI, 6, .inl K)), (tl, .inl (cI, 6, .inl L)), (tc, .inl (cI, 6, .inl C))]) ([(x0, .inr (4, [.ref t0, .ref r0, .ref y0, .ref g0, .ref w0, .int TR, .int LF])), (g0, .inr (1, [.ref gn, .ref gc, .ref gh, .int GK])), (gn, .inl (cI, 8, .inl GN)), (gc, .inl (cI, 8, .inl GC)), (gh, .inl (cI, 8, .inl GH))]) hP hD [5, 6, 7, 8, 1, 2, 3, 4] [0, 9, 10, 11, 12] [x0, t0, tk, tl, tc, r0, rk, rl, rc, g0, gn, gc, gh] 13 rfl rfl rfl rfl rfl (by decide) rfl rfl hk1 hB
  refine lv_iconst (v := 0) hx hb dX4_possible_14 (by decide) ?_
  refine lv_istore (lv' := [(5, .int 0), (4, .int 0), (0, .ref x0), (1, .int i1), (2, .int i2), (3, .int i3)]) hx hb dX4_possible_15 hl (by decide) rfl (fun ls hl => ?_)
  exact lp_17 11 0 0 N2_11 K2_11 L2_11 C2_11 _ _ _ (up_i 10 (by decide) h3) (by rw [← eN2_11]; exact hNb) hP hD hS (lv_sub hl [0, 1, 2, 3, 4, 5] rfl) (by unfold p4_possible; simp only [eN2_11, eK2_11, eL2_11, eC2_11])

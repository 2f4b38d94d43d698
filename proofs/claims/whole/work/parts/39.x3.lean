def p3_isOfOne (i0 : Int32) (i1 : Int32) : Int32 :=
  if i0 < i1 then
    0
  else
    if (i1 + 6) ≤ i0 then
      0
    else
      1
abbrev rmX3_isOfOne : Room := { frames := 0, cells := 0, slots := 0, locals := 0 }
abbrev QX3_isOfOne (dC : Nat → ClassId) (dI : Nat → Nat → Nat) (A : Nat → Prop) (cI : ClassId) (i0 : Int32) (i1 : Int32) : Array Value → State → Outcome → State → Prop := va_Qi (fun (r : Int32) (_ : Unit) => r = p3_isOfOne i0 i1) (fun (_ : Unit) (t : State) => va_P (dC, dI) vwCl ([]) t.heap) A
set_option maxHeartbeats 4000000 in
set_option maxRecDepth 100000 in
theorem ctX3_isOfOne (l : Launch) (dC : Nat → ClassId) (dI : Nat → Nat → Nat) (cI : ClassId) (sz : Nat) (i0 : Int32) (i1 : Int32) : Met l yX3_isOfOne wsX3_isOfOne rmX3_isOfOne (va_Pc [.int i0, .int i1] (cP dC dI [(cI, .int)] ([]) sz)) (QX3_isOfOne dC dI (va_A ([]) sz) cI i0 i1) 0 0 (va_A ([]) sz) := by
  refine Met.ofW (cc := cX3_isOfOne) (maxL := 2) (ret := (some .boolean)) (by decide) rfl ?_
  intro p e s m args below meth c s₁ B hml hv
  obtain ⟨rfl, hsz, hP, hK, hD0, hN⟩ := hv
  have hx := B.exec
  have hb := B.bytes
  have hr := B.returns
  have hts := atoms_spec (ws := wsX3_isOfOne) B.pre
  have hown : s.vm.findClass RX3 = some m.cls := findClass_of_methodNamed B.named
  have hlocks := B.notSynchronized
  subst hsz
  have hD := hD0.self (sz := s.heap.size)
  generalize hAe : va_A ([]) s.heap.size = A at hD ⊢
  have hA : ∀ q : Nat, s.heap.size ≤ q → A q := fun q h => by rw [← hAe]; exact Or.inr h
  have hS : va_S A s.heap s.heap [] := va_S.rf
  have hP : va_P (dC, dI) vwCl ([]) s.heap := hP
  have hl := lv_entry ([.int i0, .int i1]) (n := 2) (Nat.le_of_ble_eq_true rfl)
  rw [lg_entry_eq]
  generalize (lg_sl ([.int i0, .int i1]) ++ List.replicate (2 - (lg_sl ([.int i0, .int i1])).length) Slot.unset).toArray = ls at hl ⊢
  have hl : lv_has ls 2 [(0, .int i0), (1, .int i1)] := hl
  refine lv_iload_n hx hb dX3_isOfOne_0 rfl (lv_at hl 0 rfl) ?_
  refine lv_iload_n hx hb dX3_isOfOne_1 rfl (lv_at hl 1 rfl) ?_
  refine lv_icmp_lt (tgt := 17) hx hb dX3_isOfOne_2 (by decide) (fun c_2 => ?_) (fun c_2 => ?_)
  · skip
    refine lv_iconst (v := 0) hx hb dX3_isOfOne_17 (by decide) ?_
    have hE9 : p3_isOfOne i0 i1 = 0 := by unfold p3_isOfOne; rw [if_pos c_2]
    exact W.zret (v := 0) hx hb hr (by decide +kernel) (fun t ht hW => ⟨⟨_, (), rfl, by rw [hE9], by show va_P (dC, dI) vwCl _ t.heap; rw [ht]; exact hP⟩, hS.F ht⟩) hS.2.2 dX3_isOfOne_18
  · skip
    refine lv_iload_n hx hb dX3_isOfOne_5 rfl (lv_at hl 0 rfl) ?_
    refine lv_iload_n hx hb dX3_isOfOne_6 rfl (lv_at hl 1 rfl) ?_
    refine lv_bipush (v := 6) hx hb dX3_isOfOne_7 (by decide) ?_
    refine lv_iadd hx hb dX3_isOfOne_9 ?_
    refine lv_icmp_ge (tgt := 17) hx hb dX3_isOfOne_10 (by decide) (fun c_10 => ?_) (fun c_10 => ?_)
    · skip
      refine lv_iconst (v := 0) hx hb dX3_isOfOne_17 (by decide) ?_
      have hE9 : p3_isOfOne i0 i1 = 0 := by unfold p3_isOfOne; rw [if_neg c_2, if_pos c_10]
      exact W.zret (v := 0) hx hb hr (by decide +kernel) (fun t ht hW => ⟨⟨_, (), rfl, by rw [hE9], by show va_P (dC, dI) vwCl _ t.heap; rw [ht]; exact hP⟩, hS.F ht⟩) hS.2.2 dX3_isOfOne_18
    · skip
      refine lv_iconst (v := 1) hx hb dX3_isOfOne_13 (by decide) ?_
      refine lv_goto (tgt := 18) hx hb dX3_isOfOne_14 (by decide) ?_
      have hE9 : p3_isOfOne i0 i1 = 1 := by unfold p3_isOfOne; rw [if_neg c_2, if_neg c_10]
      exact W.zret (v := 1) hx hb hr (by decide +kernel) (fun t ht hW => ⟨⟨_, (), rfl, by rw [hE9], by show va_P (dC, dI) vwCl _ t.heap; rw [ht]; exact hP⟩, hS.F ht⟩) hS.2.2 dX3_isOfOne_18

def p3_isAsked (i0 : Int32) : Int32 :=
  if i0 < 0 then
    if (p3_isOfOne i0 10) = 0 then
      if (p3_isOfOne i0 20) = 0 then
        0
      else
        1
    else
      1
  else
    if i0 ≤ 3 then
      1
    else
      if (p3_isOfOne i0 10) = 0 then
        if (p3_isOfOne i0 20) = 0 then
          0
        else
          1
      else
        1
abbrev rmX3_isAsked : Room := { frames := 1, cells := 0, slots := 0, locals := 21 }
abbrev QX3_isAsked (dC : Nat → ClassId) (dI : Nat → Nat → Nat) (A : Nat → Prop) (cI : ClassId) (i0 : Int32) : Array Value → State → Outcome → State → Prop := va_Qi (fun (r : Int32) (_ : Unit) => r = p3_isAsked i0) (fun (_ : Unit) (t : State) => va_P (dC, dI) vwCl ([]) t.heap) A
set_option maxHeartbeats 4000000 in
set_option maxRecDepth 100000 in
theorem ctX3_isAsked (l : Launch) (dC : Nat → ClassId) (dI : Nat → Nat → Nat) (cI : ClassId) (sz : Nat) (i0 : Int32) : Met l yX3_isAsked wsX3_isAsked rmX3_isAsked (va_Pc [.int i0] (cP dC dI [(cI, .int)] ([]) sz)) (QX3_isAsked dC dI (va_A ([]) sz) cI i0) 0 0 (va_A ([]) sz) := by
  refine Met.ofW (cc := cX3_isAsked) (maxL := 1) (ret := (some .boolean)) (by decide) rfl ?_
  intro p e s m args below meth c s₁ B hml hv
  obtain ⟨rfl, hsz, hP, hK, hD0, hN⟩ := hv
  have hx := B.exec
  have hb := B.bytes
  have hr := B.returns
  have hts := atoms_spec (ws := wsX3_isAsked) B.pre
  have hown : s.vm.findClass RX3 = some m.cls := findClass_of_methodNamed B.named
  have hlocks := B.notSynchronized
  subst hsz
  have hD := hD0.self (sz := s.heap.size)
  generalize hAe : va_A ([]) s.heap.size = A at hD ⊢
  have hA : ∀ q : Nat, s.heap.size ≤ q → A q := fun q h => by rw [← hAe]; exact Or.inr h
  have hS : va_S A s.heap s.heap [] := va_S.rf
  have hP : va_P (dC, dI) vwCl ([]) s.heap := hP
  have hl := lv_entry ([.int i0]) (n := 1) (Nat.le_of_ble_eq_true rfl)
  rw [lg_entry_eq]
  generalize (lg_sl ([.int i0]) ++ List.replicate (1 - (lg_sl ([.int i0])).length) Slot.unset).toArray = ls at hl ⊢
  have hl : lv_has ls 1 [(0, .int i0)] := hl
  refine lv_iload_n hx hb dX3_isAsked_0 rfl (lv_at hl 0 rfl) ?_
  refine lv_if_lt (tgt := 9) hx hb dX3_isAsked_1 (by decide) (fun c_1 => ?_) (fun c_1 => ?_)
  · skip
    refine lv_iload_n hx hb dX3_isAsked_9 rfl (lv_at hl 0 rfl) ?_
    refine lv_bipush (v := 10) hx hb dX3_isAsked_10 (by decide) ?_
    have hPc : va_P (dC, dI) vwCl [] s.heap := hP.sub (ws' := []) [] rfl
    have hDc : va_D A [] := hD.sub (ws' := []) [] (by decide) rfl
    have hKc := hK.sub (tys' := [(cI, .int)]) [0] rfl
    have hFc := va_free (wc := []) hD hS hA [] rfl
    refine va_calli (va_runS (As := [.int i0, .int 10]) (rest := []) ⟨hx, hb, hml, hown, hts⟩ (ctX3_isOfOne l dC dI cI s.heap.size i0 10) (va_cwS 2 hts gX3_isAsked_X3_isOfOne rfl rfl rfl (by decide +kernel) ⟨Nat.le_of_ble_eq_true rfl, Nat.le_of_ble_eq_true rfl⟩) (pre_S hKc hN hPc hDc) rfl rfl hl.1 rfl (lv_room (Nat.le_of_ble_eq_true rfl)) dX3_isAsked_12 ⟨Nat.le_of_ble_eq_true rfl, Nat.le_of_ble_eq_true rfl⟩) hS (fun q _ h => hFc q h) hFc (fun r _ t H locs ht hvm hw hB hz1 hk1 hS => ?_)
    try dsimp only at hw
    subst hw
    rw [ht] at hB
    obtain ⟨hP, hD⟩ := rw_join ([]) ([]) ([]) ([]) ([]) hP hD [] [] [] 0 rfl rfl rfl rfl rfl (by decide) rfl rfl hk1 hB
    refine lv_if_ne (tgt := 27) hx hb dX3_isAsked_15 (by decide) (fun c_15 => ?_) (fun c_15 => ?_)
    · skip
      refine lv_iconst (v := 1) hx hb dX3_isAsked_27 (by decide) ?_
      refine lv_goto (tgt := 32) hx hb dX3_isAsked_28 (by decide) ?_
      have hE9 : p3_isAsked i0 = 1 := by unfold p3_isAsked; rw [if_pos c_1, if_neg c_15]
      exact W.zret (v := 1) hx hb hr (by decide +kernel) (fun t ht hW => ⟨⟨_, (), rfl, by rw [hE9], by show va_P (dC, dI) vwCl _ t.heap; rw [ht]; exact hP⟩, hS.F ht⟩) hS.2.2 dX3_isAsked_32
    · skip
      refine lv_iload_n hx hb dX3_isAsked_18 rfl (lv_at hl 0 rfl) ?_
      refine lv_bipush (v := 20) hx hb dX3_isAsked_19 (by decide) ?_
      have hPc : va_P (dC, dI) vwCl [] H := hP.sub (ws' := []) [] rfl
      have hDc : va_D A [] := hD.sub (ws' := []) [] (by decide) rfl
      have hKc := hK.sub (tys' := [(cI, .int)]) [0] rfl
      have hFc := va_free (wc := []) hD hS hA [] rfl
      refine va_calli (va_runS (As := [.int i0, .int 20]) (rest := []) ⟨hx, hb, hml, hown, hts⟩ (ctX3_isOfOne l dC dI cI H.size i0 20) (va_cwS 2 hts gX3_isAsked_X3_isOfOne rfl rfl rfl (by decide +kernel) ⟨Nat.le_of_ble_eq_true rfl, Nat.le_of_ble_eq_true rfl⟩) (pre_S hKc hN hPc hDc) rfl rfl hl.1 rfl (lv_room (Nat.le_of_ble_eq_true rfl)) dX3_isAsked_21 ⟨Nat.le_of_ble_eq_true rfl, Nat.le_of_ble_eq_true rfl⟩) hS (fun q _ h => hFc q h) hFc (fun r _ t H locs ht hvm hw hB hz1 hk1 hS => ?_)
      try dsimp only at hw
      subst hw
      rw [ht] at hB
      obtain ⟨hP, hD⟩ := rw_join ([]) ([]) ([]) ([]) ([]) hP hD [] [] [] 0 rfl rfl rfl rfl rfl (by decide) rfl rfl hk1 hB
      refine lv_if_eq (tgt := 31) hx hb dX3_isAsked_24 (by decide) (fun c_24 => ?_) (fun c_24 => ?_)
      · skip
        refine lv_iconst (v := 0) hx hb dX3_isAsked_31 (by decide) ?_
        have hE9 : p3_isAsked i0 = 0 := by unfold p3_isAsked; rw [if_pos c_1, if_pos c_15, if_pos c_24]
        exact W.zret (v := 0) hx hb hr (by decide +kernel) (fun t ht hW => ⟨⟨_, (), rfl, by rw [hE9], by show va_P (dC, dI) vwCl _ t.heap; rw [ht]; exact hP⟩, hS.F ht⟩) hS.2.2 dX3_isAsked_32
      · skip
        refine lv_iconst (v := 1) hx hb dX3_isAsked_27 (by decide) ?_
        refine lv_goto (tgt := 32) hx hb dX3_isAsked_28 (by decide) ?_
        have hE9 : p3_isAsked i0 = 1 := by unfold p3_isAsked; rw [if_pos c_1, if_pos c_15, if_neg c_24]
        exact W.zret (v := 1) hx hb hr (by decide +kernel) (fun t ht hW => ⟨⟨_, (), rfl, by rw [hE9], by show va_P (dC, dI) vwCl _ t.heap; rw [ht]; exact hP⟩, hS.F ht⟩) hS.2.2 dX3_isAsked_32
  · skip
    refine lv_iload_n hx hb dX3_isAsked_4 rfl (lv_at hl 0 rfl) ?_
    refine lv_iconst (v := 3) hx hb dX3_isAsked_5 (by decide) ?_
    refine lv_icmp_le (tgt := 27) hx hb dX3_isAsked_6 (by decide) (fun c_6 => ?_) (fun c_6 => ?_)
    · skip
      refine lv_iconst (v := 1) hx hb dX3_isAsked_27 (by decide) ?_
      refine lv_goto (tgt := 32) hx hb dX3_isAsked_28 (by decide) ?_
      have hE9 : p3_isAsked i0 = 1 := by unfold p3_isAsked; rw [if_neg c_1, if_pos c_6]
      exact W.zret (v := 1) hx hb hr (by decide +kernel) (fun t ht hW => ⟨⟨_, (), rfl, by rw [hE9], by show va_P (dC, dI) vwCl _ t.heap; rw [ht]; exact hP⟩, hS.F ht⟩) hS.2.2 dX3_isAsked_32
    · skip
      refine lv_iload_n hx hb dX3_isAsked_9 rfl (lv_at hl 0 rfl) ?_
      refine lv_bipush (v := 10) hx hb dX3_isAsked_10 (by decide) ?_
      have hPc : va_P (dC, dI) vwCl [] s.heap := hP.sub (ws' := []) [] rfl
      have hDc : va_D A [] := hD.sub (ws' := []) [] (by decide) rfl
      have hKc := hK.sub (tys' := [(cI, .int)]) [0] rfl
      have hFc := va_free (wc := []) hD hS hA [] rfl
      refine va_calli (va_runS (As := [.int i0, .int 10]) (rest := []) ⟨hx, hb, hml, hown, hts⟩ (ctX3_isOfOne l dC dI cI s.heap.size i0 10) (va_cwS 2 hts gX3_isAsked_X3_isOfOne rfl rfl rfl (by decide +kernel) ⟨Nat.le_of_ble_eq_true rfl, Nat.le_of_ble_eq_true rfl⟩) (pre_S hKc hN hPc hDc) rfl rfl hl.1 rfl (lv_room (Nat.le_of_ble_eq_true rfl)) dX3_isAsked_12 ⟨Nat.le_of_ble_eq_true rfl, Nat.le_of_ble_eq_true rfl⟩) hS (fun q _ h => hFc q h) hFc (fun r _ t H locs ht hvm hw hB hz1 hk1 hS => ?_)
      try dsimp only at hw
      subst hw
      rw [ht] at hB
      obtain ⟨hP, hD⟩ := rw_join ([]) ([]) ([]) ([]) ([]) hP hD [] [] [] 0 rfl rfl rfl rfl rfl (by decide) rfl rfl hk1 hB
      refine lv_if_ne (tgt := 27) hx hb dX3_isAsked_15 (by decide) (fun c_15 => ?_) (fun c_15 => ?_)
      · skip
        refine lv_iconst (v := 1) hx hb dX3_isAsked_27 (by decide) ?_
        refine lv_goto (tgt := 32) hx hb dX3_isAsked_28 (by decide) ?_
        have hE9 : p3_isAsked i0 = 1 := by unfold p3_isAsked; rw [if_neg c_1, if_neg c_6, if_neg c_15]
        exact W.zret (v := 1) hx hb hr (by decide +kernel) (fun t ht hW => ⟨⟨_, (), rfl, by rw [hE9], by show va_P (dC, dI) vwCl _ t.heap; rw [ht]; exact hP⟩, hS.F ht⟩) hS.2.2 dX3_isAsked_32
      · skip
        refine lv_iload_n hx hb dX3_isAsked_18 rfl (lv_at hl 0 rfl) ?_
        refine lv_bipush (v := 20) hx hb dX3_isAsked_19 (by decide) ?_
        have hPc : va_P (dC, dI) vwCl [] H := hP.sub (ws' := []) [] rfl
        have hDc : va_D A [] := hD.sub (ws' := []) [] (by decide) rfl
        have hKc := hK.sub (tys' := [(cI, .int)]) [0] rfl
        have hFc := va_free (wc := []) hD hS hA [] rfl
        refine va_calli (va_runS (As := [.int i0, .int 20]) (rest := []) ⟨hx, hb, hml, hown, hts⟩ (ctX3_isOfOne l dC dI cI H.size i0 20) (va_cwS 2 hts gX3_isAsked_X3_isOfOne rfl rfl rfl (by decide +kernel) ⟨Nat.le_of_ble_eq_true rfl, Nat.le_of_ble_eq_true rfl⟩) (pre_S hKc hN hPc hDc) rfl rfl hl.1 rfl (lv_room (Nat.le_of_ble_eq_true rfl)) dX3_isAsked_21 ⟨Nat.le_of_ble_eq_true rfl, Nat.le_of_ble_eq_true rfl⟩) hS (fun q _ h => hFc q h) hFc (fun r _ t H locs ht hvm hw hB hz1 hk1 hS => ?_)
        try dsimp only at hw
        subst hw
        rw [ht] at hB
        obtain ⟨hP, hD⟩ := rw_join ([]) ([]) ([]) ([]) ([]) hP hD [] [] [] 0 rfl rfl rfl rfl rfl (by decide) rfl rfl hk1 hB
        refine lv_if_eq (tgt := 31) hx hb dX3_isAsked_24 (by decide) (fun c_24 => ?_) (fun c_24 => ?_)
        · skip
          refine lv_iconst (v := 0) hx hb dX3_isAsked_31 (by decide) ?_
          have hE9 : p3_isAsked i0 = 0 := by unfold p3_isAsked; rw [if_neg c_1, if_neg c_6, if_pos c_15, if_pos c_24]
          exact W.zret (v := 0) hx hb hr (by decide +kernel) (fun t ht hW => ⟨⟨_, (), rfl, by rw [hE9], by show va_P (dC, dI) vwCl _ t.heap; rw [ht]; exact hP⟩, hS.F ht⟩) hS.2.2 dX3_isAsked_32
        · skip
          refine lv_iconst (v := 1) hx hb dX3_isAsked_27 (by decide) ?_
          refine lv_goto (tgt := 32) hx hb dX3_isAsked_28 (by decide) ?_
          have hE9 : p3_isAsked i0 = 1 := by unfold p3_isAsked; rw [if_neg c_1, if_neg c_6, if_pos c_15, if_neg c_24]
          exact W.zret (v := 1) hx hb hr (by decide +kernel) (fun t ht hW => ⟨⟨_, (), rfl, by rw [hE9], by show va_P (dC, dI) vwCl _ t.heap; rw [ht]; exact hP⟩, hS.F ht⟩) hS.2.2 dX3_isAsked_32

def p3_begin_l10 (YC : Int32) (YF : Int32) (N : Int32) (K : Nat → Int32) (L : Nat → Int32) (C : Nat → Int32) (P : Nat → Int32) (Nq : Int32) (Kq : Nat → Int32) (Lq : Nat → Int32) (Cq : Nat → Int32) : Nat → Int32 → (Nat → Int32) → Int32 → (Nat → Int32) → (Nat → Int32) → (Nat → Int32) → Int32 × Int32 × Int32 × (Nat → Int32) × (Nat → Int32) × (Nat → Int32) × (Nat → Int32)
  | 0, _, _, _, _, _, _ => (0, 0, 0, fun _ => 0, fun _ => 0, fun _ => 0, fun _ => 0)
  | n + 1, v2, P_, N_, K_, L_, C_ =>
    if 6 ≤ v2 then
      (0, 0, N_, K_, L_, C_, P_)
    else
      p3_begin_l10 YC YF N K L C P Nq Kq Lq Cq n (v2 + 1) (upd P_ v2.toNatClampNeg 0) N_ K_ L_ C_
theorem p3_begin_l10_s (YC : Int32) (YF : Int32) (N : Int32) (K : Nat → Int32) (L : Nat → Int32) (C : Nat → Int32) (P : Nat → Int32) (Nq : Int32) (Kq : Nat → Int32) (Lq : Nat → Int32) (Cq : Nat → Int32) (n : Nat) (v2 : Int32) (P_ : Nat → Int32) (N_ : Int32) (K_ : Nat → Int32) (L_ : Nat → Int32) (C_ : Nat → Int32) : p3_begin_l10 YC YF N K L C P Nq Kq Lq Cq (n + 1) v2 P_ N_ K_ L_ C_ =
    (if 6 ≤ v2 then
      (0, 0, N_, K_, L_, C_, P_)
    else
      p3_begin_l10 YC YF N K L C P Nq Kq Lq Cq n (v2 + 1) (upd P_ v2.toNatClampNeg 0) N_ K_ L_ C_) := rfl
def p3_begin (YC : Int32) (YF : Int32) (N : Int32) (K : Nat → Int32) (L : Nat → Int32) (C : Nat → Int32) (P : Nat → Int32) (Nq : Int32) (Kq : Nat → Int32) (Lq : Nat → Int32) (Cq : Nat → Int32) : Int32 × Int32 × Int32 × (Nat → Int32) × (Nat → Int32) × (Nat → Int32) × (Nat → Int32) :=
  p3_begin_l10 YC YF N K L C P Nq Kq Lq Cq 7 0 P ((p0_likeThat N K L C Nq Kq Lq Cq).1) ((p0_likeThat N K L C Nq Kq Lq Cq).2.1) ((p0_likeThat N K L C Nq Kq Lq Cq).2.2.1) ((p0_likeThat N K L C Nq Kq Lq Cq).2.2.2)
abbrev rmX3_begin : Room := { frames := 2, cells := 0, slots := 0, locals := 61 }
abbrev QX3_begin (dC : Nat → ClassId) (dI : Nat → Nat → Nat) (A : Nat → Prop) (cI : ClassId) (y0 : Nat) (d0 : Nat) (yp : Nat) (dk : Nat) (dl : Nat) (dc : Nat) (b0 : Nat) (bk : Nat) (bl : Nat) (bc : Nat) (YC : Int32) (YF : Int32) (N : Int32) (K : Nat → Int32) (L : Nat → Int32) (C : Nat → Int32) (P : Nat → Int32) (Nq : Int32) (Kq : Nat → Int32) (Lq : Nat → Int32) (Cq : Nat → Int32) : Array Value → State → Outcome → State → Prop := va_Qv (fun (_ : Unit) => True) (fun (_ : Unit) (t : State) => va_P (dC, dI) vwCl ([(y0, .inr (3, [.ref d0, .ref yp, .int ((p3_begin YC YF N K L C P Nq Kq Lq Cq).1), .int ((p3_begin YC YF N K L C P Nq Kq Lq Cq).2.1)])), (d0, .inr (0, [.ref dk, .ref dl, .ref dc, .int ((p3_begin YC YF N K L C P Nq Kq Lq Cq).2.2.1)])), (dk, .inl (cI, 6, .inl ((p3_begin YC YF N K L C P Nq Kq Lq Cq).2.2.2.1))), (dl, .inl (cI, 6, .inl ((p3_begin YC YF N K L C P Nq Kq Lq Cq).2.2.2.2.1))), (dc, .inl (cI, 6, .inl ((p3_begin YC YF N K L C P Nq Kq Lq Cq).2.2.2.2.2.1))), (yp, .inl (cI, 6, .inl ((p3_begin YC YF N K L C P Nq Kq Lq Cq).2.2.2.2.2.2))), (b0, .inr (0, [.ref bk, .ref bl, .ref bc, .int Nq])), (bk, .inl (cI, 6, .inl Kq)), (bl, .inl (cI, 6, .inl Lq)), (bc, .inl (cI, 6, .inl Cq))]) t.heap) A
set_option maxHeartbeats 4000000 in
set_option maxRecDepth 100000 in
theorem ctX3_begin (l : Launch) (dC : Nat → ClassId) (dI : Nat → Nat → Nat) (cI : ClassId) (y0 : Nat) (d0 : Nat) (yp : Nat) (dk : Nat) (dl : Nat) (dc : Nat) (b0 : Nat) (bk : Nat) (bl : Nat) (bc : Nat) (sz : Nat) (YC : Int32) (YF : Int32) (N : Int32) (K : Nat → Int32) (L : Nat → Int32) (C : Nat → Int32) (P : Nat → Int32) (Nq : Int32) (Kq : Nat → Int32) (Lq : Nat → Int32) (Cq : Nat → Int32) : Met l yX3_begin wsX3_begin rmX3_begin (va_Pc [.ref y0, .ref b0] (cP dC dI [(cI, .int)] ([(y0, .inr (3, [.ref d0, .ref yp, .int YC, .int YF])), (d0, .inr (0, [.ref dk, .ref dl, .ref dc, .int N])), (dk, .inl (cI, 6, .inl K)), (dl, .inl (cI, 6, .inl L)), (dc, .inl (cI, 6, .inl C)), (yp, .inl (cI, 6, .inl P)), (b0, .inr (0, [.ref bk, .ref bl, .ref bc, .int Nq])), (bk, .inl (cI, 6, .inl Kq)), (bl, .inl (cI, 6, .inl Lq)), (bc, .inl (cI, 6, .inl Cq))]) sz)) (QX3_begin dC dI (va_A ([(y0, .inr (3, [.ref d0, .ref yp, .int YC, .int YF])), (d0, .inr (0, [.ref dk, .ref dl, .ref dc, .int N])), (dk, .inl (cI, 6, .inl K)), (dl, .inl (cI, 6, .inl L)), (dc, .inl (cI, 6, .inl C)), (yp, .inl (cI, 6, .inl P)), (b0, .inr (0, [.ref bk, .ref bl, .ref bc, .int Nq])), (bk, .inl (cI, 6, .inl Kq)), (bl, .inl (cI, 6, .inl Lq)), (bc, .inl (cI, 6, .inl Cq))]) sz) cI y0 d0 yp dk dl dc b0 bk bl bc YC YF N K L C P Nq Kq Lq Cq ) 0 0 (va_A ([(y0, .inr (3, [.ref d0, .ref yp, .int YC, .int YF])), (d0, .inr (0, [.ref dk, .ref dl, .ref dc, .int N])), (dk, .inl (cI, 6, .inl K)), (dl, .inl (cI, 6, .inl L)), (dc, .inl (cI, 6, .inl C)), (yp, .inl (cI, 6, .inl P)), (b0, .inr (0, [.ref bk, .ref bl, .ref bc, .int Nq])), (bk, .inl (cI, 6, .inl Kq)), (bl, .inl (cI, 6, .inl Lq)), (bc, .inl (cI, 6, .inl Cq))]) sz) := by
  refine Met.ofW (cc := cX3_begin) (maxL := 3) (ret := none) (by decide) rfl ?_
  intro p e s m args below meth c s₁ B hml hv
  obtain ⟨rfl, hsz, hP, hK, hD0, hN⟩ := hv
  have hx := B.exec
  have hb := B.bytes
  have hr := B.returns
  have hts := atoms_spec (ws := wsX3_begin) B.pre
  have hown : s.vm.findClass RX3 = some m.cls := findClass_of_methodNamed B.named
  have hlocks := B.notSynchronized
  subst hsz
  have hD := hD0.self (sz := s.heap.size)
  generalize hAe : va_A ([(y0, .inr (3, [.ref d0, .ref yp, .int YC, .int YF])), (d0, .inr (0, [.ref dk, .ref dl, .ref dc, .int N])), (dk, .inl (cI, 6, .inl K)), (dl, .inl (cI, 6, .inl L)), (dc, .inl (cI, 6, .inl C)), (yp, .inl (cI, 6, .inl P)), (b0, .inr (0, [.ref bk, .ref bl, .ref bc, .int Nq])), (bk, .inl (cI, 6, .inl Kq)), (bl, .inl (cI, 6, .inl Lq)), (bc, .inl (cI, 6, .inl Cq))]) s.heap.size = A at hD ⊢
  have hA : ∀ q : Nat, s.heap.size ≤ q → A q := fun q h => by rw [← hAe]; exact Or.inr h
  have hS : va_S A s.heap s.heap [] := va_S.rf
  have hP : va_P (dC, dI) vwCl ([(y0, .inr (3, [.ref d0, .ref yp, .int YC, .int YF])), (d0, .inr (0, [.ref dk, .ref dl, .ref dc, .int N])), (dk, .inl (cI, 6, .inl K)), (dl, .inl (cI, 6, .inl L)), (dc, .inl (cI, 6, .inl C)), (yp, .inl (cI, 6, .inl P)), (b0, .inr (0, [.ref bk, .ref bl, .ref bc, .int Nq])), (bk, .inl (cI, 6, .inl Kq)), (bl, .inl (cI, 6, .inl Lq)), (bc, .inl (cI, 6, .inl Cq))]) s.heap := hP
  have hin3 : ∀ w ∈ wsX30, w ∈ wsX3_begin := by decide +kernel
  have kf_12 := hts (.fieldLink RX3 12 "RicherChange$Year" "town" "LRicherChange$City;") (by decide +kernel)
  have kf_18 := hts (.fieldLink RX3 18 "RicherChange$Year" "paid" "[I") (by decide +kernel)
  have kf_30 := hts (.fieldLink RX3 30 "RicherChange$Year" "changed" "I") (by decide +kernel)
  have kf_34 := hts (.fieldLink RX3 34 "RicherChange$Year" "fair" "I") (by decide +kernel)
  have hl := lv_entry ([.ref y0, .ref b0]) (n := 3) (Nat.le_of_ble_eq_true rfl)
  rw [lg_entry_eq]
  generalize (lg_sl ([.ref y0, .ref b0]) ++ List.replicate (3 - (lg_sl ([.ref y0, .ref b0])).length) Slot.unset).toArray = ls at hl ⊢
  have hl : lv_has ls 3 [(0, .ref y0), (1, .ref b0)] := hl
  have lp_10 : ∀ (n : Nat) (v2 : Int32) (P_ : Nat → Int32) (N_ : Int32) (K_ : Nat → Int32) (L_ : Nat → Int32) (C_ : Nat → Int32) (H : Heap) (locs : List Loc) (ls : Array Slot), (up v2 6 n) → va_P (dC, dI) vwCl ([(y0, .inr (3, [.ref d0, .ref yp, .int YC, .int YF])), (d0, .inr (0, [.ref dk, .ref dl, .ref dc, .int N_])), (dk, .inl (cI, 6, .inl K_)), (dl, .inl (cI, 6, .inl L_)), (dc, .inl (cI, 6, .inl C_)), (yp, .inl (cI, 6, .inl P_)), (b0, .inr (0, [.ref bk, .ref bl, .ref bc, .int Nq])), (bk, .inl (cI, 6, .inl Kq)), (bl, .inl (cI, 6, .inl Lq)), (bc, .inl (cI, 6, .inl Cq))]) H → va_D A ([(y0, .inr (3, [.ref d0, .ref yp, .int YC, .int YF])), (d0, .inr (0, [.ref dk, .ref dl, .ref dc, .int N_])), (dk, .inl (cI, 6, .inl K_)), (dl, .inl (cI, 6, .inl L_)), (dc, .inl (cI, 6, .inl C_)), (yp, .inl (cI, 6, .inl P_)), (b0, .inr (0, [.ref bk, .ref bl, .ref bc, .int Nq])), (bk, .inl (cI, 6, .inl Kq)), (bl, .inl (cI, 6, .inl Lq)), (bc, .inl (cI, 6, .inl Cq))]) → va_S A s.heap H locs → lv_has ls 3 [(2, .int v2), (0, .ref y0), (1, .ref b0)] → p3_begin YC YF N K L C P Nq Kq Lq Cq = p3_begin_l10 YC YF N K L C P Nq Kq Lq Cq n v2 P_ N_ K_ L_ C_ → W p l e (headSpec wsX3_begin rmX3_begin).room s m [.ref y0, .ref b0].toArray below meth c H locs 0 0 (MQ below (QX3_begin dC dI A cI y0 d0 yp dk dl dc b0 bk bl bc YC YF N K L C P Nq Kq Lq Cq ) [.ref y0, .ref b0].toArray s 0 0 A) (F0 m 10 ls []) := by
    intro n
    induction n with
    | zero => intro v2 P_ N_ K_ L_ C_ _ _ _ hu; exact absurd hu up_no
    | succ n ih =>
      intro v2 P_ N_ K_ L_ C_ H locs ls hu hP hD hS hl hE
      refine lv_iload_n hx hb dX3_begin_10 rfl (lv_at hl 0 rfl) ?_
      refine lv_bipush (v := 6) hx hb dX3_begin_11 (by decide) ?_
      refine lv_icmp_ge (tgt := 29) hx hb dX3_begin_13 (by decide) (fun c_13 => ?_) (fun c_13 => ?_)
      · skip
        refine lv_aload_n hx hb dX3_begin_29 rfl (lv_at hl 1 rfl) ?_
        refine lv_iconst (v := 0) hx hb dX3_begin_30 (by decide) ?_
        refine va_put (D := (dC, dI)) (ci := 3) (v := .int 0) (ty := .int) (C := RX3) (T := TX3) (N := 4) hx hb hts hin3 tyX3 tyX3_ok nmX3 hown hK hP hD hS 0 rfl rfl 2 (by decide) kf_30 (fun _ h9 => h9) rfl (by decide +kernel) rfl rfl (Nat.le_of_ble_eq_true rfl) dX3_begin_31 (fun H locs hP hD hS => ?_)
        have hP : va_P (dC, dI) vwCl ([(y0, .inr (3, [.ref d0, .ref yp, .int 0, .int YF])), (d0, .inr (0, [.ref dk, .ref dl, .ref dc, .int N_])), (dk, .inl (cI, 6, .inl K_)), (dl, .inl (cI, 6, .inl L_)), (dc, .inl (cI, 6, .inl C_)), (yp, .inl (cI, 6, .inl P_)), (b0, .inr (0, [.ref bk, .ref bl, .ref bc, .int Nq])), (bk, .inl (cI, 6, .inl Kq)), (bl, .inl (cI, 6, .inl Lq)), (bc, .inl (cI, 6, .inl Cq))]) H := hP
        have hD : va_D A ([(y0, .inr (3, [.ref d0, .ref yp, .int 0, .int YF])), (d0, .inr (0, [.ref dk, .ref dl, .ref dc, .int N_])), (dk, .inl (cI, 6, .inl K_)), (dl, .inl (cI, 6, .inl L_)), (dc, .inl (cI, 6, .inl C_)), (yp, .inl (cI, 6, .inl P_)), (b0, .inr (0, [.ref bk, .ref bl, .ref bc, .int Nq])), (bk, .inl (cI, 6, .inl Kq)), (bl, .inl (cI, 6, .inl Lq)), (bc, .inl (cI, 6, .inl Cq))]) := hD
        refine lv_aload_n hx hb dX3_begin_34 rfl (lv_at hl 1 rfl) ?_
        refine lv_iconst (v := 0) hx hb dX3_begin_35 (by decide) ?_
        refine va_put (D := (dC, dI)) (ci := 3) (v := .int 0) (ty := .int) (C := RX3) (T := TX3) (N := 4) hx hb hts hin3 tyX3 tyX3_ok nmX3 hown hK hP hD hS 0 rfl rfl 3 (by decide) kf_34 (fun _ h9 => h9) rfl (by decide +kernel) rfl rfl (Nat.le_of_ble_eq_true rfl) dX3_begin_36 (fun H locs hP hD hS => ?_)
        have hP : va_P (dC, dI) vwCl ([(y0, .inr (3, [.ref d0, .ref yp, .int 0, .int 0])), (d0, .inr (0, [.ref dk, .ref dl, .ref dc, .int N_])), (dk, .inl (cI, 6, .inl K_)), (dl, .inl (cI, 6, .inl L_)), (dc, .inl (cI, 6, .inl C_)), (yp, .inl (cI, 6, .inl P_)), (b0, .inr (0, [.ref bk, .ref bl, .ref bc, .int Nq])), (bk, .inl (cI, 6, .inl Kq)), (bl, .inl (cI, 6, .inl Lq)), (bc, .inl (cI, 6, .inl Cq))]) H := hP
        have hD : va_D A ([(y0, .inr (3, [.ref d0, .ref yp, .int 0, .int 0])), (d0, .inr (0, [.ref dk, .ref dl, .ref dc, .int N_])), (dk, .inl (cI, 6, .inl K_)), (dl, .inl (cI, 6, .inl L_)), (dc, .inl (cI, 6, .inl C_)), (yp, .inl (cI, 6, .inl P_)), (b0, .inr (0, [.ref bk, .ref bl, .ref bc, .int Nq])), (bk, .inl (cI, 6, .inl Kq)), (bl, .inl (cI, 6, .inl Lq)), (bc, .inl (cI, 6, .inl Cq))]) := hD
        have hE9 : p3_begin YC YF N K L C P Nq Kq Lq Cq = (0, 0, N_, K_, L_, C_, P_) := hE.trans (by rw [p3_begin_l10_s, if_pos c_13])
        exact W.vret hx hb hr (fun t ht hW => ⟨⟨(), rfl, trivial, by show va_P (dC, dI) vwCl _ t.heap; rw [ht, hE9]; exact hP⟩, hS.F ht⟩) hS.2.2 dX3_begin_39
      · skip
        have j2 : vp_in v2 6 := up_in 6 hu c_13 (by decide)
        refine lv_aload_n hx hb dX3_begin_16 rfl (lv_at hl 1 rfl) ?_
        refine va_get (D := (dC, dI)) (ci := 3) (v := .ref yp) (C := RX3) (T := TX3) (N := 4) hx hb hts hin3 hown hK hP 0 rfl rfl 1 (by decide) kf_18 (fun _ h9 => h9) rfl dX3_begin_17 ?_
        refine lv_iload_n hx hb dX3_begin_20 rfl (lv_at hl 0 rfl) ?_
        refine lv_iconst (v := 0) hx hb dX3_begin_21 (by decide) ?_
        refine va_iast hx hb hK hP hD hS 5 0 rfl rfl (by assumption) dX3_begin_22 (fun H locs hP hD hS => ?_)
        have hP : va_P (dC, dI) vwCl ([(y0, .inr (3, [.ref d0, .ref yp, .int YC, .int YF])), (d0, .inr (0, [.ref dk, .ref dl, .ref dc, .int N_])), (dk, .inl (cI, 6, .inl K_)), (dl, .inl (cI, 6, .inl L_)), (dc, .inl (cI, 6, .inl C_)), (yp, .inl (cI, 6, .inl (upd P_ v2.toNatClampNeg 0))), (b0, .inr (0, [.ref bk, .ref bl, .ref bc, .int Nq])), (bk, .inl (cI, 6, .inl Kq)), (bl, .inl (cI, 6, .inl Lq)), (bc, .inl (cI, 6, .inl Cq))]) H := hP
        have hD : va_D A ([(y0, .inr (3, [.ref d0, .ref yp, .int YC, .int YF])), (d0, .inr (0, [.ref dk, .ref dl, .ref dc, .int N_])), (dk, .inl (cI, 6, .inl K_)), (dl, .inl (cI, 6, .inl L_)), (dc, .inl (cI, 6, .inl C_)), (yp, .inl (cI, 6, .inl (upd P_ v2.toNatClampNeg 0))), (b0, .inr (0, [.ref bk, .ref bl, .ref bc, .int Nq])), (bk, .inl (cI, 6, .inl Kq)), (bl, .inl (cI, 6, .inl Lq)), (bc, .inl (cI, 6, .inl Cq))]) := hD
        refine lv_iinc (v := (v2 + 1)) (lv' := [(2, .int (v2 + 1)), (0, .ref y0), (1, .ref b0)]) hx hb dX3_begin_23 hl (k := 0) rfl rfl (by decide) rfl (fun ls hl => ?_)
        refine lv_goto (tgt := 10) hx hb dX3_begin_26 (by decide) ?_
        exact ih (v2 + 1) (upd P_ v2.toNatClampNeg 0) N_ K_ L_ C_ _ _ _ (up_s hu c_13) hP hD hS (lv_sub hl [0, 1, 2] rfl) (hE.trans (by rw [p3_begin_l10_s, if_neg c_13]))
  refine lv_aload_n hx hb dX3_begin_0 rfl (lv_at hl 0 rfl) ?_
  refine va_get (D := (dC, dI)) (ci := 3) (v := .ref d0) (C := RX3) (T := TX3) (N := 4) hx hb hts hin3 hown hK hP 0 rfl rfl 0 (by decide) kf_12 (fun _ h9 => h9) rfl dX3_begin_1 ?_
  refine lv_aload_n hx hb dX3_begin_4 rfl (lv_at hl 1 rfl) ?_
  have hPc := hP.sub (ws' := [(d0, .inr (0, [.ref dk, .ref dl, .ref dc, .int N])), (dk, .inl (cI, 6, .inl K)), (dl, .inl (cI, 6, .inl L)), (dc, .inl (cI, 6, .inl C)), (b0, .inr (0, [.ref bk, .ref bl, .ref bc, .int Nq])), (bk, .inl (cI, 6, .inl Kq)), (bl, .inl (cI, 6, .inl Lq)), (bc, .inl (cI, 6, .inl Cq))]) [1, 2, 3, 4, 6, 7, 8, 9] rfl
  have hDc := hD.sub (ws' := [(d0, .inr (0, [.ref dk, .ref dl, .ref dc, .int N])), (dk, .inl (cI, 6, .inl K)), (dl, .inl (cI, 6, .inl L)), (dc, .inl (cI, 6, .inl C)), (b0, .inr (0, [.ref bk, .ref bl, .ref bc, .int Nq])), (bk, .inl (cI, 6, .inl Kq)), (bl, .inl (cI, 6, .inl Lq)), (bc, .inl (cI, 6, .inl Cq))]) [1, 2, 3, 4, 6, 7, 8, 9] (by decide) rfl
  have hKc := hK.sub (tys' := [(cI, .int)]) [0] rfl
  have hFc := va_free (wc := [(d0, .inr (0, [.ref dk, .ref dl, .ref dc, .int N])), (dk, .inl (cI, 6, .inl K)), (dl, .inl (cI, 6, .inl L)), (dc, .inl (cI, 6, .inl C)), (b0, .inr (0, [.ref bk, .ref bl, .ref bc, .int Nq])), (bk, .inl (cI, 6, .inl Kq)), (bl, .inl (cI, 6, .inl Lq)), (bc, .inl (cI, 6, .inl Cq))]) hD hS hA [1, 2, 3, 4, 6, 7, 8, 9] rfl
  refine va_callv (va_runV (As := [.ref b0]) (rest := []) ⟨hx, hb, hml, hown, hts⟩ (ctX0_likeThat l dC dI cI d0 dk dl dc b0 bk bl bc s.heap.size N K L C Nq Kq Lq Cq) (cwV 1 hts gX3_begin_X0_likeThat rfl rfl rfl (by decide +kernel) ⟨Nat.le_of_ble_eq_true rfl, Nat.le_of_ble_eq_true rfl⟩) (pre_V hKc hN hPc hDc (RX0, TX0, 4) 0 0 rfl rfl) rfl rfl hl.1 rfl (lv_room (Nat.le_of_ble_eq_true rfl)) dX3_begin_5 ⟨Nat.le_of_ble_eq_true rfl, Nat.le_of_ble_eq_true rfl⟩) hS (fun q _ h => hFc q h) hFc (fun _ t H locs ht hvm hw hB hz1 hk1 hS => ?_)
  rw [ht] at hB
  refine nm_gen ((p0_likeThat N K L C Nq Kq Lq Cq).1) (fun N_5 eN_5 => ?_)
  rw [eN_5] at hB
  refine nm_gen ((p0_likeThat N K L C Nq Kq Lq Cq).2.1) (fun K_5 eK_5 => ?_)
  rw [eK_5] at hB
  refine nm_gen ((p0_likeThat N K L C Nq Kq Lq Cq).2.2.1) (fun L_5 eL_5 => ?_)
  rw [eL_5] at hB
  refine nm_gen ((p0_likeThat N K L C Nq Kq Lq Cq).2.2.2) (fun C_5 eC_5 => ?_)
  rw [eC_5] at hB
  obtain ⟨hP, hD⟩ := rw_join ([(y0, .inr (3, [.ref d0, .ref yp, .int YC, .int YF])), (d0, .inr (0, [.ref dk, .ref dl, .ref dc, .int N])), (dk, .inl (cI, 6, .inl K)), (dl, .inl (cI, 6, .inl L)), (dc, .inl (cI, 6, .inl C)), (yp, .inl (cI, 6, .inl P)), (b0, .inr (0, [.ref bk, .ref bl, .ref bc, .int Nq])), (bk, .inl (cI, 6, .inl Kq)), (bl, .inl (cI, 6, .inl Lq)), (bc, .inl (cI, 6, .inl Cq))]) ([(y0, .inr (3, [.ref d0, .ref yp, .int YC, .int YF])), (d0, .inr (0, [.ref dk, .ref dl, .ref dc, .int N_5])), (dk, .inl (cI, 6, .inl K_5)), (dl, .inl (cI, 6, .inl L_5)), (dc, .inl (cI, 6, .inl C_5)), (yp, .inl (cI, 6, .inl P)), (b0, .inr (0, [.ref bk, .ref bl, .ref bc, .int Nq])), (bk, .inl (cI, 6, .inl Kq)), (bl, .inl (cI, 6, .inl Lq)), (bc, .inl (cI, 6, .inl Cq))]) ([(d0, .inr (0, [.ref dk, .ref dl, .ref dc, .int N])), (dk, .inl (cI, 6, .inl K)), (dl, .inl (cI, 6, .inl L)), (dc, .inl (cI, 6, .inl C)), (b0, .inr (0, [.ref bk, .ref bl, .ref bc, .int Nq])), (bk, .inl (cI, 6, .inl Kq)), (bl, .inl (cI, 6, .inl Lq)), (bc, .inl (cI, 6, .inl Cq))]) ([(d0, .inr (0, [.ref dk, .ref dl, .ref dc, .int N_5])), (dk, .inl (cI, 6, .inl K_5)), (dl, .inl (cI, 6, .inl L_5)), (dc, .inl (cI, 6, .inl C_5)), (b0, .inr (0, [.ref bk, .ref bl, .ref bc, .int Nq])), (bk, .inl (cI, 6, .inl Kq)), (bl, .inl (cI, 6, .inl Lq)), (bc, .inl (cI, 6, .inl Cq))]) ([(y0, .inr (3, [.ref d0, .ref yp, .int YC, .int YF])), (yp, .inl (cI, 6, .inl P))]) hP hD [1, 2, 3, 4, 6, 7, 8, 9] [0, 5] [y0, d0, dk, dl, dc, yp, b0, bk, bl, bc] 10 rfl rfl rfl rfl rfl (by decide) rfl rfl hk1 hB
  refine lv_iconst (v := 0) hx hb dX3_begin_8 (by decide) ?_
  refine lv_istore_n (lv' := [(2, .int 0), (0, .ref y0), (1, .ref b0)]) hx hb dX3_begin_9 rfl hl (by decide) rfl (fun ls hl => ?_)
  exact lp_10 7 0 P N_5 K_5 L_5 C_5 _ _ _ (up_i 6 (by decide) (by decide)) hP hD hS (lv_sub hl [0, 1, 2] rfl) (by unfold p3_begin; simp only [eN_5, eK_5, eL_5, eC_5])

def p3_pass (YC : Int32) (YF : Int32) (N : Int32) (K : Nat → Int32) (L : Nat → Int32) (C : Nat → Int32) (P : Nat → Int32) (i1 : Int32) (i2 : Int32) (i3 : Int32) : Int32 × Int32 × (Nat → Int32) × (Nat → Int32) × (Nat → Int32) :=
  if (p0_changes K L C i1 i2 i3) = 0 then
    if (p0_isFair N K L C i1 i2 i3) = 0 then
      (YC, YF, ((p0_carryOut K L C i1 i2 i3).1), ((p0_carryOut K L C i1 i2 i3).2), (upd P (p0_payer K L C i1 i2 i3).toNatClampNeg ((P (p0_payer K L C i1 i2 i3).toNatClampNeg) + 1)))
    else
      (YC, (YF + 1), ((p0_carryOut K L C i1 i2 i3).1), ((p0_carryOut K L C i1 i2 i3).2), (upd P (p0_payer K L C i1 i2 i3).toNatClampNeg ((P (p0_payer K L C i1 i2 i3).toNatClampNeg) + 1)))
  else
    if (p0_isFair N K L C i1 i2 i3) = 0 then
      ((YC + 1), YF, ((p0_carryOut K L C i1 i2 i3).1), ((p0_carryOut K L C i1 i2 i3).2), (upd P (p0_payer K L C i1 i2 i3).toNatClampNeg ((P (p0_payer K L C i1 i2 i3).toNatClampNeg) + 1)))
    else
      ((YC + 1), (YF + 1), ((p0_carryOut K L C i1 i2 i3).1), ((p0_carryOut K L C i1 i2 i3).2), (upd P (p0_payer K L C i1 i2 i3).toNatClampNeg ((P (p0_payer K L C i1 i2 i3).toNatClampNeg) + 1)))
abbrev rmX3_pass : Room := { frames := 4, cells := 0, slots := 0, locals := 92 }
abbrev QX3_pass (dC : Nat → ClassId) (dI : Nat → Nat → Nat) (A : Nat → Prop) (cI : ClassId) (y0 : Nat) (d0 : Nat) (yp : Nat) (dk : Nat) (dl : Nat) (dc : Nat) (YC : Int32) (YF : Int32) (N : Int32) (K : Nat → Int32) (L : Nat → Int32) (C : Nat → Int32) (P : Nat → Int32) (i1 : Int32) (i2 : Int32) (i3 : Int32) : Array Value → State → Outcome → State → Prop := va_Qv (fun (_ : Unit) => True) (fun (_ : Unit) (t : State) => va_P (dC, dI) vwCl ([(y0, .inr (3, [.ref d0, .ref yp, .int ((p3_pass YC YF N K L C P i1 i2 i3).1), .int ((p3_pass YC YF N K L C P i1 i2 i3).2.1)])), (d0, .inr (0, [.ref dk, .ref dl, .ref dc, .int N])), (dk, .inl (cI, 6, .inl K)), (dl, .inl (cI, 6, .inl ((p3_pass YC YF N K L C P i1 i2 i3).2.2.1))), (dc, .inl (cI, 6, .inl ((p3_pass YC YF N K L C P i1 i2 i3).2.2.2.1))), (yp, .inl (cI, 6, .inl ((p3_pass YC YF N K L C P i1 i2 i3).2.2.2.2)))]) t.heap) A
set_option maxHeartbeats 4000000 in
set_option maxRecDepth 100000 in
theorem ctX3_pass (l : Launch) (dC : Nat → ClassId) (dI : Nat → Nat → Nat) (cI : ClassId) (y0 : Nat) (d0 : Nat) (yp : Nat) (dk : Nat) (dl : Nat) (dc : Nat) (sz : Nat) (YC : Int32) (YF : Int32) (N : Int32) (K : Nat → Int32) (L : Nat → Int32) (C : Nat → Int32) (P : Nat → Int32) (i1 : Int32) (i2 : Int32) (i3 : Int32) (hi1 : vp_in i1 6) (hi2 : vp_in i2 6) (hNb : N.toInt ≤ 6) : Met l yX3_pass wsX3_pass rmX3_pass (va_Pc [.ref y0, .int i1, .int i2, .int i3] (cP dC dI [(cI, .int)] ([(y0, .inr (3, [.ref d0, .ref yp, .int YC, .int YF])), (d0, .inr (0, [.ref dk, .ref dl, .ref dc, .int N])), (dk, .inl (cI, 6, .inl K)), (dl, .inl (cI, 6, .inl L)), (dc, .inl (cI, 6, .inl C)), (yp, .inl (cI, 6, .inl P))]) sz)) (QX3_pass dC dI (va_A ([(y0, .inr (3, [.ref d0, .ref yp, .int YC, .int YF])), (d0, .inr (0, [.ref dk, .ref dl, .ref dc, .int N])), (dk, .inl (cI, 6, .inl K)), (dl, .inl (cI, 6, .inl L)), (dc, .inl (cI, 6, .inl C)), (yp, .inl (cI, 6, .inl P))]) sz) cI y0 d0 yp dk dl dc YC YF N K L C P i1 i2 i3) 0 0 (va_A ([(y0, .inr (3, [.ref d0, .ref yp, .int YC, .int YF])), (d0, .inr (0, [.ref dk, .ref dl, .ref dc, .int N])), (dk, .inl (cI, 6, .inl K)), (dl, .inl (cI, 6, .inl L)), (dc, .inl (cI, 6, .inl C)), (yp, .inl (cI, 6, .inl P))]) sz) := by
  refine Met.ofW (cc := cX3_pass) (maxL := 4) (ret := none) (by decide) rfl ?_
  intro p e s m args below meth c s₁ B hml hv
  obtain ⟨rfl, hsz, hP, hK, hD0, hN⟩ := hv
  have hx := B.exec
  have hb := B.bytes
  have hr := B.returns
  have hts := atoms_spec (ws := wsX3_pass) B.pre
  have hown : s.vm.findClass RX3 = some m.cls := findClass_of_methodNamed B.named
  have hlocks := B.notSynchronized
  subst hsz
  have hD := hD0.self (sz := s.heap.size)
  generalize hAe : va_A ([(y0, .inr (3, [.ref d0, .ref yp, .int YC, .int YF])), (d0, .inr (0, [.ref dk, .ref dl, .ref dc, .int N])), (dk, .inl (cI, 6, .inl K)), (dl, .inl (cI, 6, .inl L)), (dc, .inl (cI, 6, .inl C)), (yp, .inl (cI, 6, .inl P))]) s.heap.size = A at hD ⊢
  have hA : ∀ q : Nat, s.heap.size ≤ q → A q := fun q h => by rw [← hAe]; exact Or.inr h
  have hS : va_S A s.heap s.heap [] := va_S.rf
  have hP : va_P (dC, dI) vwCl ([(y0, .inr (3, [.ref d0, .ref yp, .int YC, .int YF])), (d0, .inr (0, [.ref dk, .ref dl, .ref dc, .int N])), (dk, .inl (cI, 6, .inl K)), (dl, .inl (cI, 6, .inl L)), (dc, .inl (cI, 6, .inl C)), (yp, .inl (cI, 6, .inl P))]) s.heap := hP
  have hin3 : ∀ w ∈ wsX30, w ∈ wsX3_pass := by decide +kernel
  have kf_12 := hts (.fieldLink RX3 12 "RicherChange$Year" "town" "LRicherChange$City;") (by decide +kernel)
  have kf_18 := hts (.fieldLink RX3 18 "RicherChange$Year" "paid" "[I") (by decide +kernel)
  have kf_30 := hts (.fieldLink RX3 30 "RicherChange$Year" "changed" "I") (by decide +kernel)
  have kf_34 := hts (.fieldLink RX3 34 "RicherChange$Year" "fair" "I") (by decide +kernel)
  have hl := lv_entry ([.ref y0, .int i1, .int i2, .int i3]) (n := 4) (Nat.le_of_ble_eq_true rfl)
  rw [lg_entry_eq]
  generalize (lg_sl ([.ref y0, .int i1, .int i2, .int i3]) ++ List.replicate (4 - (lg_sl ([.ref y0, .int i1, .int i2, .int i3])).length) Slot.unset).toArray = ls at hl ⊢
  have hl : lv_has ls 4 [(0, .ref y0), (1, .int i1), (2, .int i2), (3, .int i3)] := hl
  refine lv_aload_n hx hb dX3_pass_0 rfl (lv_at hl 0 rfl) ?_
  refine va_get (D := (dC, dI)) (ci := 3) (v := .ref d0) (C := RX3) (T := TX3) (N := 4) hx hb hts hin3 hown hK hP 0 rfl rfl 0 (by decide) kf_12 (fun _ h9 => h9) rfl dX3_pass_1 ?_
  refine lv_iload_n hx hb dX3_pass_4 rfl (lv_at hl 1 rfl) ?_
  refine lv_iload_n hx hb dX3_pass_5 rfl (lv_at hl 2 rfl) ?_
  refine lv_iload_n hx hb dX3_pass_6 rfl (lv_at hl 3 rfl) ?_
  have hPc := hP.sub (ws' := [(d0, .inr (0, [.ref dk, .ref dl, .ref dc, .int N])), (dk, .inl (cI, 6, .inl K)), (dl, .inl (cI, 6, .inl L)), (dc, .inl (cI, 6, .inl C))]) [1, 2, 3, 4] rfl
  have hDc := hD.sub (ws' := [(d0, .inr (0, [.ref dk, .ref dl, .ref dc, .int N])), (dk, .inl (cI, 6, .inl K)), (dl, .inl (cI, 6, .inl L)), (dc, .inl (cI, 6, .inl C))]) [1, 2, 3, 4] (by decide) rfl
  have hKc := hK.sub (tys' := [(cI, .int)]) [0] rfl
  have hFc := va_free (wc := [(d0, .inr (0, [.ref dk, .ref dl, .ref dc, .int N])), (dk, .inl (cI, 6, .inl K)), (dl, .inl (cI, 6, .inl L)), (dc, .inl (cI, 6, .inl C))]) hD hS hA [1, 2, 3, 4] rfl
  refine va_calli (va_runV (As := [.int i1, .int i2, .int i3]) (rest := []) ⟨hx, hb, hml, hown, hts⟩ (ctX0_changes l dC dI cI d0 dk dl dc s.heap.size N K L C i1 i2 i3 (by assumption) (by assumption)) (cwV 3 hts gX3_pass_X0_changes rfl rfl rfl (by decide +kernel) ⟨Nat.le_of_ble_eq_true rfl, Nat.le_of_ble_eq_true rfl⟩) (pre_V hKc hN hPc hDc (RX0, TX0, 4) 0 0 rfl rfl) rfl rfl hl.1 rfl (lv_room (Nat.le_of_ble_eq_true rfl)) dX3_pass_7 ⟨Nat.le_of_ble_eq_true rfl, Nat.le_of_ble_eq_true rfl⟩) hS (fun q _ h => hFc q h) hFc (fun r _ t H locs ht hvm hw hB hz1 hk1 hS => ?_)
  try dsimp only at hw
  subst hw
  rw [ht] at hB
  obtain ⟨hP, hD⟩ := rw_join ([(y0, .inr (3, [.ref d0, .ref yp, .int YC, .int YF])), (d0, .inr (0, [.ref dk, .ref dl, .ref dc, .int N])), (dk, .inl (cI, 6, .inl K)), (dl, .inl (cI, 6, .inl L)), (dc, .inl (cI, 6, .inl C)), (yp, .inl (cI, 6, .inl P))]) ([(y0, .inr (3, [.ref d0, .ref yp, .int YC, .int YF])), (d0, .inr (0, [.ref dk, .ref dl, .ref dc, .int N])), (dk, .inl (cI, 6, .inl K)), (dl, .inl (cI, 6, .inl L)), (dc, .inl (cI, 6, .inl C)), (yp, .inl (cI, 6, .inl P))]) ([(d0, .inr (0, [.ref dk, .ref dl, .ref dc, .int N])), (dk, .inl (cI, 6, .inl K)), (dl, .inl (cI, 6, .inl L)), (dc, .inl (cI, 6, .inl C))]) ([(d0, .inr (0, [.ref dk, .ref dl, .ref dc, .int N])), (dk, .inl (cI, 6, .inl K)), (dl, .inl (cI, 6, .inl L)), (dc, .inl (cI, 6, .inl C))]) ([(y0, .inr (3, [.ref d0, .ref yp, .int YC, .int YF])), (yp, .inl (cI, 6, .inl P))]) hP hD [1, 2, 3, 4] [0, 5] [y0, d0, dk, dl, dc, yp] 6 rfl rfl rfl rfl rfl (by decide) rfl rfl hk1 hB
  refine lv_if_eq (tgt := 23) hx hb dX3_pass_10 (by decide) (fun c_10 => ?_) (fun c_10 => ?_)
  · skip
    refine lv_aload_n hx hb dX3_pass_23 rfl (lv_at hl 0 rfl) ?_
    refine va_get (D := (dC, dI)) (ci := 3) (v := .ref d0) (C := RX3) (T := TX3) (N := 4) hx hb hts hin3 hown hK hP 0 rfl rfl 0 (by decide) kf_12 (fun _ h9 => h9) rfl dX3_pass_24 ?_
    refine lv_iload_n hx hb dX3_pass_27 rfl (lv_at hl 1 rfl) ?_
    refine lv_iload_n hx hb dX3_pass_28 rfl (lv_at hl 2 rfl) ?_
    refine lv_iload_n hx hb dX3_pass_29 rfl (lv_at hl 3 rfl) ?_
    have hPc := hP.sub (ws' := [(d0, .inr (0, [.ref dk, .ref dl, .ref dc, .int N])), (dk, .inl (cI, 6, .inl K)), (dl, .inl (cI, 6, .inl L)), (dc, .inl (cI, 6, .inl C))]) [1, 2, 3, 4] rfl
    have hDc := hD.sub (ws' := [(d0, .inr (0, [.ref dk, .ref dl, .ref dc, .int N])), (dk, .inl (cI, 6, .inl K)), (dl, .inl (cI, 6, .inl L)), (dc, .inl (cI, 6, .inl C))]) [1, 2, 3, 4] (by decide) rfl
    have hKc := hK.sub (tys' := [(cI, .int)]) [0] rfl
    have hFc := va_free (wc := [(d0, .inr (0, [.ref dk, .ref dl, .ref dc, .int N])), (dk, .inl (cI, 6, .inl K)), (dl, .inl (cI, 6, .inl L)), (dc, .inl (cI, 6, .inl C))]) hD hS hA [1, 2, 3, 4] rfl
    refine va_calli (va_runV (As := [.int i1, .int i2, .int i3]) (rest := []) ⟨hx, hb, hml, hown, hts⟩ (ctX0_isFair l dC dI cI d0 dk dl dc H.size N K L C i1 i2 i3 (by assumption) (by assumption) (by assumption)) (cwV 3 hts gX3_pass_X0_isFair rfl rfl rfl (by decide +kernel) ⟨Nat.le_of_ble_eq_true rfl, Nat.le_of_ble_eq_true rfl⟩) (pre_V hKc hN hPc hDc (RX0, TX0, 4) 0 0 rfl rfl) rfl rfl hl.1 rfl (lv_room (Nat.le_of_ble_eq_true rfl)) dX3_pass_30 ⟨Nat.le_of_ble_eq_true rfl, Nat.le_of_ble_eq_true rfl⟩) hS (fun q _ h => hFc q h) hFc (fun r _ t H locs ht hvm hw hB hz1 hk1 hS => ?_)
    try dsimp only at hw
    subst hw
    rw [ht] at hB
    obtain ⟨hP, hD⟩ := rw_join ([(y0, .inr (3, [.ref d0, .ref yp, .int YC, .int YF])), (d0, .inr (0, [.ref dk, .ref dl, .ref dc, .int N])), (dk, .inl (cI, 6, .inl K)), (dl, .inl (cI, 6, .inl L)), (dc, .inl (cI, 6, .inl C)), (yp, .inl (cI, 6, .inl P))]) ([(y0, .inr (3, [.ref d0, .ref yp, .int YC, .int YF])), (d0, .inr (0, [.ref dk, .ref dl, .ref dc, .int N])), (dk, .inl (cI, 6, .inl K)), (dl, .inl (cI, 6, .inl L)), (dc, .inl (cI, 6, .inl C)), (yp, .inl (cI, 6, .inl P))]) ([(d0, .inr (0, [.ref dk, .ref dl, .ref dc, .int N])), (dk, .inl (cI, 6, .inl K)), (dl, .inl (cI, 6, .inl L)), (dc, .inl (cI, 6, .inl C))]) ([(d0, .inr (0, [.ref dk, .ref dl, .ref dc, .int N])), (dk, .inl (cI, 6, .inl K)), (dl, .inl (cI, 6, .inl L)), (dc, .inl (cI, 6, .inl C))]) ([(y0, .inr (3, [.ref d0, .ref yp, .int YC, .int YF])), (yp, .inl (cI, 6, .inl P))]) hP hD [1, 2, 3, 4] [0, 5] [y0, d0, dk, dl, dc, yp] 6 rfl rfl rfl rfl rfl (by decide) rfl rfl hk1 hB
    refine lv_if_eq (tgt := 46) hx hb dX3_pass_33 (by decide) (fun c_33 => ?_) (fun c_33 => ?_)
    · skip
      refine lv_aload_n hx hb dX3_pass_46 rfl (lv_at hl 0 rfl) ?_
      refine va_get (D := (dC, dI)) (ci := 3) (v := .ref yp) (C := RX3) (T := TX3) (N := 4) hx hb hts hin3 hown hK hP 0 rfl rfl 1 (by decide) kf_18 (fun _ h9 => h9) rfl dX3_pass_47 ?_
      refine lv_aload_n hx hb dX3_pass_50 rfl (lv_at hl 0 rfl) ?_
      refine va_get (D := (dC, dI)) (ci := 3) (v := .ref d0) (C := RX3) (T := TX3) (N := 4) hx hb hts hin3 hown hK hP 0 rfl rfl 0 (by decide) kf_12 (fun _ h9 => h9) rfl dX3_pass_51 ?_
      refine lv_iload_n hx hb dX3_pass_54 rfl (lv_at hl 1 rfl) ?_
      refine lv_iload_n hx hb dX3_pass_55 rfl (lv_at hl 2 rfl) ?_
      refine lv_iload_n hx hb dX3_pass_56 rfl (lv_at hl 3 rfl) ?_
      have hPc := hP.sub (ws' := [(d0, .inr (0, [.ref dk, .ref dl, .ref dc, .int N])), (dk, .inl (cI, 6, .inl K)), (dl, .inl (cI, 6, .inl L)), (dc, .inl (cI, 6, .inl C))]) [1, 2, 3, 4] rfl
      have hDc := hD.sub (ws' := [(d0, .inr (0, [.ref dk, .ref dl, .ref dc, .int N])), (dk, .inl (cI, 6, .inl K)), (dl, .inl (cI, 6, .inl L)), (dc, .inl (cI, 6, .inl C))]) [1, 2, 3, 4] (by decide) rfl
      have hKc := hK.sub (tys' := [(cI, .int)]) [0] rfl
      have hFc := va_free (wc := [(d0, .inr (0, [.ref dk, .ref dl, .ref dc, .int N])), (dk, .inl (cI, 6, .inl K)), (dl, .inl (cI, 6, .inl L)), (dc, .inl (cI, 6, .inl C))]) hD hS hA [1, 2, 3, 4] rfl
      refine va_calli (va_runV (As := [.int i1, .int i2, .int i3]) (rest := [.ref yp]) ⟨hx, hb, hml, hown, hts⟩ (ctX0_payer l dC dI cI d0 dk dl dc H.size N K L C i1 i2 i3 (by assumption) (by assumption)) (cwV 3 hts gX3_pass_X0_payer rfl rfl rfl (by decide +kernel) ⟨Nat.le_of_ble_eq_true rfl, Nat.le_of_ble_eq_true rfl⟩) (pre_V hKc hN hPc hDc (RX0, TX0, 4) 0 0 rfl rfl) rfl rfl hl.1 rfl (lv_room (Nat.le_of_ble_eq_true rfl)) dX3_pass_57 ⟨Nat.le_of_ble_eq_true rfl, Nat.le_of_ble_eq_true rfl⟩) hS (fun q _ h => hFc q h) hFc (fun r _ t H locs ht hvm hw hB hz1 hk1 hS => ?_)
      try dsimp only at hw
      subst hw
      rw [ht] at hB
      obtain ⟨hP, hD⟩ := rw_join ([(y0, .inr (3, [.ref d0, .ref yp, .int YC, .int YF])), (d0, .inr (0, [.ref dk, .ref dl, .ref dc, .int N])), (dk, .inl (cI, 6, .inl K)), (dl, .inl (cI, 6, .inl L)), (dc, .inl (cI, 6, .inl C)), (yp, .inl (cI, 6, .inl P))]) ([(y0, .inr (3, [.ref d0, .ref yp, .int YC, .int YF])), (d0, .inr (0, [.ref dk, .ref dl, .ref dc, .int N])), (dk, .inl (cI, 6, .inl K)), (dl, .inl (cI, 6, .inl L)), (dc, .inl (cI, 6, .inl C)), (yp, .inl (cI, 6, .inl P))]) ([(d0, .inr (0, [.ref dk, .ref dl, .ref dc, .int N])), (dk, .inl (cI, 6, .inl K)), (dl, .inl (cI, 6, .inl L)), (dc, .inl (cI, 6, .inl C))]) ([(d0, .inr (0, [.ref dk, .ref dl, .ref dc, .int N])), (dk, .inl (cI, 6, .inl K)), (dl, .inl (cI, 6, .inl L)), (dc, .inl (cI, 6, .inl C))]) ([(y0, .inr (3, [.ref d0, .ref yp, .int YC, .int YF])), (yp, .inl (cI, 6, .inl P))]) hP hD [1, 2, 3, 4] [0, 5] [y0, d0, dk, dl, dc, yp] 6 rfl rfl rfl rfl rfl (by decide) rfl rfl hk1 hB
      refine lv_dup2_11 hx hb dX3_pass_60 rfl rfl ?_
      refine va_iald hx hb hK hP 5 0 rfl rfl (payer_in hi1 hi2) dX3_pass_61 ?_
      refine lv_iconst (v := 1) hx hb dX3_pass_62 (by decide) ?_
      refine lv_iadd hx hb dX3_pass_63 ?_
      refine va_iast hx hb hK hP hD hS 5 0 rfl rfl (payer_in hi1 hi2) dX3_pass_64 (fun H locs hP hD hS => ?_)
      have hP : va_P (dC, dI) vwCl ([(y0, .inr (3, [.ref d0, .ref yp, .int YC, .int YF])), (d0, .inr (0, [.ref dk, .ref dl, .ref dc, .int N])), (dk, .inl (cI, 6, .inl K)), (dl, .inl (cI, 6, .inl L)), (dc, .inl (cI, 6, .inl C)), (yp, .inl (cI, 6, .inl (upd P (p0_payer K L C i1 i2 i3).toNatClampNeg ((P (p0_payer K L C i1 i2 i3).toNatClampNeg) + 1))))]) H := hP
      have hD : va_D A ([(y0, .inr (3, [.ref d0, .ref yp, .int YC, .int YF])), (d0, .inr (0, [.ref dk, .ref dl, .ref dc, .int N])), (dk, .inl (cI, 6, .inl K)), (dl, .inl (cI, 6, .inl L)), (dc, .inl (cI, 6, .inl C)), (yp, .inl (cI, 6, .inl (upd P (p0_payer K L C i1 i2 i3).toNatClampNeg ((P (p0_payer K L C i1 i2 i3).toNatClampNeg) + 1))))]) := hD
      refine lv_aload_n hx hb dX3_pass_65 rfl (lv_at hl 0 rfl) ?_
      refine va_get (D := (dC, dI)) (ci := 3) (v := .ref d0) (C := RX3) (T := TX3) (N := 4) hx hb hts hin3 hown hK hP 0 rfl rfl 0 (by decide) kf_12 (fun _ h9 => h9) rfl dX3_pass_66 ?_
      refine lv_iload_n hx hb dX3_pass_69 rfl (lv_at hl 1 rfl) ?_
      refine lv_iload_n hx hb dX3_pass_70 rfl (lv_at hl 2 rfl) ?_
      refine lv_iload_n hx hb dX3_pass_71 rfl (lv_at hl 3 rfl) ?_
      have hPc := hP.sub (ws' := [(d0, .inr (0, [.ref dk, .ref dl, .ref dc, .int N])), (dk, .inl (cI, 6, .inl K)), (dl, .inl (cI, 6, .inl L)), (dc, .inl (cI, 6, .inl C))]) [1, 2, 3, 4] rfl
      have hDc := hD.sub (ws' := [(d0, .inr (0, [.ref dk, .ref dl, .ref dc, .int N])), (dk, .inl (cI, 6, .inl K)), (dl, .inl (cI, 6, .inl L)), (dc, .inl (cI, 6, .inl C))]) [1, 2, 3, 4] (by decide) rfl
      have hKc := hK.sub (tys' := [(cI, .int)]) [0] rfl
      have hFc := va_free (wc := [(d0, .inr (0, [.ref dk, .ref dl, .ref dc, .int N])), (dk, .inl (cI, 6, .inl K)), (dl, .inl (cI, 6, .inl L)), (dc, .inl (cI, 6, .inl C))]) hD hS hA [1, 2, 3, 4] rfl
      refine va_callv (va_runV (As := [.int i1, .int i2, .int i3]) (rest := []) ⟨hx, hb, hml, hown, hts⟩ (ctX0_carryOut l dC dI cI d0 dk dl dc H.size N K L C i1 i2 i3 (by assumption) (by assumption)) (cwV 3 hts gX3_pass_X0_carryOut rfl rfl rfl (by decide +kernel) ⟨Nat.le_of_ble_eq_true rfl, Nat.le_of_ble_eq_true rfl⟩) (pre_V hKc hN hPc hDc (RX0, TX0, 4) 0 0 rfl rfl) rfl rfl hl.1 rfl (lv_room (Nat.le_of_ble_eq_true rfl)) dX3_pass_72 ⟨Nat.le_of_ble_eq_true rfl, Nat.le_of_ble_eq_true rfl⟩) hS (fun q _ h => hFc q h) hFc (fun _ t H locs ht hvm hw hB hz1 hk1 hS => ?_)
      rw [ht] at hB
      refine nm_gen ((p0_carryOut K L C i1 i2 i3).1) (fun L_72 eL_72 => ?_)
      rw [eL_72] at hB
      refine nm_gen ((p0_carryOut K L C i1 i2 i3).2) (fun C_72 eC_72 => ?_)
      rw [eC_72] at hB
      obtain ⟨hP, hD⟩ := rw_join ([(y0, .inr (3, [.ref d0, .ref yp, .int YC, .int YF])), (d0, .inr (0, [.ref dk, .ref dl, .ref dc, .int N])), (dk, .inl (cI, 6, .inl K)), (dl, .inl (cI, 6, .inl L)), (dc, .inl (cI, 6, .inl C)), (yp, .inl (cI, 6, .inl (upd P (p0_payer K L C i1 i2 i3).toNatClampNeg ((P (p0_payer K L C i1 i2 i3).toNatClampNeg) + 1))))]) ([(y0, .inr (3, [.ref d0, .ref yp, .int YC, .int YF])), (d0, .inr (0, [.ref dk, .ref dl, .ref dc, .int N])), (dk, .inl (cI, 6, .inl K)), (dl, .inl (cI, 6, .inl L_72)), (dc, .inl (cI, 6, .inl C_72)), (yp, .inl (cI, 6, .inl (upd P (p0_payer K L C i1 i2 i3).toNatClampNeg ((P (p0_payer K L C i1 i2 i3).toNatClampNeg) + 1))))]) ([(d0, .inr (0, [.ref dk, .ref dl, .ref dc, .int N])), (dk, .inl (cI, 6, .inl K)), (dl, .inl (cI, 6, .inl L)), (dc, .inl (cI, 6, .inl C))]) ([(d0, .inr (0, [.ref dk, .ref dl, .ref dc, .int N])), (dk, .inl (cI, 6, .inl K)), (dl, .inl (cI, 6, .inl L_72)), (dc, .inl (cI, 6, .inl C_72))]) ([(y0, .inr (3, [.ref d0, .ref yp, .int YC, .int YF])), (yp, .inl (cI, 6, .inl (upd P (p0_payer K L C i1 i2 i3).toNatClampNeg ((P (p0_payer K L C i1 i2 i3).toNatClampNeg) + 1))))]) hP hD [1, 2, 3, 4] [0, 5] [y0, d0, dk, dl, dc, yp] 6 rfl rfl rfl rfl rfl (by decide) rfl rfl hk1 hB
      have hE9 : p3_pass YC YF N K L C P i1 i2 i3 = (YC, YF, L_72, C_72, (upd P (p0_payer K L C i1 i2 i3).toNatClampNeg ((P (p0_payer K L C i1 i2 i3).toNatClampNeg) + 1))) := by unfold p3_pass; simp only [eL_72, eC_72]; rw [if_pos c_10, if_pos c_33]
      exact W.vret hx hb hr (fun t ht hW => ⟨⟨(), rfl, trivial, by show va_P (dC, dI) vwCl _ t.heap; rw [ht, hE9]; exact hP⟩, hS.F ht⟩) hS.2.2 dX3_pass_75
    · skip
      refine lv_aload_n hx hb dX3_pass_36 rfl (lv_at hl 0 rfl) ?_
      refine lv_dup hx hb dX3_pass_37 rfl ?_
      refine va_get (D := (dC, dI)) (ci := 3) (v := .int YF) (C := RX3) (T := TX3) (N := 4) hx hb hts hin3 hown hK hP 0 rfl rfl 3 (by decide) kf_34 (fun _ h9 => h9) rfl dX3_pass_38 ?_
      refine lv_iconst (v := 1) hx hb dX3_pass_41 (by decide) ?_
      refine lv_iadd hx hb dX3_pass_42 ?_
      refine va_put (D := (dC, dI)) (ci := 3) (v := .int (YF + 1)) (ty := .int) (C := RX3) (T := TX3) (N := 4) hx hb hts hin3 tyX3 tyX3_ok nmX3 hown hK hP hD hS 0 rfl rfl 3 (by decide) kf_34 (fun _ h9 => h9) rfl (by decide +kernel) rfl rfl (Nat.le_of_ble_eq_true rfl) dX3_pass_43 (fun H locs hP hD hS => ?_)
      have hP : va_P (dC, dI) vwCl ([(y0, .inr (3, [.ref d0, .ref yp, .int YC, .int (YF + 1)])), (d0, .inr (0, [.ref dk, .ref dl, .ref dc, .int N])), (dk, .inl (cI, 6, .inl K)), (dl, .inl (cI, 6, .inl L)), (dc, .inl (cI, 6, .inl C)), (yp, .inl (cI, 6, .inl P))]) H := hP
      have hD : va_D A ([(y0, .inr (3, [.ref d0, .ref yp, .int YC, .int (YF + 1)])), (d0, .inr (0, [.ref dk, .ref dl, .ref dc, .int N])), (dk, .inl (cI, 6, .inl K)), (dl, .inl (cI, 6, .inl L)), (dc, .inl (cI, 6, .inl C)), (yp, .inl (cI, 6, .inl P))]) := hD
      refine lv_aload_n hx hb dX3_pass_46 rfl (lv_at hl 0 rfl) ?_
      refine va_get (D := (dC, dI)) (ci := 3) (v := .ref yp) (C := RX3) (T := TX3) (N := 4) hx hb hts hin3 hown hK hP 0 rfl rfl 1 (by decide) kf_18 (fun _ h9 => h9) rfl dX3_pass_47 ?_
      refine lv_aload_n hx hb dX3_pass_50 rfl (lv_at hl 0 rfl) ?_
      refine va_get (D := (dC, dI)) (ci := 3) (v := .ref d0) (C := RX3) (T := TX3) (N := 4) hx hb hts hin3 hown hK hP 0 rfl rfl 0 (by decide) kf_12 (fun _ h9 => h9) rfl dX3_pass_51 ?_
      refine lv_iload_n hx hb dX3_pass_54 rfl (lv_at hl 1 rfl) ?_
      refine lv_iload_n hx hb dX3_pass_55 rfl (lv_at hl 2 rfl) ?_
      refine lv_iload_n hx hb dX3_pass_56 rfl (lv_at hl 3 rfl) ?_
      have hPc := hP.sub (ws' := [(d0, .inr (0, [.ref dk, .ref dl, .ref dc, .int N])), (dk, .inl (cI, 6, .inl K)), (dl, .inl (cI, 6, .inl L)), (dc, .inl (cI, 6, .inl C))]) [1, 2, 3, 4] rfl
      have hDc := hD.sub (ws' := [(d0, .inr (0, [.ref dk, .ref dl, .ref dc, .int N])), (dk, .inl (cI, 6, .inl K)), (dl, .inl (cI, 6, .inl L)), (dc, .inl (cI, 6, .inl C))]) [1, 2, 3, 4] (by decide) rfl
      have hKc := hK.sub (tys' := [(cI, .int)]) [0] rfl
      have hFc := va_free (wc := [(d0, .inr (0, [.ref dk, .ref dl, .ref dc, .int N])), (dk, .inl (cI, 6, .inl K)), (dl, .inl (cI, 6, .inl L)), (dc, .inl (cI, 6, .inl C))]) hD hS hA [1, 2, 3, 4] rfl
      refine va_calli (va_runV (As := [.int i1, .int i2, .int i3]) (rest := [.ref yp]) ⟨hx, hb, hml, hown, hts⟩ (ctX0_payer l dC dI cI d0 dk dl dc H.size N K L C i1 i2 i3 (by assumption) (by assumption)) (cwV 3 hts gX3_pass_X0_payer rfl rfl rfl (by decide +kernel) ⟨Nat.le_of_ble_eq_true rfl, Nat.le_of_ble_eq_true rfl⟩) (pre_V hKc hN hPc hDc (RX0, TX0, 4) 0 0 rfl rfl) rfl rfl hl.1 rfl (lv_room (Nat.le_of_ble_eq_true rfl)) dX3_pass_57 ⟨Nat.le_of_ble_eq_true rfl, Nat.le_of_ble_eq_true rfl⟩) hS (fun q _ h => hFc q h) hFc (fun r _ t H locs ht hvm hw hB hz1 hk1 hS => ?_)
      try dsimp only at hw
      subst hw
      rw [ht] at hB
      obtain ⟨hP, hD⟩ := rw_join ([(y0, .inr (3, [.ref d0, .ref yp, .int YC, .int (YF + 1)])), (d0, .inr (0, [.ref dk, .ref dl, .ref dc, .int N])), (dk, .inl (cI, 6, .inl K)), (dl, .inl (cI, 6, .inl L)), (dc, .inl (cI, 6, .inl C)), (yp, .inl (cI, 6, .inl P))]) ([(y0, .inr (3, [.ref d0, .ref yp, .int YC, .int (YF + 1)])), (d0, .inr (0, [.ref dk, .ref dl, .ref dc, .int N])), (dk, .inl (cI, 6, .inl K)), (dl, .inl (cI, 6, .inl L)), (dc, .inl (cI, 6, .inl C)), (yp, .inl (cI, 6, .inl P))]) ([(d0, .inr (0, [.ref dk, .ref dl, .ref dc, .int N])), (dk, .inl (cI, 6, .inl K)), (dl, .inl (cI, 6, .inl L)), (dc, .inl (cI, 6, .inl C))]) ([(d0, .inr (0, [.ref dk, .ref dl, .ref dc, .int N])), (dk, .inl (cI, 6, .inl K)), (dl, .inl (cI, 6, .inl L)), (dc, .inl (cI, 6, .inl C))]) ([(y0, .inr (3, [.ref d0, .ref yp, .int YC, .int (YF + 1)])), (yp, .inl (cI, 6, .inl P))]) hP hD [1, 2, 3, 4] [0, 5] [y0, d0, dk, dl, dc, yp] 6 rfl rfl rfl rfl rfl (by decide) rfl rfl hk1 hB
      refine lv_dup2_11 hx hb dX3_pass_60 rfl rfl ?_
      refine va_iald hx hb hK hP 5 0 rfl rfl (payer_in hi1 hi2) dX3_pass_61 ?_
      refine lv_iconst (v := 1) hx hb dX3_pass_62 (by decide) ?_
      refine lv_iadd hx hb dX3_pass_63 ?_
      refine va_iast hx hb hK hP hD hS 5 0 rfl rfl (payer_in hi1 hi2) dX3_pass_64 (fun H locs hP hD hS => ?_)
      have hP : va_P (dC, dI) vwCl ([(y0, .inr (3, [.ref d0, .ref yp, .int YC, .int (YF + 1)])), (d0, .inr (0, [.ref dk, .ref dl, .ref dc, .int N])), (dk, .inl (cI, 6, .inl K)), (dl, .inl (cI, 6, .inl L)), (dc, .inl (cI, 6, .inl C)), (yp, .inl (cI, 6, .inl (upd P (p0_payer K L C i1 i2 i3).toNatClampNeg ((P (p0_payer K L C i1 i2 i3).toNatClampNeg) + 1))))]) H := hP
      have hD : va_D A ([(y0, .inr (3, [.ref d0, .ref yp, .int YC, .int (YF + 1)])), (d0, .inr (0, [.ref dk, .ref dl, .ref dc, .int N])), (dk, .inl (cI, 6, .inl K)), (dl, .inl (cI, 6, .inl L)), (dc, .inl (cI, 6, .inl C)), (yp, .inl (cI, 6, .inl (upd P (p0_payer K L C i1 i2 i3).toNatClampNeg ((P (p0_payer K L C i1 i2 i3).toNatClampNeg) + 1))))]) := hD
      refine lv_aload_n hx hb dX3_pass_65 rfl (lv_at hl 0 rfl) ?_
      refine va_get (D := (dC, dI)) (ci := 3) (v := .ref d0) (C := RX3) (T := TX3) (N := 4) hx hb hts hin3 hown hK hP 0 rfl rfl 0 (by decide) kf_12 (fun _ h9 => h9) rfl dX3_pass_66 ?_
      refine lv_iload_n hx hb dX3_pass_69 rfl (lv_at hl 1 rfl) ?_
      refine lv_iload_n hx hb dX3_pass_70 rfl (lv_at hl 2 rfl) ?_
      refine lv_iload_n hx hb dX3_pass_71 rfl (lv_at hl 3 rfl) ?_
      have hPc := hP.sub (ws' := [(d0, .inr (0, [.ref dk, .ref dl, .ref dc, .int N])), (dk, .inl (cI, 6, .inl K)), (dl, .inl (cI, 6, .inl L)), (dc, .inl (cI, 6, .inl C))]) [1, 2, 3, 4] rfl
      have hDc := hD.sub (ws' := [(d0, .inr (0, [.ref dk, .ref dl, .ref dc, .int N])), (dk, .inl (cI, 6, .inl K)), (dl, .inl (cI, 6, .inl L)), (dc, .inl (cI, 6, .inl C))]) [1, 2, 3, 4] (by decide) rfl
      have hKc := hK.sub (tys' := [(cI, .int)]) [0] rfl
      have hFc := va_free (wc := [(d0, .inr (0, [.ref dk, .ref dl, .ref dc, .int N])), (dk, .inl (cI, 6, .inl K)), (dl, .inl (cI, 6, .inl L)), (dc, .inl (cI, 6, .inl C))]) hD hS hA [1, 2, 3, 4] rfl
      refine va_callv (va_runV (As := [.int i1, .int i2, .int i3]) (rest := []) ⟨hx, hb, hml, hown, hts⟩ (ctX0_carryOut l dC dI cI d0 dk dl dc H.size N K L C i1 i2 i3 (by assumption) (by assumption)) (cwV 3 hts gX3_pass_X0_carryOut rfl rfl rfl (by decide +kernel) ⟨Nat.le_of_ble_eq_true rfl, Nat.le_of_ble_eq_true rfl⟩) (pre_V hKc hN hPc hDc (RX0, TX0, 4) 0 0 rfl rfl) rfl rfl hl.1 rfl (lv_room (Nat.le_of_ble_eq_true rfl)) dX3_pass_72 ⟨Nat.le_of_ble_eq_true rfl, Nat.le_of_ble_eq_true rfl⟩) hS (fun q _ h => hFc q h) hFc (fun _ t H locs ht hvm hw hB hz1 hk1 hS => ?_)
      rw [ht] at hB
      refine nm_gen ((p0_carryOut K L C i1 i2 i3).1) (fun L_72 eL_72 => ?_)
      rw [eL_72] at hB
      refine nm_gen ((p0_carryOut K L C i1 i2 i3).2) (fun C_72 eC_72 => ?_)
      rw [eC_72] at hB
      obtain ⟨hP, hD⟩ := rw_join ([(y0, .inr (3, [.ref d0, .ref yp, .int YC, .int (YF + 1)])), (d0, .inr (0, [.ref dk, .ref dl, .ref dc, .int N])), (dk, .inl (cI, 6, .inl K)), (dl, .inl (cI, 6, .inl L)), (dc, .inl (cI, 6, .inl C)), (yp, .inl (cI, 6, .inl (upd P (p0_payer K L C i1 i2 i3).toNatClampNeg ((P (p0_payer K L C i1 i2 i3).toNatClampNeg) + 1))))]) ([(y0, .inr (3, [.ref d0, .ref yp, .int YC, .int (YF + 1)])), (d0, .inr (0, [.ref dk, .ref dl, .ref dc, .int N])), (dk, .inl (cI, 6, .inl K)), (dl, .inl (cI, 6, .inl L_72)), (dc, .inl (cI, 6, .inl C_72)), (yp, .inl (cI, 6, .inl (upd P (p0_payer K L C i1 i2 i3).toNatClampNeg ((P (p0_payer K L C i1 i2 i3).toNatClampNeg) + 1))))]) ([(d0, .inr (0, [.ref dk, .ref dl, .ref dc, .int N])), (dk, .inl (cI, 6, .inl K)), (dl, .inl (cI, 6, .inl L)), (dc, .inl (cI, 6, .inl C))]) ([(d0, .inr (0, [.ref dk, .ref dl, .ref dc, .int N])), (dk, .inl (cI, 6, .inl K)), (dl, .inl (cI, 6, .inl L_72)), (dc, .inl (cI, 6, .inl C_72))]) ([(y0, .inr (3, [.ref d0, .ref yp, .int YC, .int (YF + 1)])), (yp, .inl (cI, 6, .inl (upd P (p0_payer K L C i1 i2 i3).toNatClampNeg ((P (p0_payer K L C i1 i2 i3).toNatClampNeg) + 1))))]) hP hD [1, 2, 3, 4] [0, 5] [y0, d0, dk, dl, dc, yp] 6 rfl rfl rfl rfl rfl (by decide) rfl rfl hk1 hB
      have hE9 : p3_pass YC YF N K L C P i1 i2 i3 = (YC, (YF + 1), L_72, C_72, (upd P (p0_payer K L C i1 i2 i3).toNatClampNeg ((P (p0_payer K L C i1 i2 i3).toNatClampNeg) + 1))) := by unfold p3_pass; simp only [eL_72, eC_72]; rw [if_pos c_10, if_neg c_33]
      exact W.vret hx hb hr (fun t ht hW => ⟨⟨(), rfl, trivial, by show va_P (dC, dI) vwCl _ t.heap; rw [ht, hE9]; exact hP⟩, hS.F ht⟩) hS.2.2 dX3_pass_75
  · skip
    refine lv_aload_n hx hb dX3_pass_13 rfl (lv_at hl 0 rfl) ?_
    refine lv_dup hx hb dX3_pass_14 rfl ?_
    refine va_get (D := (dC, dI)) (ci := 3) (v := .int YC) (C := RX3) (T := TX3) (N := 4) hx hb hts hin3 hown hK hP 0 rfl rfl 2 (by decide) kf_30 (fun _ h9 => h9) rfl dX3_pass_15 ?_
    refine lv_iconst (v := 1) hx hb dX3_pass_18 (by decide) ?_
    refine lv_iadd hx hb dX3_pass_19 ?_
    refine va_put (D := (dC, dI)) (ci := 3) (v := .int (YC + 1)) (ty := .int) (C := RX3) (T := TX3) (N := 4) hx hb hts hin3 tyX3 tyX3_ok nmX3 hown hK hP hD hS 0 rfl rfl 2 (by decide) kf_30 (fun _ h9 => h9) rfl (by decide +kernel) rfl rfl (Nat.le_of_ble_eq_true rfl) dX3_pass_20 (fun H locs hP hD hS => ?_)
    have hP : va_P (dC, dI) vwCl ([(y0, .inr (3, [.ref d0, .ref yp, .int (YC + 1), .int YF])), (d0, .inr (0, [.ref dk, .ref dl, .ref dc, .int N])), (dk, .inl (cI, 6, .inl K)), (dl, .inl (cI, 6, .inl L)), (dc, .inl (cI, 6, .inl C)), (yp, .inl (cI, 6, .inl P))]) H := hP
    have hD : va_D A ([(y0, .inr (3, [.ref d0, .ref yp, .int (YC + 1), .int YF])), (d0, .inr (0, [.ref dk, .ref dl, .ref dc, .int N])), (dk, .inl (cI, 6, .inl K)), (dl, .inl (cI, 6, .inl L)), (dc, .inl (cI, 6, .inl C)), (yp, .inl (cI, 6, .inl P))]) := hD
    refine lv_aload_n hx hb dX3_pass_23 rfl (lv_at hl 0 rfl) ?_
    refine va_get (D := (dC, dI)) (ci := 3) (v := .ref d0) (C := RX3) (T := TX3) (N := 4) hx hb hts hin3 hown hK hP 0 rfl rfl 0 (by decide) kf_12 (fun _ h9 => h9) rfl dX3_pass_24 ?_
    refine lv_iload_n hx hb dX3_pass_27 rfl (lv_at hl 1 rfl) ?_
    refine lv_iload_n hx hb dX3_pass_28 rfl (lv_at hl 2 rfl) ?_
    refine lv_iload_n hx hb dX3_pass_29 rfl (lv_at hl 3 rfl) ?_
    have hPc := hP.sub (ws' := [(d0, .inr (0, [.ref dk, .ref dl, .ref dc, .int N])), (dk, .inl (cI, 6, .inl K)), (dl, .inl (cI, 6, .inl L)), (dc, .inl (cI, 6, .inl C))]) [1, 2, 3, 4] rfl
    have hDc := hD.sub (ws' := [(d0, .inr (0, [.ref dk, .ref dl, .ref dc, .int N])), (dk, .inl (cI, 6, .inl K)), (dl, .inl (cI, 6, .inl L)), (dc, .inl (cI, 6, .inl C))]) [1, 2, 3, 4] (by decide) rfl
    have hKc := hK.sub (tys' := [(cI, .int)]) [0] rfl
    have hFc := va_free (wc := [(d0, .inr (0, [.ref dk, .ref dl, .ref dc, .int N])), (dk, .inl (cI, 6, .inl K)), (dl, .inl (cI, 6, .inl L)), (dc, .inl (cI, 6, .inl C))]) hD hS hA [1, 2, 3, 4] rfl
    refine va_calli (va_runV (As := [.int i1, .int i2, .int i3]) (rest := []) ⟨hx, hb, hml, hown, hts⟩ (ctX0_isFair l dC dI cI d0 dk dl dc H.size N K L C i1 i2 i3 (by assumption) (by assumption) (by assumption)) (cwV 3 hts gX3_pass_X0_isFair rfl rfl rfl (by decide +kernel) ⟨Nat.le_of_ble_eq_true rfl, Nat.le_of_ble_eq_true rfl⟩) (pre_V hKc hN hPc hDc (RX0, TX0, 4) 0 0 rfl rfl) rfl rfl hl.1 rfl (lv_room (Nat.le_of_ble_eq_true rfl)) dX3_pass_30 ⟨Nat.le_of_ble_eq_true rfl, Nat.le_of_ble_eq_true rfl⟩) hS (fun q _ h => hFc q h) hFc (fun r _ t H locs ht hvm hw hB hz1 hk1 hS => ?_)
    try dsimp only at hw
    subst hw
    rw [ht] at hB
    obtain ⟨hP, hD⟩ := rw_join ([(y0, .inr (3, [.ref d0, .ref yp, .int (YC + 1), .int YF])), (d0, .inr (0, [.ref dk, .ref dl, .ref dc, .int N])), (dk, .inl (cI, 6, .inl K)), (dl, .inl (cI, 6, .inl L)), (dc, .inl (cI, 6, .inl C)), (yp, .inl (cI, 6, .inl P))]) ([(y0, .inr (3, [.ref d0, .ref yp, .int (YC + 1), .int YF])), (d0, .inr (0, [.ref dk, .ref dl, .ref dc, .int N])), (dk, .inl (cI, 6, .inl K)), (dl, .inl (cI, 6, .inl L)), (dc, .inl (cI, 6, .inl C)), (yp, .inl (cI, 6, .inl P))]) ([(d0, .inr (0, [.ref dk, .ref dl, .ref dc, .int N])), (dk, .inl (cI, 6, .inl K)), (dl, .inl (cI, 6, .inl L)), (dc, .inl (cI, 6, .inl C))]) ([(d0, .inr (0, [.ref dk, .ref dl, .ref dc, .int N])), (dk, .inl (cI, 6, .inl K)), (dl, .inl (cI, 6, .inl L)), (dc, .inl (cI, 6, .inl C))]) ([(y0, .inr (3, [.ref d0, .ref yp, .int (YC + 1), .int YF])), (yp, .inl (cI, 6, .inl P))]) hP hD [1, 2, 3, 4] [0, 5] [y0, d0, dk, dl, dc, yp] 6 rfl rfl rfl rfl rfl (by decide) rfl rfl hk1 hB
    refine lv_if_eq (tgt := 46) hx hb dX3_pass_33 (by decide) (fun c_33 => ?_) (fun c_33 => ?_)
    · skip
      refine lv_aload_n hx hb dX3_pass_46 rfl (lv_at hl 0 rfl) ?_
      refine va_get (D := (dC, dI)) (ci := 3) (v := .ref yp) (C := RX3) (T := TX3) (N := 4) hx hb hts hin3 hown hK hP 0 rfl rfl 1 (by decide) kf_18 (fun _ h9 => h9) rfl dX3_pass_47 ?_
      refine lv_aload_n hx hb dX3_pass_50 rfl (lv_at hl 0 rfl) ?_
      refine va_get (D := (dC, dI)) (ci := 3) (v := .ref d0) (C := RX3) (T := TX3) (N := 4) hx hb hts hin3 hown hK hP 0 rfl rfl 0 (by decide) kf_12 (fun _ h9 => h9) rfl dX3_pass_51 ?_
      refine lv_iload_n hx hb dX3_pass_54 rfl (lv_at hl 1 rfl) ?_
      refine lv_iload_n hx hb dX3_pass_55 rfl (lv_at hl 2 rfl) ?_
      refine lv_iload_n hx hb dX3_pass_56 rfl (lv_at hl 3 rfl) ?_
      have hPc := hP.sub (ws' := [(d0, .inr (0, [.ref dk, .ref dl, .ref dc, .int N])), (dk, .inl (cI, 6, .inl K)), (dl, .inl (cI, 6, .inl L)), (dc, .inl (cI, 6, .inl C))]) [1, 2, 3, 4] rfl
      have hDc := hD.sub (ws' := [(d0, .inr (0, [.ref dk, .ref dl, .ref dc, .int N])), (dk, .inl (cI, 6, .inl K)), (dl, .inl (cI, 6, .inl L)), (dc, .inl (cI, 6, .inl C))]) [1, 2, 3, 4] (by decide) rfl
      have hKc := hK.sub (tys' := [(cI, .int)]) [0] rfl
      have hFc := va_free (wc := [(d0, .inr (0, [.ref dk, .ref dl, .ref dc, .int N])), (dk, .inl (cI, 6, .inl K)), (dl, .inl (cI, 6, .inl L)), (dc, .inl (cI, 6, .inl C))]) hD hS hA [1, 2, 3, 4] rfl
      refine va_calli (va_runV (As := [.int i1, .int i2, .int i3]) (rest := [.ref yp]) ⟨hx, hb, hml, hown, hts⟩ (ctX0_payer l dC dI cI d0 dk dl dc H.size N K L C i1 i2 i3 (by assumption) (by assumption)) (cwV 3 hts gX3_pass_X0_payer rfl rfl rfl (by decide +kernel) ⟨Nat.le_of_ble_eq_true rfl, Nat.le_of_ble_eq_true rfl⟩) (pre_V hKc hN hPc hDc (RX0, TX0, 4) 0 0 rfl rfl) rfl rfl hl.1 rfl (lv_room (Nat.le_of_ble_eq_true rfl)) dX3_pass_57 ⟨Nat.le_of_ble_eq_true rfl, Nat.le_of_ble_eq_true rfl⟩) hS (fun q _ h => hFc q h) hFc (fun r _ t H locs ht hvm hw hB hz1 hk1 hS => ?_)
      try dsimp only at hw
      subst hw
      rw [ht] at hB
      obtain ⟨hP, hD⟩ := rw_join ([(y0, .inr (3, [.ref d0, .ref yp, .int (YC + 1), .int YF])), (d0, .inr (0, [.ref dk, .ref dl, .ref dc, .int N])), (dk, .inl (cI, 6, .inl K)), (dl, .inl (cI, 6, .inl L)), (dc, .inl (cI, 6, .inl C)), (yp, .inl (cI, 6, .inl P))]) ([(y0, .inr (3, [.ref d0, .ref yp, .int (YC + 1), .int YF])), (d0, .inr (0, [.ref dk, .ref dl, .ref dc, .int N])), (dk, .inl (cI, 6, .inl K)), (dl, .inl (cI, 6, .inl L)), (dc, .inl (cI, 6, .inl C)), (yp, .inl (cI, 6, .inl P))]) ([(d0, .inr (0, [.ref dk, .ref dl, .ref dc, .int N])), (dk, .inl (cI, 6, .inl K)), (dl, .inl (cI, 6, .inl L)), (dc, .inl (cI, 6, .inl C))]) ([(d0, .inr (0, [.ref dk, .ref dl, .ref dc, .int N])), (dk, .inl (cI, 6, .inl K)), (dl, .inl (cI, 6, .inl L)), (dc, .inl (cI, 6, .inl C))]) ([(y0, .inr (3, [.ref d0, .ref yp, .int (YC + 1), .int YF])), (yp, .inl (cI, 6, .inl P))]) hP hD [1, 2, 3, 4] [0, 5] [y0, d0, dk, dl, dc, yp] 6 rfl rfl rfl rfl rfl (by decide) rfl rfl hk1 hB
      refine lv_dup2_11 hx hb dX3_pass_60 rfl rfl ?_
      refine va_iald hx hb hK hP 5 0 rfl rfl (payer_in hi1 hi2) dX3_pass_61 ?_
      refine lv_iconst (v := 1) hx hb dX3_pass_62 (by decide) ?_
      refine lv_iadd hx hb dX3_pass_63 ?_
      refine va_iast hx hb hK hP hD hS 5 0 rfl rfl (payer_in hi1 hi2) dX3_pass_64 (fun H locs hP hD hS => ?_)
      have hP : va_P (dC, dI) vwCl ([(y0, .inr (3, [.ref d0, .ref yp, .int (YC + 1), .int YF])), (d0, .inr (0, [.ref dk, .ref dl, .ref dc, .int N])), (dk, .inl (cI, 6, .inl K)), (dl, .inl (cI, 6, .inl L)), (dc, .inl (cI, 6, .inl C)), (yp, .inl (cI, 6, .inl (upd P (p0_payer K L C i1 i2 i3).toNatClampNeg ((P (p0_payer K L C i1 i2 i3).toNatClampNeg) + 1))))]) H := hP
      have hD : va_D A ([(y0, .inr (3, [.ref d0, .ref yp, .int (YC + 1), .int YF])), (d0, .inr (0, [.ref dk, .ref dl, .ref dc, .int N])), (dk, .inl (cI, 6, .inl K)), (dl, .inl (cI, 6, .inl L)), (dc, .inl (cI, 6, .inl C)), (yp, .inl (cI, 6, .inl (upd P (p0_payer K L C i1 i2 i3).toNatClampNeg ((P (p0_payer K L C i1 i2 i3).toNatClampNeg) + 1))))]) := hD
      refine lv_aload_n hx hb dX3_pass_65 rfl (lv_at hl 0 rfl) ?_
      refine va_get (D := (dC, dI)) (ci := 3) (v := .ref d0) (C := RX3) (T := TX3) (N := 4) hx hb hts hin3 hown hK hP 0 rfl rfl 0 (by decide) kf_12 (fun _ h9 => h9) rfl dX3_pass_66 ?_
      refine lv_iload_n hx hb dX3_pass_69 rfl (lv_at hl 1 rfl) ?_
      refine lv_iload_n hx hb dX3_pass_70 rfl (lv_at hl 2 rfl) ?_
      refine lv_iload_n hx hb dX3_pass_71 rfl (lv_at hl 3 rfl) ?_
      have hPc := hP.sub (ws' := [(d0, .inr (0, [.ref dk, .ref dl, .ref dc, .int N])), (dk, .inl (cI, 6, .inl K)), (dl, .inl (cI, 6, .inl L)), (dc, .inl (cI, 6, .inl C))]) [1, 2, 3, 4] rfl
      have hDc := hD.sub (ws' := [(d0, .inr (0, [.ref dk, .ref dl, .ref dc, .int N])), (dk, .inl (cI, 6, .inl K)), (dl, .inl (cI, 6, .inl L)), (dc, .inl (cI, 6, .inl C))]) [1, 2, 3, 4] (by decide) rfl
      have hKc := hK.sub (tys' := [(cI, .int)]) [0] rfl
      have hFc := va_free (wc := [(d0, .inr (0, [.ref dk, .ref dl, .ref dc, .int N])), (dk, .inl (cI, 6, .inl K)), (dl, .inl (cI, 6, .inl L)), (dc, .inl (cI, 6, .inl C))]) hD hS hA [1, 2, 3, 4] rfl
      refine va_callv (va_runV (As := [.int i1, .int i2, .int i3]) (rest := []) ⟨hx, hb, hml, hown, hts⟩ (ctX0_carryOut l dC dI cI d0 dk dl dc H.size N K L C i1 i2 i3 (by assumption) (by assumption)) (cwV 3 hts gX3_pass_X0_carryOut rfl rfl rfl (by decide +kernel) ⟨Nat.le_of_ble_eq_true rfl, Nat.le_of_ble_eq_true rfl⟩) (pre_V hKc hN hPc hDc (RX0, TX0, 4) 0 0 rfl rfl) rfl rfl hl.1 rfl (lv_room (Nat.le_of_ble_eq_true rfl)) dX3_pass_72 ⟨Nat.le_of_ble_eq_true rfl, Nat.le_of_ble_eq_true rfl⟩) hS (fun q _ h => hFc q h) hFc (fun _ t H locs ht hvm hw hB hz1 hk1 hS => ?_)
      rw [ht] at hB
      refine nm_gen ((p0_carryOut K L C i1 i2 i3).1) (fun L_72 eL_72 => ?_)
      rw [eL_72] at hB
      refine nm_gen ((p0_carryOut K L C i1 i2 i3).2) (fun C_72 eC_72 => ?_)
      rw [eC_72] at hB
      obtain ⟨hP, hD⟩ := rw_join ([(y0, .inr (3, [.ref d0, .ref yp, .int (YC + 1), .int YF])), (d0, .inr (0, [.ref dk, .ref dl, .ref dc, .int N])), (dk, .inl (cI, 6, .inl K)), (dl, .inl (cI, 6, .inl L)), (dc, .inl (cI, 6, .inl C)), (yp, .inl (cI, 6, .inl (upd P (p0_payer K L C i1 i2 i3).toNatClampNeg ((P (p0_payer K L C i1 i2 i3).toNatClampNeg) + 1))))]) ([(y0, .inr (3, [.ref d0, .ref yp, .int (YC + 1), .int YF])), (d0, .inr (0, [.ref dk, .ref dl, .ref dc, .int N])), (dk, .inl (cI, 6, .inl K)), (dl, .inl (cI, 6, .inl L_72)), (dc, .inl (cI, 6, .inl C_72)), (yp, .inl (cI, 6, .inl (upd P (p0_payer K L C i1 i2 i3).toNatClampNeg ((P (p0_payer K L C i1 i2 i3).toNatClampNeg) + 1))))]) ([(d0, .inr (0, [.ref dk, .ref dl, .ref dc, .int N])), (dk, .inl (cI, 6, .inl K)), (dl, .inl (cI, 6, .inl L)), (dc, .inl (cI, 6, .inl C))]) ([(d0, .inr (0, [.ref dk, .ref dl, .ref dc, .int N])), (dk, .inl (cI, 6, .inl K)), (dl, .inl (cI, 6, .inl L_72)), (dc, .inl (cI, 6, .inl C_72))]) ([(y0, .inr (3, [.ref d0, .ref yp, .int (YC + 1), .int YF])), (yp, .inl (cI, 6, .inl (upd P (p0_payer K L C i1 i2 i3).toNatClampNeg ((P (p0_payer K L C i1 i2 i3).toNatClampNeg) + 1))))]) hP hD [1, 2, 3, 4] [0, 5] [y0, d0, dk, dl, dc, yp] 6 rfl rfl rfl rfl rfl (by decide) rfl rfl hk1 hB
      have hE9 : p3_pass YC YF N K L C P i1 i2 i3 = ((YC + 1), YF, L_72, C_72, (upd P (p0_payer K L C i1 i2 i3).toNatClampNeg ((P (p0_payer K L C i1 i2 i3).toNatClampNeg) + 1))) := by unfold p3_pass; simp only [eL_72, eC_72]; rw [if_neg c_10, if_pos c_33]
      exact W.vret hx hb hr (fun t ht hW => ⟨⟨(), rfl, trivial, by show va_P (dC, dI) vwCl _ t.heap; rw [ht, hE9]; exact hP⟩, hS.F ht⟩) hS.2.2 dX3_pass_75
    · skip
      refine lv_aload_n hx hb dX3_pass_36 rfl (lv_at hl 0 rfl) ?_
      refine lv_dup hx hb dX3_pass_37 rfl ?_
      refine va_get (D := (dC, dI)) (ci := 3) (v := .int YF) (C := RX3) (T := TX3) (N := 4) hx hb hts hin3 hown hK hP 0 rfl rfl 3 (by decide) kf_34 (fun _ h9 => h9) rfl dX3_pass_38 ?_
      refine lv_iconst (v := 1) hx hb dX3_pass_41 (by decide) ?_
      refine lv_iadd hx hb dX3_pass_42 ?_
      refine va_put (D := (dC, dI)) (ci := 3) (v := .int (YF + 1)) (ty := .int) (C := RX3) (T := TX3) (N := 4) hx hb hts hin3 tyX3 tyX3_ok nmX3 hown hK hP hD hS 0 rfl rfl 3 (by decide) kf_34 (fun _ h9 => h9) rfl (by decide +kernel) rfl rfl (Nat.le_of_ble_eq_true rfl) dX3_pass_43 (fun H locs hP hD hS => ?_)
      have hP : va_P (dC, dI) vwCl ([(y0, .inr (3, [.ref d0, .ref yp, .int (YC + 1), .int (YF + 1)])), (d0, .inr (0, [.ref dk, .ref dl, .ref dc, .int N])), (dk, .inl (cI, 6, .inl K)), (dl, .inl (cI, 6, .inl L)), (dc, .inl (cI, 6, .inl C)), (yp, .inl (cI, 6, .inl P))]) H := hP
      have hD : va_D A ([(y0, .inr (3, [.ref d0, .ref yp, .int (YC + 1), .int (YF + 1)])), (d0, .inr (0, [.ref dk, .ref dl, .ref dc, .int N])), (dk, .inl (cI, 6, .inl K)), (dl, .inl (cI, 6, .inl L)), (dc, .inl (cI, 6, .inl C)), (yp, .inl (cI, 6, .inl P))]) := hD
      refine lv_aload_n hx hb dX3_pass_46 rfl (lv_at hl 0 rfl) ?_
      refine va_get (D := (dC, dI)) (ci := 3) (v := .ref yp) (C := RX3) (T := TX3) (N := 4) hx hb hts hin3 hown hK hP 0 rfl rfl 1 (by decide) kf_18 (fun _ h9 => h9) rfl dX3_pass_47 ?_
      refine lv_aload_n hx hb dX3_pass_50 rfl (lv_at hl 0 rfl) ?_
      refine va_get (D := (dC, dI)) (ci := 3) (v := .ref d0) (C := RX3) (T := TX3) (N := 4) hx hb hts hin3 hown hK hP 0 rfl rfl 0 (by decide) kf_12 (fun _ h9 => h9) rfl dX3_pass_51 ?_
      refine lv_iload_n hx hb dX3_pass_54 rfl (lv_at hl 1 rfl) ?_
      refine lv_iload_n hx hb dX3_pass_55 rfl (lv_at hl 2 rfl) ?_
      refine lv_iload_n hx hb dX3_pass_56 rfl (lv_at hl 3 rfl) ?_
      have hPc := hP.sub (ws' := [(d0, .inr (0, [.ref dk, .ref dl, .ref dc, .int N])), (dk, .inl (cI, 6, .inl K)), (dl, .inl (cI, 6, .inl L)), (dc, .inl (cI, 6, .inl C))]) [1, 2, 3, 4] rfl
      have hDc := hD.sub (ws' := [(d0, .inr (0, [.ref dk, .ref dl, .ref dc, .int N])), (dk, .inl (cI, 6, .inl K)), (dl, .inl (cI, 6, .inl L)), (dc, .inl (cI, 6, .inl C))]) [1, 2, 3, 4] (by decide) rfl
      have hKc := hK.sub (tys' := [(cI, .int)]) [0] rfl
      have hFc := va_free (wc := [(d0, .inr (0, [.ref dk, .ref dl, .ref dc, .int N])), (dk, .inl (cI, 6, .inl K)), (dl, .inl (cI, 6, .inl L)), (dc, .inl (cI, 6, .inl C))]) hD hS hA [1, 2, 3, 4] rfl
      refine va_calli (va_runV (As := [.int i1, .int i2, .int i3]) (rest := [.ref yp]) ⟨hx, hb, hml, hown, hts⟩ (ctX0_payer l dC dI cI d0 dk dl dc H.size N K L C i1 i2 i3 (by assumption) (by assumption)) (cwV 3 hts gX3_pass_X0_payer rfl rfl rfl (by decide +kernel) ⟨Nat.le_of_ble_eq_true rfl, Nat.le_of_ble_eq_true rfl⟩) (pre_V hKc hN hPc hDc (RX0, TX0, 4) 0 0 rfl rfl) rfl rfl hl.1 rfl (lv_room (Nat.le_of_ble_eq_true rfl)) dX3_pass_57 ⟨Nat.le_of_ble_eq_true rfl, Nat.le_of_ble_eq_true rfl⟩) hS (fun q _ h => hFc q h) hFc (fun r _ t H locs ht hvm hw hB hz1 hk1 hS => ?_)
      try dsimp only at hw
      subst hw
      rw [ht] at hB
      obtain ⟨hP, hD⟩ := rw_join ([(y0, .inr (3, [.ref d0, .ref yp, .int (YC + 1), .int (YF + 1)])), (d0, .inr (0, [.ref dk, .ref dl, .ref dc, .int N])), (dk, .inl (cI, 6, .inl K)), (dl, .inl (cI, 6, .inl L)), (dc, .inl (cI, 6, .inl C)), (yp, .inl (cI, 6, .inl P))]) ([(y0, .inr (3, [.ref d0, .ref yp, .int (YC + 1), .int (YF + 1)])), (d0, .inr (0, [.ref dk, .ref dl, .ref dc, .int N])), (dk, .inl (cI, 6, .inl K)), (dl, .inl (cI, 6, .inl L)), (dc, .inl (cI, 6, .inl C)), (yp, .inl (cI, 6, .inl P))]) ([(d0, .inr (0, [.ref dk, .ref dl, .ref dc, .int N])), (dk, .inl (cI, 6, .inl K)), (dl, .inl (cI, 6, .inl L)), (dc, .inl (cI, 6, .inl C))]) ([(d0, .inr (0, [.ref dk, .ref dl, .ref dc, .int N])), (dk, .inl (cI, 6, .inl K)), (dl, .inl (cI, 6, .inl L)), (dc, .inl (cI, 6, .inl C))]) ([(y0, .inr (3, [.ref d0, .ref yp, .int (YC + 1), .int (YF + 1)])), (yp, .inl (cI, 6, .inl P))]) hP hD [1, 2, 3, 4] [0, 5] [y0, d0, dk, dl, dc, yp] 6 rfl rfl rfl rfl rfl (by decide) rfl rfl hk1 hB
      refine lv_dup2_11 hx hb dX3_pass_60 rfl rfl ?_
      refine va_iald hx hb hK hP 5 0 rfl rfl (payer_in hi1 hi2) dX3_pass_61 ?_
      refine lv_iconst (v := 1) hx hb dX3_pass_62 (by decide) ?_
      refine lv_iadd hx hb dX3_pass_63 ?_
      refine va_iast hx hb hK hP hD hS 5 0 rfl rfl (payer_in hi1 hi2) dX3_pass_64 (fun H locs hP hD hS => ?_)
      have hP : va_P (dC, dI) vwCl ([(y0, .inr (3, [.ref d0, .ref yp, .int (YC + 1), .int (YF + 1)])), (d0, .inr (0, [.ref dk, .ref dl, .ref dc, .int N])), (dk, .inl (cI, 6, .inl K)), (dl, .inl (cI, 6, .inl L)), (dc, .inl (cI, 6, .inl C)), (yp, .inl (cI, 6, .inl (upd P (p0_payer K L C i1 i2 i3).toNatClampNeg ((P (p0_payer K L C i1 i2 i3).toNatClampNeg) + 1))))]) H := hP
      have hD : va_D A ([(y0, .inr (3, [.ref d0, .ref yp, .int (YC + 1), .int (YF + 1)])), (d0, .inr (0, [.ref dk, .ref dl, .ref dc, .int N])), (dk, .inl (cI, 6, .inl K)), (dl, .inl (cI, 6, .inl L)), (dc, .inl (cI, 6, .inl C)), (yp, .inl (cI, 6, .inl (upd P (p0_payer K L C i1 i2 i3).toNatClampNeg ((P (p0_payer K L C i1 i2 i3).toNatClampNeg) + 1))))]) := hD
      refine lv_aload_n hx hb dX3_pass_65 rfl (lv_at hl 0 rfl) ?_
      refine va_get (D := (dC, dI)) (ci := 3) (v := .ref d0) (C := RX3) (T := TX3) (N := 4) hx hb hts hin3 hown hK hP 0 rfl rfl 0 (by decide) kf_12 (fun _ h9 => h9) rfl dX3_pass_66 ?_
      refine lv_iload_n hx hb dX3_pass_69 rfl (lv_at hl 1 rfl) ?_
      refine lv_iload_n hx hb dX3_pass_70 rfl (lv_at hl 2 rfl) ?_
      refine lv_iload_n hx hb dX3_pass_71 rfl (lv_at hl 3 rfl) ?_
      have hPc := hP.sub (ws' := [(d0, .inr (0, [.ref dk, .ref dl, .ref dc, .int N])), (dk, .inl (cI, 6, .inl K)), (dl, .inl (cI, 6, .inl L)), (dc, .inl (cI, 6, .inl C))]) [1, 2, 3, 4] rfl
      have hDc := hD.sub (ws' := [(d0, .inr (0, [.ref dk, .ref dl, .ref dc, .int N])), (dk, .inl (cI, 6, .inl K)), (dl, .inl (cI, 6, .inl L)), (dc, .inl (cI, 6, .inl C))]) [1, 2, 3, 4] (by decide) rfl
      have hKc := hK.sub (tys' := [(cI, .int)]) [0] rfl
      have hFc := va_free (wc := [(d0, .inr (0, [.ref dk, .ref dl, .ref dc, .int N])), (dk, .inl (cI, 6, .inl K)), (dl, .inl (cI, 6, .inl L)), (dc, .inl (cI, 6, .inl C))]) hD hS hA [1, 2, 3, 4] rfl
      refine va_callv (va_runV (As := [.int i1, .int i2, .int i3]) (rest := []) ⟨hx, hb, hml, hown, hts⟩ (ctX0_carryOut l dC dI cI d0 dk dl dc H.size N K L C i1 i2 i3 (by assumption) (by assumption)) (cwV 3 hts gX3_pass_X0_carryOut rfl rfl rfl (by decide +kernel) ⟨Nat.le_of_ble_eq_true rfl, Nat.le_of_ble_eq_true rfl⟩) (pre_V hKc hN hPc hDc (RX0, TX0, 4) 0 0 rfl rfl) rfl rfl hl.1 rfl (lv_room (Nat.le_of_ble_eq_true rfl)) dX3_pass_72 ⟨Nat.le_of_ble_eq_true rfl, Nat.le_of_ble_eq_true rfl⟩) hS (fun q _ h => hFc q h) hFc (fun _ t H locs ht hvm hw hB hz1 hk1 hS => ?_)
      rw [ht] at hB
      refine nm_gen ((p0_carryOut K L C i1 i2 i3).1) (fun L_72 eL_72 => ?_)
      rw [eL_72] at hB
      refine nm_gen ((p0_carryOut K L C i1 i2 i3).2) (fun C_72 eC_72 => ?_)
      rw [eC_72] at hB
      obtain ⟨hP, hD⟩ := rw_join ([(y0, .inr (3, [.ref d0, .ref yp, .int (YC + 1), .int (YF + 1)])), (d0, .inr (0, [.ref dk, .ref dl, .ref dc, .int N])), (dk, .inl (cI, 6, .inl K)), (dl, .inl (cI, 6, .inl L)), (dc, .inl (cI, 6, .inl C)), (yp, .inl (cI, 6, .inl (upd P (p0_payer K L C i1 i2 i3).toNatClampNeg ((P (p0_payer K L C i1 i2 i3).toNatClampNeg) + 1))))]) ([(y0, .inr (3, [.ref d0, .ref yp, .int (YC + 1), .int (YF + 1)])), (d0, .inr (0, [.ref dk, .ref dl, .ref dc, .int N])), (dk, .inl (cI, 6, .inl K)), (dl, .inl (cI, 6, .inl L_72)), (dc, .inl (cI, 6, .inl C_72)), (yp, .inl (cI, 6, .inl (upd P (p0_payer K L C i1 i2 i3).toNatClampNeg ((P (p0_payer K L C i1 i2 i3).toNatClampNeg) + 1))))]) ([(d0, .inr (0, [.ref dk, .ref dl, .ref dc, .int N])), (dk, .inl (cI, 6, .inl K)), (dl, .inl (cI, 6, .inl L)), (dc, .inl (cI, 6, .inl C))]) ([(d0, .inr (0, [.ref dk, .ref dl, .ref dc, .int N])), (dk, .inl (cI, 6, .inl K)), (dl, .inl (cI, 6, .inl L_72)), (dc, .inl (cI, 6, .inl C_72))]) ([(y0, .inr (3, [.ref d0, .ref yp, .int (YC + 1), .int (YF + 1)])), (yp, .inl (cI, 6, .inl (upd P (p0_payer K L C i1 i2 i3).toNatClampNeg ((P (p0_payer K L C i1 i2 i3).toNatClampNeg) + 1))))]) hP hD [1, 2, 3, 4] [0, 5] [y0, d0, dk, dl, dc, yp] 6 rfl rfl rfl rfl rfl (by decide) rfl rfl hk1 hB
      have hE9 : p3_pass YC YF N K L C P i1 i2 i3 = ((YC + 1), (YF + 1), L_72, C_72, (upd P (p0_payer K L C i1 i2 i3).toNatClampNeg ((P (p0_payer K L C i1 i2 i3).toNatClampNeg) + 1))) := by unfold p3_pass; simp only [eL_72, eC_72]; rw [if_neg c_10, if_neg c_33]
      exact W.vret hx hb hr (fun t ht hW => ⟨⟨(), rfl, trivial, by show va_P (dC, dI) vwCl _ t.heap; rw [ht, hE9]; exact hP⟩, hS.F ht⟩) hS.2.2 dX3_pass_75

def p3_ofOne (N : Int32) (F : Nat → Int32) (i2 : Int32) : Int32 :=
  if (p0_has N i2) = 0 then
    (-9)
  else
    (F i2.toNatClampNeg)
abbrev rmX3_ofOne : Room := { frames := 1, cells := 0, slots := 0, locals := 21 }
abbrev QX3_ofOne (dC : Nat → ClassId) (dI : Nat → Nat → Nat) (A : Nat → Prop) (cI : ClassId) (y0 : Nat) (d0 : Nat) (yp : Nat) (dk : Nat) (dl : Nat) (dc : Nat) (b0 : Nat) (YC : Int32) (YF : Int32) (N : Int32) (F : Nat → Int32) (i2 : Int32) : Array Value → State → Outcome → State → Prop := va_Qi (fun (r : Int32) (_ : Unit) => r = p3_ofOne N F i2) (fun (_ : Unit) (t : State) => va_P (dC, dI) vwCl ([(y0, .inr (3, [.ref d0, .ref yp, .int YC, .int YF])), (d0, .inr (0, [.ref dk, .ref dl, .ref dc, .int N])), (b0, .inl (cI, 6, .inl F))]) t.heap) A
set_option maxHeartbeats 4000000 in
set_option maxRecDepth 100000 in
theorem ctX3_ofOne (l : Launch) (dC : Nat → ClassId) (dI : Nat → Nat → Nat) (cI : ClassId) (y0 : Nat) (d0 : Nat) (yp : Nat) (dk : Nat) (dl : Nat) (dc : Nat) (b0 : Nat) (sz : Nat) (YC : Int32) (YF : Int32) (N : Int32) (F : Nat → Int32) (i2 : Int32) (hNb : N.toInt ≤ 6) : Met l yX3_ofOne wsX3_ofOne rmX3_ofOne (va_Pc [.ref y0, .ref b0, .int i2] (cP dC dI [(cI, .int)] ([(y0, .inr (3, [.ref d0, .ref yp, .int YC, .int YF])), (d0, .inr (0, [.ref dk, .ref dl, .ref dc, .int N])), (b0, .inl (cI, 6, .inl F))]) sz)) (QX3_ofOne dC dI (va_A ([(y0, .inr (3, [.ref d0, .ref yp, .int YC, .int YF])), (d0, .inr (0, [.ref dk, .ref dl, .ref dc, .int N])), (b0, .inl (cI, 6, .inl F))]) sz) cI y0 d0 yp dk dl dc b0 YC YF N F i2) 0 0 (va_A ([(y0, .inr (3, [.ref d0, .ref yp, .int YC, .int YF])), (d0, .inr (0, [.ref dk, .ref dl, .ref dc, .int N])), (b0, .inl (cI, 6, .inl F))]) sz) := by
  refine Met.ofW (cc := cX3_ofOne) (maxL := 3) (ret := (some .int)) (by decide) rfl ?_
  intro p e s m args below meth c s₁ B hml hv
  obtain ⟨rfl, hsz, hP, hK, hD0, hN⟩ := hv
  have hx := B.exec
  have hb := B.bytes
  have hr := B.returns
  have hts := atoms_spec (ws := wsX3_ofOne) B.pre
  have hown : s.vm.findClass RX3 = some m.cls := findClass_of_methodNamed B.named
  have hlocks := B.notSynchronized
  subst hsz
  have hD := hD0.self (sz := s.heap.size)
  generalize hAe : va_A ([(y0, .inr (3, [.ref d0, .ref yp, .int YC, .int YF])), (d0, .inr (0, [.ref dk, .ref dl, .ref dc, .int N])), (b0, .inl (cI, 6, .inl F))]) s.heap.size = A at hD ⊢
  have hA : ∀ q : Nat, s.heap.size ≤ q → A q := fun q h => by rw [← hAe]; exact Or.inr h
  have hS : va_S A s.heap s.heap [] := va_S.rf
  have hP : va_P (dC, dI) vwCl ([(y0, .inr (3, [.ref d0, .ref yp, .int YC, .int YF])), (d0, .inr (0, [.ref dk, .ref dl, .ref dc, .int N])), (b0, .inl (cI, 6, .inl F))]) s.heap := hP
  have hin3 : ∀ w ∈ wsX30, w ∈ wsX3_ofOne := by decide +kernel
  have kf_12 := hts (.fieldLink RX3 12 "RicherChange$Year" "town" "LRicherChange$City;") (by decide +kernel)
  have hl := lv_entry ([.ref y0, .ref b0, .int i2]) (n := 3) (Nat.le_of_ble_eq_true rfl)
  rw [lg_entry_eq]
  generalize (lg_sl ([.ref y0, .ref b0, .int i2]) ++ List.replicate (3 - (lg_sl ([.ref y0, .ref b0, .int i2])).length) Slot.unset).toArray = ls at hl ⊢
  have hl : lv_has ls 3 [(0, .ref y0), (1, .ref b0), (2, .int i2)] := hl
  refine lv_aload_n hx hb dX3_ofOne_0 rfl (lv_at hl 0 rfl) ?_
  refine va_get (D := (dC, dI)) (ci := 3) (v := .ref d0) (C := RX3) (T := TX3) (N := 4) hx hb hts hin3 hown hK hP 0 rfl rfl 0 (by decide) kf_12 (fun _ h9 => h9) rfl dX3_ofOne_1 ?_
  refine lv_iload_n hx hb dX3_ofOne_4 rfl (lv_at hl 2 rfl) ?_
  have hPc := hP.sub (ws' := [(d0, .inr (0, [.ref dk, .ref dl, .ref dc, .int N]))]) [1] rfl
  have hDc := hD.sub (ws' := [(d0, .inr (0, [.ref dk, .ref dl, .ref dc, .int N]))]) [1] (by decide) rfl
  have hKc := hK.sub (tys' := [(cI, .int)]) [0] rfl
  have hFc := va_free (wc := [(d0, .inr (0, [.ref dk, .ref dl, .ref dc, .int N]))]) hD hS hA [1] rfl
  refine va_calli (va_runV (As := [.int i2]) (rest := []) ⟨hx, hb, hml, hown, hts⟩ (ctX0_has l dC dI cI d0 dk dl dc s.heap.size N i2) (cwV 1 hts gX3_ofOne_X0_has rfl rfl rfl (by decide +kernel) ⟨Nat.le_of_ble_eq_true rfl, Nat.le_of_ble_eq_true rfl⟩) (pre_V hKc hN hPc hDc (RX0, TX0, 4) 0 0 rfl rfl) rfl rfl hl.1 rfl (lv_room (Nat.le_of_ble_eq_true rfl)) dX3_ofOne_5 ⟨Nat.le_of_ble_eq_true rfl, Nat.le_of_ble_eq_true rfl⟩) hS (fun q _ h => hFc q h) hFc (fun r _ t H locs ht hvm hw hB hz1 hk1 hS => ?_)
  try dsimp only at hw
  subst hw
  rw [ht] at hB
  obtain ⟨hP, hD⟩ := rw_join ([(y0, .inr (3, [.ref d0, .ref yp, .int YC, .int YF])), (d0, .inr (0, [.ref dk, .ref dl, .ref dc, .int N])), (b0, .inl (cI, 6, .inl F))]) ([(y0, .inr (3, [.ref d0, .ref yp, .int YC, .int YF])), (d0, .inr (0, [.ref dk, .ref dl, .ref dc, .int N])), (b0, .inl (cI, 6, .inl F))]) ([(d0, .inr (0, [.ref dk, .ref dl, .ref dc, .int N]))]) ([(d0, .inr (0, [.ref dk, .ref dl, .ref dc, .int N]))]) ([(y0, .inr (3, [.ref d0, .ref yp, .int YC, .int YF])), (b0, .inl (cI, 6, .inl F))]) hP hD [1] [0, 2] [y0, d0, b0] 3 rfl rfl rfl rfl rfl (by decide) rfl rfl hk1 hB
  refine lv_if_eq (tgt := 17) hx hb dX3_ofOne_8 (by decide) (fun c_8 => ?_) (fun c_8 => ?_)
  · skip
    refine lv_bipush (v := (-9)) hx hb dX3_ofOne_17 (by decide) ?_
    have hE9 : p3_ofOne N F i2 = (-9) := by unfold p3_ofOne; rw [if_pos c_8]
    exact W.iret (v := (-9)) hx hb hr (fun t ht hW => ⟨⟨_, (), rfl, by rw [hE9], by show va_P (dC, dI) vwCl _ t.heap; rw [ht]; exact hP⟩, hS.F ht⟩) hS.2.2 dX3_ofOne_19
  · skip
    have j2 : vp_in i2 6 := has_in hNb c_8
    refine lv_aload_n hx hb dX3_ofOne_11 rfl (lv_at hl 1 rfl) ?_
    refine lv_iload_n hx hb dX3_ofOne_12 rfl (lv_at hl 2 rfl) ?_
    refine va_iald hx hb hK hP 2 0 rfl rfl (by assumption) dX3_ofOne_13 ?_
    refine lv_goto (tgt := 19) hx hb dX3_ofOne_14 (by decide) ?_
    have hE9 : p3_ofOne N F i2 = (F i2.toNatClampNeg) := by unfold p3_ofOne; rw [if_neg c_8]
    exact W.iret (v := (F i2.toNatClampNeg)) hx hb hr (fun t ht hW => ⟨⟨_, (), rfl, by rw [hE9], by show va_P (dC, dI) vwCl _ t.heap; rw [ht]; exact hP⟩, hS.F ht⟩) hS.2.2 dX3_ofOne_19

def p3_result (YC : Int32) (YF : Int32) (N : Int32) (K : Nat → Int32) (L : Nat → Int32) (C : Nat → Int32) (P : Nat → Int32) (i1 : Int32) : Int32 :=
  if i1 = 0 then
    (p0_worthOfAll N K L C)
  else
    if i1 = 1 then
      (-9)
    else
      if i1 = 2 then
        YC
      else
        if i1 = 3 then
          YF
        else
          if i1 < 20 then
            (p3_ofOne N L (i1 - 10))
          else
            (p3_ofOne N P (i1 - 20))
abbrev rmX3_result : Room := { frames := 3, cells := 0, slots := 0, locals := 65 }
abbrev QX3_result (dC : Nat → ClassId) (dI : Nat → Nat → Nat) (A : Nat → Prop) (cI : ClassId) (y0 : Nat) (d0 : Nat) (yp : Nat) (dk : Nat) (dl : Nat) (dc : Nat) (YC : Int32) (YF : Int32) (N : Int32) (K : Nat → Int32) (L : Nat → Int32) (C : Nat → Int32) (P : Nat → Int32) (i1 : Int32) : Array Value → State → Outcome → State → Prop := va_Qi (fun (r : Int32) (_ : Unit) => r = p3_result YC YF N K L C P i1) (fun (_ : Unit) (t : State) => va_P (dC, dI) vwCl ([(y0, .inr (3, [.ref d0, .ref yp, .int YC, .int YF])), (d0, .inr (0, [.ref dk, .ref dl, .ref dc, .int N])), (dk, .inl (cI, 6, .inl K)), (dl, .inl (cI, 6, .inl L)), (dc, .inl (cI, 6, .inl C)), (yp, .inl (cI, 6, .inl P))]) t.heap) A
set_option maxHeartbeats 4000000 in
set_option maxRecDepth 100000 in
theorem ctX3_result (l : Launch) (dC : Nat → ClassId) (dI : Nat → Nat → Nat) (cI : ClassId) (y0 : Nat) (d0 : Nat) (yp : Nat) (dk : Nat) (dl : Nat) (dc : Nat) (sz : Nat) (YC : Int32) (YF : Int32) (N : Int32) (K : Nat → Int32) (L : Nat → Int32) (C : Nat → Int32) (P : Nat → Int32) (i1 : Int32) (hNb : N.toInt ≤ 6) : Met l yX3_result wsX3_result rmX3_result (va_Pc [.ref y0, .int i1] (cP dC dI [(cI, .int)] ([(y0, .inr (3, [.ref d0, .ref yp, .int YC, .int YF])), (d0, .inr (0, [.ref dk, .ref dl, .ref dc, .int N])), (dk, .inl (cI, 6, .inl K)), (dl, .inl (cI, 6, .inl L)), (dc, .inl (cI, 6, .inl C)), (yp, .inl (cI, 6, .inl P))]) sz)) (QX3_result dC dI (va_A ([(y0, .inr (3, [.ref d0, .ref yp, .int YC, .int YF])), (d0, .inr (0, [.ref dk, .ref dl, .ref dc, .int N])), (dk, .inl (cI, 6, .inl K)), (dl, .inl (cI, 6, .inl L)), (dc, .inl (cI, 6, .inl C)), (yp, .inl (cI, 6, .inl P))]) sz) cI y0 d0 yp dk dl dc YC YF N K L C P i1) 0 0 (va_A ([(y0, .inr (3, [.ref d0, .ref yp, .int YC, .int YF])), (d0, .inr (0, [.ref dk, .ref dl, .ref dc, .int N])), (dk, .inl (cI, 6, .inl K)), (dl, .inl (cI, 6, .inl L)), (dc, .inl (cI, 6, .inl C)), (yp, .inl (cI, 6, .inl P))]) sz) := by
  refine Met.ofW (cc := cX3_result) (maxL := 2) (ret := (some .int)) (by decide) rfl ?_
  intro p e s m args below meth c s₁ B hml hv
  obtain ⟨rfl, hsz, hP, hK, hD0, hN⟩ := hv
  have hx := B.exec
  have hb := B.bytes
  have hr := B.returns
  have hts := atoms_spec (ws := wsX3_result) B.pre
  have hown : s.vm.findClass RX3 = some m.cls := findClass_of_methodNamed B.named
  have hlocks := B.notSynchronized
  subst hsz
  have hD := hD0.self (sz := s.heap.size)
  generalize hAe : va_A ([(y0, .inr (3, [.ref d0, .ref yp, .int YC, .int YF])), (d0, .inr (0, [.ref dk, .ref dl, .ref dc, .int N])), (dk, .inl (cI, 6, .inl K)), (dl, .inl (cI, 6, .inl L)), (dc, .inl (cI, 6, .inl C)), (yp, .inl (cI, 6, .inl P))]) s.heap.size = A at hD ⊢
  have hA : ∀ q : Nat, s.heap.size ≤ q → A q := fun q h => by rw [← hAe]; exact Or.inr h
  have hS : va_S A s.heap s.heap [] := va_S.rf
  have hP : va_P (dC, dI) vwCl ([(y0, .inr (3, [.ref d0, .ref yp, .int YC, .int YF])), (d0, .inr (0, [.ref dk, .ref dl, .ref dc, .int N])), (dk, .inl (cI, 6, .inl K)), (dl, .inl (cI, 6, .inl L)), (dc, .inl (cI, 6, .inl C)), (yp, .inl (cI, 6, .inl P))]) s.heap := hP
  have hin0 : ∀ w ∈ wsX00, w ∈ wsX3_result := by decide +kernel
  have hin3 : ∀ w ∈ wsX30, w ∈ wsX3_result := by decide +kernel
  have kf_12 := hts (.fieldLink RX3 12 "RicherChange$Year" "town" "LRicherChange$City;") (by decide +kernel)
  have kf_18 := hts (.fieldLink RX3 18 "RicherChange$Year" "paid" "[I") (by decide +kernel)
  have kf_30 := hts (.fieldLink RX3 30 "RicherChange$Year" "changed" "I") (by decide +kernel)
  have kf_34 := hts (.fieldLink RX3 34 "RicherChange$Year" "fair" "I") (by decide +kernel)
  have hn_60 := va_Nw.use (A := [.ref y0, .int i1].toArray) rfl hN.2.2.2.2.1
  have hl := lv_entry ([.ref y0, .int i1]) (n := 2) (Nat.le_of_ble_eq_true rfl)
  rw [lg_entry_eq]
  generalize (lg_sl ([.ref y0, .int i1]) ++ List.replicate (2 - (lg_sl ([.ref y0, .int i1])).length) Slot.unset).toArray = ls at hl ⊢
  have hl : lv_has ls 2 [(0, .ref y0), (1, .int i1)] := hl
  refine lv_iload_n hx hb dX3_result_0 rfl (lv_at hl 1 rfl) ?_
  by_cases c_1_0 : i1 = 0
  · skip
    refine lv_tableIn (off := 31) (tgt := 32) hx hb dX3_result_1 (by rw [c_1_0]; decide) (by rw [c_1_0]; decide) (by rw [c_1_0]; decide) (by decide) ?_
    refine lv_aload_n hx hb dX3_result_32 rfl (lv_at hl 0 rfl) ?_
    refine va_get (D := (dC, dI)) (ci := 3) (v := .ref d0) (C := RX3) (T := TX3) (N := 4) hx hb hts hin3 hown hK hP 0 rfl rfl 0 (by decide) kf_12 (fun _ h9 => h9) rfl dX3_result_33 ?_
    have hPc := hP.sub (ws' := [(d0, .inr (0, [.ref dk, .ref dl, .ref dc, .int N])), (dk, .inl (cI, 6, .inl K)), (dl, .inl (cI, 6, .inl L)), (dc, .inl (cI, 6, .inl C))]) [1, 2, 3, 4] rfl
    have hDc := hD.sub (ws' := [(d0, .inr (0, [.ref dk, .ref dl, .ref dc, .int N])), (dk, .inl (cI, 6, .inl K)), (dl, .inl (cI, 6, .inl L)), (dc, .inl (cI, 6, .inl C))]) [1, 2, 3, 4] (by decide) rfl
    have hKc := hK.sub (tys' := [(cI, .int)]) [0] rfl
    have hFc := va_free (wc := [(d0, .inr (0, [.ref dk, .ref dl, .ref dc, .int N])), (dk, .inl (cI, 6, .inl K)), (dl, .inl (cI, 6, .inl L)), (dc, .inl (cI, 6, .inl C))]) hD hS hA [1, 2, 3, 4] rfl
    refine va_calli (va_runV (As := []) (rest := []) ⟨hx, hb, hml, hown, hts⟩ (ctX0_worthOfAll l dC dI cI d0 dk dl dc s.heap.size N K L C (by assumption)) (cwV 0 hts gX3_result_X0_worthOfAll rfl rfl rfl (by decide +kernel) ⟨Nat.le_of_ble_eq_true rfl, Nat.le_of_ble_eq_true rfl⟩) (pre_V hKc hN hPc hDc (RX0, TX0, 4) 0 0 rfl rfl) rfl rfl hl.1 rfl (lv_room (Nat.le_of_ble_eq_true rfl)) dX3_result_36 ⟨Nat.le_of_ble_eq_true rfl, Nat.le_of_ble_eq_true rfl⟩) hS (fun q _ h => hFc q h) hFc (fun r _ t H locs ht hvm hw hB hz1 hk1 hS => ?_)
    try dsimp only at hw
    subst hw
    rw [ht] at hB
    obtain ⟨hP, hD⟩ := rw_join ([(y0, .inr (3, [.ref d0, .ref yp, .int YC, .int YF])), (d0, .inr (0, [.ref dk, .ref dl, .ref dc, .int N])), (dk, .inl (cI, 6, .inl K)), (dl, .inl (cI, 6, .inl L)), (dc, .inl (cI, 6, .inl C)), (yp, .inl (cI, 6, .inl P))]) ([(y0, .inr (3, [.ref d0, .ref yp, .int YC, .int YF])), (d0, .inr (0, [.ref dk, .ref dl, .ref dc, .int N])), (dk, .inl (cI, 6, .inl K)), (dl, .inl (cI, 6, .inl L)), (dc, .inl (cI, 6, .inl C)), (yp, .inl (cI, 6, .inl P))]) ([(d0, .inr (0, [.ref dk, .ref dl, .ref dc, .int N])), (dk, .inl (cI, 6, .inl K)), (dl, .inl (cI, 6, .inl L)), (dc, .inl (cI, 6, .inl C))]) ([(d0, .inr (0, [.ref dk, .ref dl, .ref dc, .int N])), (dk, .inl (cI, 6, .inl K)), (dl, .inl (cI, 6, .inl L)), (dc, .inl (cI, 6, .inl C))]) ([(y0, .inr (3, [.ref d0, .ref yp, .int YC, .int YF])), (yp, .inl (cI, 6, .inl P))]) hP hD [1, 2, 3, 4] [0, 5] [y0, d0, dk, dl, dc, yp] 6 rfl rfl rfl rfl rfl (by decide) rfl rfl hk1 hB
    have hE9 : p3_result YC YF N K L C P i1 = (p0_worthOfAll N K L C) := by unfold p3_result; rw [if_pos c_1_0]
    exact W.iret (v := (p0_worthOfAll N K L C)) hx hb hr (fun t ht hW => ⟨⟨_, (), rfl, by rw [hE9], by show va_P (dC, dI) vwCl _ t.heap; rw [ht]; exact hP⟩, hS.F ht⟩) hS.2.2 dX3_result_39
  · skip
    by_cases c_1_1 : i1 = 1
    · skip
      refine lv_tableIn (off := 39) (tgt := 40) hx hb dX3_result_1 (by rw [c_1_1]; decide) (by rw [c_1_1]; decide) (by rw [c_1_1]; decide) (by decide) ?_
      refine lv_bipush (v := (-9)) hx hb dX3_result_40 (by decide) ?_
      have hE9 : p3_result YC YF N K L C P i1 = (-9) := by unfold p3_result; rw [if_neg c_1_0, if_pos c_1_1]
      exact W.iret (v := (-9)) hx hb hr (fun t ht hW => ⟨⟨_, (), rfl, by rw [hE9], by show va_P (dC, dI) vwCl _ t.heap; rw [ht]; exact hP⟩, hS.F ht⟩) hS.2.2 dX3_result_42
    · skip
      by_cases c_1_2 : i1 = 2
      · skip
        refine lv_tableIn (off := 42) (tgt := 43) hx hb dX3_result_1 (by rw [c_1_2]; decide) (by rw [c_1_2]; decide) (by rw [c_1_2]; decide) (by decide) ?_
        refine lv_aload_n hx hb dX3_result_43 rfl (lv_at hl 0 rfl) ?_
        refine va_get (D := (dC, dI)) (ci := 3) (v := .int YC) (C := RX3) (T := TX3) (N := 4) hx hb hts hin3 hown hK hP 0 rfl rfl 2 (by decide) kf_30 (fun _ h9 => h9) rfl dX3_result_44 ?_
        have hE9 : p3_result YC YF N K L C P i1 = YC := by unfold p3_result; rw [if_neg c_1_0, if_neg c_1_1, if_pos c_1_2]
        exact W.iret (v := YC) hx hb hr (fun t ht hW => ⟨⟨_, (), rfl, by rw [hE9], by show va_P (dC, dI) vwCl _ t.heap; rw [ht]; exact hP⟩, hS.F ht⟩) hS.2.2 dX3_result_47
      · skip
        by_cases c_1_3 : i1 = 3
        · skip
          refine lv_tableIn (off := 47) (tgt := 48) hx hb dX3_result_1 (by rw [c_1_3]; decide) (by rw [c_1_3]; decide) (by rw [c_1_3]; decide) (by decide) ?_
          refine lv_aload_n hx hb dX3_result_48 rfl (lv_at hl 0 rfl) ?_
          refine va_get (D := (dC, dI)) (ci := 3) (v := .int YF) (C := RX3) (T := TX3) (N := 4) hx hb hts hin3 hown hK hP 0 rfl rfl 3 (by decide) kf_34 (fun _ h9 => h9) rfl dX3_result_49 ?_
          have hE9 : p3_result YC YF N K L C P i1 = YF := by unfold p3_result; rw [if_neg c_1_0, if_neg c_1_1, if_neg c_1_2, if_pos c_1_3]
          exact W.iret (v := YF) hx hb hr (fun t ht hW => ⟨⟨_, (), rfl, by rw [hE9], by show va_P (dC, dI) vwCl _ t.heap; rw [ht]; exact hP⟩, hS.F ht⟩) hS.2.2 dX3_result_52
        · skip
          refine lv_tableOut (tgt := 53) hx hb dX3_result_1 (sw_out4 c_1_0 c_1_1 c_1_2 c_1_3) (by decide) ?_
          refine lv_iload_n hx hb dX3_result_53 rfl (lv_at hl 1 rfl) ?_
          refine lv_bipush (v := 20) hx hb dX3_result_54 (by decide) ?_
          refine lv_icmp_lt (tgt := 74) hx hb dX3_result_56 (by decide) (fun c_56 => ?_) (fun c_56 => ?_)
          · skip
            refine lv_aload_n hx hb dX3_result_74 rfl (lv_at hl 0 rfl) ?_
            refine lv_aload_n hx hb dX3_result_75 rfl (lv_at hl 0 rfl) ?_
            refine va_get (D := (dC, dI)) (ci := 3) (v := .ref d0) (C := RX3) (T := TX3) (N := 4) hx hb hts hin3 hown hK hP 0 rfl rfl 0 (by decide) kf_12 (fun _ h9 => h9) rfl dX3_result_76 ?_
            refine va_getN (D := (dC, dI)) (ci := 0) (v := .ref dl) (C := RX0) (T := TX0) (N := 4) hx hb hts hin0 hown hK hP 1 rfl rfl 1 (by decide) hn_60 (fun _ h9 => h9) rfl dX3_result_79 ?_
            refine lv_iload_n hx hb dX3_result_82 rfl (lv_at hl 1 rfl) ?_
            refine lv_bipush (v := 10) hx hb dX3_result_83 (by decide) ?_
            refine lv_isub hx hb dX3_result_85 ?_
            have hPc := hP.sub (ws' := [(y0, .inr (3, [.ref d0, .ref yp, .int YC, .int YF])), (d0, .inr (0, [.ref dk, .ref dl, .ref dc, .int N])), (dl, .inl (cI, 6, .inl L))]) [0, 1, 3] rfl
            have hDc := hD.sub (ws' := [(y0, .inr (3, [.ref d0, .ref yp, .int YC, .int YF])), (d0, .inr (0, [.ref dk, .ref dl, .ref dc, .int N])), (dl, .inl (cI, 6, .inl L))]) [0, 1, 3] (by decide) rfl
            have hKc := hK.sub (tys' := [(cI, .int)]) [0] rfl
            have hFc := va_free (wc := [(y0, .inr (3, [.ref d0, .ref yp, .int YC, .int YF])), (d0, .inr (0, [.ref dk, .ref dl, .ref dc, .int N])), (dl, .inl (cI, 6, .inl L))]) hD hS hA [0, 1, 3] rfl
            refine va_calli (va_runV (As := [.ref dl, .int (i1 - 10)]) (rest := []) ⟨hx, hb, hml, hown, hts⟩ (ctX3_ofOne l dC dI cI y0 d0 yp dk dl dc dl s.heap.size YC YF N L (i1 - 10) (by assumption)) (cwV 2 hts gX3_result_X3_ofOne rfl rfl rfl (by decide +kernel) ⟨Nat.le_of_ble_eq_true rfl, Nat.le_of_ble_eq_true rfl⟩) (pre_V hKc hN hPc hDc (RX3, TX3, 4) 3 0 rfl rfl) rfl rfl hl.1 rfl (lv_room (Nat.le_of_ble_eq_true rfl)) dX3_result_86 ⟨Nat.le_of_ble_eq_true rfl, Nat.le_of_ble_eq_true rfl⟩) hS (fun q _ h => hFc q h) hFc (fun r _ t H locs ht hvm hw hB hz1 hk1 hS => ?_)
            try dsimp only at hw
            subst hw
            rw [ht] at hB
            obtain ⟨hP, hD⟩ := rw_join ([(y0, .inr (3, [.ref d0, .ref yp, .int YC, .int YF])), (d0, .inr (0, [.ref dk, .ref dl, .ref dc, .int N])), (dk, .inl (cI, 6, .inl K)), (dl, .inl (cI, 6, .inl L)), (dc, .inl (cI, 6, .inl C)), (yp, .inl (cI, 6, .inl P))]) ([(y0, .inr (3, [.ref d0, .ref yp, .int YC, .int YF])), (d0, .inr (0, [.ref dk, .ref dl, .ref dc, .int N])), (dk, .inl (cI, 6, .inl K)), (dl, .inl (cI, 6, .inl L)), (dc, .inl (cI, 6, .inl C)), (yp, .inl (cI, 6, .inl P))]) ([(y0, .inr (3, [.ref d0, .ref yp, .int YC, .int YF])), (d0, .inr (0, [.ref dk, .ref dl, .ref dc, .int N])), (dl, .inl (cI, 6, .inl L))]) ([(y0, .inr (3, [.ref d0, .ref yp, .int YC, .int YF])), (d0, .inr (0, [.ref dk, .ref dl, .ref dc, .int N])), (dl, .inl (cI, 6, .inl L))]) ([(dk, .inl (cI, 6, .inl K)), (dc, .inl (cI, 6, .inl C)), (yp, .inl (cI, 6, .inl P))]) hP hD [0, 1, 3] [2, 4, 5] [y0, d0, dk, dl, dc, yp] 6 rfl rfl rfl rfl rfl (by decide) rfl rfl hk1 hB
            have hE9 : p3_result YC YF N K L C P i1 = (p3_ofOne N L (i1 - 10)) := by unfold p3_result; rw [if_neg c_1_0, if_neg c_1_1, if_neg c_1_2, if_neg c_1_3, if_pos c_56]
            exact W.iret (v := (p3_ofOne N L (i1 - 10))) hx hb hr (fun t ht hW => ⟨⟨_, (), rfl, by rw [hE9], by show va_P (dC, dI) vwCl _ t.heap; rw [ht]; exact hP⟩, hS.F ht⟩) hS.2.2 dX3_result_89
          · skip
            refine lv_aload_n hx hb dX3_result_59 rfl (lv_at hl 0 rfl) ?_
            refine lv_aload_n hx hb dX3_result_60 rfl (lv_at hl 0 rfl) ?_
            refine va_get (D := (dC, dI)) (ci := 3) (v := .ref yp) (C := RX3) (T := TX3) (N := 4) hx hb hts hin3 hown hK hP 0 rfl rfl 1 (by decide) kf_18 (fun _ h9 => h9) rfl dX3_result_61 ?_
            refine lv_iload_n hx hb dX3_result_64 rfl (lv_at hl 1 rfl) ?_
            refine lv_bipush (v := 20) hx hb dX3_result_65 (by decide) ?_
            refine lv_isub hx hb dX3_result_67 ?_
            have hPc := hP.sub (ws' := [(y0, .inr (3, [.ref d0, .ref yp, .int YC, .int YF])), (d0, .inr (0, [.ref dk, .ref dl, .ref dc, .int N])), (yp, .inl (cI, 6, .inl P))]) [0, 1, 5] rfl
            have hDc := hD.sub (ws' := [(y0, .inr (3, [.ref d0, .ref yp, .int YC, .int YF])), (d0, .inr (0, [.ref dk, .ref dl, .ref dc, .int N])), (yp, .inl (cI, 6, .inl P))]) [0, 1, 5] (by decide) rfl
            have hKc := hK.sub (tys' := [(cI, .int)]) [0] rfl
            have hFc := va_free (wc := [(y0, .inr (3, [.ref d0, .ref yp, .int YC, .int YF])), (d0, .inr (0, [.ref dk, .ref dl, .ref dc, .int N])), (yp, .inl (cI, 6, .inl P))]) hD hS hA [0, 1, 5] rfl
            refine va_calli (va_runV (As := [.ref yp, .int (i1 - 20)]) (rest := []) ⟨hx, hb, hml, hown, hts⟩ (ctX3_ofOne l dC dI cI y0 d0 yp dk dl dc yp s.heap.size YC YF N P (i1 - 20) (by assumption)) (cwV 2 hts gX3_result_X3_ofOne rfl rfl rfl (by decide +kernel) ⟨Nat.le_of_ble_eq_true rfl, Nat.le_of_ble_eq_true rfl⟩) (pre_V hKc hN hPc hDc (RX3, TX3, 4) 3 0 rfl rfl) rfl rfl hl.1 rfl (lv_room (Nat.le_of_ble_eq_true rfl)) dX3_result_68 ⟨Nat.le_of_ble_eq_true rfl, Nat.le_of_ble_eq_true rfl⟩) hS (fun q _ h => hFc q h) hFc (fun r _ t H locs ht hvm hw hB hz1 hk1 hS => ?_)
            try dsimp only at hw
            subst hw
            rw [ht] at hB
            obtain ⟨hP, hD⟩ := rw_join ([(y0, .inr (3, [.ref d0, .ref yp, .int YC, .int YF])), (d0, .inr (0, [.ref dk, .ref dl, .ref dc, .int N])), (dk, .inl (cI, 6, .inl K)), (dl, .inl (cI, 6, .inl L)), (dc, .inl (cI, 6, .inl C)), (yp, .inl (cI, 6, .inl P))]) ([(y0, .inr (3, [.ref d0, .ref yp, .int YC, .int YF])), (d0, .inr (0, [.ref dk, .ref dl, .ref dc, .int N])), (dk, .inl (cI, 6, .inl K)), (dl, .inl (cI, 6, .inl L)), (dc, .inl (cI, 6, .inl C)), (yp, .inl (cI, 6, .inl P))]) ([(y0, .inr (3, [.ref d0, .ref yp, .int YC, .int YF])), (d0, .inr (0, [.ref dk, .ref dl, .ref dc, .int N])), (yp, .inl (cI, 6, .inl P))]) ([(y0, .inr (3, [.ref d0, .ref yp, .int YC, .int YF])), (d0, .inr (0, [.ref dk, .ref dl, .ref dc, .int N])), (yp, .inl (cI, 6, .inl P))]) ([(dk, .inl (cI, 6, .inl K)), (dl, .inl (cI, 6, .inl L)), (dc, .inl (cI, 6, .inl C))]) hP hD [0, 1, 5] [2, 3, 4] [y0, d0, dk, dl, dc, yp] 6 rfl rfl rfl rfl rfl (by decide) rfl rfl hk1 hB
            refine lv_goto (tgt := 89) hx hb dX3_result_71 (by decide) ?_
            have hE9 : p3_result YC YF N K L C P i1 = (p3_ofOne N P (i1 - 20)) := by unfold p3_result; rw [if_neg c_1_0, if_neg c_1_1, if_neg c_1_2, if_neg c_1_3, if_neg c_56]
            exact W.iret (v := (p3_ofOne N P (i1 - 20))) hx hb hr (fun t ht hW => ⟨⟨_, (), rfl, by rw [hE9], by show va_P (dC, dI) vwCl _ t.heap; rw [ht]; exact hP⟩, hS.F ht⟩) hS.2.2 dX3_result_89

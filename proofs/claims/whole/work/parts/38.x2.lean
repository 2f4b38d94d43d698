def p2_isSheet (i0 : Int32) : Int32 :=
  if i0 < 0 then
    0
  else
    if 4 ≤ i0 then
      0
    else
      1
abbrev rmX2_isSheet : Room := { frames := 0, cells := 0, slots := 0, locals := 0 }
abbrev QX2_isSheet (dC : Nat → ClassId) (dI : Nat → Nat → Nat) (A : Nat → Prop) (cI : ClassId) (i0 : Int32) : Array Value → State → Outcome → State → Prop := va_Qi (fun (r : Int32) (_ : Unit) => r = p2_isSheet i0) (fun (_ : Unit) (t : State) => va_P (dC, dI) vwCl ([]) t.heap) A
set_option maxHeartbeats 4000000 in
set_option maxRecDepth 100000 in
theorem ctX2_isSheet (l : Launch) (dC : Nat → ClassId) (dI : Nat → Nat → Nat) (cI : ClassId) (sz : Nat) (i0 : Int32) : Met l yX2_isSheet wsX2_isSheet rmX2_isSheet (va_Pc [.int i0] (cP dC dI [(cI, .int)] ([]) sz)) (QX2_isSheet dC dI (va_A ([]) sz) cI i0) 0 0 (va_A ([]) sz) := by
  refine Met.ofW (cc := cX2_isSheet) (maxL := 1) (ret := (some .boolean)) (by decide) rfl ?_
  intro p e s m args below meth c s₁ B hml hv
  obtain ⟨rfl, hsz, hP, hK, hD0, hN⟩ := hv
  have hx := B.exec
  have hb := B.bytes
  have hr := B.returns
  have hts := atoms_spec (ws := wsX2_isSheet) B.pre
  have hown : s.vm.findClass RX2 = some m.cls := findClass_of_methodNamed B.named
  have hlocks := B.notSynchronized
  subst hsz
  have hD := hD0.self (sz := s.heap.size)
  generalize hAe : va_A ([]) s.heap.size = A at hD ⊢
  have hA : ∀ q : Nat, s.heap.size ≤ q → A q := fun q h => by rw [← hAe]; exact Or.inr h
  have hS : va_S A s.heap s.heap [] := va_S.rf
  have hP : va_P (dC, dI) vwCl ([]) s.heap := hP
  have hl := lv_entry ([.int i0]) (n := 1) (Nat.le_of_ble_eq_true rfl)
  rw [lg_entry_eq]
  generalize (lg_sl ([.int i0]) ++ List.replicate (1 - (lg_sl ([.int i0])).length) Slot.unset).toArray = ls at hl ⊢
  have hl : lv_has ls 1 [(0, .int i0)] := hl
  refine lv_iload_n hx hb dX2_isSheet_0 rfl (lv_at hl 0 rfl) ?_
  refine lv_if_lt (tgt := 13) hx hb dX2_isSheet_1 (by decide) (fun c_1 => ?_) (fun c_1 => ?_)
  · skip
    refine lv_iconst (v := 0) hx hb dX2_isSheet_13 (by decide) ?_
    have hE9 : p2_isSheet i0 = 0 := by unfold p2_isSheet; rw [if_pos c_1]
    exact W.zret (v := 0) hx hb hr (by decide +kernel) (fun t ht hW => ⟨⟨_, (), rfl, by rw [hE9], by show va_P (dC, dI) vwCl _ t.heap; rw [ht]; exact hP⟩, hS.F ht⟩) hS.2.2 dX2_isSheet_14
  · skip
    refine lv_iload_n hx hb dX2_isSheet_4 rfl (lv_at hl 0 rfl) ?_
    refine lv_iconst (v := 4) hx hb dX2_isSheet_5 (by decide) ?_
    refine lv_icmp_ge (tgt := 13) hx hb dX2_isSheet_6 (by decide) (fun c_6 => ?_) (fun c_6 => ?_)
    · skip
      refine lv_iconst (v := 0) hx hb dX2_isSheet_13 (by decide) ?_
      have hE9 : p2_isSheet i0 = 0 := by unfold p2_isSheet; rw [if_neg c_1, if_pos c_6]
      exact W.zret (v := 0) hx hb hr (by decide +kernel) (fun t ht hW => ⟨⟨_, (), rfl, by rw [hE9], by show va_P (dC, dI) vwCl _ t.heap; rw [ht]; exact hP⟩, hS.F ht⟩) hS.2.2 dX2_isSheet_14
    · skip
      refine lv_iconst (v := 1) hx hb dX2_isSheet_9 (by decide) ?_
      refine lv_goto (tgt := 14) hx hb dX2_isSheet_10 (by decide) ?_
      have hE9 : p2_isSheet i0 = 1 := by unfold p2_isSheet; rw [if_neg c_1, if_neg c_6]
      exact W.zret (v := 1) hx hb hr (by decide +kernel) (fun t ht hW => ⟨⟨_, (), rfl, by rw [hE9], by show va_P (dC, dI) vwCl _ t.heap; rw [ht]; exact hP⟩, hS.F ht⟩) hS.2.2 dX2_isSheet_14

def p2_isLane (i0 : Int32) : Int32 :=
  if i0 < 0 then
    0
  else
    if 2 < i0 then
      0
    else
      1
abbrev rmX2_isLane : Room := { frames := 0, cells := 0, slots := 0, locals := 0 }
abbrev QX2_isLane (dC : Nat → ClassId) (dI : Nat → Nat → Nat) (A : Nat → Prop) (cI : ClassId) (i0 : Int32) : Array Value → State → Outcome → State → Prop := va_Qi (fun (r : Int32) (_ : Unit) => r = p2_isLane i0) (fun (_ : Unit) (t : State) => va_P (dC, dI) vwCl ([]) t.heap) A
set_option maxHeartbeats 4000000 in
set_option maxRecDepth 100000 in
theorem ctX2_isLane (l : Launch) (dC : Nat → ClassId) (dI : Nat → Nat → Nat) (cI : ClassId) (sz : Nat) (i0 : Int32) : Met l yX2_isLane wsX2_isLane rmX2_isLane (va_Pc [.int i0] (cP dC dI [(cI, .int)] ([]) sz)) (QX2_isLane dC dI (va_A ([]) sz) cI i0) 0 0 (va_A ([]) sz) := by
  refine Met.ofW (cc := cX2_isLane) (maxL := 1) (ret := (some .boolean)) (by decide) rfl ?_
  intro p e s m args below meth c s₁ B hml hv
  obtain ⟨rfl, hsz, hP, hK, hD0, hN⟩ := hv
  have hx := B.exec
  have hb := B.bytes
  have hr := B.returns
  have hts := atoms_spec (ws := wsX2_isLane) B.pre
  have hown : s.vm.findClass RX2 = some m.cls := findClass_of_methodNamed B.named
  have hlocks := B.notSynchronized
  subst hsz
  have hD := hD0.self (sz := s.heap.size)
  generalize hAe : va_A ([]) s.heap.size = A at hD ⊢
  have hA : ∀ q : Nat, s.heap.size ≤ q → A q := fun q h => by rw [← hAe]; exact Or.inr h
  have hS : va_S A s.heap s.heap [] := va_S.rf
  have hP : va_P (dC, dI) vwCl ([]) s.heap := hP
  have hl := lv_entry ([.int i0]) (n := 1) (Nat.le_of_ble_eq_true rfl)
  rw [lg_entry_eq]
  generalize (lg_sl ([.int i0]) ++ List.replicate (1 - (lg_sl ([.int i0])).length) Slot.unset).toArray = ls at hl ⊢
  have hl : lv_has ls 1 [(0, .int i0)] := hl
  refine lv_iload_n hx hb dX2_isLane_0 rfl (lv_at hl 0 rfl) ?_
  refine lv_if_lt (tgt := 13) hx hb dX2_isLane_1 (by decide) (fun c_1 => ?_) (fun c_1 => ?_)
  · skip
    refine lv_iconst (v := 0) hx hb dX2_isLane_13 (by decide) ?_
    have hE9 : p2_isLane i0 = 0 := by unfold p2_isLane; rw [if_pos c_1]
    exact W.zret (v := 0) hx hb hr (by decide +kernel) (fun t ht hW => ⟨⟨_, (), rfl, by rw [hE9], by show va_P (dC, dI) vwCl _ t.heap; rw [ht]; exact hP⟩, hS.F ht⟩) hS.2.2 dX2_isLane_14
  · skip
    refine lv_iload_n hx hb dX2_isLane_4 rfl (lv_at hl 0 rfl) ?_
    refine lv_iconst (v := 2) hx hb dX2_isLane_5 (by decide) ?_
    refine lv_icmp_gt (tgt := 13) hx hb dX2_isLane_6 (by decide) (fun c_6 => ?_) (fun c_6 => ?_)
    · skip
      refine lv_iconst (v := 0) hx hb dX2_isLane_13 (by decide) ?_
      have hE9 : p2_isLane i0 = 0 := by unfold p2_isLane; rw [if_neg c_1, if_pos c_6]
      exact W.zret (v := 0) hx hb hr (by decide +kernel) (fun t ht hW => ⟨⟨_, (), rfl, by rw [hE9], by show va_P (dC, dI) vwCl _ t.heap; rw [ht]; exact hP⟩, hS.F ht⟩) hS.2.2 dX2_isLane_14
    · skip
      refine lv_iconst (v := 1) hx hb dX2_isLane_9 (by decide) ?_
      refine lv_goto (tgt := 14) hx hb dX2_isLane_10 (by decide) ?_
      have hE9 : p2_isLane i0 = 1 := by unfold p2_isLane; rw [if_neg c_1, if_neg c_6]
      exact W.zret (v := 1) hx hb hr (by decide +kernel) (fun t ht hW => ⟨⟨_, (), rfl, by rw [hE9], by show va_P (dC, dI) vwCl _ t.heap; rw [ht]; exact hP⟩, hS.F ht⟩) hS.2.2 dX2_isLane_14

def p2_isNothing (LA : Nat → Int32) (i1 : Int32) : Int32 :=
  if (LA i1.toNatClampNeg) = (-1) then
    1
  else
    0
abbrev rmX2_isNothing : Room := { frames := 0, cells := 0, slots := 0, locals := 0 }
abbrev QX2_isNothing (dC : Nat → ClassId) (dI : Nat → Nat → Nat) (A : Nat → Prop) (cI : ClassId) (cR : ClassId) (rr : Nat → Nat) (w0 : Nat) (wr : Nat) (wl : Nat) (wn : Nat) (M : Nat → Nat → Int32) (LA : Nat → Int32) (LE : Nat → Int32) (i1 : Int32) : Array Value → State → Outcome → State → Prop := va_Qi (fun (r : Int32) (_ : Unit) => r = p2_isNothing LA i1) (fun (_ : Unit) (t : State) => va_P (dC, dI) vwCl (rowsW cI rr M ++ [(w0, .inr (2, [.ref wr, .ref wl, .ref wn])), (wr, .inl (cR, 4, .inr (.inr (.inr (.inr (fun i => if i < 4 then some (rr i) else none)))))), (wl, .inl (cI, 4, .inl LA)), (wn, .inl (cI, 4, .inl LE))]) t.heap) A
set_option maxHeartbeats 4000000 in
set_option maxRecDepth 100000 in
theorem ctX2_isNothing (l : Launch) (dC : Nat → ClassId) (dI : Nat → Nat → Nat) (cI : ClassId) (cR : ClassId) (rr : Nat → Nat) (w0 : Nat) (wr : Nat) (wl : Nat) (wn : Nat) (sz : Nat) (M : Nat → Nat → Int32) (LA : Nat → Int32) (LE : Nat → Int32) (i1 : Int32) (hi1 : vp_in i1 4) : Met l yX2_isNothing wsX2_isNothing rmX2_isNothing (va_Pc [.ref w0, .int i1] (cP dC dI [(cI, .int), (cR, .array .int)] (rowsW cI rr M ++ [(w0, .inr (2, [.ref wr, .ref wl, .ref wn])), (wr, .inl (cR, 4, .inr (.inr (.inr (.inr (fun i => if i < 4 then some (rr i) else none)))))), (wl, .inl (cI, 4, .inl LA)), (wn, .inl (cI, 4, .inl LE))]) sz)) (QX2_isNothing dC dI (va_A (rowsW cI rr M ++ [(w0, .inr (2, [.ref wr, .ref wl, .ref wn])), (wr, .inl (cR, 4, .inr (.inr (.inr (.inr (fun i => if i < 4 then some (rr i) else none)))))), (wl, .inl (cI, 4, .inl LA)), (wn, .inl (cI, 4, .inl LE))]) sz) cI cR rr w0 wr wl wn M LA LE i1) 0 0 (va_A (rowsW cI rr M ++ [(w0, .inr (2, [.ref wr, .ref wl, .ref wn])), (wr, .inl (cR, 4, .inr (.inr (.inr (.inr (fun i => if i < 4 then some (rr i) else none)))))), (wl, .inl (cI, 4, .inl LA)), (wn, .inl (cI, 4, .inl LE))]) sz) := by
  refine Met.ofW (cc := cX2_isNothing) (maxL := 2) (ret := (some .boolean)) (by decide) rfl ?_
  intro p e s m args below meth c s₁ B hml hv
  obtain ⟨rfl, hsz, hP, hK, hD0, hN⟩ := hv
  have hx := B.exec
  have hb := B.bytes
  have hr := B.returns
  have hts := atoms_spec (ws := wsX2_isNothing) B.pre
  have hown : s.vm.findClass RX2 = some m.cls := findClass_of_methodNamed B.named
  have hlocks := B.notSynchronized
  subst hsz
  have hD := hD0.self (sz := s.heap.size)
  generalize hAe : va_A (rowsW cI rr M ++ [(w0, .inr (2, [.ref wr, .ref wl, .ref wn])), (wr, .inl (cR, 4, .inr (.inr (.inr (.inr (fun i => if i < 4 then some (rr i) else none)))))), (wl, .inl (cI, 4, .inl LA)), (wn, .inl (cI, 4, .inl LE))]) s.heap.size = A at hD ⊢
  have hA : ∀ q : Nat, s.heap.size ≤ q → A q := fun q h => by rw [← hAe]; exact Or.inr h
  have hS : va_S A s.heap s.heap [] := va_S.rf
  have hP : va_P (dC, dI) vwCl (rowsW cI rr M ++ [(w0, .inr (2, [.ref wr, .ref wl, .ref wn])), (wr, .inl (cR, 4, .inr (.inr (.inr (.inr (fun i => if i < 4 then some (rr i) else none)))))), (wl, .inl (cI, 4, .inl LA)), (wn, .inl (cI, 4, .inl LE))]) s.heap := hP
  have hin2 : ∀ w ∈ wsX20, w ∈ wsX2_isNothing := by decide +kernel
  have kf_16 := hts (.fieldLink RX2 16 "RicherChange$Sheets" "lanes" "[I") (by decide +kernel)
  have hl := lv_entry ([.ref w0, .int i1]) (n := 2) (Nat.le_of_ble_eq_true rfl)
  rw [lg_entry_eq]
  generalize (lg_sl ([.ref w0, .int i1]) ++ List.replicate (2 - (lg_sl ([.ref w0, .int i1])).length) Slot.unset).toArray = ls at hl ⊢
  have hl : lv_has ls 2 [(0, .ref w0), (1, .int i1)] := hl
  refine lv_aload_n hx hb dX2_isNothing_0 rfl (lv_at hl 0 rfl) ?_
  refine va_get (D := (dC, dI)) (ci := 2) (v := .ref wl) (C := RX2) (T := TX2) (N := 3) hx hb hts hin2 hown hK hP 4 rfl rfl 1 (by decide) kf_16 (fun _ h9 => h9) rfl dX2_isNothing_1 ?_
  refine lv_iload_n hx hb dX2_isNothing_4 rfl (lv_at hl 1 rfl) ?_
  refine va_iald hx hb hK hP 6 0 rfl rfl (by assumption) dX2_isNothing_5 ?_
  refine lv_iconst (v := (-1)) hx hb dX2_isNothing_6 (by decide) ?_
  refine lv_icmp_ne (tgt := 14) hx hb dX2_isNothing_7 (by decide) (fun c_7 => ?_) (fun c_7 => ?_)
  · skip
    refine lv_iconst (v := 0) hx hb dX2_isNothing_14 (by decide) ?_
    have hE9 : p2_isNothing LA i1 = 0 := by unfold p2_isNothing; rw [if_neg c_7]
    exact W.zret (v := 0) hx hb hr (by decide +kernel) (fun t ht hW => ⟨⟨_, (), rfl, by rw [hE9], by show va_P (dC, dI) vwCl _ t.heap; rw [ht]; exact hP⟩, hS.F ht⟩) hS.2.2 dX2_isNothing_15
  · skip
    refine lv_iconst (v := 1) hx hb dX2_isNothing_10 (by decide) ?_
    refine lv_goto (tgt := 15) hx hb dX2_isNothing_11 (by decide) ?_
    have hE9 : p2_isNothing LA i1 = 1 := by unfold p2_isNothing; rw [if_pos c_7]
    exact W.zret (v := 1) hx hb hr (by decide +kernel) (fun t ht hW => ⟨⟨_, (), rfl, by rw [hE9], by show va_P (dC, dI) vwCl _ t.heap; rw [ht]; exact hP⟩, hS.F ht⟩) hS.2.2 dX2_isNothing_15

def p2_renew_l3 (M : Nat → Nat → Int32) (LA : Nat → Int32) (LE : Nat → Int32) (i1 : Int32) (i2 : Int32) (i3 : Int32) : Nat → Int32 → (Nat → Nat → Int32) → (Nat → Nat → Int32) × (Nat → Int32) × (Nat → Int32)
  | 0, _, _ => (fun _ _ => 0, fun _ => 0, fun _ => 0)
  | n + 1, v4, M_ =>
    if 60 ≤ v4 then
      (M_, (upd LA i1.toNatClampNeg i2), (upd LE i1.toNatClampNeg i3))
    else
      p2_renew_l3 M LA LE i1 i2 i3 n (v4 + 1) (setr M_ i1.toNatClampNeg (upd (M_ i1.toNatClampNeg) v4.toNatClampNeg 0))
theorem p2_renew_l3_s (M : Nat → Nat → Int32) (LA : Nat → Int32) (LE : Nat → Int32) (i1 : Int32) (i2 : Int32) (i3 : Int32) (n : Nat) (v4 : Int32) (M_ : Nat → Nat → Int32) : p2_renew_l3 M LA LE i1 i2 i3 (n + 1) v4 M_ =
    (if 60 ≤ v4 then
      (M_, (upd LA i1.toNatClampNeg i2), (upd LE i1.toNatClampNeg i3))
    else
      p2_renew_l3 M LA LE i1 i2 i3 n (v4 + 1) (setr M_ i1.toNatClampNeg (upd (M_ i1.toNatClampNeg) v4.toNatClampNeg 0))) := rfl
def p2_renew (M : Nat → Nat → Int32) (LA : Nat → Int32) (LE : Nat → Int32) (i1 : Int32) (i2 : Int32) (i3 : Int32) : (Nat → Nat → Int32) × (Nat → Int32) × (Nat → Int32) :=
  p2_renew_l3 M LA LE i1 i2 i3 61 0 M
abbrev rmX2_renew : Room := { frames := 0, cells := 0, slots := 0, locals := 0 }
abbrev QX2_renew (dC : Nat → ClassId) (dI : Nat → Nat → Nat) (A : Nat → Prop) (cI : ClassId) (cR : ClassId) (rr : Nat → Nat) (w0 : Nat) (wr : Nat) (wl : Nat) (wn : Nat) (M : Nat → Nat → Int32) (LA : Nat → Int32) (LE : Nat → Int32) (i1 : Int32) (i2 : Int32) (i3 : Int32) : Array Value → State → Outcome → State → Prop := va_Qv (fun (_ : Unit) => True) (fun (_ : Unit) (t : State) => va_P (dC, dI) vwCl (rowsW cI rr ((p2_renew M LA LE i1 i2 i3).1) ++ [(w0, .inr (2, [.ref wr, .ref wl, .ref wn])), (wr, .inl (cR, 4, .inr (.inr (.inr (.inr (fun i => if i < 4 then some (rr i) else none)))))), (wl, .inl (cI, 4, .inl ((p2_renew M LA LE i1 i2 i3).2.1))), (wn, .inl (cI, 4, .inl ((p2_renew M LA LE i1 i2 i3).2.2)))]) t.heap) A
set_option maxHeartbeats 4000000 in
set_option maxRecDepth 100000 in
theorem ctX2_renew (l : Launch) (dC : Nat → ClassId) (dI : Nat → Nat → Nat) (cI : ClassId) (cR : ClassId) (rr : Nat → Nat) (w0 : Nat) (wr : Nat) (wl : Nat) (wn : Nat) (sz : Nat) (M : Nat → Nat → Int32) (LA : Nat → Int32) (LE : Nat → Int32) (i1 : Int32) (i2 : Int32) (i3 : Int32) (hi1 : vp_in i1 4) : Met l yX2_renew wsX2_renew rmX2_renew (va_Pc [.ref w0, .int i1, .int i2, .int i3] (cP dC dI [(cI, .int), (cR, .array .int)] (rowsW cI rr M ++ [(w0, .inr (2, [.ref wr, .ref wl, .ref wn])), (wr, .inl (cR, 4, .inr (.inr (.inr (.inr (fun i => if i < 4 then some (rr i) else none)))))), (wl, .inl (cI, 4, .inl LA)), (wn, .inl (cI, 4, .inl LE))]) sz)) (QX2_renew dC dI (va_A (rowsW cI rr M ++ [(w0, .inr (2, [.ref wr, .ref wl, .ref wn])), (wr, .inl (cR, 4, .inr (.inr (.inr (.inr (fun i => if i < 4 then some (rr i) else none)))))), (wl, .inl (cI, 4, .inl LA)), (wn, .inl (cI, 4, .inl LE))]) sz) cI cR rr w0 wr wl wn M LA LE i1 i2 i3) 0 0 (va_A (rowsW cI rr M ++ [(w0, .inr (2, [.ref wr, .ref wl, .ref wn])), (wr, .inl (cR, 4, .inr (.inr (.inr (.inr (fun i => if i < 4 then some (rr i) else none)))))), (wl, .inl (cI, 4, .inl LA)), (wn, .inl (cI, 4, .inl LE))]) sz) := by
  refine Met.ofW (cc := cX2_renew) (maxL := 5) (ret := none) (by decide) rfl ?_
  intro p e s m args below meth c s₁ B hml hv
  obtain ⟨rfl, hsz, hP, hK, hD0, hN⟩ := hv
  have hx := B.exec
  have hb := B.bytes
  have hr := B.returns
  have hts := atoms_spec (ws := wsX2_renew) B.pre
  have hown : s.vm.findClass RX2 = some m.cls := findClass_of_methodNamed B.named
  have hlocks := B.notSynchronized
  subst hsz
  have hD := hD0.self (sz := s.heap.size)
  generalize hAe : va_A (rowsW cI rr M ++ [(w0, .inr (2, [.ref wr, .ref wl, .ref wn])), (wr, .inl (cR, 4, .inr (.inr (.inr (.inr (fun i => if i < 4 then some (rr i) else none)))))), (wl, .inl (cI, 4, .inl LA)), (wn, .inl (cI, 4, .inl LE))]) s.heap.size = A at hD ⊢
  have hA : ∀ q : Nat, s.heap.size ≤ q → A q := fun q h => by rw [← hAe]; exact Or.inr h
  have hS : va_S A s.heap s.heap [] := va_S.rf
  have hP : va_P (dC, dI) vwCl (rowsW cI rr M ++ [(w0, .inr (2, [.ref wr, .ref wl, .ref wn])), (wr, .inl (cR, 4, .inr (.inr (.inr (.inr (fun i => if i < 4 then some (rr i) else none)))))), (wl, .inl (cI, 4, .inl LA)), (wn, .inl (cI, 4, .inl LE))]) s.heap := hP
  have hin2 : ∀ w ∈ wsX20, w ∈ wsX2_renew := by decide +kernel
  have kf_11 := hts (.fieldLink RX2 11 "RicherChange$Sheets" "rows" "[[I") (by decide +kernel)
  have kf_16 := hts (.fieldLink RX2 16 "RicherChange$Sheets" "lanes" "[I") (by decide +kernel)
  have kf_20 := hts (.fieldLink RX2 20 "RicherChange$Sheets" "lengths" "[I") (by decide +kernel)
  have hl := lv_entry ([.ref w0, .int i1, .int i2, .int i3]) (n := 5) (Nat.le_of_ble_eq_true rfl)
  rw [lg_entry_eq]
  generalize (lg_sl ([.ref w0, .int i1, .int i2, .int i3]) ++ List.replicate (5 - (lg_sl ([.ref w0, .int i1, .int i2, .int i3])).length) Slot.unset).toArray = ls at hl ⊢
  have hl : lv_has ls 5 [(0, .ref w0), (1, .int i1), (2, .int i2), (3, .int i3)] := hl
  have lp_3 : ∀ (n : Nat) (v4 : Int32) (M_ : Nat → Nat → Int32) (H : Heap) (locs : List Loc) (ls : Array Slot), (up v4 60 n) → va_P (dC, dI) vwCl (rowsW cI rr M_ ++ [(w0, .inr (2, [.ref wr, .ref wl, .ref wn])), (wr, .inl (cR, 4, .inr (.inr (.inr (.inr (fun i => if i < 4 then some (rr i) else none)))))), (wl, .inl (cI, 4, .inl LA)), (wn, .inl (cI, 4, .inl LE))]) H → va_D A (rowsW cI rr M_ ++ [(w0, .inr (2, [.ref wr, .ref wl, .ref wn])), (wr, .inl (cR, 4, .inr (.inr (.inr (.inr (fun i => if i < 4 then some (rr i) else none)))))), (wl, .inl (cI, 4, .inl LA)), (wn, .inl (cI, 4, .inl LE))]) → va_S A s.heap H locs → lv_has ls 5 [(4, .int v4), (0, .ref w0), (1, .int i1), (2, .int i2), (3, .int i3)] → p2_renew M LA LE i1 i2 i3 = p2_renew_l3 M LA LE i1 i2 i3 n v4 M_ → W p l e (headSpec wsX2_renew rmX2_renew).room s m [.ref w0, .int i1, .int i2, .int i3].toArray below meth c H locs 0 0 (MQ below (QX2_renew dC dI A cI cR rr w0 wr wl wn M LA LE i1 i2 i3) [.ref w0, .int i1, .int i2, .int i3].toArray s 0 0 A) (F0 m 3 ls []) := by
    intro n
    induction n with
    | zero => intro v4 M_ _ _ _ hu; exact absurd hu up_no
    | succ n ih =>
      intro v4 M_ H locs ls hu hP hD hS hl hE
      refine lv_iload hx hb dX2_renew_3 (lv_at hl 0 rfl) ?_
      refine lv_bipush (v := 60) hx hb dX2_renew_5 (by decide) ?_
      refine lv_icmp_ge (tgt := 26) hx hb dX2_renew_7 (by decide) (fun c_7 => ?_) (fun c_7 => ?_)
      · skip
        refine lv_aload_n hx hb dX2_renew_26 rfl (lv_at hl 1 rfl) ?_
        refine va_get (D := (dC, dI)) (ci := 2) (v := .ref wl) (C := RX2) (T := TX2) (N := 3) hx hb hts hin2 hown hK hP 4 rfl rfl 1 (by decide) kf_16 (fun _ h9 => h9) rfl dX2_renew_27 ?_
        refine lv_iload_n hx hb dX2_renew_30 rfl (lv_at hl 2 rfl) ?_
        refine lv_iload_n hx hb dX2_renew_31 rfl (lv_at hl 3 rfl) ?_
        refine va_iast hx hb hK hP hD hS 6 0 rfl rfl (by assumption) dX2_renew_32 (fun H locs hP hD hS => ?_)
        have hP : va_P (dC, dI) vwCl (rowsW cI rr M_ ++ [(w0, .inr (2, [.ref wr, .ref wl, .ref wn])), (wr, .inl (cR, 4, .inr (.inr (.inr (.inr (fun i => if i < 4 then some (rr i) else none)))))), (wl, .inl (cI, 4, .inl (upd LA i1.toNatClampNeg i2))), (wn, .inl (cI, 4, .inl LE))]) H := hP
        have hD : va_D A (rowsW cI rr M_ ++ [(w0, .inr (2, [.ref wr, .ref wl, .ref wn])), (wr, .inl (cR, 4, .inr (.inr (.inr (.inr (fun i => if i < 4 then some (rr i) else none)))))), (wl, .inl (cI, 4, .inl (upd LA i1.toNatClampNeg i2))), (wn, .inl (cI, 4, .inl LE))]) := hD
        refine lv_aload_n hx hb dX2_renew_33 rfl (lv_at hl 1 rfl) ?_
        refine va_get (D := (dC, dI)) (ci := 2) (v := .ref wn) (C := RX2) (T := TX2) (N := 3) hx hb hts hin2 hown hK hP 4 rfl rfl 2 (by decide) kf_20 (fun _ h9 => h9) rfl dX2_renew_34 ?_
        refine lv_iload_n hx hb dX2_renew_37 rfl (lv_at hl 2 rfl) ?_
        refine lv_iload_n hx hb dX2_renew_38 rfl (lv_at hl 4 rfl) ?_
        refine va_iast hx hb hK hP hD hS 7 0 rfl rfl (by assumption) dX2_renew_39 (fun H locs hP hD hS => ?_)
        have hP : va_P (dC, dI) vwCl (rowsW cI rr M_ ++ [(w0, .inr (2, [.ref wr, .ref wl, .ref wn])), (wr, .inl (cR, 4, .inr (.inr (.inr (.inr (fun i => if i < 4 then some (rr i) else none)))))), (wl, .inl (cI, 4, .inl (upd LA i1.toNatClampNeg i2))), (wn, .inl (cI, 4, .inl (upd LE i1.toNatClampNeg i3)))]) H := hP
        have hD : va_D A (rowsW cI rr M_ ++ [(w0, .inr (2, [.ref wr, .ref wl, .ref wn])), (wr, .inl (cR, 4, .inr (.inr (.inr (.inr (fun i => if i < 4 then some (rr i) else none)))))), (wl, .inl (cI, 4, .inl (upd LA i1.toNatClampNeg i2))), (wn, .inl (cI, 4, .inl (upd LE i1.toNatClampNeg i3)))]) := hD
        have hE9 : p2_renew M LA LE i1 i2 i3 = (M_, (upd LA i1.toNatClampNeg i2), (upd LE i1.toNatClampNeg i3)) := hE.trans (by rw [p2_renew_l3_s, if_pos c_7])
        exact W.vret hx hb hr (fun t ht hW => ⟨⟨(), rfl, trivial, by show va_P (dC, dI) vwCl _ t.heap; rw [ht, hE9]; exact hP⟩, hS.F ht⟩) hS.2.2 dX2_renew_40
      · skip
        have j4 : vp_in v4 60 := up_in 60 hu c_7 (by decide)
        refine lv_aload_n hx hb dX2_renew_10 rfl (lv_at hl 1 rfl) ?_
        refine va_get (D := (dC, dI)) (ci := 2) (v := .ref wr) (C := RX2) (T := TX2) (N := 3) hx hb hts hin2 hown hK hP 4 rfl rfl 0 (by decide) kf_11 (fun _ h9 => h9) rfl dX2_renew_11 ?_
        refine lv_iload_n hx hb dX2_renew_14 rfl (lv_at hl 2 rfl) ?_
        refine va_alda (v := rr i1.toNatClampNeg) hx hb hK hP 5 1 rfl rfl hi1 (if_pos (vp_lt hi1)) dX2_renew_15 ?_
        refine lv_iload hx hb dX2_renew_16 (lv_at hl 0 rfl) ?_
        refine lv_iconst (v := 0) hx hb dX2_renew_18 (by decide) ?_
        refine va_iast hx hb hK hP hD hS i1.toNatClampNeg 0 (rows_get cI rr M_ ([(w0, .inr (2, [.ref wr, .ref wl, .ref wn])), (wr, .inl (cR, 4, .inr (.inr (.inr (.inr (fun i => if i < 4 then some (rr i) else none)))))), (wl, .inl (cI, 4, .inl LA)), (wn, .inl (cI, 4, .inl LE))]) (vp_lt hi1)) rfl (by assumption) dX2_renew_19 (fun H locs hP hD hS => ?_)
        rw [rows_set cI rr M_ ([(w0, .inr (2, [.ref wr, .ref wl, .ref wn])), (wr, .inl (cR, 4, .inr (.inr (.inr (.inr (fun i => if i < 4 then some (rr i) else none)))))), (wl, .inl (cI, 4, .inl LA)), (wn, .inl (cI, 4, .inl LE))]) (vp_lt hi1)] at hP hD
        have hP : va_P (dC, dI) vwCl (rowsW cI rr (setr M_ i1.toNatClampNeg (upd (M_ i1.toNatClampNeg) v4.toNatClampNeg 0)) ++ [(w0, .inr (2, [.ref wr, .ref wl, .ref wn])), (wr, .inl (cR, 4, .inr (.inr (.inr (.inr (fun i => if i < 4 then some (rr i) else none)))))), (wl, .inl (cI, 4, .inl LA)), (wn, .inl (cI, 4, .inl LE))]) H := hP
        have hD : va_D A (rowsW cI rr (setr M_ i1.toNatClampNeg (upd (M_ i1.toNatClampNeg) v4.toNatClampNeg 0)) ++ [(w0, .inr (2, [.ref wr, .ref wl, .ref wn])), (wr, .inl (cR, 4, .inr (.inr (.inr (.inr (fun i => if i < 4 then some (rr i) else none)))))), (wl, .inl (cI, 4, .inl LA)), (wn, .inl (cI, 4, .inl LE))]) := hD
        refine lv_iinc (v := (v4 + 1)) (lv' := [(4, .int (v4 + 1)), (0, .ref w0), (1, .int i1), (2, .int i2), (3, .int i3)]) hx hb dX2_renew_20 hl (k := 0) rfl rfl (by decide) rfl (fun ls hl => ?_)
        refine lv_goto (tgt := 3) hx hb dX2_renew_23 (by decide) ?_
        exact ih (v4 + 1) (setr M_ i1.toNatClampNeg (upd (M_ i1.toNatClampNeg) v4.toNatClampNeg 0)) _ _ _ (up_s hu c_7) hP hD hS (lv_sub hl [0, 1, 2, 3, 4] rfl) (hE.trans (by rw [p2_renew_l3_s, if_neg c_7]))
  refine lv_iconst (v := 0) hx hb dX2_renew_0 (by decide) ?_
  refine lv_istore (lv' := [(4, .int 0), (0, .ref w0), (1, .int i1), (2, .int i2), (3, .int i3)]) hx hb dX2_renew_1 hl (by decide) rfl (fun ls hl => ?_)
  exact lp_3 61 0 M _ _ _ (up_i 60 (by decide) (by decide)) hP hD hS (lv_sub hl [0, 1, 2, 3, 4] rfl) (rfl)

def p2_drop (LA : Nat → Int32) (LE : Nat → Int32) (i1 : Int32) : (Nat → Int32) × (Nat → Int32) :=
  ((upd LA i1.toNatClampNeg (-1)), (upd LE i1.toNatClampNeg 0))
abbrev rmX2_drop : Room := { frames := 0, cells := 0, slots := 0, locals := 0 }
abbrev QX2_drop (dC : Nat → ClassId) (dI : Nat → Nat → Nat) (A : Nat → Prop) (cI : ClassId) (cR : ClassId) (rr : Nat → Nat) (w0 : Nat) (wr : Nat) (wl : Nat) (wn : Nat) (M : Nat → Nat → Int32) (LA : Nat → Int32) (LE : Nat → Int32) (i1 : Int32) : Array Value → State → Outcome → State → Prop := va_Qv (fun (_ : Unit) => True) (fun (_ : Unit) (t : State) => va_P (dC, dI) vwCl (rowsW cI rr M ++ [(w0, .inr (2, [.ref wr, .ref wl, .ref wn])), (wr, .inl (cR, 4, .inr (.inr (.inr (.inr (fun i => if i < 4 then some (rr i) else none)))))), (wl, .inl (cI, 4, .inl ((p2_drop LA LE i1).1))), (wn, .inl (cI, 4, .inl ((p2_drop LA LE i1).2)))]) t.heap) A
set_option maxHeartbeats 4000000 in
set_option maxRecDepth 100000 in
theorem ctX2_drop (l : Launch) (dC : Nat → ClassId) (dI : Nat → Nat → Nat) (cI : ClassId) (cR : ClassId) (rr : Nat → Nat) (w0 : Nat) (wr : Nat) (wl : Nat) (wn : Nat) (sz : Nat) (M : Nat → Nat → Int32) (LA : Nat → Int32) (LE : Nat → Int32) (i1 : Int32) (hi1 : vp_in i1 4) : Met l yX2_drop wsX2_drop rmX2_drop (va_Pc [.ref w0, .int i1] (cP dC dI [(cI, .int), (cR, .array .int)] (rowsW cI rr M ++ [(w0, .inr (2, [.ref wr, .ref wl, .ref wn])), (wr, .inl (cR, 4, .inr (.inr (.inr (.inr (fun i => if i < 4 then some (rr i) else none)))))), (wl, .inl (cI, 4, .inl LA)), (wn, .inl (cI, 4, .inl LE))]) sz)) (QX2_drop dC dI (va_A (rowsW cI rr M ++ [(w0, .inr (2, [.ref wr, .ref wl, .ref wn])), (wr, .inl (cR, 4, .inr (.inr (.inr (.inr (fun i => if i < 4 then some (rr i) else none)))))), (wl, .inl (cI, 4, .inl LA)), (wn, .inl (cI, 4, .inl LE))]) sz) cI cR rr w0 wr wl wn M LA LE i1) 0 0 (va_A (rowsW cI rr M ++ [(w0, .inr (2, [.ref wr, .ref wl, .ref wn])), (wr, .inl (cR, 4, .inr (.inr (.inr (.inr (fun i => if i < 4 then some (rr i) else none)))))), (wl, .inl (cI, 4, .inl LA)), (wn, .inl (cI, 4, .inl LE))]) sz) := by
  refine Met.ofW (cc := cX2_drop) (maxL := 2) (ret := none) (by decide) rfl ?_
  intro p e s m args below meth c s₁ B hml hv
  obtain ⟨rfl, hsz, hP, hK, hD0, hN⟩ := hv
  have hx := B.exec
  have hb := B.bytes
  have hr := B.returns
  have hts := atoms_spec (ws := wsX2_drop) B.pre
  have hown : s.vm.findClass RX2 = some m.cls := findClass_of_methodNamed B.named
  have hlocks := B.notSynchronized
  subst hsz
  have hD := hD0.self (sz := s.heap.size)
  generalize hAe : va_A (rowsW cI rr M ++ [(w0, .inr (2, [.ref wr, .ref wl, .ref wn])), (wr, .inl (cR, 4, .inr (.inr (.inr (.inr (fun i => if i < 4 then some (rr i) else none)))))), (wl, .inl (cI, 4, .inl LA)), (wn, .inl (cI, 4, .inl LE))]) s.heap.size = A at hD ⊢
  have hA : ∀ q : Nat, s.heap.size ≤ q → A q := fun q h => by rw [← hAe]; exact Or.inr h
  have hS : va_S A s.heap s.heap [] := va_S.rf
  have hP : va_P (dC, dI) vwCl (rowsW cI rr M ++ [(w0, .inr (2, [.ref wr, .ref wl, .ref wn])), (wr, .inl (cR, 4, .inr (.inr (.inr (.inr (fun i => if i < 4 then some (rr i) else none)))))), (wl, .inl (cI, 4, .inl LA)), (wn, .inl (cI, 4, .inl LE))]) s.heap := hP
  have hin2 : ∀ w ∈ wsX20, w ∈ wsX2_drop := by decide +kernel
  have kf_16 := hts (.fieldLink RX2 16 "RicherChange$Sheets" "lanes" "[I") (by decide +kernel)
  have kf_20 := hts (.fieldLink RX2 20 "RicherChange$Sheets" "lengths" "[I") (by decide +kernel)
  have hl := lv_entry ([.ref w0, .int i1]) (n := 2) (Nat.le_of_ble_eq_true rfl)
  rw [lg_entry_eq]
  generalize (lg_sl ([.ref w0, .int i1]) ++ List.replicate (2 - (lg_sl ([.ref w0, .int i1])).length) Slot.unset).toArray = ls at hl ⊢
  have hl : lv_has ls 2 [(0, .ref w0), (1, .int i1)] := hl
  refine lv_aload_n hx hb dX2_drop_0 rfl (lv_at hl 0 rfl) ?_
  refine va_get (D := (dC, dI)) (ci := 2) (v := .ref wl) (C := RX2) (T := TX2) (N := 3) hx hb hts hin2 hown hK hP 4 rfl rfl 1 (by decide) kf_16 (fun _ h9 => h9) rfl dX2_drop_1 ?_
  refine lv_iload_n hx hb dX2_drop_4 rfl (lv_at hl 1 rfl) ?_
  refine lv_iconst (v := (-1)) hx hb dX2_drop_5 (by decide) ?_
  refine va_iast hx hb hK hP hD hS 6 0 rfl rfl (by assumption) dX2_drop_6 (fun H locs hP hD hS => ?_)
  have hP : va_P (dC, dI) vwCl (rowsW cI rr M ++ [(w0, .inr (2, [.ref wr, .ref wl, .ref wn])), (wr, .inl (cR, 4, .inr (.inr (.inr (.inr (fun i => if i < 4 then some (rr i) else none)))))), (wl, .inl (cI, 4, .inl (upd LA i1.toNatClampNeg (-1)))), (wn, .inl (cI, 4, .inl LE))]) H := hP
  have hD : va_D A (rowsW cI rr M ++ [(w0, .inr (2, [.ref wr, .ref wl, .ref wn])), (wr, .inl (cR, 4, .inr (.inr (.inr (.inr (fun i => if i < 4 then some (rr i) else none)))))), (wl, .inl (cI, 4, .inl (upd LA i1.toNatClampNeg (-1)))), (wn, .inl (cI, 4, .inl LE))]) := hD
  refine lv_aload_n hx hb dX2_drop_7 rfl (lv_at hl 0 rfl) ?_
  refine va_get (D := (dC, dI)) (ci := 2) (v := .ref wn) (C := RX2) (T := TX2) (N := 3) hx hb hts hin2 hown hK hP 4 rfl rfl 2 (by decide) kf_20 (fun _ h9 => h9) rfl dX2_drop_8 ?_
  refine lv_iload_n hx hb dX2_drop_11 rfl (lv_at hl 1 rfl) ?_
  refine lv_iconst (v := 0) hx hb dX2_drop_12 (by decide) ?_
  refine va_iast hx hb hK hP hD hS 7 0 rfl rfl (by assumption) dX2_drop_13 (fun H locs hP hD hS => ?_)
  have hP : va_P (dC, dI) vwCl (rowsW cI rr M ++ [(w0, .inr (2, [.ref wr, .ref wl, .ref wn])), (wr, .inl (cR, 4, .inr (.inr (.inr (.inr (fun i => if i < 4 then some (rr i) else none)))))), (wl, .inl (cI, 4, .inl (upd LA i1.toNatClampNeg (-1)))), (wn, .inl (cI, 4, .inl (upd LE i1.toNatClampNeg 0)))]) H := hP
  have hD : va_D A (rowsW cI rr M ++ [(w0, .inr (2, [.ref wr, .ref wl, .ref wn])), (wr, .inl (cR, 4, .inr (.inr (.inr (.inr (fun i => if i < 4 then some (rr i) else none)))))), (wl, .inl (cI, 4, .inl (upd LA i1.toNatClampNeg (-1)))), (wn, .inl (cI, 4, .inl (upd LE i1.toNatClampNeg 0)))]) := hD
  have hE9 : p2_drop LA LE i1 = ((upd LA i1.toNatClampNeg (-1)), (upd LE i1.toNatClampNeg 0)) := rfl
  exact W.vret hx hb hr (fun t ht hW => ⟨⟨(), rfl, trivial, by show va_P (dC, dI) vwCl _ t.heap; rw [ht, hE9]; exact hP⟩, hS.F ht⟩) hS.2.2 dX2_drop_14

def p2_laneFault (LA : Nat → Int32) (i1 : Int32) (i2 : Int32) : Int32 :=
  if (p2_isNothing LA i1) = 0 then
    if (LA i1.toNatClampNeg) = i2 then
      0
    else
      2
  else
    1
abbrev rmX2_laneFault : Room := { frames := 1, cells := 0, slots := 0, locals := 21 }
abbrev QX2_laneFault (dC : Nat → ClassId) (dI : Nat → Nat → Nat) (A : Nat → Prop) (cI : ClassId) (cR : ClassId) (rr : Nat → Nat) (w0 : Nat) (wr : Nat) (wl : Nat) (wn : Nat) (M : Nat → Nat → Int32) (LA : Nat → Int32) (LE : Nat → Int32) (i1 : Int32) (i2 : Int32) : Array Value → State → Outcome → State → Prop := va_Qi (fun (r : Int32) (_ : Unit) => r = p2_laneFault LA i1 i2) (fun (_ : Unit) (t : State) => va_P (dC, dI) vwCl (rowsW cI rr M ++ [(w0, .inr (2, [.ref wr, .ref wl, .ref wn])), (wr, .inl (cR, 4, .inr (.inr (.inr (.inr (fun i => if i < 4 then some (rr i) else none)))))), (wl, .inl (cI, 4, .inl LA)), (wn, .inl (cI, 4, .inl LE))]) t.heap) A
set_option maxHeartbeats 4000000 in
set_option maxRecDepth 100000 in
theorem ctX2_laneFault (l : Launch) (dC : Nat → ClassId) (dI : Nat → Nat → Nat) (cI : ClassId) (cR : ClassId) (rr : Nat → Nat) (w0 : Nat) (wr : Nat) (wl : Nat) (wn : Nat) (sz : Nat) (M : Nat → Nat → Int32) (LA : Nat → Int32) (LE : Nat → Int32) (i1 : Int32) (i2 : Int32) (hi1 : vp_in i1 4) : Met l yX2_laneFault wsX2_laneFault rmX2_laneFault (va_Pc [.ref w0, .int i1, .int i2] (cP dC dI [(cI, .int), (cR, .array .int)] (rowsW cI rr M ++ [(w0, .inr (2, [.ref wr, .ref wl, .ref wn])), (wr, .inl (cR, 4, .inr (.inr (.inr (.inr (fun i => if i < 4 then some (rr i) else none)))))), (wl, .inl (cI, 4, .inl LA)), (wn, .inl (cI, 4, .inl LE))]) sz)) (QX2_laneFault dC dI (va_A (rowsW cI rr M ++ [(w0, .inr (2, [.ref wr, .ref wl, .ref wn])), (wr, .inl (cR, 4, .inr (.inr (.inr (.inr (fun i => if i < 4 then some (rr i) else none)))))), (wl, .inl (cI, 4, .inl LA)), (wn, .inl (cI, 4, .inl LE))]) sz) cI cR rr w0 wr wl wn M LA LE i1 i2) 0 0 (va_A (rowsW cI rr M ++ [(w0, .inr (2, [.ref wr, .ref wl, .ref wn])), (wr, .inl (cR, 4, .inr (.inr (.inr (.inr (fun i => if i < 4 then some (rr i) else none)))))), (wl, .inl (cI, 4, .inl LA)), (wn, .inl (cI, 4, .inl LE))]) sz) := by
  refine Met.ofW (cc := cX2_laneFault) (maxL := 3) (ret := (some .int)) (by decide) rfl ?_
  intro p e s m args below meth c s₁ B hml hv
  obtain ⟨rfl, hsz, hP, hK, hD0, hN⟩ := hv
  have hx := B.exec
  have hb := B.bytes
  have hr := B.returns
  have hts := atoms_spec (ws := wsX2_laneFault) B.pre
  have hown : s.vm.findClass RX2 = some m.cls := findClass_of_methodNamed B.named
  have hlocks := B.notSynchronized
  subst hsz
  have hD := hD0.self (sz := s.heap.size)
  generalize hAe : va_A (rowsW cI rr M ++ [(w0, .inr (2, [.ref wr, .ref wl, .ref wn])), (wr, .inl (cR, 4, .inr (.inr (.inr (.inr (fun i => if i < 4 then some (rr i) else none)))))), (wl, .inl (cI, 4, .inl LA)), (wn, .inl (cI, 4, .inl LE))]) s.heap.size = A at hD ⊢
  have hA : ∀ q : Nat, s.heap.size ≤ q → A q := fun q h => by rw [← hAe]; exact Or.inr h
  have hS : va_S A s.heap s.heap [] := va_S.rf
  have hP : va_P (dC, dI) vwCl (rowsW cI rr M ++ [(w0, .inr (2, [.ref wr, .ref wl, .ref wn])), (wr, .inl (cR, 4, .inr (.inr (.inr (.inr (fun i => if i < 4 then some (rr i) else none)))))), (wl, .inl (cI, 4, .inl LA)), (wn, .inl (cI, 4, .inl LE))]) s.heap := hP
  have hin2 : ∀ w ∈ wsX20, w ∈ wsX2_laneFault := by decide +kernel
  have kf_16 := hts (.fieldLink RX2 16 "RicherChange$Sheets" "lanes" "[I") (by decide +kernel)
  have hl := lv_entry ([.ref w0, .int i1, .int i2]) (n := 3) (Nat.le_of_ble_eq_true rfl)
  rw [lg_entry_eq]
  generalize (lg_sl ([.ref w0, .int i1, .int i2]) ++ List.replicate (3 - (lg_sl ([.ref w0, .int i1, .int i2])).length) Slot.unset).toArray = ls at hl ⊢
  have hl : lv_has ls 3 [(0, .ref w0), (1, .int i1), (2, .int i2)] := hl
  refine lv_aload_n hx hb dX2_laneFault_0 rfl (lv_at hl 0 rfl) ?_
  refine lv_iload_n hx hb dX2_laneFault_1 rfl (lv_at hl 1 rfl) ?_
  have hPc := hP.sub (ws' := rowsW cI rr M ++ [(w0, .inr (2, [.ref wr, .ref wl, .ref wn])), (wr, .inl (cR, 4, .inr (.inr (.inr (.inr (fun i => if i < 4 then some (rr i) else none)))))), (wl, .inl (cI, 4, .inl LA)), (wn, .inl (cI, 4, .inl LE))]) [0, 1, 2, 3, 4, 5, 6, 7] rfl
  have hDc := hD.sub (ws' := rowsW cI rr M ++ [(w0, .inr (2, [.ref wr, .ref wl, .ref wn])), (wr, .inl (cR, 4, .inr (.inr (.inr (.inr (fun i => if i < 4 then some (rr i) else none)))))), (wl, .inl (cI, 4, .inl LA)), (wn, .inl (cI, 4, .inl LE))]) [0, 1, 2, 3, 4, 5, 6, 7] (by decide) rfl
  have hKc := hK.sub (tys' := [(cI, .int), (cR, .array .int)]) [0, 1] rfl
  have hFc := va_free (wc := rowsW cI rr M ++ [(w0, .inr (2, [.ref wr, .ref wl, .ref wn])), (wr, .inl (cR, 4, .inr (.inr (.inr (.inr (fun i => if i < 4 then some (rr i) else none)))))), (wl, .inl (cI, 4, .inl LA)), (wn, .inl (cI, 4, .inl LE))]) hD hS hA [0, 1, 2, 3, 4, 5, 6, 7] rfl
  refine va_calli (va_runV (As := [.int i1]) (rest := []) ⟨hx, hb, hml, hown, hts⟩ (ctX2_isNothing l dC dI cI cR rr w0 wr wl wn s.heap.size M LA LE i1 (by assumption)) (cwV 1 hts gX2_laneFault_X2_isNothing rfl rfl rfl (by decide +kernel) ⟨Nat.le_of_ble_eq_true rfl, Nat.le_of_ble_eq_true rfl⟩) (pre_V hKc hN hPc hDc (RX2, TX2, 3) 2 4 rfl rfl) rfl rfl hl.1 rfl (lv_room (Nat.le_of_ble_eq_true rfl)) dX2_laneFault_2 ⟨Nat.le_of_ble_eq_true rfl, Nat.le_of_ble_eq_true rfl⟩) hS (fun q _ h => hFc q h) hFc (fun r _ t H locs ht hvm hw hB hz1 hk1 hS => ?_)
  try dsimp only at hw
  subst hw
  rw [ht] at hB
  obtain ⟨hP, hD⟩ := rw_join (rowsW cI rr M ++ [(w0, .inr (2, [.ref wr, .ref wl, .ref wn])), (wr, .inl (cR, 4, .inr (.inr (.inr (.inr (fun i => if i < 4 then some (rr i) else none)))))), (wl, .inl (cI, 4, .inl LA)), (wn, .inl (cI, 4, .inl LE))]) (rowsW cI rr M ++ [(w0, .inr (2, [.ref wr, .ref wl, .ref wn])), (wr, .inl (cR, 4, .inr (.inr (.inr (.inr (fun i => if i < 4 then some (rr i) else none)))))), (wl, .inl (cI, 4, .inl LA)), (wn, .inl (cI, 4, .inl LE))]) (rowsW cI rr M ++ [(w0, .inr (2, [.ref wr, .ref wl, .ref wn])), (wr, .inl (cR, 4, .inr (.inr (.inr (.inr (fun i => if i < 4 then some (rr i) else none)))))), (wl, .inl (cI, 4, .inl LA)), (wn, .inl (cI, 4, .inl LE))]) (rowsW cI rr M ++ [(w0, .inr (2, [.ref wr, .ref wl, .ref wn])), (wr, .inl (cR, 4, .inr (.inr (.inr (.inr (fun i => if i < 4 then some (rr i) else none)))))), (wl, .inl (cI, 4, .inl LA)), (wn, .inl (cI, 4, .inl LE))]) ([]) hP hD [0, 1, 2, 3, 4, 5, 6, 7] [] [rr 0, rr 1, rr 2, rr 3, w0, wr, wl, wn] 8 rfl rfl rfl rfl rfl (by decide) rfl rfl hk1 hB
  refine lv_if_eq (tgt := 10) hx hb dX2_laneFault_5 (by decide) (fun c_5 => ?_) (fun c_5 => ?_)
  · skip
    refine lv_aload_n hx hb dX2_laneFault_10 rfl (lv_at hl 0 rfl) ?_
    refine va_get (D := (dC, dI)) (ci := 2) (v := .ref wl) (C := RX2) (T := TX2) (N := 3) hx hb hts hin2 hown hK hP 4 rfl rfl 1 (by decide) kf_16 (fun _ h9 => h9) rfl dX2_laneFault_11 ?_
    refine lv_iload_n hx hb dX2_laneFault_14 rfl (lv_at hl 1 rfl) ?_
    refine va_iald hx hb hK hP 6 0 rfl rfl (by assumption) dX2_laneFault_15 ?_
    refine lv_iload_n hx hb dX2_laneFault_16 rfl (lv_at hl 2 rfl) ?_
    refine lv_icmp_ne (tgt := 24) hx hb dX2_laneFault_17 (by decide) (fun c_17 => ?_) (fun c_17 => ?_)
    · skip
      refine lv_iconst (v := 2) hx hb dX2_laneFault_24 (by decide) ?_
      have hE9 : p2_laneFault LA i1 i2 = 2 := by unfold p2_laneFault; rw [if_pos c_5, if_neg c_17]
      exact W.iret (v := 2) hx hb hr (fun t ht hW => ⟨⟨_, (), rfl, by rw [hE9], by show va_P (dC, dI) vwCl _ t.heap; rw [ht]; exact hP⟩, hS.F ht⟩) hS.2.2 dX2_laneFault_25
    · skip
      refine lv_iconst (v := 0) hx hb dX2_laneFault_20 (by decide) ?_
      refine lv_goto (tgt := 25) hx hb dX2_laneFault_21 (by decide) ?_
      have hE9 : p2_laneFault LA i1 i2 = 0 := by unfold p2_laneFault; rw [if_pos c_5, if_pos c_17]
      exact W.iret (v := 0) hx hb hr (fun t ht hW => ⟨⟨_, (), rfl, by rw [hE9], by show va_P (dC, dI) vwCl _ t.heap; rw [ht]; exact hP⟩, hS.F ht⟩) hS.2.2 dX2_laneFault_25
  · skip
    refine lv_iconst (v := 1) hx hb dX2_laneFault_8 (by decide) ?_
    have hE9 : p2_laneFault LA i1 i2 = 1 := by unfold p2_laneFault; rw [if_neg c_5]
    exact W.iret (v := 1) hx hb hr (fun t ht hW => ⟨⟨_, (), rfl, by rw [hE9], by show va_P (dC, dI) vwCl _ t.heap; rw [ht]; exact hP⟩, hS.F ht⟩) hS.2.2 dX2_laneFault_9

def p2_cellFault (LE : Nat → Int32) (i1 : Int32) (i2 : Int32) : Int32 :=
  if i2 < 0 then
    3
  else
    if (LE i1.toNatClampNeg) ≤ i2 then
      3
    else
      0
abbrev rmX2_cellFault : Room := { frames := 0, cells := 0, slots := 0, locals := 0 }
abbrev QX2_cellFault (dC : Nat → ClassId) (dI : Nat → Nat → Nat) (A : Nat → Prop) (cI : ClassId) (cR : ClassId) (rr : Nat → Nat) (w0 : Nat) (wr : Nat) (wl : Nat) (wn : Nat) (M : Nat → Nat → Int32) (LA : Nat → Int32) (LE : Nat → Int32) (i1 : Int32) (i2 : Int32) : Array Value → State → Outcome → State → Prop := va_Qi (fun (r : Int32) (_ : Unit) => r = p2_cellFault LE i1 i2) (fun (_ : Unit) (t : State) => va_P (dC, dI) vwCl (rowsW cI rr M ++ [(w0, .inr (2, [.ref wr, .ref wl, .ref wn])), (wr, .inl (cR, 4, .inr (.inr (.inr (.inr (fun i => if i < 4 then some (rr i) else none)))))), (wl, .inl (cI, 4, .inl LA)), (wn, .inl (cI, 4, .inl LE))]) t.heap) A
set_option maxHeartbeats 4000000 in
set_option maxRecDepth 100000 in
theorem ctX2_cellFault (l : Launch) (dC : Nat → ClassId) (dI : Nat → Nat → Nat) (cI : ClassId) (cR : ClassId) (rr : Nat → Nat) (w0 : Nat) (wr : Nat) (wl : Nat) (wn : Nat) (sz : Nat) (M : Nat → Nat → Int32) (LA : Nat → Int32) (LE : Nat → Int32) (i1 : Int32) (i2 : Int32) (hi1 : vp_in i1 4) : Met l yX2_cellFault wsX2_cellFault rmX2_cellFault (va_Pc [.ref w0, .int i1, .int i2] (cP dC dI [(cI, .int), (cR, .array .int)] (rowsW cI rr M ++ [(w0, .inr (2, [.ref wr, .ref wl, .ref wn])), (wr, .inl (cR, 4, .inr (.inr (.inr (.inr (fun i => if i < 4 then some (rr i) else none)))))), (wl, .inl (cI, 4, .inl LA)), (wn, .inl (cI, 4, .inl LE))]) sz)) (QX2_cellFault dC dI (va_A (rowsW cI rr M ++ [(w0, .inr (2, [.ref wr, .ref wl, .ref wn])), (wr, .inl (cR, 4, .inr (.inr (.inr (.inr (fun i => if i < 4 then some (rr i) else none)))))), (wl, .inl (cI, 4, .inl LA)), (wn, .inl (cI, 4, .inl LE))]) sz) cI cR rr w0 wr wl wn M LA LE i1 i2) 0 0 (va_A (rowsW cI rr M ++ [(w0, .inr (2, [.ref wr, .ref wl, .ref wn])), (wr, .inl (cR, 4, .inr (.inr (.inr (.inr (fun i => if i < 4 then some (rr i) else none)))))), (wl, .inl (cI, 4, .inl LA)), (wn, .inl (cI, 4, .inl LE))]) sz) := by
  refine Met.ofW (cc := cX2_cellFault) (maxL := 3) (ret := (some .int)) (by decide) rfl ?_
  intro p e s m args below meth c s₁ B hml hv
  obtain ⟨rfl, hsz, hP, hK, hD0, hN⟩ := hv
  have hx := B.exec
  have hb := B.bytes
  have hr := B.returns
  have hts := atoms_spec (ws := wsX2_cellFault) B.pre
  have hown : s.vm.findClass RX2 = some m.cls := findClass_of_methodNamed B.named
  have hlocks := B.notSynchronized
  subst hsz
  have hD := hD0.self (sz := s.heap.size)
  generalize hAe : va_A (rowsW cI rr M ++ [(w0, .inr (2, [.ref wr, .ref wl, .ref wn])), (wr, .inl (cR, 4, .inr (.inr (.inr (.inr (fun i => if i < 4 then some (rr i) else none)))))), (wl, .inl (cI, 4, .inl LA)), (wn, .inl (cI, 4, .inl LE))]) s.heap.size = A at hD ⊢
  have hA : ∀ q : Nat, s.heap.size ≤ q → A q := fun q h => by rw [← hAe]; exact Or.inr h
  have hS : va_S A s.heap s.heap [] := va_S.rf
  have hP : va_P (dC, dI) vwCl (rowsW cI rr M ++ [(w0, .inr (2, [.ref wr, .ref wl, .ref wn])), (wr, .inl (cR, 4, .inr (.inr (.inr (.inr (fun i => if i < 4 then some (rr i) else none)))))), (wl, .inl (cI, 4, .inl LA)), (wn, .inl (cI, 4, .inl LE))]) s.heap := hP
  have hin2 : ∀ w ∈ wsX20, w ∈ wsX2_cellFault := by decide +kernel
  have kf_20 := hts (.fieldLink RX2 20 "RicherChange$Sheets" "lengths" "[I") (by decide +kernel)
  have hl := lv_entry ([.ref w0, .int i1, .int i2]) (n := 3) (Nat.le_of_ble_eq_true rfl)
  rw [lg_entry_eq]
  generalize (lg_sl ([.ref w0, .int i1, .int i2]) ++ List.replicate (3 - (lg_sl ([.ref w0, .int i1, .int i2])).length) Slot.unset).toArray = ls at hl ⊢
  have hl : lv_has ls 3 [(0, .ref w0), (1, .int i1), (2, .int i2)] := hl
  refine lv_iload_n hx hb dX2_cellFault_0 rfl (lv_at hl 2 rfl) ?_
  refine lv_if_lt (tgt := 18) hx hb dX2_cellFault_1 (by decide) (fun c_1 => ?_) (fun c_1 => ?_)
  · skip
    refine lv_iconst (v := 3) hx hb dX2_cellFault_18 (by decide) ?_
    have hE9 : p2_cellFault LE i1 i2 = 3 := by unfold p2_cellFault; rw [if_pos c_1]
    exact W.iret (v := 3) hx hb hr (fun t ht hW => ⟨⟨_, (), rfl, by rw [hE9], by show va_P (dC, dI) vwCl _ t.heap; rw [ht]; exact hP⟩, hS.F ht⟩) hS.2.2 dX2_cellFault_19
  · skip
    refine lv_iload_n hx hb dX2_cellFault_4 rfl (lv_at hl 2 rfl) ?_
    refine lv_aload_n hx hb dX2_cellFault_5 rfl (lv_at hl 0 rfl) ?_
    refine va_get (D := (dC, dI)) (ci := 2) (v := .ref wn) (C := RX2) (T := TX2) (N := 3) hx hb hts hin2 hown hK hP 4 rfl rfl 2 (by decide) kf_20 (fun _ h9 => h9) rfl dX2_cellFault_6 ?_
    refine lv_iload_n hx hb dX2_cellFault_9 rfl (lv_at hl 1 rfl) ?_
    refine va_iald hx hb hK hP 7 0 rfl rfl (by assumption) dX2_cellFault_10 ?_
    refine lv_icmp_ge (tgt := 18) hx hb dX2_cellFault_11 (by decide) (fun c_11 => ?_) (fun c_11 => ?_)
    · skip
      refine lv_iconst (v := 3) hx hb dX2_cellFault_18 (by decide) ?_
      have hE9 : p2_cellFault LE i1 i2 = 3 := by unfold p2_cellFault; rw [if_neg c_1, if_pos c_11]
      exact W.iret (v := 3) hx hb hr (fun t ht hW => ⟨⟨_, (), rfl, by rw [hE9], by show va_P (dC, dI) vwCl _ t.heap; rw [ht]; exact hP⟩, hS.F ht⟩) hS.2.2 dX2_cellFault_19
    · skip
      refine lv_iconst (v := 0) hx hb dX2_cellFault_14 (by decide) ?_
      refine lv_goto (tgt := 19) hx hb dX2_cellFault_15 (by decide) ?_
      have hE9 : p2_cellFault LE i1 i2 = 0 := by unfold p2_cellFault; rw [if_neg c_1, if_neg c_11]
      exact W.iret (v := 0) hx hb hr (fun t ht hW => ⟨⟨_, (), rfl, by rw [hE9], by show va_P (dC, dI) vwCl _ t.heap; rw [ht]; exact hP⟩, hS.F ht⟩) hS.2.2 dX2_cellFault_19

def p2_spanFault (LE : Nat → Int32) (i1 : Int32) (i2 : Int32) (i3 : Int32) : Int32 :=
  if i2 < 0 then
    3
  else
    if (LE i1.toNatClampNeg) < i2 then
      3
    else
      if i3 < 0 then
        3
      else
        if ((LE i1.toNatClampNeg) - i2) < i3 then
          3
        else
          0
abbrev rmX2_spanFault : Room := { frames := 0, cells := 0, slots := 0, locals := 0 }
abbrev QX2_spanFault (dC : Nat → ClassId) (dI : Nat → Nat → Nat) (A : Nat → Prop) (cI : ClassId) (cR : ClassId) (rr : Nat → Nat) (w0 : Nat) (wr : Nat) (wl : Nat) (wn : Nat) (M : Nat → Nat → Int32) (LA : Nat → Int32) (LE : Nat → Int32) (i1 : Int32) (i2 : Int32) (i3 : Int32) : Array Value → State → Outcome → State → Prop := va_Qi (fun (r : Int32) (_ : Unit) => r = p2_spanFault LE i1 i2 i3) (fun (_ : Unit) (t : State) => va_P (dC, dI) vwCl (rowsW cI rr M ++ [(w0, .inr (2, [.ref wr, .ref wl, .ref wn])), (wr, .inl (cR, 4, .inr (.inr (.inr (.inr (fun i => if i < 4 then some (rr i) else none)))))), (wl, .inl (cI, 4, .inl LA)), (wn, .inl (cI, 4, .inl LE))]) t.heap) A
set_option maxHeartbeats 4000000 in
set_option maxRecDepth 100000 in
theorem ctX2_spanFault (l : Launch) (dC : Nat → ClassId) (dI : Nat → Nat → Nat) (cI : ClassId) (cR : ClassId) (rr : Nat → Nat) (w0 : Nat) (wr : Nat) (wl : Nat) (wn : Nat) (sz : Nat) (M : Nat → Nat → Int32) (LA : Nat → Int32) (LE : Nat → Int32) (i1 : Int32) (i2 : Int32) (i3 : Int32) (hi1 : vp_in i1 4) : Met l yX2_spanFault wsX2_spanFault rmX2_spanFault (va_Pc [.ref w0, .int i1, .int i2, .int i3] (cP dC dI [(cI, .int), (cR, .array .int)] (rowsW cI rr M ++ [(w0, .inr (2, [.ref wr, .ref wl, .ref wn])), (wr, .inl (cR, 4, .inr (.inr (.inr (.inr (fun i => if i < 4 then some (rr i) else none)))))), (wl, .inl (cI, 4, .inl LA)), (wn, .inl (cI, 4, .inl LE))]) sz)) (QX2_spanFault dC dI (va_A (rowsW cI rr M ++ [(w0, .inr (2, [.ref wr, .ref wl, .ref wn])), (wr, .inl (cR, 4, .inr (.inr (.inr (.inr (fun i => if i < 4 then some (rr i) else none)))))), (wl, .inl (cI, 4, .inl LA)), (wn, .inl (cI, 4, .inl LE))]) sz) cI cR rr w0 wr wl wn M LA LE i1 i2 i3) 0 0 (va_A (rowsW cI rr M ++ [(w0, .inr (2, [.ref wr, .ref wl, .ref wn])), (wr, .inl (cR, 4, .inr (.inr (.inr (.inr (fun i => if i < 4 then some (rr i) else none)))))), (wl, .inl (cI, 4, .inl LA)), (wn, .inl (cI, 4, .inl LE))]) sz) := by
  refine Met.ofW (cc := cX2_spanFault) (maxL := 5) (ret := (some .int)) (by decide) rfl ?_
  intro p e s m args below meth c s₁ B hml hv
  obtain ⟨rfl, hsz, hP, hK, hD0, hN⟩ := hv
  have hx := B.exec
  have hb := B.bytes
  have hr := B.returns
  have hts := atoms_spec (ws := wsX2_spanFault) B.pre
  have hown : s.vm.findClass RX2 = some m.cls := findClass_of_methodNamed B.named
  have hlocks := B.notSynchronized
  subst hsz
  have hD := hD0.self (sz := s.heap.size)
  generalize hAe : va_A (rowsW cI rr M ++ [(w0, .inr (2, [.ref wr, .ref wl, .ref wn])), (wr, .inl (cR, 4, .inr (.inr (.inr (.inr (fun i => if i < 4 then some (rr i) else none)))))), (wl, .inl (cI, 4, .inl LA)), (wn, .inl (cI, 4, .inl LE))]) s.heap.size = A at hD ⊢
  have hA : ∀ q : Nat, s.heap.size ≤ q → A q := fun q h => by rw [← hAe]; exact Or.inr h
  have hS : va_S A s.heap s.heap [] := va_S.rf
  have hP : va_P (dC, dI) vwCl (rowsW cI rr M ++ [(w0, .inr (2, [.ref wr, .ref wl, .ref wn])), (wr, .inl (cR, 4, .inr (.inr (.inr (.inr (fun i => if i < 4 then some (rr i) else none)))))), (wl, .inl (cI, 4, .inl LA)), (wn, .inl (cI, 4, .inl LE))]) s.heap := hP
  have hin2 : ∀ w ∈ wsX20, w ∈ wsX2_spanFault := by decide +kernel
  have kf_20 := hts (.fieldLink RX2 20 "RicherChange$Sheets" "lengths" "[I") (by decide +kernel)
  have hl := lv_entry ([.ref w0, .int i1, .int i2, .int i3]) (n := 5) (Nat.le_of_ble_eq_true rfl)
  rw [lg_entry_eq]
  generalize (lg_sl ([.ref w0, .int i1, .int i2, .int i3]) ++ List.replicate (5 - (lg_sl ([.ref w0, .int i1, .int i2, .int i3])).length) Slot.unset).toArray = ls at hl ⊢
  have hl : lv_has ls 5 [(0, .ref w0), (1, .int i1), (2, .int i2), (3, .int i3)] := hl
  refine lv_iload_n hx hb dX2_spanFault_0 rfl (lv_at hl 2 rfl) ?_
  refine lv_if_lt (tgt := 34) hx hb dX2_spanFault_1 (by decide) (fun c_1 => ?_) (fun c_1 => ?_)
  · skip
    refine lv_iconst (v := 0) hx hb dX2_spanFault_34 (by decide) ?_
    refine lv_istore (lv' := [(4, .int 0), (0, .ref w0), (1, .int i1), (2, .int i2), (3, .int i3)]) hx hb dX2_spanFault_35 hl (by decide) rfl (fun ls hl => ?_)
    refine lv_iload hx hb dX2_spanFault_37 (lv_at hl 0 rfl) ?_
    refine lv_if_eq (tgt := 46) hx hb dX2_spanFault_39 (by decide) (fun c_39 => ?_) (fun c_39 => ?_)
    · skip
      refine lv_iconst (v := 3) hx hb dX2_spanFault_46 (by decide) ?_
      have hE9 : p2_spanFault LE i1 i2 i3 = 3 := by unfold p2_spanFault; rw [if_pos c_1]
      exact W.iret (v := 3) hx hb hr (fun t ht hW => ⟨⟨_, (), rfl, by rw [hE9], by show va_P (dC, dI) vwCl _ t.heap; rw [ht]; exact hP⟩, hS.F ht⟩) hS.2.2 dX2_spanFault_47
    · exact absurd c_39 (by decide)
  · skip
    refine lv_iload_n hx hb dX2_spanFault_4 rfl (lv_at hl 2 rfl) ?_
    refine lv_aload_n hx hb dX2_spanFault_5 rfl (lv_at hl 0 rfl) ?_
    refine va_get (D := (dC, dI)) (ci := 2) (v := .ref wn) (C := RX2) (T := TX2) (N := 3) hx hb hts hin2 hown hK hP 4 rfl rfl 2 (by decide) kf_20 (fun _ h9 => h9) rfl dX2_spanFault_6 ?_
    refine lv_iload_n hx hb dX2_spanFault_9 rfl (lv_at hl 1 rfl) ?_
    refine va_iald hx hb hK hP 7 0 rfl rfl (by assumption) dX2_spanFault_10 ?_
    refine lv_icmp_gt (tgt := 34) hx hb dX2_spanFault_11 (by decide) (fun c_11 => ?_) (fun c_11 => ?_)
    · skip
      refine lv_iconst (v := 0) hx hb dX2_spanFault_34 (by decide) ?_
      refine lv_istore (lv' := [(4, .int 0), (0, .ref w0), (1, .int i1), (2, .int i2), (3, .int i3)]) hx hb dX2_spanFault_35 hl (by decide) rfl (fun ls hl => ?_)
      refine lv_iload hx hb dX2_spanFault_37 (lv_at hl 0 rfl) ?_
      refine lv_if_eq (tgt := 46) hx hb dX2_spanFault_39 (by decide) (fun c_39 => ?_) (fun c_39 => ?_)
      · skip
        refine lv_iconst (v := 3) hx hb dX2_spanFault_46 (by decide) ?_
        have hE9 : p2_spanFault LE i1 i2 i3 = 3 := by unfold p2_spanFault; rw [if_neg c_1, if_pos c_11]
        exact W.iret (v := 3) hx hb hr (fun t ht hW => ⟨⟨_, (), rfl, by rw [hE9], by show va_P (dC, dI) vwCl _ t.heap; rw [ht]; exact hP⟩, hS.F ht⟩) hS.2.2 dX2_spanFault_47
      · exact absurd c_39 (by decide)
    · skip
      refine lv_iload_n hx hb dX2_spanFault_14 rfl (lv_at hl 3 rfl) ?_
      refine lv_if_lt (tgt := 34) hx hb dX2_spanFault_15 (by decide) (fun c_15 => ?_) (fun c_15 => ?_)
      · skip
        refine lv_iconst (v := 0) hx hb dX2_spanFault_34 (by decide) ?_
        refine lv_istore (lv' := [(4, .int 0), (0, .ref w0), (1, .int i1), (2, .int i2), (3, .int i3)]) hx hb dX2_spanFault_35 hl (by decide) rfl (fun ls hl => ?_)
        refine lv_iload hx hb dX2_spanFault_37 (lv_at hl 0 rfl) ?_
        refine lv_if_eq (tgt := 46) hx hb dX2_spanFault_39 (by decide) (fun c_39 => ?_) (fun c_39 => ?_)
        · skip
          refine lv_iconst (v := 3) hx hb dX2_spanFault_46 (by decide) ?_
          have hE9 : p2_spanFault LE i1 i2 i3 = 3 := by unfold p2_spanFault; rw [if_neg c_1, if_neg c_11, if_pos c_15]
          exact W.iret (v := 3) hx hb hr (fun t ht hW => ⟨⟨_, (), rfl, by rw [hE9], by show va_P (dC, dI) vwCl _ t.heap; rw [ht]; exact hP⟩, hS.F ht⟩) hS.2.2 dX2_spanFault_47
        · exact absurd c_39 (by decide)
      · skip
        refine lv_iload_n hx hb dX2_spanFault_18 rfl (lv_at hl 3 rfl) ?_
        refine lv_aload_n hx hb dX2_spanFault_19 rfl (lv_at hl 0 rfl) ?_
        refine va_get (D := (dC, dI)) (ci := 2) (v := .ref wn) (C := RX2) (T := TX2) (N := 3) hx hb hts hin2 hown hK hP 4 rfl rfl 2 (by decide) kf_20 (fun _ h9 => h9) rfl dX2_spanFault_20 ?_
        refine lv_iload_n hx hb dX2_spanFault_23 rfl (lv_at hl 1 rfl) ?_
        refine va_iald hx hb hK hP 7 0 rfl rfl (by assumption) dX2_spanFault_24 ?_
        refine lv_iload_n hx hb dX2_spanFault_25 rfl (lv_at hl 2 rfl) ?_
        refine lv_isub hx hb dX2_spanFault_26 ?_
        refine lv_icmp_gt (tgt := 34) hx hb dX2_spanFault_27 (by decide) (fun c_27 => ?_) (fun c_27 => ?_)
        · skip
          refine lv_iconst (v := 0) hx hb dX2_spanFault_34 (by decide) ?_
          refine lv_istore (lv' := [(4, .int 0), (0, .ref w0), (1, .int i1), (2, .int i2), (3, .int i3)]) hx hb dX2_spanFault_35 hl (by decide) rfl (fun ls hl => ?_)
          refine lv_iload hx hb dX2_spanFault_37 (lv_at hl 0 rfl) ?_
          refine lv_if_eq (tgt := 46) hx hb dX2_spanFault_39 (by decide) (fun c_39 => ?_) (fun c_39 => ?_)
          · skip
            refine lv_iconst (v := 3) hx hb dX2_spanFault_46 (by decide) ?_
            have hE9 : p2_spanFault LE i1 i2 i3 = 3 := by unfold p2_spanFault; rw [if_neg c_1, if_neg c_11, if_neg c_15, if_pos c_27]
            exact W.iret (v := 3) hx hb hr (fun t ht hW => ⟨⟨_, (), rfl, by rw [hE9], by show va_P (dC, dI) vwCl _ t.heap; rw [ht]; exact hP⟩, hS.F ht⟩) hS.2.2 dX2_spanFault_47
          · exact absurd c_39 (by decide)
        · skip
          refine lv_iconst (v := 1) hx hb dX2_spanFault_30 (by decide) ?_
          refine lv_goto (tgt := 35) hx hb dX2_spanFault_31 (by decide) ?_
          refine lv_istore (lv' := [(4, .int 1), (0, .ref w0), (1, .int i1), (2, .int i2), (3, .int i3)]) hx hb dX2_spanFault_35 hl (by decide) rfl (fun ls hl => ?_)
          refine lv_iload hx hb dX2_spanFault_37 (lv_at hl 0 rfl) ?_
          refine lv_if_eq (tgt := 46) hx hb dX2_spanFault_39 (by decide) (fun c_39 => ?_) (fun c_39 => ?_)
          · exact absurd c_39 (by decide)
          · skip
            refine lv_iconst (v := 0) hx hb dX2_spanFault_42 (by decide) ?_
            refine lv_goto (tgt := 47) hx hb dX2_spanFault_43 (by decide) ?_
            have hE9 : p2_spanFault LE i1 i2 i3 = 0 := by unfold p2_spanFault; rw [if_neg c_1, if_neg c_11, if_neg c_15, if_neg c_27]
            exact W.iret (v := 0) hx hb hr (fun t ht hW => ⟨⟨_, (), rfl, by rw [hE9], by show va_P (dC, dI) vwCl _ t.heap; rw [ht]; exact hP⟩, hS.F ht⟩) hS.2.2 dX2_spanFault_47

def p2_cut (i0 : Int32) (i1 : Int32) : Int32 :=
  if i0 = 0 then
    i1.toInt8.toInt32
  else
    if i0 = 1 then
      i1.toInt16.toInt32
    else
      i1
abbrev rmX2_cut : Room := { frames := 0, cells := 0, slots := 0, locals := 0 }
abbrev QX2_cut (dC : Nat → ClassId) (dI : Nat → Nat → Nat) (A : Nat → Prop) (cI : ClassId) (i0 : Int32) (i1 : Int32) : Array Value → State → Outcome → State → Prop := va_Qi (fun (r : Int32) (_ : Unit) => r = p2_cut i0 i1) (fun (_ : Unit) (t : State) => va_P (dC, dI) vwCl ([]) t.heap) A
set_option maxHeartbeats 4000000 in
set_option maxRecDepth 100000 in
theorem ctX2_cut (l : Launch) (dC : Nat → ClassId) (dI : Nat → Nat → Nat) (cI : ClassId) (sz : Nat) (i0 : Int32) (i1 : Int32) : Met l yX2_cut wsX2_cut rmX2_cut (va_Pc [.int i0, .int i1] (cP dC dI [(cI, .int)] ([]) sz)) (QX2_cut dC dI (va_A ([]) sz) cI i0 i1) 0 0 (va_A ([]) sz) := by
  refine Met.ofW (cc := cX2_cut) (maxL := 2) (ret := (some .int)) (by decide) rfl ?_
  intro p e s m args below meth c s₁ B hml hv
  obtain ⟨rfl, hsz, hP, hK, hD0, hN⟩ := hv
  have hx := B.exec
  have hb := B.bytes
  have hr := B.returns
  have hts := atoms_spec (ws := wsX2_cut) B.pre
  have hown : s.vm.findClass RX2 = some m.cls := findClass_of_methodNamed B.named
  have hlocks := B.notSynchronized
  subst hsz
  have hD := hD0.self (sz := s.heap.size)
  generalize hAe : va_A ([]) s.heap.size = A at hD ⊢
  have hA : ∀ q : Nat, s.heap.size ≤ q → A q := fun q h => by rw [← hAe]; exact Or.inr h
  have hS : va_S A s.heap s.heap [] := va_S.rf
  have hP : va_P (dC, dI) vwCl ([]) s.heap := hP
  have hl := lv_entry ([.int i0, .int i1]) (n := 2) (Nat.le_of_ble_eq_true rfl)
  rw [lg_entry_eq]
  generalize (lg_sl ([.int i0, .int i1]) ++ List.replicate (2 - (lg_sl ([.int i0, .int i1])).length) Slot.unset).toArray = ls at hl ⊢
  have hl : lv_has ls 2 [(0, .int i0), (1, .int i1)] := hl
  refine lv_iload_n hx hb dX2_cut_0 rfl (lv_at hl 0 rfl) ?_
  refine lv_if_ne (tgt := 7) hx hb dX2_cut_1 (by decide) (fun c_1 => ?_) (fun c_1 => ?_)
  · skip
    refine lv_iload_n hx hb dX2_cut_7 rfl (lv_at hl 0 rfl) ?_
    refine lv_iconst (v := 1) hx hb dX2_cut_8 (by decide) ?_
    refine lv_icmp_ne (tgt := 17) hx hb dX2_cut_9 (by decide) (fun c_9 => ?_) (fun c_9 => ?_)
    · skip
      refine lv_iload_n hx hb dX2_cut_17 rfl (lv_at hl 1 rfl) ?_
      have hE9 : p2_cut i0 i1 = i1 := by unfold p2_cut; rw [if_neg c_1, if_neg c_9]
      exact W.iret (v := i1) hx hb hr (fun t ht hW => ⟨⟨_, (), rfl, by rw [hE9], by show va_P (dC, dI) vwCl _ t.heap; rw [ht]; exact hP⟩, hS.F ht⟩) hS.2.2 dX2_cut_18
    · skip
      refine lv_iload_n hx hb dX2_cut_12 rfl (lv_at hl 1 rfl) ?_
      refine lv_i2s (v := i1.toInt16.toInt32) hx hb dX2_cut_13 rfl ?_
      refine lv_goto (tgt := 18) hx hb dX2_cut_14 (by decide) ?_
      have hE9 : p2_cut i0 i1 = i1.toInt16.toInt32 := by unfold p2_cut; rw [if_neg c_1, if_pos c_9]
      exact W.iret (v := i1.toInt16.toInt32) hx hb hr (fun t ht hW => ⟨⟨_, (), rfl, by rw [hE9], by show va_P (dC, dI) vwCl _ t.heap; rw [ht]; exact hP⟩, hS.F ht⟩) hS.2.2 dX2_cut_18
  · skip
    refine lv_iload_n hx hb dX2_cut_4 rfl (lv_at hl 1 rfl) ?_
    refine lv_i2b (v := i1.toInt8.toInt32) hx hb dX2_cut_5 rfl ?_
    have hE9 : p2_cut i0 i1 = i1.toInt8.toInt32 := by unfold p2_cut; rw [if_pos c_1]
    exact W.iret (v := i1.toInt8.toInt32) hx hb hr (fun t ht hW => ⟨⟨_, (), rfl, by rw [hE9], by show va_P (dC, dI) vwCl _ t.heap; rw [ht]; exact hP⟩, hS.F ht⟩) hS.2.2 dX2_cut_6

def p2_write (M : Nat → Nat → Int32) (LA : Nat → Int32) (i1 : Int32) (i2 : Int32) (i3 : Int32) : (Nat → Nat → Int32) :=
  (setr M i1.toNatClampNeg (upd (M i1.toNatClampNeg) i2.toNatClampNeg (p2_cut (LA i1.toNatClampNeg) i3)))
abbrev rmX2_write : Room := { frames := 1, cells := 0, slots := 0, locals := 21 }
abbrev QX2_write (dC : Nat → ClassId) (dI : Nat → Nat → Nat) (A : Nat → Prop) (cI : ClassId) (cR : ClassId) (rr : Nat → Nat) (w0 : Nat) (wr : Nat) (wl : Nat) (wn : Nat) (M : Nat → Nat → Int32) (LA : Nat → Int32) (LE : Nat → Int32) (i1 : Int32) (i2 : Int32) (i3 : Int32) : Array Value → State → Outcome → State → Prop := va_Qv (fun (_ : Unit) => True) (fun (_ : Unit) (t : State) => va_P (dC, dI) vwCl (rowsW cI rr (p2_write M LA i1 i2 i3) ++ [(w0, .inr (2, [.ref wr, .ref wl, .ref wn])), (wr, .inl (cR, 4, .inr (.inr (.inr (.inr (fun i => if i < 4 then some (rr i) else none)))))), (wl, .inl (cI, 4, .inl LA)), (wn, .inl (cI, 4, .inl LE))]) t.heap) A
set_option maxHeartbeats 4000000 in
set_option maxRecDepth 100000 in
theorem ctX2_write (l : Launch) (dC : Nat → ClassId) (dI : Nat → Nat → Nat) (cI : ClassId) (cR : ClassId) (rr : Nat → Nat) (w0 : Nat) (wr : Nat) (wl : Nat) (wn : Nat) (sz : Nat) (M : Nat → Nat → Int32) (LA : Nat → Int32) (LE : Nat → Int32) (i1 : Int32) (i2 : Int32) (i3 : Int32) (hi1 : vp_in i1 4) (hi2 : vp_in i2 60) : Met l yX2_write wsX2_write rmX2_write (va_Pc [.ref w0, .int i1, .int i2, .int i3] (cP dC dI [(cI, .int), (cR, .array .int)] (rowsW cI rr M ++ [(w0, .inr (2, [.ref wr, .ref wl, .ref wn])), (wr, .inl (cR, 4, .inr (.inr (.inr (.inr (fun i => if i < 4 then some (rr i) else none)))))), (wl, .inl (cI, 4, .inl LA)), (wn, .inl (cI, 4, .inl LE))]) sz)) (QX2_write dC dI (va_A (rowsW cI rr M ++ [(w0, .inr (2, [.ref wr, .ref wl, .ref wn])), (wr, .inl (cR, 4, .inr (.inr (.inr (.inr (fun i => if i < 4 then some (rr i) else none)))))), (wl, .inl (cI, 4, .inl LA)), (wn, .inl (cI, 4, .inl LE))]) sz) cI cR rr w0 wr wl wn M LA LE i1 i2 i3) 0 0 (va_A (rowsW cI rr M ++ [(w0, .inr (2, [.ref wr, .ref wl, .ref wn])), (wr, .inl (cR, 4, .inr (.inr (.inr (.inr (fun i => if i < 4 then some (rr i) else none)))))), (wl, .inl (cI, 4, .inl LA)), (wn, .inl (cI, 4, .inl LE))]) sz) := by
  refine Met.ofW (cc := cX2_write) (maxL := 4) (ret := none) (by decide) rfl ?_
  intro p e s m args below meth c s₁ B hml hv
  obtain ⟨rfl, hsz, hP, hK, hD0, hN⟩ := hv
  have hx := B.exec
  have hb := B.bytes
  have hr := B.returns
  have hts := atoms_spec (ws := wsX2_write) B.pre
  have hown : s.vm.findClass RX2 = some m.cls := findClass_of_methodNamed B.named
  have hlocks := B.notSynchronized
  subst hsz
  have hD := hD0.self (sz := s.heap.size)
  generalize hAe : va_A (rowsW cI rr M ++ [(w0, .inr (2, [.ref wr, .ref wl, .ref wn])), (wr, .inl (cR, 4, .inr (.inr (.inr (.inr (fun i => if i < 4 then some (rr i) else none)))))), (wl, .inl (cI, 4, .inl LA)), (wn, .inl (cI, 4, .inl LE))]) s.heap.size = A at hD ⊢
  have hA : ∀ q : Nat, s.heap.size ≤ q → A q := fun q h => by rw [← hAe]; exact Or.inr h
  have hS : va_S A s.heap s.heap [] := va_S.rf
  have hP : va_P (dC, dI) vwCl (rowsW cI rr M ++ [(w0, .inr (2, [.ref wr, .ref wl, .ref wn])), (wr, .inl (cR, 4, .inr (.inr (.inr (.inr (fun i => if i < 4 then some (rr i) else none)))))), (wl, .inl (cI, 4, .inl LA)), (wn, .inl (cI, 4, .inl LE))]) s.heap := hP
  have hin2 : ∀ w ∈ wsX20, w ∈ wsX2_write := by decide +kernel
  have kf_11 := hts (.fieldLink RX2 11 "RicherChange$Sheets" "rows" "[[I") (by decide +kernel)
  have kf_16 := hts (.fieldLink RX2 16 "RicherChange$Sheets" "lanes" "[I") (by decide +kernel)
  have hl := lv_entry ([.ref w0, .int i1, .int i2, .int i3]) (n := 4) (Nat.le_of_ble_eq_true rfl)
  rw [lg_entry_eq]
  generalize (lg_sl ([.ref w0, .int i1, .int i2, .int i3]) ++ List.replicate (4 - (lg_sl ([.ref w0, .int i1, .int i2, .int i3])).length) Slot.unset).toArray = ls at hl ⊢
  have hl : lv_has ls 4 [(0, .ref w0), (1, .int i1), (2, .int i2), (3, .int i3)] := hl
  refine lv_aload_n hx hb dX2_write_0 rfl (lv_at hl 0 rfl) ?_
  refine va_get (D := (dC, dI)) (ci := 2) (v := .ref wr) (C := RX2) (T := TX2) (N := 3) hx hb hts hin2 hown hK hP 4 rfl rfl 0 (by decide) kf_11 (fun _ h9 => h9) rfl dX2_write_1 ?_
  refine lv_iload_n hx hb dX2_write_4 rfl (lv_at hl 1 rfl) ?_
  refine va_alda (v := rr i1.toNatClampNeg) hx hb hK hP 5 1 rfl rfl hi1 (if_pos (vp_lt hi1)) dX2_write_5 ?_
  refine lv_iload_n hx hb dX2_write_6 rfl (lv_at hl 2 rfl) ?_
  refine lv_aload_n hx hb dX2_write_7 rfl (lv_at hl 0 rfl) ?_
  refine va_get (D := (dC, dI)) (ci := 2) (v := .ref wl) (C := RX2) (T := TX2) (N := 3) hx hb hts hin2 hown hK hP 4 rfl rfl 1 (by decide) kf_16 (fun _ h9 => h9) rfl dX2_write_8 ?_
  refine lv_iload_n hx hb dX2_write_11 rfl (lv_at hl 1 rfl) ?_
  refine va_iald hx hb hK hP 6 0 rfl rfl (by assumption) dX2_write_12 ?_
  refine lv_iload_n hx hb dX2_write_13 rfl (lv_at hl 3 rfl) ?_
  have hPc : va_P (dC, dI) vwCl [] s.heap := hP.sub (ws' := []) [] rfl
  have hDc : va_D A [] := hD.sub (ws' := []) [] (by decide) rfl
  have hKc := hK.sub (tys' := [(cI, .int)]) [0] rfl
  have hFc := va_free (wc := []) hD hS hA [] rfl
  refine va_calli (va_runS (As := [.int (LA i1.toNatClampNeg), .int i3]) (rest := [.int i2, .ref (rr i1.toNatClampNeg)]) ⟨hx, hb, hml, hown, hts⟩ (ctX2_cut l dC dI cI s.heap.size (LA i1.toNatClampNeg) i3) (va_cwS 2 hts gX2_write_X2_cut rfl rfl rfl (by decide +kernel) ⟨Nat.le_of_ble_eq_true rfl, Nat.le_of_ble_eq_true rfl⟩) (pre_S hKc hN hPc hDc) rfl rfl hl.1 rfl (lv_room (Nat.le_of_ble_eq_true rfl)) dX2_write_14 ⟨Nat.le_of_ble_eq_true rfl, Nat.le_of_ble_eq_true rfl⟩) hS (fun q _ h => hFc q h) hFc (fun r _ t H locs ht hvm hw hB hz1 hk1 hS => ?_)
  try dsimp only at hw
  subst hw
  rw [ht] at hB
  obtain ⟨hP, hD⟩ := rw_join (rowsW cI rr M ++ [(w0, .inr (2, [.ref wr, .ref wl, .ref wn])), (wr, .inl (cR, 4, .inr (.inr (.inr (.inr (fun i => if i < 4 then some (rr i) else none)))))), (wl, .inl (cI, 4, .inl LA)), (wn, .inl (cI, 4, .inl LE))]) (rowsW cI rr M ++ [(w0, .inr (2, [.ref wr, .ref wl, .ref wn])), (wr, .inl (cR, 4, .inr (.inr (.inr (.inr (fun i => if i < 4 then some (rr i) else none)))))), (wl, .inl (cI, 4, .inl LA)), (wn, .inl (cI, 4, .inl LE))]) ([]) ([]) ([(rr 0, .inl (cI, 60, .inl (M 0))), (rr 1, .inl (cI, 60, .inl (M 1))), (rr 2, .inl (cI, 60, .inl (M 2))), (rr 3, .inl (cI, 60, .inl (M 3))), (w0, .inr (2, [.ref wr, .ref wl, .ref wn])), (wr, .inl (cR, 4, .inr (.inr (.inr (.inr (fun i => if i < 4 then some (rr i) else none)))))), (wl, .inl (cI, 4, .inl LA)), (wn, .inl (cI, 4, .inl LE))]) hP hD [] [0, 1, 2, 3, 4, 5, 6, 7] [rr 0, rr 1, rr 2, rr 3, w0, wr, wl, wn] 8 rfl rfl rfl rfl rfl (by decide) rfl rfl hk1 hB
  refine va_iast hx hb hK hP hD hS i1.toNatClampNeg 0 (rows_get cI rr M ([(w0, .inr (2, [.ref wr, .ref wl, .ref wn])), (wr, .inl (cR, 4, .inr (.inr (.inr (.inr (fun i => if i < 4 then some (rr i) else none)))))), (wl, .inl (cI, 4, .inl LA)), (wn, .inl (cI, 4, .inl LE))]) (vp_lt hi1)) rfl (by assumption) dX2_write_17 (fun H locs hP hD hS => ?_)
  rw [rows_set cI rr M ([(w0, .inr (2, [.ref wr, .ref wl, .ref wn])), (wr, .inl (cR, 4, .inr (.inr (.inr (.inr (fun i => if i < 4 then some (rr i) else none)))))), (wl, .inl (cI, 4, .inl LA)), (wn, .inl (cI, 4, .inl LE))]) (vp_lt hi1)] at hP hD
  have hP : va_P (dC, dI) vwCl (rowsW cI rr (setr M i1.toNatClampNeg (upd (M i1.toNatClampNeg) i2.toNatClampNeg (p2_cut (LA i1.toNatClampNeg) i3))) ++ [(w0, .inr (2, [.ref wr, .ref wl, .ref wn])), (wr, .inl (cR, 4, .inr (.inr (.inr (.inr (fun i => if i < 4 then some (rr i) else none)))))), (wl, .inl (cI, 4, .inl LA)), (wn, .inl (cI, 4, .inl LE))]) H := hP
  have hD : va_D A (rowsW cI rr (setr M i1.toNatClampNeg (upd (M i1.toNatClampNeg) i2.toNatClampNeg (p2_cut (LA i1.toNatClampNeg) i3))) ++ [(w0, .inr (2, [.ref wr, .ref wl, .ref wn])), (wr, .inl (cR, 4, .inr (.inr (.inr (.inr (fun i => if i < 4 then some (rr i) else none)))))), (wl, .inl (cI, 4, .inl LA)), (wn, .inl (cI, 4, .inl LE))]) := hD
  have hE9 : p2_write M LA i1 i2 i3 = (setr M i1.toNatClampNeg (upd (M i1.toNatClampNeg) i2.toNatClampNeg (p2_cut (LA i1.toNatClampNeg) i3))) := rfl
  exact W.vret hx hb hr (fun t ht hW => ⟨⟨(), rfl, trivial, by show va_P (dC, dI) vwCl _ t.heap; rw [ht, hE9]; exact hP⟩, hS.F ht⟩) hS.2.2 dX2_write_18

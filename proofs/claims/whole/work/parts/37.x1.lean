def p1_add (GK : Int32) (GN : Nat → Int32) (GC : Nat → Int32) (GH : Nat → Int32) (i1 : Int32) (i2 : Int32) (i3 : Int32) : Int32 × Int32 × (Nat → Int32) × (Nat → Int32) × (Nat → Int32) :=
  (GK, (GK + 1), (upd GN GK.toNatClampNeg i1), (upd GC GK.toNatClampNeg i2), (upd GH GK.toNatClampNeg i3))
abbrev rmX1_add : Room := { frames := 0, cells := 0, slots := 0, locals := 0 }
abbrev QX1_add (dC : Nat → ClassId) (dI : Nat → Nat → Nat) (A : Nat → Prop) (cI : ClassId) (g0 : Nat) (gn : Nat) (gc : Nat) (gh : Nat) (GK : Int32) (GN : Nat → Int32) (GC : Nat → Int32) (GH : Nat → Int32) (i1 : Int32) (i2 : Int32) (i3 : Int32) : Array Value → State → Outcome → State → Prop := va_Qi (fun (r : Int32) (_ : Unit) => r = (p1_add GK GN GC GH i1 i2 i3).1) (fun (_ : Unit) (t : State) => va_P (dC, dI) vwCl ([(g0, .inr (1, [.ref gn, .ref gc, .ref gh, .int ((p1_add GK GN GC GH i1 i2 i3).2.1)])), (gn, .inl (cI, 8, .inl ((p1_add GK GN GC GH i1 i2 i3).2.2.1))), (gc, .inl (cI, 8, .inl ((p1_add GK GN GC GH i1 i2 i3).2.2.2.1))), (gh, .inl (cI, 8, .inl ((p1_add GK GN GC GH i1 i2 i3).2.2.2.2)))]) t.heap) A
set_option maxHeartbeats 4000000 in
set_option maxRecDepth 100000 in
theorem ctX1_add (l : Launch) (dC : Nat → ClassId) (dI : Nat → Nat → Nat) (cI : ClassId) (g0 : Nat) (gn : Nat) (gc : Nat) (gh : Nat) (sz : Nat) (GK : Int32) (GN : Nat → Int32) (GC : Nat → Int32) (GH : Nat → Int32) (i1 : Int32) (i2 : Int32) (i3 : Int32) (hg : vp_in GK 8) : Met l yX1_add wsX1_add rmX1_add (va_Pc [.ref g0, .int i1, .int i2, .int i3] (cP dC dI [(cI, .int)] ([(g0, .inr (1, [.ref gn, .ref gc, .ref gh, .int GK])), (gn, .inl (cI, 8, .inl GN)), (gc, .inl (cI, 8, .inl GC)), (gh, .inl (cI, 8, .inl GH))]) sz)) (QX1_add dC dI (va_A ([(g0, .inr (1, [.ref gn, .ref gc, .ref gh, .int GK])), (gn, .inl (cI, 8, .inl GN)), (gc, .inl (cI, 8, .inl GC)), (gh, .inl (cI, 8, .inl GH))]) sz) cI g0 gn gc gh GK GN GC GH i1 i2 i3) 0 0 (va_A ([(g0, .inr (1, [.ref gn, .ref gc, .ref gh, .int GK])), (gn, .inl (cI, 8, .inl GN)), (gc, .inl (cI, 8, .inl GC)), (gh, .inl (cI, 8, .inl GH))]) sz) := by
  refine Met.ofW (cc := cX1_add) (maxL := 5) (ret := (some .int)) (by decide) rfl ?_
  intro p e s m args below meth c s₁ B hml hv
  obtain ⟨rfl, hsz, hP, hK, hD0, hN⟩ := hv
  have hx := B.exec
  have hb := B.bytes
  have hr := B.returns
  have hts := atoms_spec (ws := wsX1_add) B.pre
  have hown : s.vm.findClass RX1 = some m.cls := findClass_of_methodNamed B.named
  have hlocks := B.notSynchronized
  subst hsz
  have hD := hD0.self (sz := s.heap.size)
  generalize hAe : va_A ([(g0, .inr (1, [.ref gn, .ref gc, .ref gh, .int GK])), (gn, .inl (cI, 8, .inl GN)), (gc, .inl (cI, 8, .inl GC)), (gh, .inl (cI, 8, .inl GH))]) s.heap.size = A at hD ⊢
  have hA : ∀ q : Nat, s.heap.size ≤ q → A q := fun q h => by rw [← hAe]; exact Or.inr h
  have hS : va_S A s.heap s.heap [] := va_S.rf
  have hP : va_P (dC, dI) vwCl ([(g0, .inr (1, [.ref gn, .ref gc, .ref gh, .int GK])), (gn, .inl (cI, 8, .inl GN)), (gc, .inl (cI, 8, .inl GC)), (gh, .inl (cI, 8, .inl GH))]) s.heap := hP
  have hin1 : ∀ w ∈ wsX10, w ∈ wsX1_add := by decide +kernel
  have kf_15 := hts (.fieldLink RX1 15 "RicherChange$Readings" "costs" "[I") (by decide +kernel)
  have kf_18 := hts (.fieldLink RX1 18 "RicherChange$Readings" "chosen" "[I") (by decide +kernel)
  have kf_21 := hts (.fieldLink RX1 21 "RicherChange$Readings" "count" "I") (by decide +kernel)
  have kf_9 := hts (.fieldLink RX1 9 "RicherChange$Readings" "named" "[I") (by decide +kernel)
  have hl := lv_entry ([.ref g0, .int i1, .int i2, .int i3]) (n := 5) (Nat.le_of_ble_eq_true rfl)
  rw [lg_entry_eq]
  generalize (lg_sl ([.ref g0, .int i1, .int i2, .int i3]) ++ List.replicate (5 - (lg_sl ([.ref g0, .int i1, .int i2, .int i3])).length) Slot.unset).toArray = ls at hl ⊢
  have hl : lv_has ls 5 [(0, .ref g0), (1, .int i1), (2, .int i2), (3, .int i3)] := hl
  refine lv_aload_n hx hb dX1_add_0 rfl (lv_at hl 0 rfl) ?_
  refine va_get (D := (dC, dI)) (ci := 1) (v := .int GK) (C := RX1) (T := TX1) (N := 4) hx hb hts hin1 hown hK hP 0 rfl rfl 3 (by decide) kf_21 (fun _ h9 => h9) rfl dX1_add_1 ?_
  refine lv_istore (lv' := [(4, .int GK), (0, .ref g0), (1, .int i1), (2, .int i2), (3, .int i3)]) hx hb dX1_add_4 hl (by decide) rfl (fun ls hl => ?_)
  refine lv_aload_n hx hb dX1_add_6 rfl (lv_at hl 1 rfl) ?_
  refine va_get (D := (dC, dI)) (ci := 1) (v := .ref gn) (C := RX1) (T := TX1) (N := 4) hx hb hts hin1 hown hK hP 0 rfl rfl 0 (by decide) kf_9 (fun _ h9 => h9) rfl dX1_add_7 ?_
  refine lv_iload hx hb dX1_add_10 (lv_at hl 0 rfl) ?_
  refine lv_iload_n hx hb dX1_add_12 rfl (lv_at hl 2 rfl) ?_
  refine va_iast hx hb hK hP hD hS 1 0 rfl rfl (by assumption) dX1_add_13 (fun H locs hP hD hS => ?_)
  have hP : va_P (dC, dI) vwCl ([(g0, .inr (1, [.ref gn, .ref gc, .ref gh, .int GK])), (gn, .inl (cI, 8, .inl (upd GN GK.toNatClampNeg i1))), (gc, .inl (cI, 8, .inl GC)), (gh, .inl (cI, 8, .inl GH))]) H := hP
  have hD : va_D A ([(g0, .inr (1, [.ref gn, .ref gc, .ref gh, .int GK])), (gn, .inl (cI, 8, .inl (upd GN GK.toNatClampNeg i1))), (gc, .inl (cI, 8, .inl GC)), (gh, .inl (cI, 8, .inl GH))]) := hD
  refine lv_aload_n hx hb dX1_add_14 rfl (lv_at hl 1 rfl) ?_
  refine va_get (D := (dC, dI)) (ci := 1) (v := .ref gc) (C := RX1) (T := TX1) (N := 4) hx hb hts hin1 hown hK hP 0 rfl rfl 1 (by decide) kf_15 (fun _ h9 => h9) rfl dX1_add_15 ?_
  refine lv_iload hx hb dX1_add_18 (lv_at hl 0 rfl) ?_
  refine lv_iload_n hx hb dX1_add_20 rfl (lv_at hl 3 rfl) ?_
  refine va_iast hx hb hK hP hD hS 2 0 rfl rfl (by assumption) dX1_add_21 (fun H locs hP hD hS => ?_)
  have hP : va_P (dC, dI) vwCl ([(g0, .inr (1, [.ref gn, .ref gc, .ref gh, .int GK])), (gn, .inl (cI, 8, .inl (upd GN GK.toNatClampNeg i1))), (gc, .inl (cI, 8, .inl (upd GC GK.toNatClampNeg i2))), (gh, .inl (cI, 8, .inl GH))]) H := hP
  have hD : va_D A ([(g0, .inr (1, [.ref gn, .ref gc, .ref gh, .int GK])), (gn, .inl (cI, 8, .inl (upd GN GK.toNatClampNeg i1))), (gc, .inl (cI, 8, .inl (upd GC GK.toNatClampNeg i2))), (gh, .inl (cI, 8, .inl GH))]) := hD
  refine lv_aload_n hx hb dX1_add_22 rfl (lv_at hl 1 rfl) ?_
  refine va_get (D := (dC, dI)) (ci := 1) (v := .ref gh) (C := RX1) (T := TX1) (N := 4) hx hb hts hin1 hown hK hP 0 rfl rfl 2 (by decide) kf_18 (fun _ h9 => h9) rfl dX1_add_23 ?_
  refine lv_iload hx hb dX1_add_26 (lv_at hl 0 rfl) ?_
  refine lv_iload_n hx hb dX1_add_28 rfl (lv_at hl 4 rfl) ?_
  refine va_iast hx hb hK hP hD hS 3 0 rfl rfl (by assumption) dX1_add_29 (fun H locs hP hD hS => ?_)
  have hP : va_P (dC, dI) vwCl ([(g0, .inr (1, [.ref gn, .ref gc, .ref gh, .int GK])), (gn, .inl (cI, 8, .inl (upd GN GK.toNatClampNeg i1))), (gc, .inl (cI, 8, .inl (upd GC GK.toNatClampNeg i2))), (gh, .inl (cI, 8, .inl (upd GH GK.toNatClampNeg i3)))]) H := hP
  have hD : va_D A ([(g0, .inr (1, [.ref gn, .ref gc, .ref gh, .int GK])), (gn, .inl (cI, 8, .inl (upd GN GK.toNatClampNeg i1))), (gc, .inl (cI, 8, .inl (upd GC GK.toNatClampNeg i2))), (gh, .inl (cI, 8, .inl (upd GH GK.toNatClampNeg i3)))]) := hD
  refine lv_aload_n hx hb dX1_add_30 rfl (lv_at hl 1 rfl) ?_
  refine lv_dup hx hb dX1_add_31 rfl ?_
  refine va_get (D := (dC, dI)) (ci := 1) (v := .int GK) (C := RX1) (T := TX1) (N := 4) hx hb hts hin1 hown hK hP 0 rfl rfl 3 (by decide) kf_21 (fun _ h9 => h9) rfl dX1_add_32 ?_
  refine lv_iconst (v := 1) hx hb dX1_add_35 (by decide) ?_
  refine lv_iadd hx hb dX1_add_36 ?_
  refine va_put (D := (dC, dI)) (ci := 1) (v := .int (GK + 1)) (ty := .int) (C := RX1) (T := TX1) (N := 4) hx hb hts hin1 tyX1 tyX1_ok nmX1 hown hK hP hD hS 0 rfl rfl 3 (by decide) kf_21 (fun _ h9 => h9) rfl (by decide +kernel) rfl rfl (Nat.le_of_ble_eq_true rfl) dX1_add_37 (fun H locs hP hD hS => ?_)
  have hP : va_P (dC, dI) vwCl ([(g0, .inr (1, [.ref gn, .ref gc, .ref gh, .int (GK + 1)])), (gn, .inl (cI, 8, .inl (upd GN GK.toNatClampNeg i1))), (gc, .inl (cI, 8, .inl (upd GC GK.toNatClampNeg i2))), (gh, .inl (cI, 8, .inl (upd GH GK.toNatClampNeg i3)))]) H := hP
  have hD : va_D A ([(g0, .inr (1, [.ref gn, .ref gc, .ref gh, .int (GK + 1)])), (gn, .inl (cI, 8, .inl (upd GN GK.toNatClampNeg i1))), (gc, .inl (cI, 8, .inl (upd GC GK.toNatClampNeg i2))), (gh, .inl (cI, 8, .inl (upd GH GK.toNatClampNeg i3)))]) := hD
  refine lv_iload hx hb dX1_add_40 (lv_at hl 0 rfl) ?_
  have hE9 : p1_add GK GN GC GH i1 i2 i3 = (GK, (GK + 1), (upd GN GK.toNatClampNeg i1), (upd GC GK.toNatClampNeg i2), (upd GH GK.toNatClampNeg i3)) := rfl
  exact W.iret (v := GK) hx hb hr (fun t ht hW => ⟨⟨_, (), rfl, by rw [hE9], by show va_P (dC, dI) vwCl _ t.heap; rw [ht, hE9]; exact hP⟩, hS.F ht⟩) hS.2.2 dX1_add_42

def p1_holdIn_l2 (GK : Int32) (GN : Nat → Int32) (GC : Nat → Int32) (GH : Nat → Int32) (N : Int32) (K : Nat → Int32) (L : Nat → Int32) (C : Nat → Int32) : Nat → Int32 → Int32
  | 0, _ => 0
  | n + 1, v2 =>
    if GK ≤ v2 then
      1
    else
      if (p0_chosenBy N K L C (GN v2.toNatClampNeg) (GC v2.toNatClampNeg)) = (GH v2.toNatClampNeg) then
        p1_holdIn_l2 GK GN GC GH N K L C n (v2 + 1)
      else
        0
theorem p1_holdIn_l2_s (GK : Int32) (GN : Nat → Int32) (GC : Nat → Int32) (GH : Nat → Int32) (N : Int32) (K : Nat → Int32) (L : Nat → Int32) (C : Nat → Int32) (n : Nat) (v2 : Int32) : p1_holdIn_l2 GK GN GC GH N K L C (n + 1) v2 =
    (if GK ≤ v2 then
      1
    else
      if (p0_chosenBy N K L C (GN v2.toNatClampNeg) (GC v2.toNatClampNeg)) = (GH v2.toNatClampNeg) then
        p1_holdIn_l2 GK GN GC GH N K L C n (v2 + 1)
      else
        0) := rfl
def p1_holdIn (GK : Int32) (GN : Nat → Int32) (GC : Nat → Int32) (GH : Nat → Int32) (N : Int32) (K : Nat → Int32) (L : Nat → Int32) (C : Nat → Int32) : Int32 :=
  p1_holdIn_l2 GK GN GC GH N K L C 9 0
abbrev rmX1_holdIn : Room := { frames := 4, cells := 0, slots := 0, locals := 95 }
abbrev QX1_holdIn (dC : Nat → ClassId) (dI : Nat → Nat → Nat) (A : Nat → Prop) (cI : ClassId) (g0 : Nat) (gn : Nat) (gc : Nat) (gh : Nat) (a0 : Nat) (ak : Nat) (al : Nat) (ac : Nat) (GK : Int32) (GN : Nat → Int32) (GC : Nat → Int32) (GH : Nat → Int32) (N : Int32) (K : Nat → Int32) (L : Nat → Int32) (C : Nat → Int32) : Array Value → State → Outcome → State → Prop := va_Qi (fun (r : Int32) (_ : Unit) => r = p1_holdIn GK GN GC GH N K L C) (fun (_ : Unit) (t : State) => va_P (dC, dI) vwCl ([(g0, .inr (1, [.ref gn, .ref gc, .ref gh, .int GK])), (gn, .inl (cI, 8, .inl GN)), (gc, .inl (cI, 8, .inl GC)), (gh, .inl (cI, 8, .inl GH)), (a0, .inr (0, [.ref ak, .ref al, .ref ac, .int N])), (ak, .inl (cI, 6, .inl K)), (al, .inl (cI, 6, .inl L)), (ac, .inl (cI, 6, .inl C))]) t.heap) A
set_option maxHeartbeats 4000000 in
set_option maxRecDepth 100000 in
theorem ctX1_holdIn (l : Launch) (dC : Nat → ClassId) (dI : Nat → Nat → Nat) (cI : ClassId) (g0 : Nat) (gn : Nat) (gc : Nat) (gh : Nat) (a0 : Nat) (ak : Nat) (al : Nat) (ac : Nat) (sz : Nat) (GK : Int32) (GN : Nat → Int32) (GC : Nat → Int32) (GH : Nat → Int32) (N : Int32) (K : Nat → Int32) (L : Nat → Int32) (C : Nat → Int32) (hG8 : GK.toInt ≤ 8) (hGN : ∀ j : Nat, (j : Int) < GK.toInt → vp_in (GN j) 6) (hNb : N.toInt ≤ 6) : Met l yX1_holdIn wsX1_holdIn rmX1_holdIn (va_Pc [.ref g0, .ref a0] (cP dC dI [(cI, .int)] ([(g0, .inr (1, [.ref gn, .ref gc, .ref gh, .int GK])), (gn, .inl (cI, 8, .inl GN)), (gc, .inl (cI, 8, .inl GC)), (gh, .inl (cI, 8, .inl GH)), (a0, .inr (0, [.ref ak, .ref al, .ref ac, .int N])), (ak, .inl (cI, 6, .inl K)), (al, .inl (cI, 6, .inl L)), (ac, .inl (cI, 6, .inl C))]) sz)) (QX1_holdIn dC dI (va_A ([(g0, .inr (1, [.ref gn, .ref gc, .ref gh, .int GK])), (gn, .inl (cI, 8, .inl GN)), (gc, .inl (cI, 8, .inl GC)), (gh, .inl (cI, 8, .inl GH)), (a0, .inr (0, [.ref ak, .ref al, .ref ac, .int N])), (ak, .inl (cI, 6, .inl K)), (al, .inl (cI, 6, .inl L)), (ac, .inl (cI, 6, .inl C))]) sz) cI g0 gn gc gh a0 ak al ac GK GN GC GH N K L C ) 0 0 (va_A ([(g0, .inr (1, [.ref gn, .ref gc, .ref gh, .int GK])), (gn, .inl (cI, 8, .inl GN)), (gc, .inl (cI, 8, .inl GC)), (gh, .inl (cI, 8, .inl GH)), (a0, .inr (0, [.ref ak, .ref al, .ref ac, .int N])), (ak, .inl (cI, 6, .inl K)), (al, .inl (cI, 6, .inl L)), (ac, .inl (cI, 6, .inl C))]) sz) := by
  refine Met.ofW (cc := cX1_holdIn) (maxL := 3) (ret := (some .boolean)) (by decide) rfl ?_
  intro p e s m args below meth c s₁ B hml hv
  obtain ⟨rfl, hsz, hP, hK, hD0, hN⟩ := hv
  have hx := B.exec
  have hb := B.bytes
  have hr := B.returns
  have hts := atoms_spec (ws := wsX1_holdIn) B.pre
  have hown : s.vm.findClass RX1 = some m.cls := findClass_of_methodNamed B.named
  have hlocks := B.notSynchronized
  subst hsz
  have hD := hD0.self (sz := s.heap.size)
  generalize hAe : va_A ([(g0, .inr (1, [.ref gn, .ref gc, .ref gh, .int GK])), (gn, .inl (cI, 8, .inl GN)), (gc, .inl (cI, 8, .inl GC)), (gh, .inl (cI, 8, .inl GH)), (a0, .inr (0, [.ref ak, .ref al, .ref ac, .int N])), (ak, .inl (cI, 6, .inl K)), (al, .inl (cI, 6, .inl L)), (ac, .inl (cI, 6, .inl C))]) s.heap.size = A at hD ⊢
  have hA : ∀ q : Nat, s.heap.size ≤ q → A q := fun q h => by rw [← hAe]; exact Or.inr h
  have hS : va_S A s.heap s.heap [] := va_S.rf
  have hP : va_P (dC, dI) vwCl ([(g0, .inr (1, [.ref gn, .ref gc, .ref gh, .int GK])), (gn, .inl (cI, 8, .inl GN)), (gc, .inl (cI, 8, .inl GC)), (gh, .inl (cI, 8, .inl GH)), (a0, .inr (0, [.ref ak, .ref al, .ref ac, .int N])), (ak, .inl (cI, 6, .inl K)), (al, .inl (cI, 6, .inl L)), (ac, .inl (cI, 6, .inl C))]) s.heap := hP
  have hin1 : ∀ w ∈ wsX10, w ∈ wsX1_holdIn := by decide +kernel
  have kf_15 := hts (.fieldLink RX1 15 "RicherChange$Readings" "costs" "[I") (by decide +kernel)
  have kf_18 := hts (.fieldLink RX1 18 "RicherChange$Readings" "chosen" "[I") (by decide +kernel)
  have kf_21 := hts (.fieldLink RX1 21 "RicherChange$Readings" "count" "I") (by decide +kernel)
  have kf_9 := hts (.fieldLink RX1 9 "RicherChange$Readings" "named" "[I") (by decide +kernel)
  have hl := lv_entry ([.ref g0, .ref a0]) (n := 3) (Nat.le_of_ble_eq_true rfl)
  rw [lg_entry_eq]
  generalize (lg_sl ([.ref g0, .ref a0]) ++ List.replicate (3 - (lg_sl ([.ref g0, .ref a0])).length) Slot.unset).toArray = ls at hl ⊢
  have hl : lv_has ls 3 [(0, .ref g0), (1, .ref a0)] := hl
  have lp_2 : ∀ (n : Nat) (v2 : Int32) (H : Heap) (locs : List Loc) (ls : Array Slot), (up v2 GK n) → va_P (dC, dI) vwCl ([(g0, .inr (1, [.ref gn, .ref gc, .ref gh, .int GK])), (gn, .inl (cI, 8, .inl GN)), (gc, .inl (cI, 8, .inl GC)), (gh, .inl (cI, 8, .inl GH)), (a0, .inr (0, [.ref ak, .ref al, .ref ac, .int N])), (ak, .inl (cI, 6, .inl K)), (al, .inl (cI, 6, .inl L)), (ac, .inl (cI, 6, .inl C))]) H → va_D A ([(g0, .inr (1, [.ref gn, .ref gc, .ref gh, .int GK])), (gn, .inl (cI, 8, .inl GN)), (gc, .inl (cI, 8, .inl GC)), (gh, .inl (cI, 8, .inl GH)), (a0, .inr (0, [.ref ak, .ref al, .ref ac, .int N])), (ak, .inl (cI, 6, .inl K)), (al, .inl (cI, 6, .inl L)), (ac, .inl (cI, 6, .inl C))]) → va_S A s.heap H locs → lv_has ls 3 [(2, .int v2), (0, .ref g0), (1, .ref a0)] → p1_holdIn GK GN GC GH N K L C = p1_holdIn_l2 GK GN GC GH N K L C n v2 → W p l e (headSpec wsX1_holdIn rmX1_holdIn).room s m [.ref g0, .ref a0].toArray below meth c H locs 0 0 (MQ below (QX1_holdIn dC dI A cI g0 gn gc gh a0 ak al ac GK GN GC GH N K L C ) [.ref g0, .ref a0].toArray s 0 0 A) (F0 m 2 ls []) := by
    intro n
    induction n with
    | zero => intro v2 _ _ _ hu; exact absurd hu up_no
    | succ n ih =>
      intro v2 H locs ls hu hP hD hS hl hE
      refine lv_iload_n hx hb dX1_holdIn_2 rfl (lv_at hl 0 rfl) ?_
      refine lv_aload_n hx hb dX1_holdIn_3 rfl (lv_at hl 1 rfl) ?_
      refine va_get (D := (dC, dI)) (ci := 1) (v := .int GK) (C := RX1) (T := TX1) (N := 4) hx hb hts hin1 hown hK hP 0 rfl rfl 3 (by decide) kf_21 (fun _ h9 => h9) rfl dX1_holdIn_4 ?_
      refine lv_icmp_ge (tgt := 43) hx hb dX1_holdIn_7 (by decide) (fun c_7 => ?_) (fun c_7 => ?_)
      · skip
        refine lv_iconst (v := 1) hx hb dX1_holdIn_43 (by decide) ?_
        have hE9 : p1_holdIn GK GN GC GH N K L C = 1 := hE.trans (by rw [p1_holdIn_l2_s, if_pos c_7])
        exact W.zret (v := 1) hx hb hr (by decide +kernel) (fun t ht hW => ⟨⟨_, (), rfl, by rw [hE9], by show va_P (dC, dI) vwCl _ t.heap; rw [ht]; exact hP⟩, hS.F ht⟩) hS.2.2 dX1_holdIn_44
      · skip
        have j2 : vp_in v2 8 := up_in 8 hu c_7 hG8
        have j3 : vp_in (GN v2.toNatClampNeg) 6 := hGN _ (up_ix hu c_7)
        refine lv_aload_n hx hb dX1_holdIn_10 rfl (lv_at hl 2 rfl) ?_
        refine lv_aload_n hx hb dX1_holdIn_11 rfl (lv_at hl 1 rfl) ?_
        refine va_get (D := (dC, dI)) (ci := 1) (v := .ref gn) (C := RX1) (T := TX1) (N := 4) hx hb hts hin1 hown hK hP 0 rfl rfl 0 (by decide) kf_9 (fun _ h9 => h9) rfl dX1_holdIn_12 ?_
        refine lv_iload_n hx hb dX1_holdIn_15 rfl (lv_at hl 0 rfl) ?_
        refine va_iald hx hb hK hP 1 0 rfl rfl (by assumption) dX1_holdIn_16 ?_
        refine lv_aload_n hx hb dX1_holdIn_17 rfl (lv_at hl 1 rfl) ?_
        refine va_get (D := (dC, dI)) (ci := 1) (v := .ref gc) (C := RX1) (T := TX1) (N := 4) hx hb hts hin1 hown hK hP 0 rfl rfl 1 (by decide) kf_15 (fun _ h9 => h9) rfl dX1_holdIn_18 ?_
        refine lv_iload_n hx hb dX1_holdIn_21 rfl (lv_at hl 0 rfl) ?_
        refine va_iald hx hb hK hP 2 0 rfl rfl (by assumption) dX1_holdIn_22 ?_
        have hPc := hP.sub (ws' := [(a0, .inr (0, [.ref ak, .ref al, .ref ac, .int N])), (ak, .inl (cI, 6, .inl K)), (al, .inl (cI, 6, .inl L)), (ac, .inl (cI, 6, .inl C))]) [4, 5, 6, 7] rfl
        have hDc := hD.sub (ws' := [(a0, .inr (0, [.ref ak, .ref al, .ref ac, .int N])), (ak, .inl (cI, 6, .inl K)), (al, .inl (cI, 6, .inl L)), (ac, .inl (cI, 6, .inl C))]) [4, 5, 6, 7] (by decide) rfl
        have hKc := hK.sub (tys' := [(cI, .int)]) [0] rfl
        have hFc := va_free (wc := [(a0, .inr (0, [.ref ak, .ref al, .ref ac, .int N])), (ak, .inl (cI, 6, .inl K)), (al, .inl (cI, 6, .inl L)), (ac, .inl (cI, 6, .inl C))]) hD hS hA [4, 5, 6, 7] rfl
        refine va_calli (va_runV (As := [.int (GN v2.toNatClampNeg), .int (GC v2.toNatClampNeg)]) (rest := []) ⟨hx, hb, hml, hown, hts⟩ (ctX0_chosenBy l dC dI cI a0 ak al ac H.size N K L C (GN v2.toNatClampNeg) (GC v2.toNatClampNeg) (by assumption) (by assumption)) (cwV 2 hts gX1_holdIn_X0_chosenBy rfl rfl rfl (by decide +kernel) ⟨Nat.le_of_ble_eq_true rfl, Nat.le_of_ble_eq_true rfl⟩) (pre_V hKc hN hPc hDc (RX0, TX0, 4) 0 0 rfl rfl) rfl rfl hl.1 rfl (lv_room (Nat.le_of_ble_eq_true rfl)) dX1_holdIn_23 ⟨Nat.le_of_ble_eq_true rfl, Nat.le_of_ble_eq_true rfl⟩) hS (fun q _ h => hFc q h) hFc (fun r _ t H locs ht hvm hw hB hz1 hk1 hS => ?_)
        try dsimp only at hw
        subst hw
        rw [ht] at hB
        obtain ⟨hP, hD⟩ := rw_join ([(g0, .inr (1, [.ref gn, .ref gc, .ref gh, .int GK])), (gn, .inl (cI, 8, .inl GN)), (gc, .inl (cI, 8, .inl GC)), (gh, .inl (cI, 8, .inl GH)), (a0, .inr (0, [.ref ak, .ref al, .ref ac, .int N])), (ak, .inl (cI, 6, .inl K)), (al, .inl (cI, 6, .inl L)), (ac, .inl (cI, 6, .inl C))]) ([(g0, .inr (1, [.ref gn, .ref gc, .ref gh, .int GK])), (gn, .inl (cI, 8, .inl GN)), (gc, .inl (cI, 8, .inl GC)), (gh, .inl (cI, 8, .inl GH)), (a0, .inr (0, [.ref ak, .ref al, .ref ac, .int N])), (ak, .inl (cI, 6, .inl K)), (al, .inl (cI, 6, .inl L)), (ac, .inl (cI, 6, .inl C))]) ([(a0, .inr (0, [.ref ak, .ref al, .ref ac, .int N])), (ak, .inl (cI, 6, .inl K)), (al, .inl (cI, 6, .inl L)), (ac, .inl (cI, 6, .inl C))]) ([(a0, .inr (0, [.ref ak, .ref al, .ref ac, .int N])), (ak, .inl (cI, 6, .inl K)), (al, .inl (cI, 6, .inl L)), (ac, .inl (cI, 6, .inl C))]) ([(g0, .inr (1, [.ref gn, .ref gc, .ref gh, .int GK])), (gn, .inl (cI, 8, .inl GN)), (gc, .inl (cI, 8, .inl GC)), (gh, .inl (cI, 8, .inl GH))]) hP hD [4, 5, 6, 7] [0, 1, 2, 3] [g0, gn, gc, gh, a0, ak, al, ac] 8 rfl rfl rfl rfl rfl (by decide) rfl rfl hk1 hB
        refine lv_aload_n hx hb dX1_holdIn_26 rfl (lv_at hl 1 rfl) ?_
        refine va_get (D := (dC, dI)) (ci := 1) (v := .ref gh) (C := RX1) (T := TX1) (N := 4) hx hb hts hin1 hown hK hP 0 rfl rfl 2 (by decide) kf_18 (fun _ h9 => h9) rfl dX1_holdIn_27 ?_
        refine lv_iload_n hx hb dX1_holdIn_30 rfl (lv_at hl 0 rfl) ?_
        refine va_iald hx hb hK hP 3 0 rfl rfl (by assumption) dX1_holdIn_31 ?_
        refine lv_icmp_eq (tgt := 37) hx hb dX1_holdIn_32 (by decide) (fun c_32 => ?_) (fun c_32 => ?_)
        · skip
          refine lv_iinc (v := (v2 + 1)) (lv' := [(2, .int (v2 + 1)), (0, .ref g0), (1, .ref a0)]) hx hb dX1_holdIn_37 hl (k := 0) rfl rfl (by decide) rfl (fun ls hl => ?_)
          refine lv_goto (tgt := 2) hx hb dX1_holdIn_40 (by decide) ?_
          exact ih (v2 + 1) _ _ _ (up_s hu c_7) hP hD hS (lv_sub hl [0, 1, 2] rfl) (hE.trans (by rw [p1_holdIn_l2_s, if_neg c_7, if_pos c_32]))
        · skip
          refine lv_iconst (v := 0) hx hb dX1_holdIn_35 (by decide) ?_
          have hE9 : p1_holdIn GK GN GC GH N K L C = 0 := hE.trans (by rw [p1_holdIn_l2_s, if_neg c_7, if_neg c_32])
          exact W.zret (v := 0) hx hb hr (by decide +kernel) (fun t ht hW => ⟨⟨_, (), rfl, by rw [hE9], by show va_P (dC, dI) vwCl _ t.heap; rw [ht]; exact hP⟩, hS.F ht⟩) hS.2.2 dX1_holdIn_36
  refine lv_iconst (v := 0) hx hb dX1_holdIn_0 (by decide) ?_
  refine lv_istore_n (lv' := [(2, .int 0), (0, .ref g0), (1, .ref a0)]) hx hb dX1_holdIn_1 rfl hl (by decide) rfl (fun ls hl => ?_)
  exact lp_2 9 0 _ _ _ (up_i 8 (by decide) hG8) hP hD hS (lv_sub hl [0, 1, 2] rfl) (rfl)

/-! what every contract here needs beside the kit: nest links, a method's start, a call behind which the caller's list of cells keeps its order -/
theorem va_AOA.moved {t : FieldType} {u U : State} (hvm : u.vm.Alike U.vm) (h : va_AOA t u) : va_AOA t U := by
  obtain ⟨comp, c, k, h1, h2, h3, h4, h5⟩ := arrayOverA_spec h
  obtain ⟨k', hk', he⟩ := hvm.2.2 _ _ h3
  have hi : (U.vm.classes.findIdx? fun (x : Class) => match x.kind with | .array component _ => component == comp | _ => false) = some c := by
    have e1 := va_idx_bare U.vm comp
    have e2 := va_idx_bare u.vm comp
    first | rw [hvm.bare_eq] at e1 | rw [← hvm.bare_eq] at e1
    exact e1.symm.trans (e2.trans h2)
  have hkind : k'.kind = .array comp (.array t) := by rw [he]; exact h4
  have f1 : U.vm.findClass (FieldType.array t).toString = some comp := by rw [hvm.findClass]; exact h1
  have f2 : U.vm.findClass ("[" ++ (FieldType.array t).toString) = some c := by rw [hvm.findClass]; exact h5
  unfold va_AOA Cond.before Cond.holds
  simp only [Cond.value]
  rw [f1, Option.bind_some]
  refine (congrArg (fun o : Option Nat => (o.bind (fun c => (U.vm.classes[c]?).map fun (k : Class) => match k.kind with | .array _ ty => decide (ty = FieldType.array t) && decide (U.vm.findClass ("[" ++ (FieldType.array t).toString) = some c) | _ => false) == some true)) hi).trans ?_
  simp [hk', hkind, f2]
def nf78 : Cond := .fieldLinkNest RX4 78 "RicherChange$City" "kind" "[I" RX4
def nf82 : Cond := .fieldLinkNest RX4 82 "RicherChange$City" "land" "[I" RX4
def nf85 : Cond := .fieldLinkNest RX4 85 "RicherChange$City" "coin" "[I" RX4
def nf72 : Cond := .fieldLinkNest RX4 72 "RicherChange$City" "houses" "I" RX4
def nf60 : Cond := .fieldLinkNest RX3 60 "RicherChange$City" "land" "[I" RX4
def nf221 : Cond := .fieldLinkNest RX4 221 "RicherChange$Year" "town" "LRicherChange$City;" RX4
def nf138 : Cond := .fieldLinkNest RX4 138 "RicherChange$Readings" "count" "I" RX4
def nf168 : Cond := .fieldLinkNest RX4 168 "RicherChange$Sheets" "rows" "[[I" RX4
def nf172 : Cond := .fieldLinkNest RX4 172 "RicherChange$Sheets" "lanes" "[I" RX4
def nm11 : Cond := .methodLinkNest RX4 11 yX0_init RX4
def nm23 : Cond := .methodLinkNest RX4 23 yX3_init RX4
def nm30 : Cond := .methodLinkNest RX4 30 yX1_init RX4
def nm37 : Cond := .methodLinkNest RX4 37 yX2_init RX4
def nm11y : Cond := .methodLinkNest RX3 11 yX0_init RX4
/-- what the tables say of nest mates, and of arrays of arrays -/
def NW (U : State) : Prop := va_Nw nf78 U ∧ va_Nw nf82 U ∧ va_Nw nf85 U ∧ va_Nw nf72 U ∧ va_Nw nf60 U ∧ va_Nw nf221 U ∧ va_Nw nf138 U ∧ va_Nw nf168 U ∧ va_Nw nf172 U ∧ va_Nw nm11 U ∧ va_Nw nm23 U ∧ va_Nw nm30 U ∧ va_Nw nm37 U ∧ va_Nw nm11y U ∧ va_AOA .int U
theorem NW.warm {s U : State} (hW : s.WarmedH U.vm) (h : NW s) : NW U := by
  obtain ⟨h1, h2, h3, h4, h5, h6, h7, h8, h9, m1, m2, m3, m4, m5, a⟩ := h
  exact ⟨va_Nw.warmF hW h1, va_Nw.warmF hW h2, va_Nw.warmF hW h3, va_Nw.warmF hW h4, va_Nw.warmF hW h5, va_Nw.warmF hW h6, va_Nw.warmF hW h7, va_Nw.warmF hW h8, va_Nw.warmF hW h9, va_Nw.warmM hW m1, va_Nw.warmM hW m2, va_Nw.warmM hW m3, va_Nw.warmM hW m4, va_Nw.warmM hW m5, va_AOA.moved hW.alike a⟩
theorem NW.same {u U : State} (hv : u.vm = U.vm) (h : NW u) : NW U := by
  obtain ⟨h1, h2, h3, h4, h5, h6, h7, h8, h9, m1, m2, m3, m4, m5, a⟩ := h
  refine ⟨va_Nw.same rfl hv h1, va_Nw.same rfl hv h2, va_Nw.same rfl hv h3, va_Nw.same rfl hv h4, va_Nw.same rfl hv h5, va_Nw.same rfl hv h6, va_Nw.same rfl hv h7, va_Nw.same rfl hv h8, va_Nw.same rfl hv h9, va_Nw.same rfl hv m1, va_Nw.same rfl hv m2, va_Nw.same rfl hv m3, va_Nw.same rfl hv m4, va_Nw.same rfl hv m5, ?_⟩
  exact va_AOA.moved (by rw [hv]; exact Vm.Alike.refl U.vm) a
/-- a method's start -/
def cP (dC : Nat → ClassId) (dI : Nat → Nat → Nat) (tys : List (ClassId × FieldType)) (ws : va_W) (sz : Nat) (U : State) : Prop := U.heap.size = sz ∧ va_P (dC, dI) vwCl ws U.heap ∧ va_K (dC, dI) vwCl tys U ∧ va_D (fun _ => True) ws ∧ NW U
theorem cP_blind {av : List Value} {dC : Nat → ClassId} {dI : Nat → Nat → Nat} {tys : List (ClassId × FieldType)} {ws : va_W} {sz : Nat} : FrameBlind (va_Pc av (cP dC dI tys ws sz)) := fun a U g mk q => by
  obtain ⟨q0, q1, qP, qK, qD, qN⟩ := q
  exact ⟨q0, q1, qP, va_K.moved (u := U) (U := U.calling g mk a) (Vm.Alike.refl U.vm) qK, qD, NW.same (u := U) (U := U.calling g mk a) rfl qN⟩
theorem pre_S {s : State} {H : Heap} {A : Nat → Prop} {av : List Value} {dC : Nat → ClassId} {dI : Nat → Nat → Nat} {tys : List (ClassId × FieldType)} {ws : va_W} (hK : va_K (dC, dI) vwCl tys s) (hN : NW s) (hP : va_P (dC, dI) vwCl ws H) (hD : va_D A ws) : PreS s H (va_Pc av (cP dC dI tys ws H.size)) av :=
  ⟨cP_blind, fun U hU hW => ⟨rfl, by rw [hU], by rw [hU]; exact hP, va_K.moved hW.alike hK, hD.weaken (fun _ _ _ _ => trivial), hN.warm hW⟩⟩
theorem pre_V {s : State} {H : Heap} {A : Nat → Prop} {As : List Value} {b : Nat} {dC : Nat → ClassId} {dI : Nat → Nat → Nat} {tys : List (ClassId × FieldType)} {ws : va_W} (hK : va_K (dC, dI) vwCl tys s) (hN : NW s) (hP : va_P (dC, dI) vwCl ws H) (hD : va_D A ws) (q : vw_C) (ci q0 : Nat) {fs : List Value} (hc : vwCl[ci]? = some q) (he : ws[q0]? = some (b, .inr (ci, fs))) : PreV s H q.1 b (va_Pc (.ref b :: As) (cP dC dI tys ws H.size)) As :=
  ⟨cP_blind, va_recv hK hP hc he, fun U hU hW => ⟨rfl, by rw [hU], by rw [hU]; exact hP, va_K.moved hW.alike hK, hD.weaken (fun _ _ _ _ => trivial), hN.warm hW⟩⟩
theorem addr_D {A : Nat → Prop} {ws ws' : va_W} (hD : va_D A ws) (ha : ws'.map Prod.fst = ws.map Prod.fst) : va_D A ws' := by
  have key : ∀ (k : Nat) (q : Nat × va_E), ws'[k]? = some q → ∃ q2 : Nat × va_E, ws[k]? = some q2 ∧ q2.1 = q.1 := by
    intro k q hq
    have h1 : (ws'.map Prod.fst)[k]? = some q.1 := by rw [List.getElem?_map, hq]; rfl
    rw [ha, List.getElem?_map] at h1
    cases hw : ws[k]? with
    | none => rw [hw] at h1; cases h1
    | some q2 => rw [hw] at h1; exact ⟨q2, rfl, Option.some.inj h1⟩
  refine ⟨fun i j x y hx hy hxy => ?_, fun k q hq => ?_⟩
  · obtain ⟨x2, gx, ex⟩ := key i x hx
    obtain ⟨y2, gy, ey⟩ := key j y hy
    exact hD.1 i j x2 y2 gx gy (by rw [ex, ey]; exact hxy)
  · obtain ⟨q2, g, e⟩ := key k q hq
    rw [← e]
    exact hD.2 k q2 g
/-- a value gets a name that the kernel keeps -/
theorem nm_gen {α : Type} {P : Prop} (a : α) (k : ∀ x : α, a = x → P) : P := k a rfl
/-- behind a call: the callee's cells as it left them, the others as they were, all at their old places -/
theorem rw_join {A0 : Nat → Prop} {D : va_G} {cl : List vw_C} {H H1 : Heap} (ws ws' wc w1 wr : va_W) (hP : va_P D cl ws H) (hD : va_D A0 ws) (isC isR : List Nat) (as : List Nat) (len : Nat) (hlen : as.length = len) (hC : isC.map (fun i => ws[i]?) = wc.map some) (hC1 : isC.map (fun i => ws'[i]?) = w1.map some) (hR : isR.map (fun i => ws[i]?) = wr.map some) (hR1 : isR.map (fun i => ws'[i]?) = wr.map some) (hcov : (List.range len).all (fun i => isC.contains i || isR.contains i) = true) (ha : ws.map Prod.fst = as) (ha1 : ws'.map Prod.fst = as)
    (hk : ∀ q : Nat, q < H.size → ¬ va_A wc H.size q → H1[q]? = H[q]?) (hP1 : va_P D cl w1 H1) : va_P D cl ws' H1 ∧ va_D A0 ws' := by
  have at' : ∀ {is : List Nat} {w u : va_W}, is.map (fun i => u[i]?) = w.map some → ∀ (k : Nat) (q : Nat × va_E), w[k]? = some q → ∃ i, is[k]? = some i ∧ u[i]? = some q := by
    intro is w u hs k q hq
    have h1 : (is.map (fun i => u[i]?))[k]? = some (some q) := by rw [hs, List.getElem?_map, hq]; rfl
    rw [List.getElem?_map] at h1
    cases hi : is[k]? with
    | none => rw [hi] at h1; cases h1
    | some i => rw [hi] at h1; exact ⟨i, rfl, Option.some.inj h1⟩
  have to' : ∀ {is : List Nat} {w u : va_W}, is.map (fun i => u[i]?) = w.map some → ∀ (i : Nat) (q : Nat × va_E), i ∈ is → u[i]? = some q → ∃ k : Nat, w[k]? = some q := by
    intro is w u hs i q hi hq
    obtain ⟨k, hk⟩ := List.getElem?_of_mem hi
    have h1 : (is.map (fun i => u[i]?))[k]? = some (some q) := by rw [List.getElem?_map, hk]; simp [hq]
    rw [hs, List.getElem?_map] at h1
    cases hw : w[k]? with
    | none => rw [hw] at h1; cases h1
    | some z => rw [hw] at h1; exact ⟨k, by rw [hw]; exact Option.some.inj h1⟩
  subst hlen
  refine ⟨fun k q hq => ?_, addr_D hD (ha1.trans ha.symm)⟩
  have hl : k < as.length := by
    rw [← ha1, List.length_map]
    exact (List.getElem?_eq_some_iff.mp hq).1
  have hc := List.all_eq_true.mp hcov k (List.mem_range.mpr hl)
  by_cases hm : k ∈ isC
  · obtain ⟨j, hj⟩ := to' hC1 k q hm hq
    exact hP1 j q hj
  · have hr : k ∈ isR := by
      rcases Bool.or_eq_true_iff.mp hc with h | h
      · exact absurd (List.contains_iff_mem.mp h) hm
      · exact List.contains_iff_mem.mp h
    obtain ⟨j, hj⟩ := List.getElem?_of_mem hr
    have h2 : (isR.map (fun i => ws'[i]?))[j]? = (isR.map (fun i => ws[i]?))[j]? := by rw [hR, hR1]
    rw [List.getElem?_map, List.getElem?_map, hj] at h2
    have h3 : ws[k]? = some q := by
      have h4 : ws'[k]? = ws[k]? := Option.some.inj h2
      rw [← h4]; exact hq
    have hlt := (hP k q h3).lt
    refine (hP k q h3).kept (hk q.1 hlt (fun h => ?_))
    rcases h with ⟨k2, e, h⟩ | h
    · obtain ⟨i, h5, h6⟩ := at' hC k2 (q.1, e) h
      have hij := hD.1 k i q (q.1, e) h3 h6 rfl
      subst hij
      exact hm (List.mem_of_getElem? h5)
    · omega
section KGR
variable {p : Program} {l : Launch} {e : Env} {R : Room} {s : State} {m : MethodId} {args : Array Value} {below : List Frame} {meth : Method} {c : Code} {H : Heap} {locs : List Loc} {cells slots : Nat} {Q : State → Prop}
variable {cc : ByteArray} {pc : Nat} {ls : Array Slot} {rest : List Value} {D : va_G} {cl : List vw_C} {A : Nat → Prop} {a : Nat} {tys : List (ClassId × FieldType)} {ws : va_W} {H0 : Heap}
/-- aaload out of an array of arrays -/
theorem va_alda (hexec : p.tables.exec = Jvm.exec) (hb : c.code = cc) (hK : va_K D cl tys s) (hP : va_P D cl ws H) (q0 t0 : Nat) {cA : ClassId} {ty : FieldType} {n : Nat} {f : Nat → Option Nat} (ha : ws[q0]? = some (a, .inl (cA, n, .inr (.inr (.inr (.inr f)))))) (ht : tys[t0]? = some (cA, .array ty)) {i : Int32} (hin : vp_in i n) {v : Nat} (hv : f i.toNatClampNeg = some v) (hdg : decode cc pc = .ok (.aaload, 1))
    (kk : W p l e R s m args below meth c H locs cells slots Q (F0 m (pc + 1) ls (.ref v :: rest))) : W p l e R s m args below meth c H locs cells slots Q (F0 m pc ls (.int i :: .ref a :: rest)) := by
  have hlt : i.toNatClampNeg < n := Nat.not_le.mp fun q => hin (Or.inr q)
  refine W.aald (v := va_rf (f i.toNatClampNeg)) (ty := .array ty) hexec hb (hP q0 _ ha) ((hK.2 t0 _ ht).1 n (fun j => va_rf (f j))) rfl (fun q => by cases q) (by show ¬ (i < 0 ∨ (arrV _ _ _).slots.size ≤ _); rw [arrV_size]; exact hin) (by show (arrV _ _ _).slots[_]? = _; rw [arrV_read _ _ hlt]) rfl rfl hdg ?_
  rw [hv]
  exact kk
end KGR
/-- four rows of cells -/
abbrev rowsW (cI : ClassId) (rr : Nat → Nat) (M : Nat → Nat → Int32) : va_W := [(rr 0, .inl (cI, 60, .inl (M 0))), (rr 1, .inl (cI, 60, .inl (M 1))), (rr 2, .inl (cI, 60, .inl (M 2))), (rr 3, .inl (cI, 60, .inl (M 3)))]
def upd2 (M : Nat → Nat → Int32) (k i : Nat) (x : Int32) : Nat → Nat → Int32 := fun j => if j = k then upd (M k) i x else M j
def setr (M : Nat → Nat → Int32) (k : Nat) (f : Nat → Int32) : Nat → Nat → Int32 := fun j => if j = k then f else M j
theorem rows_get (cI : ClassId) (rr : Nat → Nat) (M : Nat → Nat → Int32) (X : va_W) {k : Nat} (h : k < 4) : (rowsW cI rr M ++ X)[k]? = some (rr k, .inl (cI, 60, .inl (M k))) := by
  match k, h with
  | 0, _ => rfl
  | 1, _ => rfl
  | 2, _ => rfl
  | 3, _ => rfl
theorem rows_set (cI : ClassId) (rr : Nat → Nat) (M : Nat → Nat → Int32) (X : va_W) {k : Nat} (h : k < 4) (f : Nat → Int32) : (rowsW cI rr M ++ X).set k (rr k, .inl (cI, 60, .inl f)) = rowsW cI rr (setr M k f) ++ X := by
  match k, h with
  | 0, _ => simp [rowsW, setr]
  | 1, _ => simp [rowsW, setr]
  | 2, _ => simp [rowsW, setr]
  | 3, _ => simp [rowsW, setr]
theorem vp_lt {x : Int32} {n : Nat} (h : vp_in x n) : x.toNatClampNeg < n := Nat.not_le.mp fun q => h (Or.inr q)
theorem nar_bool {v : Int32} (h : v = 0 ∨ v = 1) : narrow .boolean (.int v) = .int v := by
  rcases h with rfl | rfl <;> decide +kernel

/-! what holds between class and reference -/
def kinds3 (x : Int32) : Prop := x = 0 ∨ x = 1 ∨ x = 2
/-- one sheet on both sides -/
def shR (M : Nat → Nat → Int32) (LA LE SZ LN SH : Nat → Int32) (k : Nat) : Prop := (LA k = -1 ∧ LE k = 0 ∧ SZ k = -1) ∨ (0 ≤ (LA k).toInt ∧ (LA k).toInt ≤ 2 ∧ LN k = LA k ∧ SZ k = LE k ∧ 0 ≤ (LE k).toInt ∧ (LE k).toInt ≤ 60 ∧ ∀ i : Nat, (i : Int) < (LE k).toInt → SH (60 * k + i) = M k i)
def Inv (t : Nat) (N : Int32) (K L C : Nat → Int32) (GK : Int32) (GN GC : Nat → Int32) (M : Nat → Nat → Int32) (LA LE SZ LN SH : Nat → Int32) : Prop :=
  (0 ≤ N.toInt ∧ N.toInt ≤ 6) ∧ (∀ j : Nat, kinds3 (K j)) ∧ (∀ j : Nat, 0 ≤ (L j).toInt ∧ (L j).toInt ≤ 18) ∧ (∀ j : Nat, 0 ≤ (C j).toInt ∧ (C j).toInt ≤ 18 * ((t : Int) + 1)) ∧ (0 ≤ GK.toInt ∧ GK.toInt ≤ 8) ∧ (∀ j : Nat, (j : Int) < GK.toInt → vp_in (GN j) 6 ∧ 0 ≤ (GC j).toInt ∧ (GC j).toInt ≤ 9) ∧ (∀ j : Nat, (LE j).toInt ≤ 60) ∧ (∀ j : Nat, (SZ j).toInt ≤ 60) ∧ (∀ k : Nat, k < 4 → shR M LA LE SZ LN SH k)
section INV
variable {t : Nat} {N : Int32} {K L C : Nat → Int32} {GK : Int32} {GN GC : Nat → Int32} {M : Nat → Nat → Int32} {LA LE SZ LN SH : Nat → Int32}
theorem Inv.N0 (h : Inv t N K L C GK GN GC M LA LE SZ LN SH) : 0 ≤ N.toInt := h.1.1
theorem Inv.N6 (h : Inv t N K L C GK GN GC M LA LE SZ LN SH) : N.toInt ≤ 6 := h.1.2
theorem Inv.K3 (h : Inv t N K L C GK GN GC M LA LE SZ LN SH) : ∀ j : Nat, kinds3 (K j) := h.2.1
theorem Inv.L0 (h : Inv t N K L C GK GN GC M LA LE SZ LN SH) : ∀ j : Nat, 0 ≤ (L j).toInt ∧ (L j).toInt ≤ 18 := h.2.2.1
theorem Inv.L18 (h : Inv t N K L C GK GN GC M LA LE SZ LN SH) : ∀ j : Nat, (L j).toInt ≤ 18 := fun j => (h.2.2.1 j).2
theorem Inv.C0 (h : Inv t N K L C GK GN GC M LA LE SZ LN SH) : ∀ j : Nat, 0 ≤ (C j).toInt ∧ (C j).toInt ≤ 18 * ((t : Int) + 1) := h.2.2.2.1
theorem Inv.G08 (h : Inv t N K L C GK GN GC M LA LE SZ LN SH) : 0 ≤ GK.toInt ∧ GK.toInt ≤ 8 := h.2.2.2.2.1
theorem Inv.G0 (h : Inv t N K L C GK GN GC M LA LE SZ LN SH) : 0 ≤ GK.toInt := h.2.2.2.2.1.1
theorem Inv.G8 (h : Inv t N K L C GK GN GC M LA LE SZ LN SH) : GK.toInt ≤ 8 := h.2.2.2.2.1.2
theorem Inv.GA (h : Inv t N K L C GK GN GC M LA LE SZ LN SH) : ∀ j : Nat, (j : Int) < GK.toInt → vp_in (GN j) 6 ∧ 0 ≤ (GC j).toInt ∧ (GC j).toInt ≤ 9 := h.2.2.2.2.2.1
theorem Inv.GN6 (h : Inv t N K L C GK GN GC M LA LE SZ LN SH) : ∀ j : Nat, (j : Int) < GK.toInt → vp_in (GN j) 6 := fun j hj => (h.GA j hj).1
theorem Inv.LE60 (h : Inv t N K L C GK GN GC M LA LE SZ LN SH) : ∀ j : Nat, (LE j).toInt ≤ 60 := h.2.2.2.2.2.2.1
theorem Inv.SZ60 (h : Inv t N K L C GK GN GC M LA LE SZ LN SH) : ∀ j : Nat, (SZ j).toInt ≤ 60 := h.2.2.2.2.2.2.2.1
theorem Inv.SR (h : Inv t N K L C GK GN GC M LA LE SZ LN SH) : ∀ k : Nat, k < 4 → shR M LA LE SZ LN SH k := h.2.2.2.2.2.2.2.2
theorem Inv.next (h : Inv t N K L C GK GN GC M LA LE SZ LN SH) : Inv (t + 1) N K L C GK GN GC M LA LE SZ LN SH :=
  ⟨h.1, h.2.1, h.2.2.1, fun j => ⟨(h.C0 j).1, by have := (h.C0 j).2; omega⟩, h.2.2.2.2.1, h.GA, h.LE60, h.SZ60, h.SR⟩
end INV
/-- an array's contents, cut to its length -/
def nzn (n : Nat) (f : Nat → Int32) : Nat → Int32 := fun j => if j < n then f j else 0
theorem nzn_in {n : Nat} {f : Nat → Int32} {j : Nat} (h : j < n) : nzn n f j = f j := if_pos h
theorem nzn_out {n : Nat} {f : Nat → Int32} {j : Nat} (h : n ≤ j) : nzn n f j = 0 := if_neg (by omega)
theorem nzn_eq {n : Nat} {f g : Nat → Int32} (h : ∀ j, j < n → f j = g j) : nzn n f = nzn n g := by
  funext j
  unfold nzn
  split
  · exact h j (by assumption)
  · rfl
def Z6 (f : Nat → Int32) : Prop := ∀ j : Nat, 6 ≤ j → f j = 0
def Zs (K L C K2 L2 C2 K3 L3 C3 : Nat → Int32) : Prop := Z6 K ∧ Z6 L ∧ Z6 C ∧ Z6 K2 ∧ Z6 L2 ∧ Z6 C2 ∧ Z6 K3 ∧ Z6 L3 ∧ Z6 C3
theorem Z6_n (f : Nat → Int32) : Z6 (nzn 6 f) := fun _ h => nzn_out h
theorem Zs_norm {K L C K2 L2 C2 K3 L3 C3 : Nat → Int32} : Zs (nzn 6 K) (nzn 6 L) (nzn 6 C) (nzn 6 K2) (nzn 6 L2) (nzn 6 C2) (nzn 6 K3) (nzn 6 L3) (nzn 6 C3) := ⟨Z6_n K, Z6_n L, Z6_n C, Z6_n K2, Z6_n L2, Z6_n C2, Z6_n K3, Z6_n L3, Z6_n C3⟩
theorem Zs_0 : Zs (fun _ => 0) (fun _ => 0) (fun _ => 0) (fun _ => 0) (fun _ => 0) (fun _ => 0) (fun _ => 0) (fun _ => 0) (fun _ => 0) := ⟨fun _ _ => rfl, fun _ _ => rfl, fun _ _ => rfl, fun _ _ => rfl, fun _ _ => rfl, fun _ _ => rfl, fun _ _ => rfl, fun _ _ => rfl, fun _ _ => rfl⟩
theorem Inv.norm {t : Nat} {N : Int32} {K L C : Nat → Int32} {GK : Int32} {GN GC : Nat → Int32} {M : Nat → Nat → Int32} {LA LE SZ LN SH : Nat → Int32} (h : Inv t N K L C GK GN GC M LA LE SZ LN SH) : Inv t N (nzn 6 K) (nzn 6 L) (nzn 6 C) GK (nzn 8 GN) (nzn 8 GC) (fun k => nzn 60 (M k)) (nzn 4 LA) (nzn 4 LE) (nzn 4 SZ) (nzn 4 LN) (nzn 240 SH) := by
  refine ⟨h.1, fun j => ?_, fun j => ?_, fun j => ?_, h.G08, fun j hj => ?_, fun j => ?_, fun j => ?_, fun k hk => ?_⟩
  · by_cases q : j < 6
    · rw [nzn_in q]; exact h.K3 j
    · rw [nzn_out (by omega)]; exact Or.inl rfl
  · by_cases q : j < 6
    · rw [nzn_in q]; exact h.L0 j
    · rw [nzn_out (by omega), q_0]; omega
  · by_cases q : j < 6
    · rw [nzn_in q]; exact h.C0 j
    · rw [nzn_out (by omega), q_0]; omega
  · have : j < 8 := by have := h.G8; omega
    rw [nzn_in this, nzn_in this]; exact h.GA j hj
  · by_cases q : j < 4
    · rw [nzn_in q]; exact h.LE60 j
    · rw [nzn_out (by omega), q_0]; omega
  · by_cases q : j < 4
    · rw [nzn_in q]; exact h.SZ60 j
    · rw [nzn_out (by omega), q_0]; omega
  · have e := h.SR k hk
    unfold shR at e ⊢
    rw [nzn_in hk, nzn_in hk, nzn_in hk, nzn_in hk]
    rcases e with e | ⟨e1, e2, e3, e4, e5, e6, e7⟩
    · exact Or.inl e
    · refine Or.inr ⟨e1, e2, e3, e4, e5, e6, fun i hi => ?_⟩
      rw [nzn_in (by omega)]
      show SH (60 * k + i) = nzn 60 (M k) i
      rw [nzn_in (by omega)]
      exact e7 i hi
/-- a cell with its contents cut -/
def nzc (q : Nat × va_E) : Nat × va_E := match q with
  | (a, .inl (cA, n, .inl f)) => (a, .inl (cA, n, .inl (nzn n f)))
  | q => q
theorem cell_n (cA : ClassId) (n : Nat) (f : Nat → Int32) : vp_cell cA (n, .inl (nzn n f)) = vp_cell cA (n, .inl f) := by
  rw [vp_cell_i, vp_cell_i]
  unfold arrV
  congr 1
  apply Array.ext
  · simp
  · intro i h1 h2
    simp at h1 ⊢
    rw [nzn_in h1]
theorem at_n {D : va_G} {cl : List vw_C} {q : Nat × va_E} {H : Heap} (h : va_at D cl q H) : va_at D cl (nzc q) H := by
  obtain ⟨a, e⟩ := q
  rcases e with ⟨cA, n, x⟩ | o
  · rcases x with f | x
    · show H[a]? = some (vp_cell cA (n, .inl (nzn n f)))
      rw [cell_n]
      exact h
    · exact h
  · exact h
theorem P_norm {D : va_G} {cl : List vw_C} {ws : va_W} {H : Heap} (h : va_P D cl ws H) : va_P D cl (ws.map nzc) H := by
  intro k q hq
  rw [List.getElem?_map] at hq
  cases hw : ws[k]? with
  | none => rw [hw] at hq; cases hq
  | some z => rw [hw] at hq; cases hq; exact at_n (h k z hw)
theorem P_eq {D : va_G} {cl : List vw_C} {ws : va_W} {H : Heap} {a n q : Nat} {cA : ClassId} {f g : Nat → Int32} (h : va_P D cl ws H) (e : g = f) (hq : ws[q]? = some (a, .inl (cA, n, .inl f))) : va_P D cl (ws.set q (a, .inl (cA, n, .inl g))) H := by
  rw [e]
  intro k z hz
  by_cases hk : q = k
  · subst hk
    rw [List.getElem?_set_self (List.getElem?_eq_some_iff.mp hq).1] at hz
    cases hz
    exact h q _ hq
  · rw [List.getElem?_set_ne hk] at hz
    exact h k z hz

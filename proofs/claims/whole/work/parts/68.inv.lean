/-! what holds between class and reference -/
def kinds3 (x : Int32) : Prop := x = 0 ∨ x = 1 ∨ x = 2
/-- one sheet on both sides -/
def shR (M : Nat → Nat → Int32) (LA LE SZ LN SH : Nat → Int32) (k : Nat) : Prop := (LA k = -1 ∧ LE k = 0 ∧ SZ k = -1) ∨ (0 ≤ (LA k).toInt ∧ (LA k).toInt ≤ 2 ∧ LN k = LA k ∧ SZ k = LE k ∧ 0 ≤ (LE k).toInt ∧ (LE k).toInt ≤ 60 ∧ ∀ i : Nat, (i : Int) < (LE k).toInt → SH (60 * k + i) = M k i)
def Inv (t : Nat) (N : Int32) (K L C : Nat → Int32) (GK : Int32) (GN GC : Nat → Int32) (M : Nat → Nat → Int32) (LA LE SZ LN SH : Nat → Int32) : Prop :=
  (0 ≤ N.toInt ∧ N.toInt ≤ 6) ∧ (∀ j : Nat, kinds3 (K j)) ∧ (∀ j : Nat, 0 ≤ (L j).toInt ∧ (L j).toInt ≤ 18) ∧ (∀ j : Nat, 0 ≤ (C j).toInt ∧ (C j).toInt ≤ 18 * ((t : Int) + 1)) ∧ (0 ≤ GK.toInt ∧ GK.toInt ≤ 8) ∧ (∀ j : Nat, (j : Int) < GK.toInt → vp_in (GN j) 6 ∧ 0 ≤ (GC j).toInt ∧ (GC j).toInt ≤ 9) ∧ (∀ j : Nat, (LE j).toInt ≤ 60) ∧ (∀ j : Nat, (SZ j).toInt ≤ 60) ∧ (∀ k : Nat, k < 4 → shR M LA LE SZ LN SH k)
section INV
variable {t : Nat} {N : Int32} {K L C : Nat → Int32} {GK : Int32} {GN GC : Nat → Int32} {M : Nat → Nat → Int32} {LA LE SZ LN SH : Nat → Int32}
theorem Inv.N0 (h : Inv t N K L C GK GN GC M LA LE SZ LN SH) : 0 ≤ N.toInt := h.1.1
theorem Inv.N6 (h : Inv t N K L C GK GN GC M LA LE SZ LN SH) : N.toInt ≤ 6 := h.1.2
theorem Inv.K3 (h : Inv t N K L C GK GN GC M LA LE SZ LN SH) : ∀ j : Nat, kinds3 (K j) := h.2.1
theorem Inv.L0 (h : Inv t N K L C GK GN GC M LA LE SZ LN SH) : ∀ j : Nat, 0 ≤ (L j).toInt ∧ (L j).toInt ≤ 18 := h.2.2.1
theorem Inv.L18 (h : Inv t N K L C GK GN GC M LA LE SZ LN SH) : ∀ j : Nat, (L j).toInt ≤ 18 := fun j => (h.2.2.1 j).2
theorem Inv.C0 (h : Inv t N K L C GK GN GC M LA LE SZ LN SH) : ∀ j : Nat, 0 ≤ (C j).toInt ∧ (C j).toInt ≤ 18 * ((t : Int) + 1) := h.2.2.2.1
theorem Inv.G08 (h : Inv t N K L C GK GN GC M LA LE SZ LN SH) : 0 ≤ GK.toInt ∧ GK.toInt ≤ 8 := h.2.2.2.2.1
theorem Inv.G0 (h : Inv t N K L C GK GN GC M LA LE SZ LN SH) : 0 ≤ GK.toInt := h.2.2.2.2.1.1
theorem Inv.G8 (h : Inv t N K L C GK GN GC M LA LE SZ LN SH) : GK.toInt ≤ 8 := h.2.2.2.2.1.2
theorem Inv.GA (h : Inv t N K L C GK GN GC M LA LE SZ LN SH) : ∀ j : Nat, (j : Int) < GK.toInt → vp_in (GN j) 6 ∧ 0 ≤ (GC j).toInt ∧ (GC j).toInt ≤ 9 := h.2.2.2.2.2.1
theorem Inv.GN6 (h : Inv t N K L C GK GN GC M LA LE SZ LN SH) : ∀ j : Nat, (j : Int) < GK.toInt → vp_in (GN j) 6 := fun j hj => (h.GA j hj).1
theorem Inv.LE (h : Inv t N K L C GK GN GC M LA LE SZ LN SH) : ∀ j : Nat, (LE j).toInt ≤ 60 := h.2.2.2.2.2.2.1
theorem Inv.SZ (h : Inv t N K L C GK GN GC M LA LE SZ LN SH) : ∀ j : Nat, (SZ j).toInt ≤ 60 := h.2.2.2.2.2.2.2.1
theorem Inv.SR (h : Inv t N K L C GK GN GC M LA LE SZ LN SH) : ∀ k : Nat, k < 4 → shR M LA LE SZ LN SH k := h.2.2.2.2.2.2.2.2
theorem Inv.next (h : Inv t N K L C GK GN GC M LA LE SZ LN SH) : Inv (t + 1) N K L C GK GN GC M LA LE SZ LN SH :=
  ⟨h.1, h.2.1, h.2.2.1, fun j => ⟨(h.C0 j).1, by have := (h.C0 j).2; omega⟩, h.2.2.2.2.1, h.GA, h.LE, h.SZ, h.SR⟩
end INV

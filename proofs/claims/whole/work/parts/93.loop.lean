theorem Inv_0 : Inv 0 0 (fun _ => 0) (fun _ => 0) (fun _ => 0) 0 (fun _ => 0) (fun _ => 0) (fun _ _ => 0) (upd (upd (upd (upd (fun _ => 0) (0 : Int32).toNatClampNeg (-1)) (1 : Int32).toNatClampNeg (-1)) (2 : Int32).toNatClampNeg (-1)) (3 : Int32).toNatClampNeg (-1)) (fun _ => 0) (upd (upd (upd (upd (fun _ => 0) (0 : Int32).toNatClampNeg (-1)) (1 : Int32).toNatClampNeg (-1)) (2 : Int32).toNatClampNeg (-1)) (3 : Int32).toNatClampNeg (-1)) (fun _ => 0) (fun _ => 0) := by
  refine ⟨⟨by decide, by decide⟩, fun j => Or.inl rfl, fun j => ⟨by show 0 ≤ (0 : Int32).toInt; decide, by show (0 : Int32).toInt ≤ 18; decide⟩, fun j => ⟨by show 0 ≤ (0 : Int32).toInt; decide, by show (0 : Int32).toInt ≤ 18 * (((0 : Nat) : Int) + 1); decide⟩, ⟨by decide, by decide⟩, fun j hj => ?_, fun j => by show (0 : Int32).toInt ≤ 60; decide, fun j => ?_, fun k hk => ?_⟩
  · rw [q_0] at hj; omega
  · simp only [upd]
    split
    · decide
    · split
      · decide
      · split
        · decide
        · split <;> decide
  · match k, hk with
    | 0, _ => exact Or.inl ⟨rfl, rfl, rfl⟩
    | 1, _ => exact Or.inl ⟨rfl, rfl, rfl⟩
    | 2, _ => exact Or.inl ⟨rfl, rfl, rfl⟩
    | 3, _ => exact Or.inl ⟨rfl, rfl, rfl⟩

theorem LWS.next {dC : Nat → ClassId} {dI : Nat → Nat → Nat} {A : Nat → Prop} {cI cR : ClassId} {u rr : Nat → Nat} {t : Nat} {H : Heap} (h : LWS dC dI A cI cR u rr t H) : LWS dC dI A cI cR u rr (t + 1) H := by
  obtain ⟨M, TR, LF, N, K, L, C, N2, K2, L2, C2, YC, YF, N3, K3, L3, C3, P, GK, GN, GC, GH, LA, LE, mra, mrh, mch, mfr, mfw, RK, RL, RC, KL, KC, PY, SZ, LN, SH, HD, hI, hZ, hP, hD⟩ := h
  exact ⟨M, TR, LF, N, K, L, C, N2, K2, L2, C2, YC, YF, N3, K3, L3, C3, P, GK, GN, GC, GH, LA, LE, mra, mrh, mch, mfr, mfw, RK, RL, RC, KL, KC, PY, SZ, LN, SH, HD, hI.next, hZ, hP, hD⟩
theorem sw_out26 {x : Int32} (h0 : ¬ x = 0) (h1 : ¬ x = 1) (h2 : ¬ x = 2) (h3 : ¬ x = 3) (h4 : ¬ x = 4) (h5 : ¬ x = 5) (h6 : ¬ x = 6) (h7 : ¬ x = 7) (h8 : ¬ x = 8) (h9 : ¬ x = 9) (h10 : ¬ x = 10) (h11 : ¬ x = 11) (h12 : ¬ x = 12) (h13 : ¬ x = 13) (h14 : ¬ x = 14) (h15 : ¬ x = 15) (h16 : ¬ x = 16) (h17 : ¬ x = 17) (h18 : ¬ x = 18) (h19 : ¬ x = 19) (h20 : ¬ x = 20) (h21 : ¬ x = 21) (h22 : ¬ x = 22) (h23 : ¬ x = 23) (h24 : ¬ x = 24) (h25 : ¬ x = 25) : x.toInt < 0 ∨ 25 < x.toInt := by
  have g0 := lv_neT (a := 0) h0 (by decide)
  have g1 := lv_neT (a := 1) h1 (by decide)
  have g2 := lv_neT (a := 2) h2 (by decide)
  have g3 := lv_neT (a := 3) h3 (by decide)
  have g4 := lv_neT (a := 4) h4 (by decide)
  have g5 := lv_neT (a := 5) h5 (by decide)
  have g6 := lv_neT (a := 6) h6 (by decide)
  have g7 := lv_neT (a := 7) h7 (by decide)
  have g8 := lv_neT (a := 8) h8 (by decide)
  have g9 := lv_neT (a := 9) h9 (by decide)
  have g10 := lv_neT (a := 10) h10 (by decide)
  have g11 := lv_neT (a := 11) h11 (by decide)
  have g12 := lv_neT (a := 12) h12 (by decide)
  have g13 := lv_neT (a := 13) h13 (by decide)
  have g14 := lv_neT (a := 14) h14 (by decide)
  have g15 := lv_neT (a := 15) h15 (by decide)
  have g16 := lv_neT (a := 16) h16 (by decide)
  have g17 := lv_neT (a := 17) h17 (by decide)
  have g18 := lv_neT (a := 18) h18 (by decide)
  have g19 := lv_neT (a := 19) h19 (by decide)
  have g20 := lv_neT (a := 20) h20 (by decide)
  have g21 := lv_neT (a := 21) h21 (by decide)
  have g22 := lv_neT (a := 22) h22 (by decide)
  have g23 := lv_neT (a := 23) h23 (by decide)
  have g24 := lv_neT (a := 24) h24 (by decide)
  have g25 := lv_neT (a := 25) h25 (by decide)
  omega
theorem ix_of {L t k : Nat} {v : Int32} (hL : L ≤ 448) (ht : t ≤ 64) (ev : v = nI (7 * t)) (c : ¬ (Int32.ofNat L - 7) < v) (hk : k ≤ 6) : vp_in (v + nI k) L ∧ 7 * t + 7 ≤ L := by
  have h1 : ¬ (Int32.ofNat L - 7).toInt < v.toInt := fun q => c (q_lt.mpr q)
  have e1 : (Int32.ofNat L).toInt = L := nI_toInt (n := L) (by omega)
  have e7 : (7 : Int32).toInt = 7 := by decide
  rw [q_sub (by rw [e1, e7]; omega) (by rw [e1, e7]; omega), e1, e7, ev, nI_toInt (by omega)] at h1
  have h2 : 7 * t + 7 ≤ L := by omega
  rw [ev, nI_add]
  exact ⟨vp_in_nI (by omega) (by omega), h2⟩
theorem ix_0 {L : Nat} {v : Int32} (h : vp_in (v + nI 0) L) : vp_in v L := by
  rwa [nI_0, Int32.add_zero] at h
set_option maxHeartbeats 8000000 in
set_option maxRecDepth 100000 in
theorem law_loop {p : Program} {e : Env} {s : State} {m : MethodId} {below : List Frame} {meth : Method} {c : Code} (l : Launch) {b L : Nat} {xs : Nat → Int32} (hL : L ≤ 448) (C0 : lw_At p s m meth c b L xs) (dC : Nat → ClassId) (dI : Nat → Nat → Nat) (cI cR : ClassId) (u rr : Nat → Nat) (hK : va_K (dC, dI) vwCl [(cI, .int), (cR, .array .int)] s) (hN : NW s) : ∀ (n t : Nat) (v3 : Int32) (H : Heap) (locs : List Loc) (ls : Array Slot), t + n = 65 → t ≤ 64 → v3 = nI (7 * t) → LWS dC dI (fun q : Nat => s.heap.size ≤ q) cI cR u rr t H → va_S (fun q : Nat => s.heap.size ≤ q) s.heap H locs → lv_has ls 4 [(3, .int v3), (2, .ref (u 23)), (1, .ref (u 0)), (0, .ref b)] → W p l e room_1 s m #[Value.ref b] below meth c H locs 44 777 (lw_Z below #[Value.ref b] s) (F0 m 18 ls []) := by
  obtain ⟨hx, hb, hr, hml, hown0, hts0, hX, hbl, hlocks, hgv⟩ := id C0
  have hbA : ¬ (fun q : Nat => s.heap.size ≤ q) b := Nat.not_le.mpr hbl
  intro n
  induction n with
  | zero => intro t v3 H locs ls h1 h2; exact absurd h1 (by omega)
  | succ n ih =>
    intro t v3 H locs ls hn ht ev hLS hS hl
    refine lv_iload_n hx hb dL_law_18 rfl (lv_at hl 0 rfl) ?_
    refine lv_aload_n hx hb dL_law_19 rfl (lv_at hl 3 rfl) ?_
    refine va_slen hx hb hX hbl hbA hS dL_law_20 ?_
    refine lv_bipush (v := 7) hx hb dL_law_21 (by decide) ?_
    refine lv_isub hx hb dL_law_23 ?_
    refine lv_icmp_gt (tgt := 1060) hx hb dL_law_24 (by decide) (fun c_24 => ?_) (fun c_24 => ?_)
    · refine lv_iconst (v := 1) hx hb dL_law_1060 (by decide) ?_
      refine va_forget (fun q hq => hS.2.2 q hq) ?_
      refine W.widen (k := 600000) (n := 7302250) (by decide) (by decide) ?_
      exact lw_ret hx hb hr hlocks dL_law_1061
    · have hix : ∀ k : Nat, k ≤ 6 → vp_in (v3 + nI k) L := fun k hk => (ix_of hL ht ev c_24 hk).1
      have h7 : 7 * t + 7 ≤ L := (ix_of hL ht ev c_24 (Nat.zero_le 6)).2
      have ht3 : t ≤ 63 := by omega
      have kk : ∀ (H : Heap) (locs : List Loc) (ls : Array Slot), LWS dC dI (fun q : Nat => s.heap.size ≤ q) cI cR u rr (t + 1) H → va_S (fun q : Nat => s.heap.size ≤ q) s.heap H locs → lv_has ls 4 [(3, .int v3), (2, .ref (u 23)), (1, .ref (u 0)), (0, .ref b)] → W p l e room_1 s m #[Value.ref b] below meth c H locs 44 777 (lw_Z below #[Value.ref b] s) (F0 m 1054 ls []) := by
        intro H locs ls hLS hS hl
        refine lv_iinc (v := v3 + 7) (lv' := [(3, .int (v3 + 7)), (2, .ref (u 23)), (1, .ref (u 0)), (0, .ref b)]) hx hb dL_law_1054 hl (k := 0) rfl rfl (by decide) rfl (fun ls hl => ?_)
        refine lv_goto (tgt := 18) hx hb dL_law_1057 (by decide) ?_
        exact ih (t + 1) (v3 + 7) _ _ _ (by omega) (by omega) (by rw [ev]; exact nI_add (7 * t) 7) hLS hS hl
      refine lv_aload_n hx hb dL_law_27 rfl (lv_at hl 3 rfl) ?_
      refine lv_iload_n hx hb dL_law_28 rfl (lv_at hl 0 rfl) ?_
      refine va_sld hx hb hX hbl hbA hS (ix_0 (hix 0 (by decide))) dL_law_29 ?_
      refine lv_bipush (v := 31) hx hb dL_law_30 (by decide) ?_
      refine lv_iand hx hb dL_law_32 ?_
      refine lv_topi (fun y ey => ?_)
      by_cases c_0 : y = 0
      · refine lv_tableIn (off := 119) (tgt := 152) hx hb dL_law_33 (by rw [c_0]; decide) (by rw [c_0]; decide) (by rw [c_0]; decide) (by decide) ?_
        exact lc_city l C0 dC dI cI cR u rr hK hN ht3 hix hLS hS hl kk
      by_cases c_1 : y = 1
      · refine lv_tableIn (off := 172) (tgt := 205) hx hb dL_law_33 (by rw [c_1]; decide) (by rw [c_1]; decide) (by rw [c_1]; decide) (by decide) ?_
        exact lc_ofHouse l C0 dC dI cI cR u rr hK hN ht3 hix hLS hS hl kk
      by_cases c_2 : y = 2
      · refine lv_tableIn (off := 205) (tgt := 238) hx hb dL_law_33 (by rw [c_2]; decide) (by rw [c_2]; decide) (by rw [c_2]; decide) (by decide) ?_
        exact lc_endow l C0 dC dI cI cR u rr hK hN ht3 hix hLS hS hl kk
      by_cases c_3 : y = 3
      · refine lv_tableIn (off := 248) (tgt := 281) hx hb dL_law_33 (by rw [c_3]; decide) (by rw [c_3]; decide) (by rw [c_3]; decide) (by decide) ?_
        exact lc_hide l C0 dC dI cI cR u rr hK hN ht3 hix hLS hS hl kk
      by_cases c_4 : y = 4
      · refine lv_tableIn (off := 281) (tgt := 314) hx hb dL_law_33 (by rw [c_4]; decide) (by rw [c_4]; decide) (by rw [c_4]; decide) (by decide) ?_
        exact lc_answer l C0 dC dI cI cR u rr hK hN ht3 hix hLS hS hl kk
      by_cases c_5 : y = 5
      · refine lv_tableIn (off := 324) (tgt := 357) hx hb dL_law_33 (by rw [c_5]; decide) (by rw [c_5]; decide) (by rw [c_5]; decide) (by decide) ?_
        exact lc_choice l C0 dC dI cI cR u rr hK hN ht3 hix hLS hS hl kk
      by_cases c_6 : y = 6
      · refine lv_tableIn (off := 367) (tgt := 400) hx hb dL_law_33 (by rw [c_6]; decide) (by rw [c_6]; decide) (by rw [c_6]; decide) (by decide) ?_
        exact lc_year l C0 dC dI cI cR u rr hK hN ht3 hix hLS hS hl kk
      by_cases c_7 : y = 7
      · refine lv_tableIn (off := 442) (tgt := 475) hx hb dL_law_33 (by rw [c_7]; decide) (by rw [c_7]; decide) (by rw [c_7]; decide) (by decide) ?_
        exact lc_name l C0 dC dI cI cR u rr hK hN ht3 hix hLS hS hl kk
      by_cases c_8 : y = 8
      · refine lv_tableIn (off := 475) (tgt := 508) hx hb dL_law_33 (by rw [c_8]; decide) (by rw [c_8]; decide) (by rw [c_8]; decide) (by decide) ?_
        exact lc_safe l C0 dC dI cI cR u rr hK hN ht3 hix hLS hS hl kk
      by_cases c_9 : y = 9
      · refine lv_tableIn (off := 508) (tgt := 541) hx hb dL_law_33 (by rw [c_9]; decide) (by rw [c_9]; decide) (by rw [c_9]; decide) (by decide) ?_
        exact lc_reading l C0 dC dI cI cR u rr hK hN ht3 hix hLS hS hl kk
      by_cases c_10 : y = 10
      · refine lv_tableIn (off := 551) (tgt := 584) hx hb dL_law_33 (by rw [c_10]; decide) (by rw [c_10]; decide) (by rw [c_10]; decide) (by decide) ?_
        exact lc_back l C0 dC dI cI cR u rr hK hN ht3 hix hLS hS hl kk
      by_cases c_11 : y = 11
      · refine lv_tableIn (off := 574) (tgt := 607) hx hb dL_law_33 (by rw [c_11]; decide) (by rw [c_11]; decide) (by rw [c_11]; decide) (by decide) ?_
        exact lc_lands l C0 dC dI cI cR u rr hK hN ht3 hix hLS hS hl kk
      by_cases c_12 : y = 12
      · refine lv_tableIn (off := 597) (tgt := 630) hx hb dL_law_33 (by rw [c_12]; decide) (by rw [c_12]; decide) (by rw [c_12]; decide) (by decide) ?_
        exact lc_coins l C0 dC dI cI cR u rr hK hN ht3 hix hLS hS hl kk
      by_cases c_13 : y = 13
      · refine lv_tableIn (off := 620) (tgt := 653) hx hb dL_law_33 (by rw [c_13]; decide) (by rw [c_13]; decide) (by rw [c_13]; decide) (by decide) ?_
        exact lc_kinds l C0 dC dI cI cR u rr hK hN ht3 hix hLS hS hl kk
      by_cases c_14 : y = 14
      · refine lv_tableIn (off := 643) (tgt := 676) hx hb dL_law_33 (by rw [c_14]; decide) (by rw [c_14]; decide) (by rw [c_14]; decide) (by decide) ?_
        exact lc_odds l C0 dC dI cI cR u rr hK hN ht3 hix hLS hS hl kk
      by_cases c_15 : y = 15
      · refine lv_tableIn (off := 677) (tgt := 710) hx hb dL_law_33 (by rw [c_15]; decide) (by rw [c_15]; decide) (by rw [c_15]; decide) (by decide) ?_
        exact lc_sheet l C0 dC dI cI cR u rr hK hN ht3 hix hLS hS hl kk
      by_cases c_16 : y = 16
      · refine lv_tableIn (off := 720) (tgt := 753) hx hb dL_law_33 (by rw [c_16]; decide) (by rw [c_16]; decide) (by rw [c_16]; decide) (by decide) ?_
        exact lc_lose l C0 dC dI cI cR u rr hK hN ht3 hix hLS hS hl kk
      by_cases c_17 : y = 17
      · refine lv_tableIn (off := 743) (tgt := 776) hx hb dL_law_33 (by rw [c_17]; decide) (by rw [c_17]; decide) (by rw [c_17]; decide) (by decide) ?_
        exact lc_put l C0 dC dI cI cR u rr hK hN ht3 hix hLS hS hl kk
      by_cases c_18 : y = 18
      · refine lv_tableIn (off := 786) (tgt := 819) hx hb dL_law_33 (by rw [c_18]; decide) (by rw [c_18]; decide) (by rw [c_18]; decide) (by decide) ?_
        exact lc_cell l C0 dC dI cI cR u rr hK hN ht3 hix hLS hS hl kk
      by_cases c_19 : y = 19
      · refine lv_tableIn (off := 830) (tgt := 863) hx hb dL_law_33 (by rw [c_19]; decide) (by rw [c_19]; decide) (by rw [c_19]; decide) (by decide) ?_
        exact lc_copy l C0 dC dI cI cR u rr hK hN ht3 hix hLS hS hl kk
      by_cases c_20 : y = 20
      · refine lv_tableIn (off := 893) (tgt := 926) hx hb dL_law_33 (by rw [c_20]; decide) (by rw [c_20]; decide) (by rw [c_20]; decide) (by decide) ?_
        exact lc_tell l C0 dC dI cI cR u rr hK hN ht3 hix hLS hS hl kk
      by_cases c_21 : y = 21
      · refine lv_tableIn (off := 916) (tgt := 949) hx hb dL_law_33 (by rw [c_21]; decide) (by rw [c_21]; decide) (by rw [c_21]; decide) (by decide) ?_
        exact lc_seal l C0 dC dI cI cR u rr hK hN ht3 hix hLS hS hl kk
      by_cases c_22 : y = 22
      · refine lv_tableIn (off := 939) (tgt := 972) hx hb dL_law_33 (by rw [c_22]; decide) (by rw [c_22]; decide) (by rw [c_22]; decide) (by decide) ?_
        exact lc_as l C0 dC dI cI cR u rr hK hN ht3 hix hLS hS hl kk
      by_cases c_23 : y = 23
      · refine lv_tableIn (off := 972) (tgt := 1005) hx hb dL_law_33 (by rw [c_23]; decide) (by rw [c_23]; decide) (by rw [c_23]; decide) (by decide) ?_
        exact lc_trace l C0 dC dI cI cR u rr hK hN ht3 hix hLS hS hl kk
      by_cases c_24 : y = 24
      · refine lv_tableIn (off := 985) (tgt := 1018) hx hb dL_law_33 (by rw [c_24]; decide) (by rw [c_24]; decide) (by rw [c_24]; decide) (by decide) ?_
        exact lc_fault l C0 dC dI cI cR u rr hK hN ht3 hix hLS hS hl kk
      by_cases c_25 : y = 25
      · refine lv_tableIn (off := 998) (tgt := 1031) hx hb dL_law_33 (by rw [c_25]; decide) (by rw [c_25]; decide) (by rw [c_25]; decide) (by decide) ?_
        exact lc_many l C0 dC dI cI cR u rr hK hN ht3 hix hLS hS hl kk
      refine lv_tableOut (tgt := 1054) hx hb dL_law_33 (sw_out26 c_0 c_1 c_2 c_3 c_4 c_5 c_6 c_7 c_8 c_9 c_10 c_11 c_12 c_13 c_14 c_15 c_16 c_17 c_18 c_19 c_20 c_21 c_22 c_23 c_24 c_25) (by decide) ?_
      exact kk _ _ _ hLS.next hS hl
set_option maxHeartbeats 8000000 in
set_option maxRecDepth 100000 in
/-- THE LAW, from its entry -/
theorem whole_start {p : Program} {e : Env} {s : State} {m : MethodId} {below : List Frame} {meth : Method} {c : Code} (l : Launch) {b L : Nat} {xs : Nat → Int32} (hL : L ≤ 448) (C0 : lw_At p s m meth c b L xs) : W p l e room_1 s m #[Value.ref b] below meth c s.heap [] 0 0 (lw_Z below #[Value.ref b] s) (entryFrame m ([Value.ref b] : List Value).toArray 4) := by
  obtain ⟨hx, hb, hr, hml, hown0, hts0, hX, hbl, hlocks, hgv⟩ := id C0
  have hown : s.vm.findClass RL = some m.cls := hown0
  have hts : ∀ w ∈ wsL_law, w.before #[Value.ref b] s = true := fun w h => hts0 w (wsL_law_in w h)
  have hA : ∀ q : Nat, s.heap.size ≤ q → (fun q : Nat => s.heap.size ≤ q) q := fun _ h => h
  obtain ⟨c0, iS0, hKn0⟩ := u_known (C := RX0) (T := TX0) (N := 4) (n := 4) hts inlX0 (hts0 (.instantiable RX0 4) (by decide +kernel))
  obtain ⟨c1, iS1, hKn1⟩ := u_known (C := RX1) (T := TX1) (N := 4) (n := 4) hts inlX1 (hts0 (.instantiable RX1 4) (by decide +kernel))
  obtain ⟨c2, iS2, hKn2⟩ := u_known (C := RX2) (T := TX2) (N := 3) (n := 3) hts inlX2 (hts0 (.instantiable RX2 3) (by decide +kernel))
  obtain ⟨c3, iS3, hKn3⟩ := u_known (C := RX3) (T := TX3) (N := 4) (n := 4) hts inlX3 (hts0 (.instantiable RX3 4) (by decide +kernel))
  obtain ⟨c4, iS4, hKn4⟩ := u_known (C := RX4) (T := TX4) (N := 7) (n := 7) hts inlX4 (hts0 (.instantiable RX4 7) (by decide +kernel))
  obtain ⟨c5, iS5, hKn5⟩ := u_known (C := RX5) (T := TX5) (N := 25) (n := 25) hts inlX5 (hts0 (.instantiable RX5 25) (by decide +kernel))
  obtain ⟨dC, dI, hKc⟩ : ∃ (dC : Nat → ClassId) (dI : Nat → Nat → Nat), ∀ (k : Nat) (q : vw_C), vwCl[k]? = some q → u_Kn s q.1 q.2.1 q.2.2 (dC k) (dI k) := by
    refine ⟨fun k => if k = 0 then c0 else if k = 1 then c1 else if k = 2 then c2 else if k = 3 then c3 else if k = 4 then c4 else c5, fun k => if k = 0 then iS0 else if k = 1 then iS1 else if k = 2 then iS2 else if k = 3 then iS3 else if k = 4 then iS4 else iS5, ?_⟩
    intro k q hq
    match k, hq with
    | 0, hq => cases hq; exact hKn0
    | 1, hq => cases hq; exact hKn1
    | 2, hq => cases hq; exact hKn2
    | 3, hq => cases hq; exact hKn3
    | 4, hq => cases hq; exact hKn4
    | 5, hq => cases hq; exact hKn5
    | k + 6, hq => simp [vwCl] at hq
  obtain ⟨cI, kI, comp, i1, i2, i3⟩ := Cond.arrayClass_spec (hts0 (.arrayClass .int) (by decide +kernel))
  have hover := hts0 (.arrayOver (.array .int)) (by decide +kernel)
  obtain ⟨compR, cR, kR, j1, j2, j3, j4, j5⟩ := arrayOverA_spec hover
  have hK : va_K (dC, dI) vwCl [(cI, .int), (cR, .array .int)] s := by
    refine ⟨hKc, fun k q h => ?_⟩
    match k, h with
    | 0, h => cases h; exact ⟨fun N z => ⟨(fun q hq => by cases hq), kI, i2, comp, i3⟩, i1⟩
    | 1, h => cases h; exact ⟨fun N z => ⟨(fun q hq => by cases hq), kR, j3, compR, j4⟩, j5⟩
    | k + 2, h => simp at h
  have hN : NW s := ⟨va_Nw.of rfl (hts0 nf78 (by decide +kernel)), va_Nw.of rfl (hts0 nf82 (by decide +kernel)), va_Nw.of rfl (hts0 nf85 (by decide +kernel)), va_Nw.of rfl (hts0 nf72 (by decide +kernel)), va_Nw.of rfl (hts0 nf60 (by decide +kernel)), va_Nw.of rfl (hts0 nf221 (by decide +kernel)), va_Nw.of rfl (hts0 nf138 (by decide +kernel)), va_Nw.of rfl (hts0 nf168 (by decide +kernel)), va_Nw.of rfl (hts0 nf172 (by decide +kernel)), va_Nw.of rfl (hts0 nm11 (by decide +kernel)), va_Nw.of rfl (hts0 nm23 (by decide +kernel)), va_Nw.of rfl (hts0 nm30 (by decide +kernel)), va_Nw.of rfl (hts0 nm37 (by decide +kernel)), va_Nw.of rfl (hts0 nm11y (by decide +kernel)), hover⟩
  have hS : va_S (fun q : Nat => s.heap.size ≤ q) s.heap s.heap [] := va_S.rf
  have hP : va_P (dC, dI) vwCl [] s.heap := fun k q h => by simp at h
  have hD : va_D (fun q : Nat => s.heap.size ≤ q) [] := ⟨fun i j p q h => by simp at h, fun k q h => by simp at h⟩
  have hl := lv_entry ([.ref b]) (n := 4) (Nat.le_of_ble_eq_true rfl)
  rw [lg_entry_eq]
  generalize (lg_sl ([.ref b]) ++ List.replicate (4 - (lg_sl ([.ref b])).length) Slot.unset).toArray = ls at hl ⊢
  have hl : lv_has ls 4 [(0, .ref b)] := hl
  generalize hAe : (fun q : Nat => s.heap.size ≤ q) = A at hA hS hD
  refine va_new (ci := 4) (fs := [.null, .null, .null, .null, .null, .int 0, .int 0]) (C := RX4) (T := TX4) (N := 7) hx hb hts inlX4 tyX4 tyX4_ok hown (hts (.classLink RL 7 RX4) (by decide +kernel)) (hts (.instantiable RX4 7) (by decide +kernel)) (hts (.initialized RX4) (by decide +kernel)) hK hP hD hS hA rfl (fun j hj => by rcases (show j = 0 ∨ j = 1 ∨ j = 2 ∨ j = 3 ∨ j = 4 ∨ j = 5 ∨ j = 6 by omega) with rfl | rfl | rfl | rfl | rfl | rfl | rfl <;> rfl) (Nat.le_of_ble_eq_true rfl) (Nat.le_of_ble_eq_true rfl) dL_law_0 (fun x0 H hP hD hS => ?_)
  have hP : va_P (dC, dI) vwCl [(x0, .inr (4, [.null, .null, .null, .null, .null, .int 0, .int 0]))] H := hP
  have hD : va_D A [(x0, .inr (4, [.null, .null, .null, .null, .null, .int 0, .int 0]))] := hD
  refine W.widen (k := 1) (n := 7) (by omega) (by omega) ?_
  refine lv_dup hx hb dL_law_3 rfl ?_
  have hPc := hP.sub (ws' := [(x0, .inr (4, [.null, .null, .null, .null, .null, .int 0, .int 0]))]) [0] rfl
  have hDc := hD.sub (ws' := [(x0, .inr (4, [.null, .null, .null, .null, .null, .int 0, .int 0]))]) [0] (by decide) rfl
  have hFc := va_free (wc := [(x0, .inr (4, [.null, .null, .null, .null, .null, .int 0, .int 0]))]) hD hS hA [0] rfl
  refine va_callv (va_runI (As := []) (rest := [.ref x0]) ⟨hx, hb, hml, hown, hts⟩ (ctX4_init l dC dI cI cR x0 H.size) (cwI 0 hts gL_law_X4_init rfl rfl rfl (hts (.initialized RX4) (by decide +kernel)) (hts (.methodLink RL 9 yX4_init) (by decide +kernel)) (hts (.instanceMethod yX4_init) (by decide +kernel)) rfl (by decide +kernel) ⟨Nat.le_of_ble_eq_true rfl, Nat.le_of_ble_eq_true rfl⟩) (pre_S hK hN hPc hDc) rfl rfl hl.1 rfl (lv_room (Nat.le_of_ble_eq_true rfl)) dL_law_4 ⟨Nat.le_of_ble_eq_true rfl, Nat.le_of_ble_eq_true rfl⟩) hS (fun q _ h => hFc q h) hFc (fun _ t H locs ht hvm hw hB hz1 hk1 hS => ?_)
  obtain ⟨t0, tk, tl, tc, r0, rk, rl, rc, y0, d0, dk, dl, dc, yp, g0, gn, gc, gh, w0, wr, rr, wl, wn, hP1, hD1⟩ := hB
  rw [ht] at hP1
  obtain ⟨hP, hD⟩ := va_join (wr := []) (w1 := [(rr 0, .inl (cI, 60, .inl (fun _ => 0))), (rr 1, .inl (cI, 60, .inl (fun _ => 0))), (rr 2, .inl (cI, 60, .inl (fun _ => 0))), (rr 3, .inl (cI, 60, .inl (fun _ => 0))), (x0, .inr (4, [.ref t0, .ref r0, .ref y0, .ref g0, .ref w0, .int 0, .int 0])), (t0, .inr (0, [.ref tk, .ref tl, .ref tc, .int 0])), (tk, .inl (cI, 6, .inl (fun _ => 0))), (tl, .inl (cI, 6, .inl (fun _ => 0))), (tc, .inl (cI, 6, .inl (fun _ => 0))), (r0, .inr (0, [.ref rk, .ref rl, .ref rc, .int 0])), (rk, .inl (cI, 6, .inl (fun _ => 0))), (rl, .inl (cI, 6, .inl (fun _ => 0))), (rc, .inl (cI, 6, .inl (fun _ => 0))), (y0, .inr (3, [.ref d0, .ref yp, .int 0, .int 0])), (d0, .inr (0, [.ref dk, .ref dl, .ref dc, .int 0])), (dk, .inl (cI, 6, .inl (fun _ => 0))), (dl, .inl (cI, 6, .inl (fun _ => 0))), (dc, .inl (cI, 6, .inl (fun _ => 0))), (yp, .inl (cI, 6, .inl (fun _ => 0))), (g0, .inr (1, [.ref gn, .ref gc, .ref gh, .int 0])), (gn, .inl (cI, 8, .inl (fun _ => 0))), (gc, .inl (cI, 8, .inl (fun _ => 0))), (gh, .inl (cI, 8, .inl (fun _ => 0))), (w0, .inr (2, [.ref wr, .ref wl, .ref wn])), (wr, .inl (cR, 4, .inr (.inr (.inr (.inr (fun i => if i < 4 then some (rr i) else none)))))), (wl, .inl (cI, 4, .inl (upd (upd (upd (upd (fun _ => 0) (0 : Int32).toNatClampNeg (-1)) (1 : Int32).toNatClampNeg (-1)) (2 : Int32).toNatClampNeg (-1)) (3 : Int32).toNatClampNeg (-1)))), (wn, .inl (cI, 4, .inl (fun _ => 0)))]) hP hD [0] [] rfl rfl (by decide) (by decide) hk1 hFc hP1 hD1
  have hP : va_P (dC, dI) vwCl [(rr 0, .inl (cI, 60, .inl (fun _ => 0))), (rr 1, .inl (cI, 60, .inl (fun _ => 0))), (rr 2, .inl (cI, 60, .inl (fun _ => 0))), (rr 3, .inl (cI, 60, .inl (fun _ => 0))), (x0, .inr (4, [.ref t0, .ref r0, .ref y0, .ref g0, .ref w0, .int 0, .int 0])), (t0, .inr (0, [.ref tk, .ref tl, .ref tc, .int 0])), (tk, .inl (cI, 6, .inl (fun _ => 0))), (tl, .inl (cI, 6, .inl (fun _ => 0))), (tc, .inl (cI, 6, .inl (fun _ => 0))), (r0, .inr (0, [.ref rk, .ref rl, .ref rc, .int 0])), (rk, .inl (cI, 6, .inl (fun _ => 0))), (rl, .inl (cI, 6, .inl (fun _ => 0))), (rc, .inl (cI, 6, .inl (fun _ => 0))), (y0, .inr (3, [.ref d0, .ref yp, .int 0, .int 0])), (d0, .inr (0, [.ref dk, .ref dl, .ref dc, .int 0])), (dk, .inl (cI, 6, .inl (fun _ => 0))), (dl, .inl (cI, 6, .inl (fun _ => 0))), (dc, .inl (cI, 6, .inl (fun _ => 0))), (yp, .inl (cI, 6, .inl (fun _ => 0))), (g0, .inr (1, [.ref gn, .ref gc, .ref gh, .int 0])), (gn, .inl (cI, 8, .inl (fun _ => 0))), (gc, .inl (cI, 8, .inl (fun _ => 0))), (gh, .inl (cI, 8, .inl (fun _ => 0))), (w0, .inr (2, [.ref wr, .ref wl, .ref wn])), (wr, .inl (cR, 4, .inr (.inr (.inr (.inr (fun i => if i < 4 then some (rr i) else none)))))), (wl, .inl (cI, 4, .inl (upd (upd (upd (upd (fun _ => 0) (0 : Int32).toNatClampNeg (-1)) (1 : Int32).toNatClampNeg (-1)) (2 : Int32).toNatClampNeg (-1)) (3 : Int32).toNatClampNeg (-1)))), (wn, .inl (cI, 4, .inl (fun _ => 0)))] H := hP
  have hD : va_D A [(rr 0, .inl (cI, 60, .inl (fun _ => 0))), (rr 1, .inl (cI, 60, .inl (fun _ => 0))), (rr 2, .inl (cI, 60, .inl (fun _ => 0))), (rr 3, .inl (cI, 60, .inl (fun _ => 0))), (x0, .inr (4, [.ref t0, .ref r0, .ref y0, .ref g0, .ref w0, .int 0, .int 0])), (t0, .inr (0, [.ref tk, .ref tl, .ref tc, .int 0])), (tk, .inl (cI, 6, .inl (fun _ => 0))), (tl, .inl (cI, 6, .inl (fun _ => 0))), (tc, .inl (cI, 6, .inl (fun _ => 0))), (r0, .inr (0, [.ref rk, .ref rl, .ref rc, .int 0])), (rk, .inl (cI, 6, .inl (fun _ => 0))), (rl, .inl (cI, 6, .inl (fun _ => 0))), (rc, .inl (cI, 6, .inl (fun _ => 0))), (y0, .inr (3, [.ref d0, .ref yp, .int 0, .int 0])), (d0, .inr (0, [.ref dk, .ref dl, .ref dc, .int 0])), (dk, .inl (cI, 6, .inl (fun _ => 0))), (dl, .inl (cI, 6, .inl (fun _ => 0))), (dc, .inl (cI, 6, .inl (fun _ => 0))), (yp, .inl (cI, 6, .inl (fun _ => 0))), (g0, .inr (1, [.ref gn, .ref gc, .ref gh, .int 0])), (gn, .inl (cI, 8, .inl (fun _ => 0))), (gc, .inl (cI, 8, .inl (fun _ => 0))), (gh, .inl (cI, 8, .inl (fun _ => 0))), (w0, .inr (2, [.ref wr, .ref wl, .ref wn])), (wr, .inl (cR, 4, .inr (.inr (.inr (.inr (fun i => if i < 4 then some (rr i) else none)))))), (wl, .inl (cI, 4, .inl (upd (upd (upd (upd (fun _ => 0) (0 : Int32).toNatClampNeg (-1)) (1 : Int32).toNatClampNeg (-1)) (2 : Int32).toNatClampNeg (-1)) (3 : Int32).toNatClampNeg (-1)))), (wn, .inl (cI, 4, .inl (fun _ => 0)))] := hD
  refine W.widen (k := 27) (n := 366) (by omega) (by omega) ?_
  refine lv_astore_n (lv' := [(1, .ref x0), (0, .ref b)]) hx hb dL_law_7 rfl hl (by decide) rfl (fun ls hl => ?_)
  refine va_new (ci := 5) (fs := [.int 0, .int 0, .null, .null, .null, .int 0, .int 0, .null, .null, .null, .null, .null, .null, .int 0, .int 0, .int 0, .int 0, .null, .null, .null, .null, .null, .null, .null, .int 0]) (C := RX5) (T := TX5) (N := 25) hx hb hts inlX5 tyX5 tyX5_ok hown (hts (.classLink RL 10 RX5) (by decide +kernel)) (hts (.instantiable RX5 25) (by decide +kernel)) (hts (.initialized RX5) (by decide +kernel)) hK hP hD hS hA rfl (fun j hj => by rcases (show j = 0 ∨ j = 1 ∨ j = 2 ∨ j = 3 ∨ j = 4 ∨ j = 5 ∨ j = 6 ∨ j = 7 ∨ j = 8 ∨ j = 9 ∨ j = 10 ∨ j = 11 ∨ j = 12 ∨ j = 13 ∨ j = 14 ∨ j = 15 ∨ j = 16 ∨ j = 17 ∨ j = 18 ∨ j = 19 ∨ j = 20 ∨ j = 21 ∨ j = 22 ∨ j = 23 ∨ j = 24 by omega) with rfl | rfl | rfl | rfl | rfl | rfl | rfl | rfl | rfl | rfl | rfl | rfl | rfl | rfl | rfl | rfl | rfl | rfl | rfl | rfl | rfl | rfl | rfl | rfl | rfl <;> rfl) (Nat.le_of_ble_eq_true rfl) (Nat.le_of_ble_eq_true rfl) dL_law_8 (fun m0 H hP hD hS => ?_)
  have hP : va_P (dC, dI) vwCl [(rr 0, .inl (cI, 60, .inl (fun _ => 0))), (rr 1, .inl (cI, 60, .inl (fun _ => 0))), (rr 2, .inl (cI, 60, .inl (fun _ => 0))), (rr 3, .inl (cI, 60, .inl (fun _ => 0))), (x0, .inr (4, [.ref t0, .ref r0, .ref y0, .ref g0, .ref w0, .int 0, .int 0])), (t0, .inr (0, [.ref tk, .ref tl, .ref tc, .int 0])), (tk, .inl (cI, 6, .inl (fun _ => 0))), (tl, .inl (cI, 6, .inl (fun _ => 0))), (tc, .inl (cI, 6, .inl (fun _ => 0))), (r0, .inr (0, [.ref rk, .ref rl, .ref rc, .int 0])), (rk, .inl (cI, 6, .inl (fun _ => 0))), (rl, .inl (cI, 6, .inl (fun _ => 0))), (rc, .inl (cI, 6, .inl (fun _ => 0))), (y0, .inr (3, [.ref d0, .ref yp, .int 0, .int 0])), (d0, .inr (0, [.ref dk, .ref dl, .ref dc, .int 0])), (dk, .inl (cI, 6, .inl (fun _ => 0))), (dl, .inl (cI, 6, .inl (fun _ => 0))), (dc, .inl (cI, 6, .inl (fun _ => 0))), (yp, .inl (cI, 6, .inl (fun _ => 0))), (g0, .inr (1, [.ref gn, .ref gc, .ref gh, .int 0])), (gn, .inl (cI, 8, .inl (fun _ => 0))), (gc, .inl (cI, 8, .inl (fun _ => 0))), (gh, .inl (cI, 8, .inl (fun _ => 0))), (w0, .inr (2, [.ref wr, .ref wl, .ref wn])), (wr, .inl (cR, 4, .inr (.inr (.inr (.inr (fun i => if i < 4 then some (rr i) else none)))))), (wl, .inl (cI, 4, .inl (upd (upd (upd (upd (fun _ => 0) (0 : Int32).toNatClampNeg (-1)) (1 : Int32).toNatClampNeg (-1)) (2 : Int32).toNatClampNeg (-1)) (3 : Int32).toNatClampNeg (-1)))), (wn, .inl (cI, 4, .inl (fun _ => 0))), (m0, .inr (5, [.int 0, .int 0, .null, .null, .null, .int 0, .int 0, .null, .null, .null, .null, .null, .null, .int 0, .int 0, .int 0, .int 0, .null, .null, .null, .null, .null, .null, .null, .int 0]))] H := hP
  have hD : va_D A [(rr 0, .inl (cI, 60, .inl (fun _ => 0))), (rr 1, .inl (cI, 60, .inl (fun _ => 0))), (rr 2, .inl (cI, 60, .inl (fun _ => 0))), (rr 3, .inl (cI, 60, .inl (fun _ => 0))), (x0, .inr (4, [.ref t0, .ref r0, .ref y0, .ref g0, .ref w0, .int 0, .int 0])), (t0, .inr (0, [.ref tk, .ref tl, .ref tc, .int 0])), (tk, .inl (cI, 6, .inl (fun _ => 0))), (tl, .inl (cI, 6, .inl (fun _ => 0))), (tc, .inl (cI, 6, .inl (fun _ => 0))), (r0, .inr (0, [.ref rk, .ref rl, .ref rc, .int 0])), (rk, .inl (cI, 6, .inl (fun _ => 0))), (rl, .inl (cI, 6, .inl (fun _ => 0))), (rc, .inl (cI, 6, .inl (fun _ => 0))), (y0, .inr (3, [.ref d0, .ref yp, .int 0, .int 0])), (d0, .inr (0, [.ref dk, .ref dl, .ref dc, .int 0])), (dk, .inl (cI, 6, .inl (fun _ => 0))), (dl, .inl (cI, 6, .inl (fun _ => 0))), (dc, .inl (cI, 6, .inl (fun _ => 0))), (yp, .inl (cI, 6, .inl (fun _ => 0))), (g0, .inr (1, [.ref gn, .ref gc, .ref gh, .int 0])), (gn, .inl (cI, 8, .inl (fun _ => 0))), (gc, .inl (cI, 8, .inl (fun _ => 0))), (gh, .inl (cI, 8, .inl (fun _ => 0))), (w0, .inr (2, [.ref wr, .ref wl, .ref wn])), (wr, .inl (cR, 4, .inr (.inr (.inr (.inr (fun i => if i < 4 then some (rr i) else none)))))), (wl, .inl (cI, 4, .inl (upd (upd (upd (upd (fun _ => 0) (0 : Int32).toNatClampNeg (-1)) (1 : Int32).toNatClampNeg (-1)) (2 : Int32).toNatClampNeg (-1)) (3 : Int32).toNatClampNeg (-1)))), (wn, .inl (cI, 4, .inl (fun _ => 0))), (m0, .inr (5, [.int 0, .int 0, .null, .null, .null, .int 0, .int 0, .null, .null, .null, .null, .null, .null, .int 0, .int 0, .int 0, .int 0, .null, .null, .null, .null, .null, .null, .null, .int 0]))] := hD
  refine W.widen (k := 28) (n := 391) (by omega) (by omega) ?_
  refine lv_dup hx hb dL_law_11 rfl ?_
  have hPc := hP.sub (ws' := [(m0, .inr (5, [.int 0, .int 0, .null, .null, .null, .int 0, .int 0, .null, .null, .null, .null, .null, .null, .int 0, .int 0, .int 0, .int 0, .null, .null, .null, .null, .null, .null, .null, .int 0]))]) [27] rfl
  have hDc := hD.sub (ws' := [(m0, .inr (5, [.int 0, .int 0, .null, .null, .null, .int 0, .int 0, .null, .null, .null, .null, .null, .null, .int 0, .int 0, .int 0, .int 0, .null, .null, .null, .null, .null, .null, .null, .int 0]))]) [27] (by decide) rfl
  have hFc := va_free (wc := [(m0, .inr (5, [.int 0, .int 0, .null, .null, .null, .int 0, .int 0, .null, .null, .null, .null, .null, .null, .int 0, .int 0, .int 0, .int 0, .null, .null, .null, .null, .null, .null, .null, .int 0]))]) hD hS hA [27] rfl
  refine va_callv (va_runI (As := []) (rest := [.ref m0]) ⟨hx, hb, hml, hown, hts⟩ (ctX5_init l dC dI cI cR m0 H.size) (cwI 0 hts gL_law_X5_init rfl rfl rfl (hts (.initialized RX5) (by decide +kernel)) (hts (.methodLink RL 12 yX5_init) (by decide +kernel)) (hts (.instanceMethod yX5_init) (by decide +kernel)) rfl (by decide +kernel) ⟨Nat.le_of_ble_eq_true rfl, Nat.le_of_ble_eq_true rfl⟩) (pre_S hK hN hPc hDc) rfl rfl hl.1 rfl (lv_room (Nat.le_of_ble_eq_true rfl)) dL_law_12 ⟨Nat.le_of_ble_eq_true rfl, Nat.le_of_ble_eq_true rfl⟩) hS (fun q _ h => hFc q h) hFc (fun _ t H locs ht hvm hw hB hz1 hk1 hS => ?_)
  obtain ⟨m2, m3, m4, m7, m8, m9, m10, m11, m12, m17, m18, m19, m20, m21, m22, m23, hP1, hD1⟩ := hB
  rw [ht] at hP1
  obtain ⟨hP, hD⟩ := va_join (wr := [(rr 0, .inl (cI, 60, .inl (fun _ => 0))), (rr 1, .inl (cI, 60, .inl (fun _ => 0))), (rr 2, .inl (cI, 60, .inl (fun _ => 0))), (rr 3, .inl (cI, 60, .inl (fun _ => 0))), (x0, .inr (4, [.ref t0, .ref r0, .ref y0, .ref g0, .ref w0, .int 0, .int 0])), (t0, .inr (0, [.ref tk, .ref tl, .ref tc, .int 0])), (tk, .inl (cI, 6, .inl (fun _ => 0))), (tl, .inl (cI, 6, .inl (fun _ => 0))), (tc, .inl (cI, 6, .inl (fun _ => 0))), (r0, .inr (0, [.ref rk, .ref rl, .ref rc, .int 0])), (rk, .inl (cI, 6, .inl (fun _ => 0))), (rl, .inl (cI, 6, .inl (fun _ => 0))), (rc, .inl (cI, 6, .inl (fun _ => 0))), (y0, .inr (3, [.ref d0, .ref yp, .int 0, .int 0])), (d0, .inr (0, [.ref dk, .ref dl, .ref dc, .int 0])), (dk, .inl (cI, 6, .inl (fun _ => 0))), (dl, .inl (cI, 6, .inl (fun _ => 0))), (dc, .inl (cI, 6, .inl (fun _ => 0))), (yp, .inl (cI, 6, .inl (fun _ => 0))), (g0, .inr (1, [.ref gn, .ref gc, .ref gh, .int 0])), (gn, .inl (cI, 8, .inl (fun _ => 0))), (gc, .inl (cI, 8, .inl (fun _ => 0))), (gh, .inl (cI, 8, .inl (fun _ => 0))), (w0, .inr (2, [.ref wr, .ref wl, .ref wn])), (wr, .inl (cR, 4, .inr (.inr (.inr (.inr (fun i => if i < 4 then some (rr i) else none)))))), (wl, .inl (cI, 4, .inl (upd (upd (upd (upd (fun _ => 0) (0 : Int32).toNatClampNeg (-1)) (1 : Int32).toNatClampNeg (-1)) (2 : Int32).toNatClampNeg (-1)) (3 : Int32).toNatClampNeg (-1)))), (wn, .inl (cI, 4, .inl (fun _ => 0)))]) (w1 := [(m0, .inr (5, [.int 0, .int 0, .ref m2, .ref m3, .ref m4, .int 0, .int 0, .ref m7, .ref m8, .ref m9, .ref m10, .ref m11, .ref m12, .int 0, .int 0, .int 0, .int 0, .ref m17, .ref m18, .ref m19, .ref m20, .ref m21, .ref m22, .ref m23, .int 0])), (m2, .inl (cI, 6, .inl (fun _ => 0))), (m3, .inl (cI, 6, .inl (fun _ => 0))), (m4, .inl (cI, 6, .inl (fun _ => 0))), (m7, .inl (cI, 6, .inl (fun _ => 0))), (m8, .inl (cI, 6, .inl (fun _ => 0))), (m9, .inl (cI, 6, .inl (fun _ => 0))), (m10, .inl (cI, 6, .inl (fun _ => 0))), (m11, .inl (cI, 6, .inl (fun _ => 0))), (m12, .inl (cI, 6, .inl (fun _ => 0))), (m17, .inl (cI, 8, .inl (fun _ => 0))), (m18, .inl (cI, 8, .inl (fun _ => 0))), (m19, .inl (cI, 8, .inl (fun _ => 0))), (m20, .inl (cI, 4, .inl (upd (upd (upd (upd (fun _ => 0) (0 : Int32).toNatClampNeg (-1)) (1 : Int32).toNatClampNeg (-1)) (2 : Int32).toNatClampNeg (-1)) (3 : Int32).toNatClampNeg (-1)))), (m21, .inl (cI, 4, .inl (fun _ => 0))), (m22, .inl (cI, 240, .inl (fun _ => 0))), (m23, .inl (cI, 60, .inl (fun _ => 0)))]) hP hD [27] [0, 1, 2, 3, 4, 5, 6, 7, 8, 9, 10, 11, 12, 13, 14, 15, 16, 17, 18, 19, 20, 21, 22, 23, 24, 25, 26] rfl rfl (by decide) (by decide) hk1 hFc hP1 hD1
  have hP : va_P (dC, dI) vwCl [(rr 0, .inl (cI, 60, .inl (fun _ => 0))), (rr 1, .inl (cI, 60, .inl (fun _ => 0))), (rr 2, .inl (cI, 60, .inl (fun _ => 0))), (rr 3, .inl (cI, 60, .inl (fun _ => 0))), (x0, .inr (4, [.ref t0, .ref r0, .ref y0, .ref g0, .ref w0, .int 0, .int 0])), (t0, .inr (0, [.ref tk, .ref tl, .ref tc, .int 0])), (tk, .inl (cI, 6, .inl (fun _ => 0))), (tl, .inl (cI, 6, .inl (fun _ => 0))), (tc, .inl (cI, 6, .inl (fun _ => 0))), (r0, .inr (0, [.ref rk, .ref rl, .ref rc, .int 0])), (rk, .inl (cI, 6, .inl (fun _ => 0))), (rl, .inl (cI, 6, .inl (fun _ => 0))), (rc, .inl (cI, 6, .inl (fun _ => 0))), (y0, .inr (3, [.ref d0, .ref yp, .int 0, .int 0])), (d0, .inr (0, [.ref dk, .ref dl, .ref dc, .int 0])), (dk, .inl (cI, 6, .inl (fun _ => 0))), (dl, .inl (cI, 6, .inl (fun _ => 0))), (dc, .inl (cI, 6, .inl (fun _ => 0))), (yp, .inl (cI, 6, .inl (fun _ => 0))), (g0, .inr (1, [.ref gn, .ref gc, .ref gh, .int 0])), (gn, .inl (cI, 8, .inl (fun _ => 0))), (gc, .inl (cI, 8, .inl (fun _ => 0))), (gh, .inl (cI, 8, .inl (fun _ => 0))), (w0, .inr (2, [.ref wr, .ref wl, .ref wn])), (wr, .inl (cR, 4, .inr (.inr (.inr (.inr (fun i => if i < 4 then some (rr i) else none)))))), (wl, .inl (cI, 4, .inl (upd (upd (upd (upd (fun _ => 0) (0 : Int32).toNatClampNeg (-1)) (1 : Int32).toNatClampNeg (-1)) (2 : Int32).toNatClampNeg (-1)) (3 : Int32).toNatClampNeg (-1)))), (wn, .inl (cI, 4, .inl (fun _ => 0))), (m0, .inr (5, [.int 0, .int 0, .ref m2, .ref m3, .ref m4, .int 0, .int 0, .ref m7, .ref m8, .ref m9, .ref m10, .ref m11, .ref m12, .int 0, .int 0, .int 0, .int 0, .ref m17, .ref m18, .ref m19, .ref m20, .ref m21, .ref m22, .ref m23, .int 0])), (m2, .inl (cI, 6, .inl (fun _ => 0))), (m3, .inl (cI, 6, .inl (fun _ => 0))), (m4, .inl (cI, 6, .inl (fun _ => 0))), (m7, .inl (cI, 6, .inl (fun _ => 0))), (m8, .inl (cI, 6, .inl (fun _ => 0))), (m9, .inl (cI, 6, .inl (fun _ => 0))), (m10, .inl (cI, 6, .inl (fun _ => 0))), (m11, .inl (cI, 6, .inl (fun _ => 0))), (m12, .inl (cI, 6, .inl (fun _ => 0))), (m17, .inl (cI, 8, .inl (fun _ => 0))), (m18, .inl (cI, 8, .inl (fun _ => 0))), (m19, .inl (cI, 8, .inl (fun _ => 0))), (m20, .inl (cI, 4, .inl (upd (upd (upd (upd (fun _ => 0) (0 : Int32).toNatClampNeg (-1)) (1 : Int32).toNatClampNeg (-1)) (2 : Int32).toNatClampNeg (-1)) (3 : Int32).toNatClampNeg (-1)))), (m21, .inl (cI, 4, .inl (fun _ => 0))), (m22, .inl (cI, 240, .inl (fun _ => 0))), (m23, .inl (cI, 60, .inl (fun _ => 0)))] H := hP
  have hD : va_D A [(rr 0, .inl (cI, 60, .inl (fun _ => 0))), (rr 1, .inl (cI, 60, .inl (fun _ => 0))), (rr 2, .inl (cI, 60, .inl (fun _ => 0))), (rr 3, .inl (cI, 60, .inl (fun _ => 0))), (x0, .inr (4, [.ref t0, .ref r0, .ref y0, .ref g0, .ref w0, .int 0, .int 0])), (t0, .inr (0, [.ref tk, .ref tl, .ref tc, .int 0])), (tk, .inl (cI, 6, .inl (fun _ => 0))), (tl, .inl (cI, 6, .inl (fun _ => 0))), (tc, .inl (cI, 6, .inl (fun _ => 0))), (r0, .inr (0, [.ref rk, .ref rl, .ref rc, .int 0])), (rk, .inl (cI, 6, .inl (fun _ => 0))), (rl, .inl (cI, 6, .inl (fun _ => 0))), (rc, .inl (cI, 6, .inl (fun _ => 0))), (y0, .inr (3, [.ref d0, .ref yp, .int 0, .int 0])), (d0, .inr (0, [.ref dk, .ref dl, .ref dc, .int 0])), (dk, .inl (cI, 6, .inl (fun _ => 0))), (dl, .inl (cI, 6, .inl (fun _ => 0))), (dc, .inl (cI, 6, .inl (fun _ => 0))), (yp, .inl (cI, 6, .inl (fun _ => 0))), (g0, .inr (1, [.ref gn, .ref gc, .ref gh, .int 0])), (gn, .inl (cI, 8, .inl (fun _ => 0))), (gc, .inl (cI, 8, .inl (fun _ => 0))), (gh, .inl (cI, 8, .inl (fun _ => 0))), (w0, .inr (2, [.ref wr, .ref wl, .ref wn])), (wr, .inl (cR, 4, .inr (.inr (.inr (.inr (fun i => if i < 4 then some (rr i) else none)))))), (wl, .inl (cI, 4, .inl (upd (upd (upd (upd (fun _ => 0) (0 : Int32).toNatClampNeg (-1)) (1 : Int32).toNatClampNeg (-1)) (2 : Int32).toNatClampNeg (-1)) (3 : Int32).toNatClampNeg (-1)))), (wn, .inl (cI, 4, .inl (fun _ => 0))), (m0, .inr (5, [.int 0, .int 0, .ref m2, .ref m3, .ref m4, .int 0, .int 0, .ref m7, .ref m8, .ref m9, .ref m10, .ref m11, .ref m12, .int 0, .int 0, .int 0, .int 0, .ref m17, .ref m18, .ref m19, .ref m20, .ref m21, .ref m22, .ref m23, .int 0])), (m2, .inl (cI, 6, .inl (fun _ => 0))), (m3, .inl (cI, 6, .inl (fun _ => 0))), (m4, .inl (cI, 6, .inl (fun _ => 0))), (m7, .inl (cI, 6, .inl (fun _ => 0))), (m8, .inl (cI, 6, .inl (fun _ => 0))), (m9, .inl (cI, 6, .inl (fun _ => 0))), (m10, .inl (cI, 6, .inl (fun _ => 0))), (m11, .inl (cI, 6, .inl (fun _ => 0))), (m12, .inl (cI, 6, .inl (fun _ => 0))), (m17, .inl (cI, 8, .inl (fun _ => 0))), (m18, .inl (cI, 8, .inl (fun _ => 0))), (m19, .inl (cI, 8, .inl (fun _ => 0))), (m20, .inl (cI, 4, .inl (upd (upd (upd (upd (fun _ => 0) (0 : Int32).toNatClampNeg (-1)) (1 : Int32).toNatClampNeg (-1)) (2 : Int32).toNatClampNeg (-1)) (3 : Int32).toNatClampNeg (-1)))), (m21, .inl (cI, 4, .inl (fun _ => 0))), (m22, .inl (cI, 240, .inl (fun _ => 0))), (m23, .inl (cI, 60, .inl (fun _ => 0)))] := hD
  refine W.widen (k := 44) (n := 777) (by omega) (by omega) ?_
  refine lv_astore_n (lv' := [(2, .ref m0), (1, .ref x0), (0, .ref b)]) hx hb dL_law_15 rfl hl (by decide) rfl (fun ls hl => ?_)
  refine lv_iconst (v := 0) hx hb dL_law_16 (by decide) ?_
  refine lv_istore_n (lv' := [(3, .int 0), (2, .ref m0), (1, .ref x0), (0, .ref b)]) hx hb dL_law_17 rfl hl (by decide) rfl (fun ls hl => ?_)
  obtain ⟨u, hu⟩ : ∃ u : Nat → Nat, u = fun i => [x0, t0, tk, tl, tc, r0, rk, rl, rc, y0, d0, dk, dl, dc, yp, g0, gn, gc, gh, w0, wr, wl, wn, m0, m2, m3, m4, m7, m8, m9, m10, m11, m12, m17, m18, m19, m20, m21, m22, m23].getD i 0 := ⟨_, rfl⟩
  have hLS : LWS dC dI A cI cR u rr 0 H := by
    subst hu
    refine ⟨fun _ _ => 0, 0, 0, 0, fun _ => 0, fun _ => 0, fun _ => 0, 0, fun _ => 0, fun _ => 0, fun _ => 0, 0, 0, 0, fun _ => 0, fun _ => 0, fun _ => 0, fun _ => 0, 0, fun _ => 0, fun _ => 0, fun _ => 0, (upd (upd (upd (upd (fun _ => 0) (0 : Int32).toNatClampNeg (-1)) (1 : Int32).toNatClampNeg (-1)) (2 : Int32).toNatClampNeg (-1)) (3 : Int32).toNatClampNeg (-1)), fun _ => 0, 0, 0, 0, 0, 0, fun _ => 0, fun _ => 0, fun _ => 0, fun _ => 0, fun _ => 0, fun _ => 0, (upd (upd (upd (upd (fun _ => 0) (0 : Int32).toNatClampNeg (-1)) (1 : Int32).toNatClampNeg (-1)) (2 : Int32).toNatClampNeg (-1)) (3 : Int32).toNatClampNeg (-1)), fun _ => 0, fun _ => 0, fun _ => 0, Inv_0, Zs_0, ?_, ?_⟩
    · exact hP
    · exact hD
  subst hAe
  have hl : lv_has ls 4 [(3, .int 0), (2, .ref (u 23)), (1, .ref (u 0)), (0, .ref b)] := by subst hu; exact hl
  exact law_loop l hL C0 dC dI cI cR u rr hK hN 65 0 0 _ _ _ (by omega) (by omega) nI_0.symm hLS hS hl
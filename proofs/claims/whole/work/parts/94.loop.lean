/-! ===== the law's loop, its beginning ===== -/
theorem w_law {w : Cond} (i : Nat) (h : wsL_law[i]? = some w) : w ∈ wsL_law := List.mem_of_getElem? h
set_option maxHeartbeats 4000000 in
set_option maxRecDepth 100000 in
theorem law_loop {p : Program} {e : Env} {s : State} {m : MethodId} {below : List Frame} {meth : Method} {c : Code} {l : Launch} {b L : Nat} {xs : Nat → Int32} {D : va_G} {cy : Nat → ClassId} {a0 a28 a49 : Nat} {Q : State → Prop} (X : LCtx p s m c l b L xs D cy)
    (KE : ∀ (H : Heap) (locs : List Loc) (ls : Array Slot) (cells slots : Nat), (∀ q ∈ locs, s.heap.size ≤ q.base) → cells ≤ 601024 → slots ≤ 7293034 → W p l e room_1 s m #[Value.ref b] below meth c H locs cells slots Q (F0 m 1329 ls [.int (nI 1)])) :
    ∀ (fuel q n : Nat) (ad : Nat → Nat) (A : Nat → Nat → Int32) (J : Nat → Nat → Int64) (G : Nat → Nat → Int) (H : Heap) (locs : List Loc) (cells slots : Nat) (ls : Array Slot), LInv D cy s a0 a28 a49 n ad A J G H locs → 5 * q ≤ L + 4 → cells ≤ 60 + 3 * q → slots ≤ 30000 + 19 * q → L + 5 - 5 * q < fuel → lv_has ls 7 (lLoc b a0 a28 a49 (5 * q)) → W p l e room_1 s m #[Value.ref b] below meth c H locs cells slots Q (F0 m 23 ls []) := by
  intro fuel
  induction fuel with
  | zero => intro q n ad A J G H locs cells slots ls _ _ _ _ hf; exact absurd hf (Nat.not_lt_zero _)
  | succ fuel ih =>
    intro q n ad A J G H locs cells slots ls hI hq hc hs hf hl
    have X0 := X
    obtain ⟨hx, hb, hml, hown, hts, hX, hbl, hEL, hst, hL⟩ := X
    have hG := hI.2.2.1
    have KK : ∀ (n1 : Nat) (ad1 : Nat → Nat) (A1 : Nat → Nat → Int32) (J1 : Nat → Nat → Int64) (G1 : Nat → Nat → Int) (H1 : Heap) (locs1 : List Loc) (ls1 : Array Slot) (cells1 slots1 : Nat), 5 * q + 5 ≤ L → LInv D cy s a0 a28 a49 n1 ad1 A1 J1 G1 H1 locs1 → cells1 ≤ cells + 3 → slots1 ≤ slots + 19 → lv_has ls1 7 (lLoc b a0 a28 a49 (5 * q)) → W p l e room_1 s m #[Value.ref b] below meth c H1 locs1 cells1 slots1 Q (F0 m 1322 ls1 []) := by
      intro n1 ad1 A1 J1 G1 H1 locs1 ls1 cells1 slots1 h5 hI1 hc1 hs1 hl1
      refine lv_iinc (v := nI (5 * (q + 1))) (lv' := lLoc b a0 a28 a49 (5 * (q + 1))) hx hb dL_law_1322 hl1 (k := 0) rfl (by exact nI_add (5 * q) 5) (by decide) rfl (fun ls hl => ?_)
      refine lv_goto (tgt := 23) hx hb dL_law_1325 (by decide) ?_
      exact ih (q + 1) n1 ad1 A1 J1 G1 H1 locs1 cells1 slots1 ls hI1 (by omega) (by omega) (by omega) (by omega) hl
    have hl4 : lv_has ls 7 [(4, .int (nI (5 * q))), (3, .ref a49), (2, .ref a28), (1, .ref a0), (0, .ref b)] := hl
    refine lv_iload hx hb dL_law_23 (lv_at hl4 0 rfl) ?_
    refine lv_aload_n hx hb dL_law_25 rfl (lv_at hl4 4 rfl) ?_
    refine gS_len hx hb hX hbl hG.2.2 dL_law_26 ?_
    refine lv_iconst (v := nI 5) hx hb dL_law_27 (by decide) ?_
    refine lv_isub hx hb dL_law_28 ?_
    refine g_top (y := zI ((L : Int) - 5)) (zI_sub_nn L 5) ?_
    refine lv_icmp_gt (tgt := 1328) hx hb dL_law_29 (by decide) (fun c29 => ?_) (fun c29 => ?_)
    · refine lv_iconst (v := nI 1) hx hb dL_law_1328 (by decide) ?_
      exact KE H locs ls cells slots hG.2.2.2.2 (by omega) (by omega)
    · have c29 : ¬ ((L : Int) - 5 < ((5 * q : Nat) : Int)) := fun z9 => c29 ((cmp_lt (zI_toInt (by omega) (by omega)) (nI_toInt (by omega))).mpr z9)
      have h5 : 5 * q + 5 ≤ L := by omega
      refine lv_aload_n hx hb dL_law_32 rfl (lv_at hl4 4 rfl) ?_
      refine lv_iload hx hb dL_law_33 (lv_at hl4 0 rfl) ?_
      refine gS_ld hx hb hX hbl hG.2.2 (i := 5 * q) rfl (by omega) hL dL_law_35 ?_
      refine lv_bipush (v := nI 31) hx hb dL_law_36 (by decide) ?_
      refine lv_iand hx hb dL_law_38 ?_
      obtain ⟨k, hk, hke⟩ := and_31 (xs (5 * q))
      refine g_top (y := nI k) hke ?_
      have K1 := fun n1 ad1 A1 J1 G1 H1 locs1 ls1 cells1 slots1 => KK n1 ad1 A1 J1 G1 H1 locs1 ls1 cells1 slots1 h5
      have h9 : k = 0 ∨ k = 1 ∨ k = 2 ∨ k = 3 ∨ k = 4 ∨ k = 5 ∨ k = 6 ∨ k = 7 ∨ k = 8 ∨ k = 9 ∨ k = 10 ∨ k = 11 ∨ k = 12 ∨ k = 13 ∨ k = 14 ∨ k = 15 ∨ k = 16 ∨ k = 17 ∨ k = 18 ∨ k = 19 ∨ k = 20 ∨ k = 21 ∨ k = 22 ∨ k = 23 ∨ k = 24 ∨ k = 25 ∨ k = 26 ∨ k = 27 ∨ k = 28 ∨ k = 29 ∨ k = 30 ∨ k = 31 := by omega
      rcases h9 with rfl | rfl | rfl | rfl | rfl | rfl | rfl | rfl | rfl | rfl | rfl | rfl | rfl | rfl | rfl | rfl | rfl | rfl | rfl | rfl | rfl | rfl | rfl | rfl | rfl | rfl | rfl | rfl | rfl | rfl | rfl | rfl
      · exact lv_tableIn (tgt := 160) (off := 121) hx hb dL_law_39 (by decide) (by decide) (by decide) (by decide) (law_k0 X0 h5 hI (by omega) (by omega) hl K1)
      · exact lv_tableIn (tgt := 268) (off := 229) hx hb dL_law_39 (by decide) (by decide) (by decide) (by decide) (law_k1 X0 h5 hI (by omega) (by omega) hl K1)
      · exact lv_tableIn (tgt := 281) (off := 242) hx hb dL_law_39 (by decide) (by decide) (by decide) (by decide) (law_k2 X0 h5 hI (by omega) (by omega) hl K1)
      · exact lv_tableIn (tgt := 337) (off := 298) hx hb dL_law_39 (by decide) (by decide) (by decide) (by decide) (law_k3 X0 h5 hI (by omega) (by omega) hl K1)
      · exact lv_tableIn (tgt := 350) (off := 311) hx hb dL_law_39 (by decide) (by decide) (by decide) (by decide) (law_k4 X0 h5 hI (by omega) (by omega) hl K1)
      · exact lv_tableIn (tgt := 418) (off := 379) hx hb dL_law_39 (by decide) (by decide) (by decide) (by decide) (law_k5 X0 h5 hI (by omega) (by omega) hl K1)
      · exact lv_tableIn (tgt := 474) (off := 435) hx hb dL_law_39 (by decide) (by decide) (by decide) (by decide) (law_k6 X0 h5 hI (by omega) (by omega) hl K1)
      · exact lv_tableIn (tgt := 487) (off := 448) hx hb dL_law_39 (by decide) (by decide) (by decide) (by decide) (law_k7 X0 h5 hI (by omega) (by omega) hl K1)
      · exact lv_tableIn (tgt := 500) (off := 461) hx hb dL_law_39 (by decide) (by decide) (by decide) (by decide) (law_k8 X0 h5 hI (by omega) (by omega) hl K1)
      · exact lv_tableIn (tgt := 556) (off := 517) hx hb dL_law_39 (by decide) (by decide) (by decide) (by decide) (law_k9 X0 h5 hI (by omega) (by omega) hl K1)
      · exact lv_tableIn (tgt := 612) (off := 573) hx hb dL_law_39 (by decide) (by decide) (by decide) (by decide) (law_k10 X0 h5 hI (by omega) (by omega) hl K1)
      · exact lv_tableIn (tgt := 680) (off := 641) hx hb dL_law_39 (by decide) (by decide) (by decide) (by decide) (law_k11 X0 h5 hI (by omega) (by omega) hl K1)
      · exact lv_tableIn (tgt := 736) (off := 697) hx hb dL_law_39 (by decide) (by decide) (by decide) (by decide) (law_k12 X0 h5 hI (by omega) (by omega) hl K1)
      · exact lv_tableIn (tgt := 749) (off := 710) hx hb dL_law_39 (by decide) (by decide) (by decide) (by decide) (law_k13 X0 h5 hI (by omega) (by omega) hl K1)
      · exact lv_tableIn (tgt := 762) (off := 723) hx hb dL_law_39 (by decide) (by decide) (by decide) (by decide) (law_k14 X0 h5 hI (by omega) (by omega) hl K1)
      · exact lv_tableIn (tgt := 775) (off := 736) hx hb dL_law_39 (by decide) (by decide) (by decide) (by decide) (law_k15 X0 h5 hI (by omega) (by omega) hl K1)
      · exact lv_tableIn (tgt := 788) (off := 749) hx hb dL_law_39 (by decide) (by decide) (by decide) (by decide) (law_k16 X0 h5 hI (by omega) (by omega) hl K1)
      · exact lv_tableIn (tgt := 801) (off := 762) hx hb dL_law_39 (by decide) (by decide) (by decide) (by decide) (law_k17 X0 h5 hI (by omega) (by omega) hl K1)
      · exact lv_tableIn (tgt := 845) (off := 806) hx hb dL_law_39 (by decide) (by decide) (by decide) (by decide) (law_k18 X0 h5 hI (by omega) (by omega) hl K1)
      · exact lv_tableIn (tgt := 901) (off := 862) hx hb dL_law_39 (by decide) (by decide) (by decide) (by decide) (law_k19 X0 h5 hI (by omega) (by omega) hl K1)
      · exact lv_tableIn (tgt := 957) (off := 918) hx hb dL_law_39 (by decide) (by decide) (by decide) (by decide) (law_k20 X0 h5 hI (by omega) (by omega) hl K1)
      · exact lv_tableIn (tgt := 1013) (off := 974) hx hb dL_law_39 (by decide) (by decide) (by decide) (by decide) (law_k21 X0 h5 hI (by omega) (by omega) hl K1)
      · exact lv_tableIn (tgt := 1069) (off := 1030) hx hb dL_law_39 (by decide) (by decide) (by decide) (by decide) (law_k22 X0 h5 hI (by omega) (by omega) hl K1)
      · exact lv_tableIn (tgt := 1141) (off := 1102) hx hb dL_law_39 (by decide) (by decide) (by decide) (by decide) (law_k23 X0 h5 hI (by omega) (by omega) hl K1)
      · exact lv_tableIn (tgt := 1197) (off := 1158) hx hb dL_law_39 (by decide) (by decide) (by decide) (by decide) (law_k24 X0 h5 hI (by omega) (by omega) hl K1)
      · exact lv_tableIn (tgt := 1253) (off := 1214) hx hb dL_law_39 (by decide) (by decide) (by decide) (by decide) (law_k25 X0 h5 hI (by omega) (by omega) hl K1)
      · exact lv_tableIn (tgt := 1309) (off := 1270) hx hb dL_law_39 (by decide) (by decide) (by decide) (by decide) (law_k26 X0 h5 hI (by omega) (by omega) hl K1)
      · exact lv_tableOut (tgt := 1322) hx hb dL_law_39 (by decide) (by decide) (K1 n ad A J G H locs ls cells slots hI (by omega) (by omega) hl)
      · exact lv_tableOut (tgt := 1322) hx hb dL_law_39 (by decide) (by decide) (K1 n ad A J G H locs ls cells slots hI (by omega) (by omega) hl)
      · exact lv_tableOut (tgt := 1322) hx hb dL_law_39 (by decide) (by decide) (K1 n ad A J G H locs ls cells slots hI (by omega) (by omega) hl)
      · exact lv_tableOut (tgt := 1322) hx hb dL_law_39 (by decide) (by decide) (K1 n ad A J G H locs ls cells slots hI (by omega) (by omega) hl)
      · exact lv_tableOut (tgt := 1322) hx hb dL_law_39 (by decide) (by decide) (K1 n ad A J G H locs ls cells slots hI (by omega) (by omega) hl)
set_option maxHeartbeats 4000000 in
set_option maxRecDepth 100000 in
theorem law_arr {s : State} {args : Array Value} {ty : FieldType} (hn : ∀ C, ty ≠ .object C) (h : (Cond.arrayClass ty).before args s = true) : ∃ cA : ClassId, ArrOfT s cA ty ∧ va_RA s cA ty := by
  obtain ⟨c9, k9, comp, h1, h2, h3⟩ := Cond.arrayClass_spec h
  refine ⟨c9, fun N z => ⟨(fun k h => by cases h), k9, h2, comp, h3⟩, ?_⟩
  cases ty with
  | object C => exact absurd rfl (hn C)
  | _ => exact h1
theorem law_arrq {s : State} {C : String} (h : va_AO C s) : ∃ cA : ClassId, ArrOfT s cA (.object C) ∧ va_RA s cA (.object C) := by
  obtain ⟨comp, c9, k9, h1, h2, h3, h4, h5⟩ := Cond.arrayOver_spec h
  exact ⟨c9, fun N z => ⟨(fun k h => by cases h), k9, h3, comp, h4⟩, k9, comp, h3, h4, h1, h5⟩
theorem w_ao4 : Cond.arrayOver (.object "Commutator$Point") ∈ lw_tbl := by decide +kernel
theorem w_ao3 : Cond.arrayOver (.object "Commutator$Derived") ∈ lw_tbl := by decide +kernel
theorem w_st1 : Cond.laysStatic Bundle.tN "UNASSIGNED_STACK" Bundle.steD ∈ lw_tbl := by decide +kernel
theorem w_st2 : Cond.laysStatic Bundle.tN "SUPPRESSED_SENTINEL" Bundle.listD ∈ lw_tbl := by decide +kernel
theorem w_st3 : Cond.initialized Bundle.tN ∈ lw_tbl := by decide +kernel
theorem n_1 : Cond.isRef (.static Bundle.tN "UNASSIGNED_STACK" Bundle.steD) ∈ flatC (Jvm.Cond.and given_1 narrow_1) := by decide +kernel
theorem n_2 : Cond.isRef (.static Bundle.tN "SUPPRESSED_SENTINEL" Bundle.listD) ∈ flatC (Jvm.Cond.and given_1 narrow_1) := by decide +kernel
theorem n_c0 : Cond.not (.castable "java/lang/IllegalArgumentException" "java/lang/IndexOutOfBoundsException") ∈ flatC (Jvm.Cond.and given_1 narrow_1) := by decide +kernel
theorem n_c1 : Cond.not (.castable "java/util/NoSuchElementException" "java/lang/IndexOutOfBoundsException") ∈ flatC (Jvm.Cond.and given_1 narrow_1) := by decide +kernel
theorem n_c2 : Cond.not (.castable "java/lang/IllegalStateException" "java/lang/IllegalArgumentException") ∈ flatC (Jvm.Cond.and given_1 narrow_1) := by decide +kernel
theorem n_c3 : Cond.not (.castable "java/lang/IndexOutOfBoundsException" "java/lang/IllegalArgumentException") ∈ flatC (Jvm.Cond.and given_1 narrow_1) := by decide +kernel
theorem n_c4 : Cond.not (.castable "java/util/NoSuchElementException" "java/lang/IllegalArgumentException") ∈ flatC (Jvm.Cond.and given_1 narrow_1) := by decide +kernel
set_option maxHeartbeats 4000000 in
set_option maxRecDepth 100000 in
theorem law_known {s : State} {args : Array Value} (hts : ∀ w ∈ wsL_law, w.before args s = true) (hAO4 : va_AO RX4 s) (hAO1 : va_AO RX1 s) : ∃ (D : va_G) (cy : Nat → ClassId), va_K D vwCl (gty cy) s := by
  obtain ⟨c0, i0, h0⟩ := u_known (C := RX0) (T := TX0) (N := 5) (n := 5) hts inlX0 (hts (.instantiable RX0 5) (w_law 30 rfl))
  obtain ⟨c1, i1, h1⟩ := u_known (C := RX1) (T := TX1) (N := 5) (n := 5) hts inlX1 (hts (.instantiable RX1 5) (w_law 65 rfl))
  obtain ⟨c2, i2, h2⟩ := u_known (C := RX2) (T := TX2) (N := 1) (n := 1) hts inlX2 (hts (.instantiable RX2 1) (w_law 34 rfl))
  obtain ⟨c3, i3, h3⟩ := u_known (C := RX3) (T := TX3) (N := 3) (n := 3) hts inlX3 (hts (.instantiable RX3 3) (w_law 18 rfl))
  obtain ⟨c4, i4, h4⟩ := u_known (C := RX4) (T := TX4) (N := 10) (n := 10) hts inlX4 (hts (.instantiable RX4 10) (w_law 126 rfl))
  obtain ⟨c5, i5, h5⟩ := u_known (C := RX5) (T := TX5) (N := 3) (n := 3) hts inlX5 (hts (.instantiable RX5 3) (w_law 14 rfl))
  obtain ⟨c6, i6, h6⟩ := u_known (C := RX6) (T := TX6) (N := 3) (n := 3) hts inlX6 (hts (.instantiable RX6 3) (w_law 71 rfl))
  obtain ⟨c7, i7, h7⟩ := u_known (C := RX7) (T := TX7) (N := 2) (n := 2) hts inlX7 (hts (.instantiable RX7 2) (w_law 22 rfl))
  obtain ⟨c8, i8, h8⟩ := u_known (C := RX8) (T := TX8) (N := 7) (n := 7) hts inlX8 (hts (.instantiable RX8 7) (w_law 26 rfl))
  obtain ⟨c9, i9, h9⟩ := u_known (C := RX9) (T := TX9) (N := 6) (n := 6) hts inlX9 (hts (.instantiable RX9 6) (w_law 1 rfl))
  obtain ⟨c10, i10, h10⟩ := u_known (C := RX10) (T := TX10) (N := 35) (n := 35) hts inlX10 (hts (.instantiable RX10 35) (w_law 4 rfl))
  obtain ⟨y0, y0a, y0b⟩ := law_arr (ty := .int) (fun C h => by cases h) (hts (.arrayClass .int) (w_law 46 rfl))
  obtain ⟨y1, y1a, y1b⟩ := law_arr (ty := .long) (fun C h => by cases h) (hts (.arrayClass .long) (w_law 6 rfl))
  obtain ⟨y2, y2a, y2b⟩ := law_arr (ty := .boolean) (fun C h => by cases h) (hts (.arrayClass .boolean) (w_law 98 rfl))
  obtain ⟨y3, y3a, y3b⟩ := law_arrq hAO1
  obtain ⟨y4, y4a, y4b⟩ := law_arrq hAO4
  refine ⟨(fun k => if k = 0 then c0 else if k = 1 then c1 else if k = 2 then c2 else if k = 3 then c3 else if k = 4 then c4 else if k = 5 then c5 else if k = 6 then c6 else if k = 7 then c7 else if k = 8 then c8 else if k = 9 then c9 else c10, fun k => if k = 0 then i0 else if k = 1 then i1 else if k = 2 then i2 else if k = 3 then i3 else if k = 4 then i4 else if k = 5 then i5 else if k = 6 then i6 else if k = 7 then i7 else if k = 8 then i8 else if k = 9 then i9 else i10), fun k => if k = 0 then y0 else if k = 1 then y1 else if k = 2 then y2 else if k = 3 then y3 else y4, fun k q hq => ?_, fun k q hq => ?_⟩
  · match k, hq with
    | 0, hq => cases hq; exact h0
    | 1, hq => cases hq; exact h1
    | 2, hq => cases hq; exact h2
    | 3, hq => cases hq; exact h3
    | 4, hq => cases hq; exact h4
    | 5, hq => cases hq; exact h5
    | 6, hq => cases hq; exact h6
    | 7, hq => cases hq; exact h7
    | 8, hq => cases hq; exact h8
    | 9, hq => cases hq; exact h9
    | 10, hq => cases hq; exact h10
    | k + 11, hq => simp [vwCl] at hq
  · match k, hq with
    | 0, hq => cases hq; exact ⟨y0a, y0b⟩
    | 1, hq => cases hq; exact ⟨y1a, y1b⟩
    | 2, hq => cases hq; exact ⟨y2a, y2b⟩
    | 3, hq => cases hq; exact ⟨y3a, y3b⟩
    | 4, hq => cases hq; exact ⟨y4a, y4b⟩
    | k + 5, hq => simp [gty] at hq
set_option maxHeartbeats 4000000 in
set_option maxRecDepth 100000 in
theorem law_start {p : Program} {e : Env} {s : State} {m : MethodId} {below : List Frame} {meth : Method} {c : Code} {l : Launch} {b L : Nat} {xs : Nat → Int32} {Q : State → Prop} (hx : p.tables.exec = Jvm.exec) (hb : c.code = code) (hml : c.maxLocals = 7) (hown : s.vm.findClass RL = some m.cls) (hts0 : ∀ w ∈ lw_tbl, w.before #[Value.ref b] s = true) (hX : va_X b L xs s s.heap) (hbl : b < s.heap.size) (hgv : (Jvm.Cond.and given_1 narrow_1).before #[Value.ref b] s = true) (hst : l.stackTraces = false) (hL : L ≤ 2560)
    (KE : ∀ (H : Heap) (locs : List Loc) (ls : Array Slot) (cells slots : Nat), (∀ q ∈ locs, s.heap.size ≤ q.base) → cells ≤ 601024 → slots ≤ 7293034 → W p l e room_1 s m #[Value.ref b] below meth c H locs cells slots Q (F0 m 1329 ls [.int (nI 1)])) {ls : Array Slot} (hl : lv_has ls 7 [(0, .ref b)]) : W p l e room_1 s m #[Value.ref b] below meth c s.heap [] 0 0 Q (F0 m 0 ls []) := by
  have hts : ∀ w ∈ wsL_law, w.before #[Value.ref b] s = true := fun w hw => hts0 w (wsL_law_in w hw)
  have hf := flat_of_before _ hgv
  have hAO4 : va_AO RX4 s := va_AO.of (hts0 _ w_ao4)
  have hAO1 : va_AO RX1 s := va_AO.of (hts0 _ w_ao3)
  obtain ⟨D, cy, hK⟩ := law_known hts hAO4 hAO1
  have hno : ∀ a : Nat, a < s.heap.size → ¬ (s.heap.size ≤ a) := fun a h => Nat.not_le.mpr h
  have hE : gE D cy s.heap.size s := ⟨hK, fun w hw => va_Nw.of (gnest_tabs hw) (hts0 w (gnest_tbl w hw)), Nat.le_refl _, vx_Zqof (hts0 _ w_st1) (hts0 _ w_st3) (hf _ n_1) hno, vx_Zqof (hts0 _ w_st2) (hts0 _ w_st3) (hf _ n_2) hno⟩
  have hEA : gEA D cy s.heap.size s := ⟨hE, hAO4, hAO1⟩
  have hEL : gEL D cy s.heap.size s := ⟨hE, va_Nc.of (hf _ n_c0), va_Nc.of (hf _ n_c1), va_Nc.of (hf _ n_c2), va_Nc.of (hf _ n_c3), va_Nc.of (hf _ n_c4)⟩
  have X : LCtx p s m c l b L xs D cy := ⟨hx, hb, hml, hown, hts, hX, hbl, hEL, hst, hL⟩
  have hG : gH D s.heap.size s (fun _ => 0) 0 (fun _ => .inr (0, [])) s.heap [] := ⟨fun k q h => by simp [gl] at h, ⟨fun i j p q h => by simp [gl] at h, fun k q h => by simp [gl] at h⟩, va_S.rf⟩
  refine g_new (own := RL) (C := RX9) (T := TX9) (NN := 6) (ci := 9) hx hb hts inlX9 tyX9 tyX9_ok hown (hts (.classLink RL 8 RX9) (w_law 0 rfl)) (hts (.instantiable RX9 6) (w_law 1 rfl)) (hts (.initialized RX9) (w_law 2 rfl)) hE hG rfl (fs := [.null, .null, .null, .null, .null, .null]) (fun j9 hj9 => by have h9 : j9 = 0 ∨ j9 = 1 ∨ j9 = 2 ∨ j9 = 3 ∨ j9 = 4 ∨ j9 = 5 := (by omega); rcases h9 with rfl | rfl | rfl | rfl | rfl | rfl <;> rfl) (Nat.le_of_ble_eq_true rfl) (Nat.le_of_ble_eq_true rfl) dL_law_0 (fun q0 H locs hG => ?_)
  refine lv_dup hx hb dL_law_3 rfl ?_
  refine gR_callI (As := []) (rest := [.ref q0]) ⟨hx, hb, hml, hown, hts⟩ hG (cX9_initC l D cy s.heap.size _ _ rfl) (gA_pre hEA hG _) (cwI 0 hts gL_law_X9_init rfl rfl rfl (hts (.initialized RX9) (w_law 2 rfl)) (hts (.methodLink RL 73 yX9_init) (w_law 7 rfl)) (hts (.instanceMethod yX9_init) (w_law 8 rfl)) rfl (by decide +kernel) ⟨(Nat.le_of_ble_eq_true rfl), (Nat.le_of_ble_eq_true rfl)⟩) rfl hl.1 rfl (Nat.le_of_ble_eq_true rfl) dL_law_4 ⟨(Nat.le_of_ble_eq_true rfl), (Nat.le_of_ble_eq_true rfl)⟩ (fun v_ adA NA wA H locs hp hG => ?_)
  obtain ⟨rfl, rfl, hz0, hw0⟩ := hp
  refine lv_astore_n (lv' := [(1, .ref q0), (0, .ref b)]) hx hb dL_law_7 rfl hl (by decide) rfl (fun ls hl => ?_)
  refine g_new (own := RL) (C := RX10) (T := TX10) (NN := 35) (ci := 10) hx hb hts inlX10 tyX10 tyX10_ok hown (hts (.classLink RL 74 RX10) (w_law 3 rfl)) (hts (.instantiable RX10 35) (w_law 4 rfl)) (hts (.initialized RX10) (w_law 5 rfl)) hE hG rfl (fs := [.int 0, .null, .null, .null, .null, .null, .null, .null, .null, .int 0, .int 0, .null, .int 0, .null, .int 0, .int 0, .int 0, .int 0, .int 0, .int 0, .int 0, .int 0, .int 0, .int 0, .null, .null, .null, .null, .null, .null, .null, .null, .null, .null, .int 0]) (fun j9 hj9 => by have h9 : j9 = 0 ∨ j9 = 1 ∨ j9 = 2 ∨ j9 = 3 ∨ j9 = 4 ∨ j9 = 5 ∨ j9 = 6 ∨ j9 = 7 ∨ j9 = 8 ∨ j9 = 9 ∨ j9 = 10 ∨ j9 = 11 ∨ j9 = 12 ∨ j9 = 13 ∨ j9 = 14 ∨ j9 = 15 ∨ j9 = 16 ∨ j9 = 17 ∨ j9 = 18 ∨ j9 = 19 ∨ j9 = 20 ∨ j9 = 21 ∨ j9 = 22 ∨ j9 = 23 ∨ j9 = 24 ∨ j9 = 25 ∨ j9 = 26 ∨ j9 = 27 ∨ j9 = 28 ∨ j9 = 29 ∨ j9 = 30 ∨ j9 = 31 ∨ j9 = 32 ∨ j9 = 33 ∨ j9 = 34 := (by omega); rcases h9 with rfl | rfl | rfl | rfl | rfl | rfl | rfl | rfl | rfl | rfl | rfl | rfl | rfl | rfl | rfl | rfl | rfl | rfl | rfl | rfl | rfl | rfl | rfl | rfl | rfl | rfl | rfl | rfl | rfl | rfl | rfl | rfl | rfl | rfl | rfl <;> rfl) (Nat.le_of_ble_eq_true rfl) (Nat.le_of_ble_eq_true rfl) dL_law_8 (fun q28 H locs hG => ?_)
  refine lv_dup hx hb dL_law_11 rfl ?_
  have hAd := hz0
  refine gR_callI (As := []) (rest := [.ref q28]) ⟨hx, hb, hml, hown, hts⟩ hG (cX10_initC l D cy s.heap.size _ _ rfl) (g_pre hE hG _) (cwI 0 hts gL_law_X10_init rfl rfl rfl (hts (.initialized RX10) (w_law 5 rfl)) (hts (.methodLink RL 76 yX10_init) (w_law 77 rfl)) (hts (.instanceMethod yX10_init) (w_law 78 rfl)) rfl (by decide +kernel) ⟨(Nat.le_of_ble_eq_true rfl), (Nat.le_of_ble_eq_true rfl)⟩) rfl hl.1 rfl (Nat.le_of_ble_eq_true rfl) dL_law_12 ⟨(Nat.le_of_ble_eq_true rfl), (Nat.le_of_ble_eq_true rfl)⟩ (fun v_ adB NB wB H locs hp hG => ?_)
  obtain ⟨rfl, rfl, hz2, hw2, hw3⟩ := hp
  refine lv_astore_n (lv' := [(2, .ref q28), (1, .ref q0), (0, .ref b)]) hx hb dL_law_15 rfl hl (by decide) rfl (fun ls hl => ?_)
  refine lv_iconst (v := nI 1) hx hb dL_law_16 (by decide) ?_
  refine g_newa (atype := .long) (ty := .long) hx hb (hts (.arrayClass .long) (w_law 6 rfl)) rfl hE hG (t0 := 1) rfl (N' := 1) (a0 := (1, .inr (.inl (fun _ => 0)))) (fun _ => rfl) (by decide) (nI_clamp (by decide)) (Nat.le_of_ble_eq_true rfl) (Nat.le_of_ble_eq_true rfl) (Nat.le_of_ble_eq_true rfl) dL_law_17 (fun q49 H locs hG => ?_)
  refine lv_astore_n (lv' := [(3, .ref q49), (2, .ref q28), (1, .ref q0), (0, .ref b)]) hx hb dL_law_19 rfl hl (by decide) rfl (fun ls hl => ?_)
  refine lv_iconst (v := nI 0) hx hb dL_law_20 (by decide) ?_
  refine lv_istore (lv' := [(4, .int (nI 0)), (3, .ref q49), (2, .ref q28), (1, .ref q0), (0, .ref b)]) hx hb dL_law_21 hl (by decide) rfl (fun ls hl => ?_)
  have had : ∀ k, k < 28 → va_up adB 49 q49 k = adA k := fun k hk => by rw [va_up_ne _ _ (by omega), hz2 k (by omega), va_up_ne _ _ (by omega)]
  have had2 : ∀ k, k < 49 → va_up adB 49 q49 k = adB k := fun k hk => va_up_ne _ _ (by omega)
  have hG := hG.as (ad' := va_up adB 49 q49) (w' := gw cy (va_up adB 49 q49) 0 A00 (fun _ _ => 0)) (fun _ _ => rfl) (fun k hk => by
    by_cases h1 : k < 28
    · have hA : A00 k = fun _ => 0 := funext fun j => A00_z (by omega)
      rw [va_up_ne _ _ (by omega), hw2 k h1, va_up_ne _ _ (by omega), hw0 k h1]
      unfold gw
      rw [gC_lo had h1, hA]
    · by_cases h2 : k = 49
      · subst h2
        rw [va_up_self]
        rfl
      · rw [va_up_ne _ _ h2, hw3 k (by omega) (by omega)]
        unfold gw
        rw [gC_hi had2 (by omega) (by omega)])
  have e0 : va_up adB 49 q49 0 = q0 := (had 0 (by omega)).trans hz0
  have e28 : va_up adB 49 q49 28 = q28 := (had2 28 (by omega)).trans ((hz2 28 (by omega)).trans (va_up_self _ _ _))
  have e49 : va_up adB 49 q49 49 = q49 := va_up_self _ _ _
  exact law_loop X KE (L + 6) 0 0 _ A00 (fun _ _ => 0) G00 H locs _ _ ls ⟨CAll.zero, fun k j _ _ _ => A00_G00 k j, hG, e0, e28, e49⟩ (by omega) (Nat.le_of_ble_eq_true rfl) (Nat.le_of_ble_eq_true rfl) (by omega) hl

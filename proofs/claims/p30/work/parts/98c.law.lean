/-! ===== the law ===== -/
theorem law_arr {s : State} {args : Array Value} {ty : FieldType} (hn : ∀ C, ty ≠ .object C) (h : (Cond.arrayClass ty).before args s = true) : ∃ cA : ClassId, ArrOfT s cA ty ∧ va_RA s cA ty := by
  obtain ⟨c9, k9, comp, h1, h2, h3⟩ := Cond.arrayClass_spec h
  refine ⟨c9, fun N z => ⟨(fun k h => by cases h), k9, h2, comp, h3⟩, ?_⟩
  cases ty with
  | object C => exact absurd rfl (hn C)
  | _ => exact h1
theorem law_arrq {s : State} {C : String} (h : va_AO C s) : ∃ cA : ClassId, ArrOfT s cA (.object C) ∧ va_RA s cA (.object C) := by
  obtain ⟨comp, c9, k9, h1, h2, h3, h4, h5⟩ := Cond.arrayOver_spec h
  exact ⟨c9, fun N z => ⟨(fun k h => by cases h), k9, h3, comp, h4⟩, k9, comp, h3, h4, h1, h5⟩
theorem w_ao4 : Cond.arrayOver (.object "Commutator$Point") ∈ lw_tbl := by decide +kernel
theorem w_ao3 : Cond.arrayOver (.object "Commutator$Derived") ∈ lw_tbl := by decide +kernel
theorem w_st1 : Cond.laysStatic Bundle.tN "UNASSIGNED_STACK" Bundle.steD ∈ lw_tbl := by decide +kernel
theorem w_st2 : Cond.laysStatic Bundle.tN "SUPPRESSED_SENTINEL" Bundle.listD ∈ lw_tbl := by decide +kernel
theorem w_st3 : Cond.initialized Bundle.tN ∈ lw_tbl := by decide +kernel
theorem n_1 : Cond.isRef (.static Bundle.tN "UNASSIGNED_STACK" Bundle.steD) ∈ flatC (Jvm.Cond.and given_1 narrow_1) := by decide +kernel
theorem n_2 : Cond.isRef (.static Bundle.tN "SUPPRESSED_SENTINEL" Bundle.listD) ∈ flatC (Jvm.Cond.and given_1 narrow_1) := by decide +kernel
set_option maxHeartbeats 4000000 in
set_option maxRecDepth 100000 in
theorem law_known {s : State} {args : Array Value} (hts : ∀ w ∈ lw_tbl, w.before args s = true) (hAO4 : va_AO RX4 s) (hAO1 : va_AO RX1 s) : ∃ (D : va_G) (cy : Nat → ClassId), va_K D vwCl (gty cy) s := by
  obtain ⟨c0, i0, h0⟩ := u_known (C := RX0) (T := TX0) (N := 5) (n := 5) hts inX0 (hts (.instantiable RX0 5) (by decide +kernel))
  obtain ⟨c1, i1, h1⟩ := u_known (C := RX1) (T := TX1) (N := 5) (n := 5) hts inX1 (hts (.instantiable RX1 5) (by decide +kernel))
  obtain ⟨c2, i2, h2⟩ := u_known (C := RX2) (T := TX2) (N := 1) (n := 1) hts inX2 (hts (.instantiable RX2 1) (by decide +kernel))
  obtain ⟨c3, i3, h3⟩ := u_known (C := RX3) (T := TX3) (N := 3) (n := 3) hts inX3 (hts (.instantiable RX3 3) (by decide +kernel))
  obtain ⟨c4, i4, h4⟩ := u_known (C := RX4) (T := TX4) (N := 10) (n := 10) hts inX4 (hts (.instantiable RX4 10) (by decide +kernel))
  obtain ⟨c5, i5, h5⟩ := u_known (C := RX5) (T := TX5) (N := 3) (n := 3) hts inX5 (hts (.instantiable RX5 3) (by decide +kernel))
  obtain ⟨c6, i6, h6⟩ := u_known (C := RX6) (T := TX6) (N := 3) (n := 3) hts inX6 (hts (.instantiable RX6 3) (by decide +kernel))
  obtain ⟨c7, i7, h7⟩ := u_known (C := RX7) (T := TX7) (N := 2) (n := 2) hts inX7 (hts (.instantiable RX7 2) (by decide +kernel))
  obtain ⟨c8, i8, h8⟩ := u_known (C := RX8) (T := TX8) (N := 7) (n := 7) hts inX8 (hts (.instantiable RX8 7) (by decide +kernel))
  obtain ⟨c9, i9, h9⟩ := u_known (C := RX9) (T := TX9) (N := 6) (n := 6) hts inX9 (hts (.instantiable RX9 6) (by decide +kernel))
  obtain ⟨y0, y0a, y0b⟩ := law_arr (ty := .int) (fun C h => by cases h) (hts (.arrayClass .int) (by decide +kernel))
  obtain ⟨y1, y1a, y1b⟩ := law_arr (ty := .long) (fun C h => by cases h) (hts (.arrayClass .long) (by decide +kernel))
  obtain ⟨y3, y3a, y3b⟩ := law_arrq hAO1
  obtain ⟨y4, y4a, y4b⟩ := law_arrq hAO4
  refine ⟨(fun k => if k = 0 then c0 else if k = 1 then c1 else if k = 2 then c2 else if k = 3 then c3 else if k = 4 then c4 else if k = 5 then c5 else if k = 6 then c6 else if k = 7 then c7 else if k = 8 then c8 else c9, fun k => if k = 0 then i0 else if k = 1 then i1 else if k = 2 then i2 else if k = 3 then i3 else if k = 4 then i4 else if k = 5 then i5 else if k = 6 then i6 else if k = 7 then i7 else if k = 8 then i8 else i9), fun k => if k = 0 then y0 else if k = 1 then y1 else if k = 3 then y3 else y4, fun k q hq => ?_, fun k q hq => ?_⟩
  · match k, hq with
    | 0, hq => cases hq; exact h0
    | 1, hq => cases hq; exact h1
    | 2, hq => cases hq; exact h2
    | 3, hq => cases hq; exact h3
    | 4, hq => cases hq; exact h4
    | 5, hq => cases hq; exact h5
    | 6, hq => cases hq; exact h6
    | 7, hq => cases hq; exact h7
    | 8, hq => cases hq; exact h8
    | 9, hq => cases hq; exact h9
    | k + 10, hq => simp [vwCl] at hq
  · match k, hq with
    | 0, hq => cases hq; exact ⟨y0a, y0b⟩
    | 1, hq => cases hq; exact ⟨y1a, y1b⟩
    | 2, hq => cases hq; exact ⟨y0a, y0b⟩
    | 3, hq => cases hq; exact ⟨y3a, y3b⟩
    | 4, hq => cases hq; exact ⟨y4a, y4b⟩
    | k + 5, hq => simp [gty] at hq
section GR
variable {p : Program} {l : Launch} {e : Env} {R : Room} {s : State} {m : MethodId} {args : Array Value} {below : List Frame} {meth : Method} {c : Code} {H : Heap} {locs : List Loc} {cells slots : Nat} {Q : State → Prop}
variable {cc : ByteArray} {pc : Nat} {ls : Array Slot} {rest : List Value} {D : va_G} {cy : Nat → ClassId} {base : Nat}
theorem gK_callS {y : MethodName} {bytes : ByteArray} {maxL nL nn index mc1 ms1 b L : Nat} {xs : Nat → Int32} {ret : Option FieldType} {ws : List Cond} {rm : Room} {Ts : List Cond} {own : String} {As st0 : List Value}
    (S : CallFix p m c cc nL s args Ts own) (hE : gEA D cy base s) (hX : gXS b L xs base s) (hS : va_S (fun q => base ≤ q) s.heap H locs) (hM : vx_Met l y ws rm (gPreK D cy base b L xs As) (gQK base) xcNo mc1 ms1 (fun q => base ≤ q)) (cw : CallB R s args own index y bytes maxL ret ws rm mc1 ms1 nn ∧ (Cond.static y).before args s = true)
    (hn : As.length = nn) (hsize : ls.size = nL) (hst : st0 = As.reverse ++ rest) (hW : (rest.map fun v => v.category).sum ≤ 8) (hdg : decode cc pc = .ok (.invokestatic index, 3)) (hf : cells + mc1 ≤ R.cells ∧ slots + ms1 ≤ R.slots)
    (kk : ∀ (H : Heap) (locs : List Loc), va_S (fun q => base ≤ q) s.heap H locs → W p l e R s m args below meth c H locs (cells + mc1) (slots + ms1) Q (F0 m (pc + 3) ls (.int (nI 1) :: rest))) : W p l e R s m args below meth c H locs cells slots Q (F0 m pc ls st0) := by
  intro T hT X
  rcases vx_runS (As := As) (rest := rest) (g := F0 m pc ls st0) S hM cw (gK_pre hE hX hS As) rfl hn hsize hst (by show 2 * 0 + _ ≤ 8; omega) hdg hf T hT X with ⟨v, st₀, t, T', L, h0, X', hL, e1, e2, ⟨hv, hF⟩, st⟩ | ⟨q, st₀, t, T', L, E, ce, h0, X', hL, e1, e2, hfalse, hce, hcv, hcl, st⟩
  · cases hv
    obtain ⟨k1, k2, k3⟩ := vx_keep h0 e1 hS (fun _ _ h => h) (fun _ h => h) hL hF
    obtain ⟨t2, a1, b1⟩ := kk T'.heap (locs ++ L) k3 T' rfl X'
    exact ⟨t2, st t2 a1, b1⟩
  · exact hfalse.elim
end GR
set_option maxHeartbeats 4000000 in
set_option maxRecDepth 100000 in
theorem law_start {p : Program} {e : Env} {s : State} {m : MethodId} {below : List Frame} {meth : Method} {c : Code} {l : Launch} {b L : Nat} {xs : Nat → Int32} {Q : State → Prop} (hx : p.tables.exec = Jvm.exec) (hb : c.code = code) (hml : c.maxLocals = 1) (hown : s.vm.findClass RL = some m.cls) (hts0 : ∀ w ∈ lw_tbl, w.before #[Value.ref b] s = true) (hX : va_X b L xs s s.heap) (hbl : b < s.heap.size) (hgv : (Jvm.Cond.and given_1 narrow_1).before #[Value.ref b] s = true) (hst : l.stackTraces = false) (hL : L ≤ 260)
    (KE : ∀ (H : Heap) (locs : List Loc) (ls : Array Slot) (cells slots : Nat), (∀ q ∈ locs, s.heap.size ≤ q.base) → cells ≤ 600104 → slots ≤ 7301314 → W p l e room_1 s m #[Value.ref b] below meth c H locs cells slots Q (F0 m 47 ls [.int (nI 1)])) {ls : Array Slot} (hl : lv_has ls 1 [(0, .ref b)]) : W p l e room_1 s m #[Value.ref b] below meth c s.heap [] 0 0 Q (F0 m 0 ls []) := by
  have hts : ∀ w ∈ wsL_law, w.before #[Value.ref b] s = true := fun w hw => hts0 w (wsL_law_in w hw)
  have hf := flat_of_before _ hgv
  have hAO4 : va_AO RX4 s := va_AO.of (hts0 _ w_ao4)
  have hAO1 : va_AO RX1 s := va_AO.of (hts0 _ w_ao3)
  obtain ⟨D, cy, hK⟩ := law_known hts0 hAO4 hAO1
  have hno : ∀ a : Nat, a < s.heap.size → ¬ (s.heap.size ≤ a) := fun a h => Nat.not_le.mpr h
  have hE : gE D cy s.heap.size s := ⟨hK, fun w hw => va_Nw.of (gnest_tabs hw) (hts0 w (gnest_tbl w hw)), Nat.le_refl _, vx_Zqof (hts0 _ w_st1) (hts0 _ w_st3) (hf _ n_1) hno, vx_Zqof (hts0 _ w_st2) (hts0 _ w_st3) (hf _ n_2) hno⟩
  have hEA : gEA D cy s.heap.size s := ⟨hE, hAO4, hAO1⟩
  have hXS : gXS b L xs s.heap.size s := ⟨hX, hbl, hL⟩
  have hS : va_S (fun q => s.heap.size ≤ q) s.heap s.heap [] := va_S.rf
  refine lv_aload_n hx hb dL_law_0 rfl (lv_at hl 0 rfl) ?_
  refine lv_iconst (v := nI 0) hx hb dL_law_1 (by decide) ?_
  refine lv_iconst (v := nI 1) hx hb dL_law_2 (by decide) ?_
  refine gK_callS (As := [.ref b, .int (nI 0), .int (nI 1)]) (rest := []) ⟨hx, hb, hml, hown, hts⟩ hEA hXS hS (cL_packerC l D cy s.heap.size b L xs 0 1 hst (by omega) (by omega)) (va_cwS 3 hts gL_law_L_packer rfl rfl rfl (by decide +kernel) ⟨(Nat.le_of_ble_eq_true rfl), (Nat.le_of_ble_eq_true rfl)⟩) rfl hl.1 rfl (Nat.le_of_ble_eq_true rfl) dL_law_3 ⟨(Nat.le_of_ble_eq_true rfl), (Nat.le_of_ble_eq_true rfl)⟩ (fun H locs hS => ?_)
  refine lv_if_eq (tgt := 46) hx hb dL_law_6 (by decide) (fun c9 => absurd c9 (by decide)) (fun _ => ?_)
  refine lv_aload_n hx hb dL_law_9 rfl (lv_at hl 0 rfl) ?_
  refine lv_sipush (v := nI 130) hx hb dL_law_10 (by decide) ?_
  refine lv_iconst (v := nI 0) hx hb dL_law_13 (by decide) ?_
  refine gK_callS (As := [.ref b, .int (nI 130), .int (nI 0)]) (rest := []) ⟨hx, hb, hml, hown, hts⟩ hEA hXS hS (cL_packerC l D cy s.heap.size b L xs 130 0 hst (by omega) (by omega)) (va_cwS 3 hts gL_law_L_packer rfl rfl rfl (by decide +kernel) ⟨(Nat.le_of_ble_eq_true rfl), (Nat.le_of_ble_eq_true rfl)⟩) rfl hl.1 rfl (Nat.le_of_ble_eq_true rfl) dL_law_14 ⟨(Nat.le_of_ble_eq_true rfl), (Nat.le_of_ble_eq_true rfl)⟩ (fun H locs hS => ?_)
  refine lv_if_eq (tgt := 46) hx hb dL_law_17 (by decide) (fun c9 => absurd c9 (by decide)) (fun _ => ?_)
  refine lv_aload_n hx hb dL_law_20 rfl (lv_at hl 0 rfl) ?_
  refine lv_sipush (v := nI 260) hx hb dL_law_21 (by decide) ?_
  refine lv_iconst (v := nI 0) hx hb dL_law_24 (by decide) ?_
  refine gK_callS (As := [.ref b, .int (nI 260), .int (nI 0)]) (rest := []) ⟨hx, hb, hml, hown, hts⟩ hEA hXS hS (cL_packerC l D cy s.heap.size b L xs 260 0 hst (by omega) (by omega)) (va_cwS 3 hts gL_law_L_packer rfl rfl rfl (by decide +kernel) ⟨(Nat.le_of_ble_eq_true rfl), (Nat.le_of_ble_eq_true rfl)⟩) rfl hl.1 rfl (Nat.le_of_ble_eq_true rfl) dL_law_25 ⟨(Nat.le_of_ble_eq_true rfl), (Nat.le_of_ble_eq_true rfl)⟩ (fun H locs hS => ?_)
  refine lv_if_eq (tgt := 46) hx hb dL_law_28 (by decide) (fun c9 => absurd c9 (by decide)) (fun _ => ?_)
  refine lv_aload_n hx hb dL_law_31 rfl (lv_at hl 0 rfl) ?_
  refine lv_sipush (v := nI 390) hx hb dL_law_32 (by decide) ?_
  refine lv_iconst (v := nI 0) hx hb dL_law_35 (by decide) ?_
  refine gK_callS (As := [.ref b, .int (nI 390), .int (nI 0)]) (rest := []) ⟨hx, hb, hml, hown, hts⟩ hEA hXS hS (cL_packerC l D cy s.heap.size b L xs 390 0 hst (by omega) (by omega)) (va_cwS 3 hts gL_law_L_packer rfl rfl rfl (by decide +kernel) ⟨(Nat.le_of_ble_eq_true rfl), (Nat.le_of_ble_eq_true rfl)⟩) rfl hl.1 rfl (Nat.le_of_ble_eq_true rfl) dL_law_36 ⟨(Nat.le_of_ble_eq_true rfl), (Nat.le_of_ble_eq_true rfl)⟩ (fun H locs hS => ?_)
  refine lv_if_eq (tgt := 46) hx hb dL_law_39 (by decide) (fun c9 => absurd c9 (by decide)) (fun _ => ?_)
  refine lv_iconst (v := nI 1) hx hb dL_law_42 (by decide) ?_
  refine lv_goto (tgt := 47) hx hb dL_law_43 (by decide) ?_
  exact KE _ _ ls _ _ hS.2.2 (Nat.le_of_ble_eq_true rfl) (Nat.le_of_ble_eq_true rfl)

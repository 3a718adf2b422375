/-! ===== a packer ===== -/
def gQK (base : Nat) : Array Value → State → Outcome → State → Prop := fun _ st oc t => oc = .returned (some (.int (nI 1))) ∧ va_F (fun q => base ≤ q) st t
def gPreK (D : va_G) (cy : Nat → ClassId) (base b L : Nat) (xs : Nat → Int32) (av : List Value) : Array Value → State → Prop := va_Pc av (fun U => gEA D cy base U ∧ gXS b L xs base U)
theorem gPreK.blind {D : va_G} {cy : Nat → ClassId} {base b L : Nat} {xs : Nat → Int32} {av : List Value} : FrameBlind (gPreK D cy base b L xs av) := fun a U g mk h => ⟨h.1, h.2.1.blind, h.2.2.blind⟩
theorem gK_pre {s : State} {H : Heap} {locs : List Loc} {D : va_G} {cy : Nat → ClassId} {base b L : Nat} {xs : Nat → Int32} (hE : gEA D cy base s) (hX : gXS b L xs base s) (hS : va_S (fun q => base ≤ q) s.heap H locs) (As : List Value) : PreS s H (gPreK D cy base b L xs As) As :=
  ⟨gPreK.blind, fun U hU hW => ⟨rfl, hE.warm hS hU hW, hX.warm hE.1.2.2.1 hS hU hW⟩⟩
set_option maxHeartbeats 4000000 in
set_option maxRecDepth 100000 in
theorem cL_packerC (l : Launch) (D : va_G) (cy : Nat → ClassId) (base b L : Nat) (xs : Nat → Int32) (atN whN : Nat) (hst : l.stackTraces = false) (hat : atN ≤ 400) (hwh : whN ≤ 1) : vx_Met l yL_packer wsL_packer ({ frames := 11, cells := 12700, slots := 86000, locals := 300 } : Room) (gPreK D cy base b L xs [.ref b, .int (nI atN), .int (nI whN)]) (gQK base) xcNo 12700 86000 (fun q => base ≤ q) := by
  refine vx_ofW (cc := cL_packer) (maxL := 13) (ret := some .boolean) (by decide) rfl ?_
  intro pM eM sM mM aM bM methM cM s₁ B hml hout hv
  obtain ⟨rfl, hEA, hXS⟩ := hv
  rw [lg_entry_eq]
  have hx := B.exec
  have hb := B.bytes
  have hr := B.returns
  have hts := atoms_spec (ws := wsL_packer) B.pre
  have hown := findClass_of_methodNamed B.named
  have hlocks := B.notSynchronized
  have hE := hEA.1
  have hinX9 : ∀ w ∈ u_ws RX9 TX9 6, w ∈ wsL_packer := by decide +kernel
  have key : ∀ (ls : Array Slot), lv_has ls 13 [(0, .ref b), (1, .int (nI atN)), (2, .int (nI whN))] → W pM l eM ({ frames := 11, cells := 12700, slots := 86000, locals := 300 } : Room) sM mM ([.ref b, .int (nI atN), .int (nI whN)] : List Value).toArray bM methM cM sM.heap [] 0 0 (vx_MQ bM (gQK base) xcNo ([.ref b, .int (nI atN), .int (nI whN)] : List Value).toArray sM 12700 86000 (fun q => base ≤ q)) (F0 mM 0 ls []) := by
    intro ls hl
    have KE : ∀ (H : Heap) (locs : List Loc) (ls : Array Slot), va_S (fun q => base ≤ q) sM.heap H locs → W pM l eM ({ frames := 11, cells := 12700, slots := 86000, locals := 300 } : Room) sM mM ([.ref b, .int (nI atN), .int (nI whN)] : List Value).toArray bM methM cM H locs (12700) (86000) (vx_MQ bM (gQK base) xcNo ([.ref b, .int (nI atN), .int (nI whN)] : List Value).toArray sM 12700 86000 (fun q => base ≤ q)) (F0 mM 455 ls [.int (nI 1)]) := fun H locs ls hS =>
      vx_ret (W.widen (Nat.le_refl _) (Nat.le_refl _) (W.zret hx hb hr rfl (fun t ht _ => ⟨rfl, hS.F ht⟩) hS.2.2 dL_packer_455 hlocks))
    have hG : gH D base sM (fun _ => 0) 0 (fun _ => .inr (0, [])) sM.heap [] := ⟨fun k q h => by simp [gl] at h, ⟨fun i j p q h => by simp [gl] at h, fun k q h => by simp [gl] at h⟩, va_S.rf⟩
    refine g_new (own := RL) (C := RX9) (T := TX9) (NN := 6) (ci := 9) hx hb hts hinX9 tyX9 tyX9_ok hown (hts (.classLink RL 11 RX9) (List.mem_of_getElem? (i := 1) rfl)) (hts (.instantiable RX9 6) (List.mem_of_getElem? (i := 2) rfl)) (hts (.initialized RX9) (List.mem_of_getElem? (i := 3) rfl)) hE hG rfl (fs := [.null, .null, .null, .null, .null, .null]) (fun j9 hj9 => by have h9 : j9 = 0 ∨ j9 = 1 ∨ j9 = 2 ∨ j9 = 3 ∨ j9 = 4 ∨ j9 = 5 := (by omega); rcases h9 with rfl | rfl | rfl | rfl | rfl | rfl <;> rfl) (Nat.le_of_ble_eq_true rfl) (Nat.le_of_ble_eq_true rfl) dL_packer_0 (fun q0 H locs hG => ?_)
    refine lv_dup hx hb dL_packer_3 rfl ?_
    refine gR_callI (As := []) (rest := [.ref q0]) ⟨hx, hb, hml, hown, hts⟩ hG (cX9_initC l D cy base _ _ rfl) (gA_pre hEA hG _) (cwI 0 hts gL_packer_X9_init rfl rfl rfl (hts (.initialized RX9) (List.mem_of_getElem? (i := 3) rfl)) (hts (.methodLink RL 138 yX9_init) (List.mem_of_getElem? (i := 7) rfl)) (hts (.instanceMethod yX9_init) (List.mem_of_getElem? (i := 8) rfl)) rfl (by decide +kernel) ⟨(Nat.le_of_ble_eq_true rfl), (Nat.le_of_ble_eq_true rfl)⟩) rfl hl.1 rfl (Nat.le_of_ble_eq_true rfl) dL_packer_4 ⟨(Nat.le_of_ble_eq_true rfl), (Nat.le_of_ble_eq_true rfl)⟩ (fun v_ adA NA wA H locs hp hG => ?_)
    obtain ⟨rfl, rfl, hz0, hw0⟩ := hp
    refine lv_astore_n (lv' := [(3, .ref q0), (0, .ref b), (1, .int (nI atN)), (2, .int (nI whN))]) hx hb dL_packer_7 rfl hl (by decide) rfl (fun ls hl => ?_)
    refine lv_bipush (v := nI 48) hx hb dL_packer_8 (by decide) ?_
    refine g_newa (atype := .int) (ty := .int) hx hb (hts (.arrayClass .int) (List.mem_of_getElem? (i := 4) rfl)) rfl hE hG (t0 := 0) rfl (N' := 48) (a0 := (48, .inl (fun _ => 0))) (fun _ => rfl) (by decide) (nI_clamp (by decide)) (Nat.le_of_ble_eq_true rfl) (Nat.le_of_ble_eq_true rfl) (Nat.le_of_ble_eq_true rfl) dL_packer_10 (fun q28 H locs hG => ?_)
    refine lv_astore (lv' := [(4, .ref q28), (3, .ref q0), (0, .ref b), (1, .int (nI atN)), (2, .int (nI whN))]) hx hb dL_packer_12 hl (by decide) rfl (fun ls hl => ?_)
    refine lv_iconst (v := nI 4) hx hb dL_packer_14 (by decide) ?_
    refine g_newa (atype := .long) (ty := .long) hx hb (hts (.arrayClass .long) (List.mem_of_getElem? (i := 5) rfl)) rfl hE hG (t0 := 1) rfl (N' := 4) (a0 := (4, .inr (.inl (fun _ => 0)))) (fun _ => rfl) (by decide) (nI_clamp (by decide)) (Nat.le_of_ble_eq_true rfl) (Nat.le_of_ble_eq_true rfl) (Nat.le_of_ble_eq_true rfl) dL_packer_15 (fun q29 H locs hG => ?_)
    refine lv_astore (lv' := [(5, .ref q29), (4, .ref q28), (3, .ref q0), (0, .ref b), (1, .int (nI atN)), (2, .int (nI whN))]) hx hb dL_packer_17 hl (by decide) rfl (fun ls hl => ?_)
    refine lv_bipush (v := nI 12) hx hb dL_packer_19 (by decide) ?_
    refine g_newa (atype := .int) (ty := .int) hx hb (hts (.arrayClass .int) (List.mem_of_getElem? (i := 4) rfl)) rfl hE hG (t0 := 0) rfl (N' := 12) (a0 := (12, .inl (fun _ => 0))) (fun _ => rfl) (by decide) (nI_clamp (by decide)) (Nat.le_of_ble_eq_true rfl) (Nat.le_of_ble_eq_true rfl) (Nat.le_of_ble_eq_true rfl) dL_packer_21 (fun q30 H locs hG => ?_)
    refine lv_astore (lv' := [(6, .ref q30), (5, .ref q29), (4, .ref q28), (3, .ref q0), (0, .ref b), (1, .int (nI atN)), (2, .int (nI whN))]) hx hb dL_packer_23 hl (by decide) rfl (fun ls hl => ?_)
    refine lv_iconst (v := nI 4) hx hb dL_packer_25 (by decide) ?_
    refine g_newa (atype := .int) (ty := .int) hx hb (hts (.arrayClass .int) (List.mem_of_getElem? (i := 4) rfl)) rfl hE hG (t0 := 0) rfl (N' := 4) (a0 := (4, .inl (fun _ => 0))) (fun _ => rfl) (by decide) (nI_clamp (by decide)) (Nat.le_of_ble_eq_true rfl) (Nat.le_of_ble_eq_true rfl) (Nat.le_of_ble_eq_true rfl) dL_packer_26 (fun q31 H locs hG => ?_)
    refine lv_astore (lv' := [(7, .ref q31), (6, .ref q30), (5, .ref q29), (4, .ref q28), (3, .ref q0), (0, .ref b), (1, .int (nI atN)), (2, .int (nI whN))]) hx hb dL_packer_28 hl (by decide) rfl (fun ls hl => ?_)
    refine lv_bipush (v := nI 8) hx hb dL_packer_30 (by decide) ?_
    refine g_newa (atype := .int) (ty := .int) hx hb (hts (.arrayClass .int) (List.mem_of_getElem? (i := 4) rfl)) rfl hE hG (t0 := 0) rfl (N' := 8) (a0 := (8, .inl (fun _ => 0))) (fun _ => rfl) (by decide) (nI_clamp (by decide)) (Nat.le_of_ble_eq_true rfl) (Nat.le_of_ble_eq_true rfl) (Nat.le_of_ble_eq_true rfl) dL_packer_32 (fun q32 H locs hG => ?_)
    refine lv_astore (lv' := [(8, .ref q32), (7, .ref q31), (6, .ref q30), (5, .ref q29), (4, .ref q28), (3, .ref q0), (0, .ref b), (1, .int (nI atN)), (2, .int (nI whN))]) hx hb dL_packer_34 hl (by decide) rfl (fun ls hl => ?_)
    have had : ∀ k, k < 28 → (va_up (va_up (va_up (va_up (va_up adA 28 q28) 29 q29) 30 q30) 31 q31) 32 q32) k = adA k := fun k hk => by rw [va_up_ne _ _ (by omega), va_up_ne _ _ (by omega), va_up_ne _ _ (by omega), va_up_ne _ _ (by omega), va_up_ne _ _ (by omega)]
    have hG9 := hG.as (ad' := (va_up (va_up (va_up (va_up (va_up adA 28 q28) 29 q29) 30 q30) 31 q31) 32 q32)) (w' := gw cy (va_up (va_up (va_up (va_up (va_up adA 28 q28) 29 q29) 30 q30) 31 q31) 32 q32) 0 A00 (fun _ _ => 0)) (fun _ _ => rfl) (fun k hk => by
      by_cases h1 : k < 28
      · rw [va_up_ne _ _ (by omega), va_up_ne _ _ (by omega), va_up_ne _ _ (by omega), va_up_ne _ _ (by omega), va_up_ne _ _ (by omega), hw0 k h1]
        unfold gw
        rw [gC_lo had h1]
        rfl
      · rcases (by omega : k = 28 ∨ k = 29 ∨ k = 30 ∨ k = 31 ∨ k = 32) with rfl | rfl | rfl | rfl | rfl
        · rw [va_up_ne _ _ (by decide), va_up_ne _ _ (by decide), va_up_ne _ _ (by decide), va_up_ne _ _ (by decide), va_up_self]; rfl
        · rw [va_up_ne _ _ (by decide), va_up_ne _ _ (by decide), va_up_ne _ _ (by decide), va_up_self]; rfl
        · rw [va_up_ne _ _ (by decide), va_up_ne _ _ (by decide), va_up_self]; rfl
        · rw [va_up_ne _ _ (by decide), va_up_self]; rfl
        · rw [va_up_self]; rfl)
    have e0 : (va_up (va_up (va_up (va_up (va_up adA 28 q28) 29 q29) 30 q30) 31 q31) 32 q32) 0 = q0 := (had 0 (by omega)).trans hz0
    have e28 : (va_up (va_up (va_up (va_up (va_up adA 28 q28) 29 q29) 30 q30) 31 q31) 32 q32) 28 = q28 := by rw [va_up_ne _ _ (by decide), va_up_ne _ _ (by decide), va_up_ne _ _ (by decide), va_up_ne _ _ (by decide), va_up_self]
    have e29 : (va_up (va_up (va_up (va_up (va_up adA 28 q28) 29 q29) 30 q30) 31 q31) 32 q32) 29 = q29 := by rw [va_up_ne _ _ (by decide), va_up_ne _ _ (by decide), va_up_ne _ _ (by decide), va_up_self]
    have e30 : (va_up (va_up (va_up (va_up (va_up adA 28 q28) 29 q29) 30 q30) 31 q31) 32 q32) 30 = q30 := by rw [va_up_ne _ _ (by decide), va_up_ne _ _ (by decide), va_up_self]
    have e31 : (va_up (va_up (va_up (va_up (va_up adA 28 q28) 29 q29) 30 q30) 31 q31) 32 q32) 31 = q31 := by rw [va_up_ne _ _ (by decide), va_up_self]
    have e32 : (va_up (va_up (va_up (va_up (va_up adA 28 q28) 29 q29) 30 q30) 31 q31) 32 q32) 32 = q32 := va_up_self _ _ _
    obtain ⟨ad, had9⟩ : ∃ ad, (va_up (va_up (va_up (va_up (va_up adA 28 q28) 29 q29) 30 q30) 31 q31) 32 q32) = ad := ⟨_, rfl⟩
    rw [had9] at hG9 e0 e28 e29 e30 e31 e32
    subst e0 e28 e29 e30 e31 e32
    have hG : gH D base sM ad 33 (gw cy ad 0 A00 (fun _ _ => 0)) H locs := hG9
    have hl : lv_has ls 13 [(8, .ref (ad 32)), (7, .ref (ad 31)), (6, .ref (ad 30)), (5, .ref (ad 29)), (4, .ref (ad 28)), (3, .ref (ad 0)), (0, .ref b), (1, .int (nI atN)), (2, .int (nI whN))] := hl
    refine lv_aload hx hb dL_packer_36 (lv_at hl 1 rfl) ?_
    refine lv_iconst (v := nI 2) hx hb dL_packer_38 (by decide) ?_
    refine lv_iconst (v := zI (-1)) hx hb dL_packer_39 (by decide) ?_
    refine g_iast hx hb hE hG (k := 31) (by omega) (fun _ => rfl) 2 (rfl) (by omega) (by omega) dL_packer_40 (fun H locs hG => ?_)
    refine lv_iconst (v := nI 1) hx hb dL_packer_41 (by decide) ?_
    refine lv_istore (lv' := [(9, .int (nI 1)), (8, .ref (ad 32)), (7, .ref (ad 31)), (6, .ref (ad 30)), (5, .ref (ad 29)), (4, .ref (ad 28)), (3, .ref (ad 0)), (0, .ref b), (1, .int (nI atN)), (2, .int (nI whN))]) hx hb dL_packer_42 hl (by decide) rfl (fun ls hl => ?_)
    refine lv_iconst (v := nI 0) hx hb dL_packer_44 (by decide) ?_
    refine lv_istore (lv' := [(10, .int (nI 0)), (9, .int (nI 1)), (8, .ref (ad 32)), (7, .ref (ad 31)), (6, .ref (ad 30)), (5, .ref (ad 29)), (4, .ref (ad 28)), (3, .ref (ad 0)), (0, .ref b), (1, .int (nI atN)), (2, .int (nI whN))]) hx hb dL_packer_45 hl (by decide) rfl (fun ls hl => ?_)
    refine W.widen (k := 40) (n := 8400) (Nat.le_of_ble_eq_true rfl) (Nat.le_of_ble_eq_true rfl) ?_
    refine packer_1 l D cy base _ hx hb hr hts hown hlocks hml hE b L atN xs hst hXS hat whN ?_ ad 0 _ _ G00 LI.zero (by rw [G00_z (by omega)]) rfl H locs ls hG (lv_sub hl [8, 9, 10, 7, 6, 5, 4, 3, 2, 1, 0] rfl)
    intro ad n A J G H locs ls hn0 hL h09 hG hl
    rcases (by omega : whN = 0 ∨ whN = 1) with rfl | rfl
    · exact packer_N l D cy base _ hx hb hr hts hown hlocks hml hE b L atN xs hst hXS hat KE ad n A J G hL h09 hn0 H locs ls hG hl
    · exact packer_W l D cy base _ hx hb hr hts hown hlocks hml hE b L atN xs hst hXS hat KE ad n A J G hL h09 hn0 H locs ls hG hl
  exact key _ (lv_entry [.ref b, .int (nI atN), .int (nI whN)] (Nat.le_of_ble_eq_true rfl))

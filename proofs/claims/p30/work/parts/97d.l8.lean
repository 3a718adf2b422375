/-! ===== the script, drawn from ===== -/
def gXS (b L : Nat) (xs : Nat → Int32) (base : Nat) (U : State) : Prop := va_X b L xs U U.heap ∧ b < base ∧ L ≤ 260
theorem gXS.warm {b L : Nat} {xs : Nat → Int32} {base : Nat} {s U : State} {H : Heap} {locs : List Loc} (h : gXS b L xs base s) (hb : base ≤ s.heap.size) (hS : va_S (fun q => base ≤ q) s.heap H locs) (hU : U.heap = H) (hW : s.WarmedH U.vm) : gXS b L xs base U := by
  obtain ⟨h1, h2, h3⟩ := h
  refine ⟨va_X.moved hW.alike ?_, h2, h3⟩
  rw [hU]
  exact h1.kept (hS.2.1 b (Nat.lt_of_lt_of_le h2 hb) (Nat.not_le.mpr h2))
def gPreS (D : va_G) (cy : Nat → ClassId) (base b L : Nat) (xs : Nat → Int32) (ad : Nat → Nat) (N : Nat) (w : Nat → va_E) (av : List Value) : Array Value → State → Prop := va_Pc av (fun U => (gE D cy base U ∧ gXS b L xs base U) ∧ va_P D vwCl (gl ad N w) U.heap ∧ va_D (fun q => base ≤ q) (gl ad N w))
theorem gXS.blind {b L : Nat} {xs : Nat → Int32} {base : Nat} {U : State} {g : JFrame} {mk : MethodId} {a : Array Value} (h : gXS b L xs base U) : gXS b L xs base (U.calling g mk a) := ⟨va_X.moved (u := U) (U := U.calling g mk a) (Vm.Alike.refl U.vm) h.1, h.2⟩
theorem gPreS.blind {D : va_G} {cy : Nat → ClassId} {base b L : Nat} {xs : Nat → Int32} {ad : Nat → Nat} {N : Nat} {w : Nat → va_E} {av : List Value} : FrameBlind (gPreS D cy base b L xs ad N w av) := fun a U g mk h => ⟨h.1, ⟨h.2.1.1.blind, h.2.1.2.blind⟩, h.2.2.1, h.2.2.2⟩
theorem gS_pre {s : State} {H : Heap} {locs : List Loc} {D : va_G} {cy : Nat → ClassId} {base b L : Nat} {xs : Nat → Int32} {ad : Nat → Nat} {N : Nat} {w : Nat → va_E} (hE : gE D cy base s) (hX : gXS b L xs base s) (hG : gH D base s ad N w H locs) (As : List Value) : PreS s H (gPreS D cy base b L xs ad N w As) As :=
  ⟨gPreS.blind, fun U hU hW => ⟨rfl, ⟨hE.warm hG.2.2 hU hW, hX.warm hE.2.2.1 hG.2.2 hU hW⟩, by rw [hU]; exact hG.1, hG.2.1⟩⟩
theorem and_max (x : Int32) : ∃ k : Nat, k < 2147483648 ∧ x &&& nI 2147483647 = nI k := by
  have h1 : (x &&& nI 2147483647).toBitVec = x.toBitVec &&& (nI 2147483647).toBitVec := rfl
  have h2 : (x &&& nI 2147483647).toBitVec.toNat < 2147483648 := by
    rw [h1, BitVec.toNat_and]
    have h3 : (nI 2147483647).toBitVec.toNat = 2147483647 := by decide
    rw [h3]
    exact Nat.and_lt_two_pow (n := 31) _ (by decide)
  refine ⟨(x &&& nI 2147483647).toBitVec.toNat, h2, ?_⟩
  obtain ⟨q, hq⟩ : ∃ q, (x &&& nI 2147483647).toBitVec.toNat = q := ⟨_, rfl⟩
  rw [hq] at h2 ⊢
  apply Int32.toInt_inj.mp
  rw [nI_toInt h2, ← Int32.toInt_toBitVec, BitVec.toInt_eq_toNat_of_lt (by rw [hq]; omega), hq]
set_option maxHeartbeats 4000000 in
set_option maxRecDepth 100000 in
theorem cL_drawC (l : Launch) (D : va_G) (cy : Nat → ClassId) (base b L : Nat) (xs : Nat → Int32) (ad : Nat → Nat) (n : Nat) (A : Nat → Nat → Int32) (J : Nat → Nat → Int64) (kN mN : Nat) (hk : kN < 100000) (hm : 0 < mN ∧ mN < 2147483648) : Met l yL_draw wsL_draw ({ frames := 0, cells := 0, slots := 0, locals := 0 } : Room) (gPreS D cy base b L xs ad (33 + 2 * n) (gw cy ad n A J) [.ref b, .int (nI kN), .int (nI mN)]) (gPost D cy base ad n (fun v_ A1 J1 => ∃ q : Nat, v_ = some (.int (nI q)) ∧ q < mN ∧ A = A1 ∧ J = J1)) 0 0 (fun q => base ≤ q) := by
  refine Met.ofW (cc := cL_draw) (maxL := 4) (ret := some .int) (by decide) rfl ?_
  intro pM eM sM mM aM bM methM cM s₁ B hml hv
  obtain ⟨rfl, ⟨hE, hX⟩, hP, hD⟩ := hv
  rw [lg_entry_eq]
  have hx := B.exec
  have hb := B.bytes
  have hr := B.returns
  have hts := atoms_spec (ws := wsL_draw) B.pre
  have hown := findClass_of_methodNamed B.named
  have hlocks := B.notSynchronized
  have hG : gH D base sM ad (33 + 2 * n) (gw cy ad n A J) sM.heap [] := ⟨hP, hD, va_S.rf⟩
  have hbl : b < sM.heap.size := Nat.lt_of_lt_of_le hX.2.1 hE.2.2.1
  have key : ∀ (ls : Array Slot), lv_has ls 4 [(0, .ref b), (1, .int (nI kN)), (2, .int (nI mN))] → W pM l eM ({ frames := 0, cells := 0, slots := 0, locals := 0 } : Room) sM mM ([.ref b, .int (nI kN), .int (nI mN)] : List Value).toArray bM methM cM sM.heap [] 0 0 (MQ bM (gPost D cy base ad n (fun v_ A1 J1 => ∃ q : Nat, v_ = some (.int (nI q)) ∧ q < mN ∧ A = A1 ∧ J = J1)) ([.ref b, .int (nI kN), .int (nI mN)] : List Value).toArray sM 0 0 (fun q => base ≤ q)) (F0 mM 0 ls []) := by
    intro ls hl
    have KK : ∀ (v : Int32) (ls : Array Slot), lv_has ls 4 [(0, .ref b), (1, .int (nI kN)), (2, .int (nI mN))] → W pM l eM ({ frames := 0, cells := 0, slots := 0, locals := 0 } : Room) sM mM ([.ref b, .int (nI kN), .int (nI mN)] : List Value).toArray bM methM cM sM.heap [] 0 0 (MQ bM (gPost D cy base ad n (fun v_ A1 J1 => ∃ q : Nat, v_ = some (.int (nI q)) ∧ q < mN ∧ A = A1 ∧ J = J1)) ([.ref b, .int (nI kN), .int (nI mN)] : List Value).toArray sM 0 0 (fun q => base ≤ q)) (F0 mM 22 ls [.int v]) := by
      intro v ls hl
      refine lv_istore_n (lv' := [(3, .int v), (0, .ref b), (1, .int (nI kN)), (2, .int (nI mN))]) hx hb dL_draw_22 rfl hl (by decide) rfl (fun ls hl => ?_)
      refine lv_iload_n hx hb dL_draw_23 rfl (lv_at hl 0 rfl) ?_
      refine lv_ldc (v := 2147483647) hx hb hown (hts (.constant RL 9 (2147483647)) (List.mem_of_getElem? (i := 3) rfl)) dL_draw_24 ?_
      refine g_top (y := nI 2147483647) (by decide) ?_
      refine lv_iand hx hb dL_draw_26 ?_
      obtain ⟨q, hq, hqe⟩ := and_max v
      refine g_top (y := nI q) hqe ?_
      refine lv_iload_n hx hb dL_draw_27 rfl (lv_at hl 3 rfl) ?_
      refine lv_irem hx hb dL_draw_28 (nI_nz (by omega) (by omega)) ?_
      refine g_top (y := nI (q % mN)) (pk_rem (by omega) (by omega) (by omega)) ?_
      exact g_iret hx hb hr hlocks hG ⟨q % mN, rfl, Nat.mod_lt _ hm.1, rfl, rfl⟩ dL_draw_29
    refine lv_iload_n hx hb dL_draw_0 rfl (lv_at hl 1 rfl) ?_
    refine lv_aload_n hx hb dL_draw_1 rfl (lv_at hl 0 rfl) ?_
    refine va_slen hx hb hX.1 hbl (Nat.not_le.mpr hX.2.1) hG.2.2 dL_draw_2 ?_
    refine lv_icmp_ge (tgt := 12) hx hb dL_draw_3 (by decide) (fun c3 => ?_) (fun c3 => ?_)
    · refine lv_ldc (v := 917359089) hx hb hown (hts (.constant RL 7 (917359089)) (List.mem_of_getElem? (i := 1) rfl)) dL_draw_12 ?_
      refine lv_iload_n hx hb dL_draw_14 rfl (lv_at hl 1 rfl) ?_
      refine lv_bipush (v := nI 29) hx hb dL_draw_15 (by decide) ?_
      refine lv_iadd hx hb dL_draw_17 ?_
      refine lv_imul hx hb dL_draw_18 ?_
      refine lv_ldc (v := 511031507) hx hb hown (hts (.constant RL 8 (511031507)) (List.mem_of_getElem? (i := 2) rfl)) dL_draw_19 ?_
      refine lv_iadd hx hb dL_draw_21 ?_
      exact KK _ ls hl
    · have hL := hX.2.2
      have c3 : ¬ (L ≤ kN) := fun z9 => c3 ((nI_leI (by omega) (by omega)).mpr z9)
      refine lv_aload_n hx hb dL_draw_6 rfl (lv_at hl 0 rfl) ?_
      refine lv_iload_n hx hb dL_draw_7 rfl (lv_at hl 1 rfl) ?_
      refine va_sld hx hb hX.1 hbl (Nat.not_le.mpr hX.2.1) hG.2.2 (vp_in_nI (by omega) (by omega)) dL_draw_8 ?_
      refine lv_goto (tgt := 22) hx hb dL_draw_9 (by decide) ?_
      exact KK _ ls hl
  exact key _ (lv_entry [.ref b, .int (nI kN), .int (nI mN)] (Nat.le_of_ble_eq_true rfl))
abbrev PL_step_put (ad : Nat → Nat) (A : Nat → Nat → Int32) (J : Nat → Nat → Int64) (G : Nat → Nat → Int) (nq wN xN yN : Nat) : Option Value → (Nat → Nat → Int32) → (Nat → Nat → Int64) → Prop := fun v_ A1 J1 => (∃ (iP : Nat) (vP : Int), v_ = some (.int (nI 1)) ∧ J = J1 ∧ (LI nq A1 J1 (gu G 35 iP vP)) ∧ (∀ k, k < 28 ∨ 33 ≤ k → True))
set_option maxHeartbeats 4000000 in
set_option maxRecDepth 100000 in
theorem cL_step_putC (l : Launch) (D : va_G) (cy : Nat → ClassId) (base : Nat) (ad : Nat → Nat) (n : Nat) (A : Nat → Nat → Int32) (J : Nat → Nat → Int64) (G : Nat → Nat → Int) (nq wN xN yN : Nat) (hst : l.stackTraces = false) (hnq : nq = n) (hL : LI nq A J G) (hxN : xN < 1073741824) (hyN : yN < 1073741824) (hwN : wN < 2) (hn0 : nq ≠ 0) : gMetX l yL_step wsL_step ({ frames := 9, cells := 2, slots := 12, locals := 178 } : Room) D cy base ad n A J [.ref (ad 0), .int (nI wN), .int (nI xN), .int (nI yN), .ref (ad 28), .ref (ad 30), .ref (ad 31), .ref (ad 32)] (PL_step_put ad A J G nq wN xN yN) pxNo 2 12 := by
  refine gx_ofW (cc := cL_step) (maxL := 12) (ret := (some .boolean)) (by decide) rfl (Nat.le_of_ble_eq_true rfl) ?_
  intro pM eM sM mM aM bM methM cM H locs ls hx hb hr hts hown hlocks hml hout hE hG hl
  have hl : lv_has ls 12 [(0, .ref (ad 0)), (1, .int (nI wN)), (2, .int (nI xN)), (3, .int (nI yN)), (4, .ref (ad 28)), (5, .ref (ad 30)), (6, .ref (ad 31)), (7, .ref (ad 32))] := hl
  have hinX0 : ∀ w ∈ u_ws RX0 TX0 5, w ∈ wsL_step := by decide +kernel
  have hinX1 : ∀ w ∈ u_ws RX1 TX1 5, w ∈ wsL_step := by decide +kernel
  have hinX2 : ∀ w ∈ u_ws RX2 TX2 1, w ∈ wsL_step := by decide +kernel
  have hinX3 : ∀ w ∈ u_ws RX3 TX3 3, w ∈ wsL_step := by decide +kernel
  have hinX4 : ∀ w ∈ u_ws RX4 TX4 10, w ∈ wsL_step := by decide +kernel
  have hinX5 : ∀ w ∈ u_ws RX5 TX5 3, w ∈ wsL_step := by decide +kernel
  have hinX6 : ∀ w ∈ u_ws RX6 TX6 3, w ∈ wsL_step := by decide +kernel
  have hinX7 : ∀ w ∈ u_ws RX7 TX7 2, w ∈ wsL_step := by decide +kernel
  have hinX8 : ∀ w ∈ u_ws RX8 TX8 7, w ∈ wsL_step := by decide +kernel
  have hinX9 : ∀ w ∈ u_ws RX9 TX9 6, w ∈ wsL_step := by decide +kernel
  have hL : LI n A J G := by rw [← hnq]; exact hL
  obtain ⟨hC, hgr, hv9, hd9, hR, c1, c2, hA0, hA1, hA2, hc2, hc1⟩ := id hL
  obtain ⟨hT, -, -, -, htk, hol, hpr, -, hsn, -, hok, -, -, hsum, hln, hn, -⟩ := hC.bd
  have hnf := hok.2.2.2.2.1.2.2.2.2.1
  clear hok
  have hn12 := hC.1.2
  refine lv_iload_n hx hb dL_step_0 rfl (lv_at hl 1 rfl) ?_
  refine lv_iconst (v := nI 2) hx hb dL_step_1 (by decide) ?_
  refine lv_icmp_ge (tgt := 81) hx hb dL_step_2 (by decide) (fun c2 => ?_) (fun c2 => ?_)
  · skip
    have c2 : 2 ≤ wN := (nI_leI (by omega) (by omega)).mp c2
    exfalso; omega
  · skip
    have c2 : ¬ (2 ≤ wN) := fun z9 => c2 ((nI_leI (by omega) (by omega)).mpr z9)
    refine lv_aload_n hx hb dL_step_5 rfl (lv_at hl 0 rfl) ?_
    refine g_callV (As := []) (rest := []) (r := (RX9, TX9, 6)) ⟨hx, hb, hml, hown, hts⟩ hE hG (cX9_pointsC l D cy base ad n A J n hC.1 (by first | assumption | omega)) (cwV 0 hts gL_step_X9_points rfl rfl rfl (by decide +kernel) ⟨Nat.le_of_ble_eq_true rfl, Nat.le_of_ble_eq_true rfl⟩) (by omega) rfl rfl rfl hl.1 rfl (Nat.le_of_ble_eq_true rfl) dL_step_6 ⟨(by show 0 ≤ 2; omega), (by show 0 ≤ 12; omega)⟩ (fun v_ A6 J6 H locs hp hG => ?_)
    obtain ⟨rfl, rfl, rfl⟩ := hp
    refine W.eq (g2 := F0 mM 9 ls [.int (nI n)]) rfl ?_
    refine lv_if_le (tgt := 81) hx hb dL_step_9 (by decide) (fun c9 => ?_) (fun c9 => ?_)
    · skip
      have c9 : (nI n) ≤ nI 0 := c9
      have c9 : n ≤ 0 := (nI_leI (by omega) (by omega)).mp c9
      exfalso; omega
    · skip
      have c9 : ¬ ((nI n) ≤ nI 0) := c9
      have c9 : ¬ (n ≤ 0) := fun z9 => c9 ((nI_leI (by omega) (by omega)).mpr z9)
      refine lv_iload_n hx hb dL_step_12 rfl (lv_at hl 2 rfl) ?_
      refine lv_aload_n hx hb dL_step_13 rfl (lv_at hl 0 rfl) ?_
      refine g_callV (As := []) (rest := [.int (nI xN)]) (r := (RX9, TX9, 6)) ⟨hx, hb, hml, hown, hts⟩ hE hG (cX9_pointsC l D cy base ad n A J n hC.1 (by first | assumption | omega)) (cwV 0 hts gL_step_X9_points rfl rfl rfl (by decide +kernel) ⟨Nat.le_of_ble_eq_true rfl, Nat.le_of_ble_eq_true rfl⟩) (by omega) rfl rfl rfl hl.1 rfl (Nat.le_of_ble_eq_true rfl) dL_step_14 ⟨(by show 0 ≤ 2; omega), (by show 0 ≤ 12; omega)⟩ (fun v_ A14 J14 H locs hp hG => ?_)
      obtain ⟨rfl, rfl, rfl⟩ := hp
      refine W.eq (g2 := F0 mM 17 ls [.int (nI n), .int (nI xN)]) rfl ?_
      refine lv_irem hx hb dL_step_17 (nI_nz (by omega) (by omega)) ?_
      refine g_top (y := nI (xN % n)) (pk_rem (by omega) (by omega) (by omega)) ?_
      obtain ⟨pN, hpN⟩ : ∃ k : Nat, xN % n = k := ⟨_, rfl⟩
      have hpN2 : pN < n := by rw [← hpN]; exact Nat.mod_lt _ (by omega)
      obtain ⟨t1, t2, t3, t4, t5, t6⟩ := TOk_at (hT.2.2 pN (by omega))
      have hglr := gLo_range (cv := G 30 pN) t1.1 t1.2
      have hghr := gHi_range (cv := G 30 pN) t1.1 t1.2
      have hprp := hpr pN (by omega)
      refine g_top (y := nI pN) (by rw [hpN]) ?_
      refine lv_istore (lv' := [(8, .int (nI pN)), (0, .ref (ad 0)), (1, .int (nI wN)), (2, .int (nI xN)), (3, .int (nI yN)), (4, .ref (ad 28)), (5, .ref (ad 30)), (6, .ref (ad 31)), (7, .ref (ad 32))]) hx hb dL_step_18 hl (by decide) rfl (fun ls hl => ?_)
      refine lv_aload hx hb dL_step_20 (lv_at hl 6 rfl) ?_
      refine lv_iload hx hb dL_step_22 (lv_at hl 0 rfl) ?_
      refine g_iald hx hb hE hG (k := 30) (by omega) rfl pN (rfl) (by omega) (by omega) dL_step_24 ?_
      refine g_top (y := zI (G 35 pN)) (hv9 pN (by omega)) ?_
      refine lv_istore (lv' := [(9, .int (zI (G 35 pN))), (8, .int (nI pN)), (0, .ref (ad 0)), (1, .int (nI wN)), (2, .int (nI xN)), (3, .int (nI yN)), (4, .ref (ad 28)), (5, .ref (ad 30)), (6, .ref (ad 31)), (7, .ref (ad 32))]) hx hb dL_step_25 hl (by decide) rfl (fun ls hl => ?_)
      refine lv_aload hx hb dL_step_27 (lv_at hl 7 rfl) ?_
      refine lv_iload hx hb dL_step_29 (lv_at hl 1 rfl) ?_
      refine lv_aload hx hb dL_step_31 (lv_at hl 6 rfl) ?_
      refine lv_iload hx hb dL_step_33 (lv_at hl 1 rfl) ?_
      refine g_callS (As := [.ref (ad 28), .int (nI pN)]) (rest := [.int (nI pN), .ref (ad 30)]) ⟨hx, hb, hml, hown, hts⟩ hE hG (cL_leastC l D cy base ad n A J pN (G 29 pN) (G 30 pN) (by first | assumption | omega) (by first | exact (hgr pN (by omega)).1 | (rw [gu_ne _ _ _ (by decide)]; exact (hgr pN (by omega)).1)) (by first | exact (hgr pN (by omega)).2.1 | (rw [gu_ne _ _ _ (by decide)]; exact (hgr pN (by omega)).2.1)) (by first | assumption | omega) (by first | assumption | omega)) (va_cwS 2 hts gL_step_L_least rfl rfl rfl (by decide +kernel) ⟨Nat.le_of_ble_eq_true rfl, Nat.le_of_ble_eq_true rfl⟩) rfl hl.1 rfl (Nat.le_of_ble_eq_true rfl) dL_step_35 ⟨(by show 0 ≤ 2; omega), (by show 0 ≤ 12; omega)⟩ (fun v_ A35 J35 H locs hp hG => ?_)
      obtain ⟨rfl, rfl, rfl⟩ := hp
      refine W.eq (g2 := F0 mM 38 ls [.int (zI (gLo (G 30 pN) (G 29 pN))), .int (nI pN), .ref (ad 30)]) rfl ?_
      refine lv_iload_n hx hb dL_step_38 rfl (lv_at hl 5 rfl) ?_
      refine lv_aload hx hb dL_step_39 (lv_at hl 6 rfl) ?_
      refine lv_iload hx hb dL_step_41 (lv_at hl 1 rfl) ?_
      refine g_callS (As := [.ref (ad 28), .int (nI pN)]) (rest := [.int (nI yN), .int (zI (gLo (G 30 pN) (G 29 pN))), .int (nI pN), .ref (ad 30)]) ⟨hx, hb, hml, hown, hts⟩ hE hG (cL_mostC l D cy base ad n A J pN (G 29 pN) (G 30 pN) (by first | assumption | omega) (by first | exact (hgr pN (by omega)).1 | (rw [gu_ne _ _ _ (by decide)]; exact (hgr pN (by omega)).1)) (by first | exact (hgr pN (by omega)).2.1 | (rw [gu_ne _ _ _ (by decide)]; exact (hgr pN (by omega)).2.1)) (by first | assumption | omega) (by first | assumption | omega)) (va_cwS 2 hts gL_step_L_most rfl rfl rfl (by decide +kernel) ⟨Nat.le_of_ble_eq_true rfl, Nat.le_of_ble_eq_true rfl⟩) rfl hl.1 rfl (Nat.le_of_ble_eq_true rfl) dL_step_43 ⟨(by show 0 ≤ 2; omega), (by show 0 ≤ 12; omega)⟩ (fun v_ A43 J43 H locs hp hG => ?_)
      obtain ⟨rfl, rfl, rfl⟩ := hp
      refine W.eq (g2 := F0 mM 46 ls [.int (zI (gHi (G 30 pN) (G 29 pN))), .int (nI yN), .int (zI (gLo (G 30 pN) (G 29 pN))), .int (nI pN), .ref (ad 30)]) rfl ?_
      refine lv_aload hx hb dL_step_46 (lv_at hl 6 rfl) ?_
      refine lv_iload hx hb dL_step_48 (lv_at hl 1 rfl) ?_
      refine g_callS (As := [.ref (ad 28), .int (nI pN)]) (rest := [.int (zI (gHi (G 30 pN) (G 29 pN))), .int (nI yN), .int (zI (gLo (G 30 pN) (G 29 pN))), .int (nI pN), .ref (ad 30)]) ⟨hx, hb, hml, hown, hts⟩ hE hG (cL_leastC l D cy base ad n A J pN (G 29 pN) (G 30 pN) (by first | assumption | omega) (by first | exact (hgr pN (by omega)).1 | (rw [gu_ne _ _ _ (by decide)]; exact (hgr pN (by omega)).1)) (by first | exact (hgr pN (by omega)).2.1 | (rw [gu_ne _ _ _ (by decide)]; exact (hgr pN (by omega)).2.1)) (by first | assumption | omega) (by first | assumption | omega)) (va_cwS 2 hts gL_step_L_least rfl rfl rfl (by decide +kernel) ⟨Nat.le_of_ble_eq_true rfl, Nat.le_of_ble_eq_true rfl⟩) rfl hl.1 rfl (Nat.le_of_ble_eq_true rfl) dL_step_50 ⟨(by show 0 ≤ 2; omega), (by show 0 ≤ 12; omega)⟩ (fun v_ A50 J50 H locs hp hG => ?_)
      obtain ⟨rfl, rfl, rfl⟩ := hp
      refine W.eq (g2 := F0 mM 53 ls [.int (zI (gLo (G 30 pN) (G 29 pN))), .int (zI (gHi (G 30 pN) (G 29 pN))), .int (nI yN), .int (zI (gLo (G 30 pN) (G 29 pN))), .int (nI pN), .ref (ad 30)]) rfl ?_
      refine lv_isub hx hb dL_step_53 ?_
      refine g_top (y := zI ((gHi (G 30 pN) (G 29 pN)) - (gLo (G 30 pN) (G 29 pN)))) (zI_sub _ _) ?_
      refine lv_iconst (v := nI 1) hx hb dL_step_54 (by decide) ?_
      refine lv_iadd hx hb dL_step_55 ?_
      refine g_top (y := zI (((gHi (G 30 pN) (G 29 pN)) - (gLo (G 30 pN) (G 29 pN))) + 1)) (zI_add_in _ _) ?_
      refine lv_irem hx hb dL_step_56 (zI_ne0 (by omega) (by omega)) ?_
      refine g_top (y := zI (((yN : Nat) : Int) % (gHi (G 30 pN) (G 29 pN) - gLo (G 30 pN) (G 29 pN) + 1))) ((by rw [← zI_n]; exact zI_rem (by omega) (by omega) (by omega) (by omega))) ?_
      refine lv_iadd hx hb dL_step_57 ?_
      refine g_top (y := zI ((gLo (G 30 pN) (G 29 pN)) + (((yN : Nat) : Int) % (gHi (G 30 pN) (G 29 pN) - gLo (G 30 pN) (G 29 pN) + 1)))) (zI_add _ _) ?_
      obtain ⟨vI, hvI⟩ : ∃ v : Int, (gLo (G 30 pN) (G 29 pN)) + (((yN : Nat) : Int) % (gHi (G 30 pN) (G 29 pN) - gLo (G 30 pN) (G 29 pN) + 1)) = v := ⟨_, rfl⟩
      have hvr : gLo (G 30 pN) (G 29 pN) ≤ vI ∧ vI ≤ gHi (G 30 pN) (G 29 pN) := by
        have h1 := Int.emod_nonneg (yN : Int) (show (gHi (G 30 pN) (G 29 pN) - gLo (G 30 pN) (G 29 pN) + 1) ≠ 0 by omega)
        have h2 := Int.emod_lt_of_pos (yN : Int) (show 0 < (gHi (G 30 pN) (G 29 pN) - gLo (G 30 pN) (G 29 pN) + 1) by omega)
        rw [← hvI]; omega
      refine g_top (y := zI vI) (by rw [hvI]) ?_
      refine g_iast hx hb hE hG (k := 30) (by omega) (fun _ => rfl) pN (rfl) (by omega) (by omega) dL_step_58 (fun H locs hG => ?_)
      refine lv_aload_n hx hb dL_step_59 rfl (lv_at hl 2 rfl) ?_
      refine lv_iload hx hb dL_step_60 (lv_at hl 1 rfl) ?_
      refine lv_aload hx hb dL_step_62 (lv_at hl 7 rfl) ?_
      refine lv_iload hx hb dL_step_64 (lv_at hl 1 rfl) ?_
      refine g_iald hx hb hE hG (k := 30) (by omega) rfl pN (rfl) (by omega) (by omega) dL_step_66 ?_
      refine g_top (y := zI vI) (by first | rfl | (simp [gu_at]; done) | (rw [gu_at]; simp; omega)) ?_
      refine gN_callV (As := [.int (nI pN), .int (zI vI)]) (rest := []) (r := (RX9, TX9, 6)) ⟨hx, hb, hml, hown, hts⟩ hE hG (cX9_putC l D cy base ad n (gu A 30 pN (zI vI)) J G n ((pN : Nat) : Int) vI (by first | assumption | omega) (by first | assumption | omega) (hC.of (fun k hk => gu_ne _ _ _ (by omega))) (by first | assumption | omega) (by first | assumption | omega)) (cwV 2 hts gL_step_X9_put rfl rfl rfl (by decide +kernel) ⟨Nat.le_of_ble_eq_true rfl, Nat.le_of_ble_eq_true rfl⟩) (by omega) rfl rfl rfl hl.1 rfl (Nat.le_of_ble_eq_true rfl) dL_step_67 ⟨(by show 2 ≤ 2; omega), (by show 12 ≤ 12; omega)⟩ (fun e_ A_ J_ hz => by
        rcases hz with ⟨he_, hA_, hJ_, hf0_⟩ | ⟨he_, hA_, hJ_, hf0_⟩
        · omega
        · obtain ⟨i9, h9, h8, h7⟩ := hf0_; obtain rfl : pN = i9 := (by omega); exact h7 hvr) (fun v_ A67 J67 H locs hp hG => W.widen (k := 2) (n := 12) (by omega) (by omega) ?_)
      obtain ⟨iq_67, rfl, rfl, hiq_67, hC1_67, hO_67⟩ := hp
      refine W.eq (g2 := F0 mM 70 ls [.int (zI (G 35 iq_67))]) rfl ?_
      obtain rfl : pN = iq_67 := (by have := hiq_67; omega)
      refine lv_iload hx hb dL_step_70 (lv_at hl 0 rfl) ?_
      refine lv_icmp_ne (tgt := 79) hx hb dL_step_72 (by decide) (fun c72 => ?_) (fun c72 => ?_)
      · skip
        have c72 : ¬ ((G 35 pN) = (G 35 pN)) := fun z9 => c72 ((cmp_eq (zI_toInt (by omega) (by omega)) (zI_toInt (by omega) (by omega))).mpr z9)
        exfalso; omega
      · skip
        have c72 : (G 35 pN) = (G 35 pN) := (cmp_eq (zI_toInt (by omega) (by omega)) (zI_toInt (by omega) (by omega))).mp c72
        refine lv_iconst (v := nI 1) hx hb dL_step_75 (by decide) ?_
        refine lv_goto (tgt := 80) hx hb dL_step_76 (by decide) ?_
        exact gx_zret hx hb hr hlocks hG rfl (by show 2 ≤ 2; omega) (by show 12 ≤ 12; omega) ⟨_, _, rfl, rfl, (by rw [hnq]; exact hL.put hC1_67 (by omega) hO_67), fun _ _ => trivial⟩ dL_step_80

abbrev xcNo : String → State → State → Prop := fun _ _ _ => False
abbrev PL_adds (cy : Nat → ClassId) (n : Nat) (ad : Nat → Nat) (A : Nat → Nat → Int32) (J : Nat → Nat → Int64) (G : Nat → Nat → Int) (wq cq pq : Int) (tq : Nat) : Option Value → (Nat → Nat) → Nat → (Nat → va_E) → Prop := fun v_ ad1 N1 w1 => (∃ pN oN : Nat, v_ = some (.int (nI n)) ∧ (n < 12 ∧ G 28 9 = 0 ∧ mGood wq cq pq tq ∧ (pN : Int) < pq ∧ (oN : Int) + wq ≤ mLim ((tq : Int) + 1) ∧ mFree G (oN : Int) wq (pN : Int) pq ((tq : Int) + 1) ∧ mNone G wq pq ((tq : Int) + 1) (pN : Int) (oN : Int)) ∧ (∀ k, k < 33 + 2 * n → ad1 k = ad k) ∧ N1 = 33 + 2 * (n + 1) ∧ ∃ A1 J1, w1 = gw cy ad1 (n + 1) A1 J1 ∧ J1 = gUse J (gBt oN wq.toNat tq) pq (pN : Int) 4 ∧ CAll (n + 1) A1 J1 (gNG G n wq cq pq tq pN oN) ∧ (∀ k, 28 ≤ k → k < 33 → A1 k = A k)) ∨ (v_ = some (.int (zI (-1))) ∧ ad1 = ad ∧ N1 = 33 + 2 * n ∧ w1 = gw cy ad n A J ∧ (0 < G 28 9 ∨ G 28 0 = 12 ∨ mNone G wq pq ((tq : Int) + 1) pq 0))
set_option maxHeartbeats 4000000 in
set_option maxRecDepth 100000 in
theorem cL_addsC (l : Launch) (D : va_G) (cy : Nat → ClassId) (base : Nat) (ad : Nat → Nat) (n : Nat) (A : Nat → Nat → Int32) (J : Nat → Nat → Int64) (G : Nat → Nat → Int) (wq cq pq : Int) (tq : Nat) (hst : l.stackTraces = false) (hC : CAll n A J G) (hg : mGood wq cq pq tq) (hwq9 : -2147483648 ≤ wq ∧ wq < 2147483648) (hcq9 : -2147483648 ≤ cq ∧ cq < 2147483648) (hpq9 : -2147483648 ≤ pq ∧ pq < 2147483648) (htq : tq ≤ 1) : vx_Met l yL_adds wsL_adds ({ frames := 7, cells := 3, slots := 19, locals := 124 } : Room) (gPre D cy base ad (33 + 2 * n) (gw cy ad n A J) [.ref (ad 0), .int (zI wq), .int (zI cq), .int (zI pq), .int (nI tq)]) (gPostW D base (PL_adds cy n ad A J G wq cq pq tq)) (gXC D cy base ad n pxNo) 3 19 (fun q => base ≤ q) := by
  have hM := cX9_addPointC l D cy base ad n A J G wq cq pq tq hst hC hwq9 hcq9 hpq9 htq
  refine gT_ofW (cc := cL_adds) (maxL := 6) (ret := some .int) (hh := [(0, 9, 10, 36)]) (by decide) rfl (Nat.le_of_ble_eq_true rfl) ?_
  intro pM eM sM mM aM bM methM cM H locs ls hx hb hr hts hown hlocks hml htab hE hG hl
  have hl : lv_has ls 6 [(0, .ref (ad 0)), (1, .int (zI wq)), (2, .int (zI cq)), (3, .int (zI pq)), (4, .int (nI tq))] := hl
  refine lv_aload_n hx hb dL_adds_0 rfl (lv_at hl 0 rfl) ?_
  refine lv_iload_n hx hb dL_adds_1 rfl (lv_at hl 1 rfl) ?_
  refine lv_iload_n hx hb dL_adds_2 rfl (lv_at hl 2 rfl) ?_
  refine lv_iload_n hx hb dL_adds_3 rfl (lv_at hl 3 rfl) ?_
  refine lv_iload hx hb dL_adds_4 (lv_at hl 4 rfl) ?_
  have hPq := g_pre hE hG (.ref (ad 0) :: [.int (zI wq), .int (zI cq), .int (zI pq), .int (nI tq)])
  refine gx_fin (rest := []) (vx_runV (C := RX9) (b := ad 0) (As := [.int (zI wq), .int (zI cq), .int (zI pq), .int (nI tq)]) (rest := []) (g := F0 mM _ ls _) ⟨hx, hb, hml, hown, hts⟩ hM (cwV 4 hts gL_adds_X9_addPoint rfl rfl rfl (by decide +kernel) ⟨(Nat.le_of_ble_eq_true rfl), (Nat.le_of_ble_eq_true rfl)⟩) ⟨hPq.1, g_recv hE hG (k := 0) (r := (RX9, TX9, 6)) (by omega) rfl rfl, hPq.2⟩ rfl rfl hl.1 rfl (Nat.le_of_ble_eq_true rfl) dL_adds_6 ⟨(Nat.le_of_ble_eq_true rfl), (Nat.le_of_ble_eq_true rfl)⟩) hG.2.2 (fun e9 ce q9 A1 J1 H locs hp hB hS hce hv hcl => ?_) (fun v9 u9 t9 H locs ht hp hB hz hS => ?_)
  · have hG : gH D base sM ad (33 + 2 * n) (gw cy ad n A1 J1) H locs := ⟨hB, gl_D hG.2.1, hS⟩
    rcases hp with ⟨rfl, rfl, rfl, hno⟩ | ⟨rfl, rfl, rfl, hno⟩
    · exact absurd hg hno
    · refine vx_catch (own := RL) (name := "java/lang/IllegalStateException") hown [] ⟨0, 9, 10, 36⟩ [] htab (fun z h => nomatch h) (by decide) (by decide) (hts (.classLink RL 36 "java/lang/IllegalStateException") (List.mem_of_getElem? (i := 1) rfl)) (vx_self (k := 6) (hts _ ((fun h9 => List.mem_cons_of_mem _ (List.mem_append_right _ h9)) (show Cond.instantiable "java/lang/IllegalStateException" 6 ∈ (vx_at0 RX9 67 "java/lang/IllegalStateException" vxN).filter goodWord from by decide +kernel)))) hce hv hcl ?_
      refine lv_astore (lv' := [(5, .ref q9), (0, .ref (ad 0)), (1, .int (zI wq)), (2, .int (zI cq)), (3, .int (zI pq)), (4, .int (nI tq))]) hx hb dL_adds_10 hl (by decide) rfl (fun ls hl => ?_)
      refine lv_iconst (v := zI (-1)) hx hb dL_adds_12 (by decide) ?_
      exact gy_iret hx hb hr hlocks hG (Nat.le_of_ble_eq_true rfl) (Nat.le_of_ble_eq_true rfl) (Or.inr ⟨rfl, rfl, rfl, rfl, hno.2⟩) dL_adds_13
  · obtain ⟨pN, oN, rfl, hnew, had, hN, A1, J1, hw1, hJ1, hC1, hO1⟩ := hp
    have hG0 : gH D base sM u9.1 u9.2.1 u9.2.2 H locs := ⟨by rw [← ht]; exact hB.1, hB.2, hS⟩
    rw [hN, hw1] at hG0
    refine W.eq (g2 := F0 mM 9 ls [.int (nI n)]) rfl ?_
    exact gy_iret hx hb hr hlocks hG0 (Nat.le_of_ble_eq_true rfl) (Nat.le_of_ble_eq_true rfl) (Or.inl ⟨pN, oN, rfl, hnew, had, rfl, A1, J1, rfl, hJ1, hC1, hO1⟩) dL_adds_9
abbrev PL_adds_old (ad : Nat → Nat) (A : Nat → Nat → Int32) (J : Nat → Nat → Int64) (G : Nat → Nat → Int) (nq : Nat) (wq cq pq : Int) (tq : Nat) : Option Value → (Nat → Nat → Int32) → (Nat → Nat → Int64) → Prop := fun v_ A1 J1 => (v_ = some (.int (zI (-1))) ∧ A = A1 ∧ J = J1)
set_option maxHeartbeats 4000000 in
set_option maxRecDepth 100000 in
theorem cL_adds_oldC (l : Launch) (D : va_G) (cy : Nat → ClassId) (base : Nat) (ad : Nat → Nat) (n : Nat) (A : Nat → Nat → Int32) (J : Nat → Nat → Int64) (G : Nat → Nat → Int) (nq : Nat) (wq cq pq : Int) (tq : Nat) (hst : l.stackTraces = false) (hnq : nq = n) (hC : CAll n A J G) (hg : mGood wq cq pq tq) (hwq9 : -2147483648 ≤ wq ∧ wq < 2147483648) (hcq9 : -2147483648 ≤ cq ∧ cq < 2147483648) (hpq9 : -2147483648 ≤ pq ∧ pq < 2147483648) (htq : tq ≤ 1) (h09 : 0 < G 28 9) : gMetX l yL_adds wsL_adds ({ frames := 7, cells := 3, slots := 19, locals := 124 } : Room) D cy base ad n A J [.ref (ad 0), .int (zI wq), .int (zI cq), .int (zI pq), .int (nI tq)] (PL_adds_old ad A J G nq wq cq pq tq) pxNo 3 19 := by
  have hM := cX9_addPointC l D cy base ad n A J G wq cq pq tq hst hC hwq9 hcq9 hpq9 htq
  refine gT_ofW (cc := cL_adds) (maxL := 6) (ret := some .int) (hh := [(0, 9, 10, 36)]) (by decide) rfl (Nat.le_of_ble_eq_true rfl) ?_
  intro pM eM sM mM aM bM methM cM H locs ls hx hb hr hts hown hlocks hml htab hE hG hl
  have hl : lv_has ls 6 [(0, .ref (ad 0)), (1, .int (zI wq)), (2, .int (zI cq)), (3, .int (zI pq)), (4, .int (nI tq))] := hl
  refine lv_aload_n hx hb dL_adds_0 rfl (lv_at hl 0 rfl) ?_
  refine lv_iload_n hx hb dL_adds_1 rfl (lv_at hl 1 rfl) ?_
  refine lv_iload_n hx hb dL_adds_2 rfl (lv_at hl 2 rfl) ?_
  refine lv_iload_n hx hb dL_adds_3 rfl (lv_at hl 3 rfl) ?_
  refine lv_iload hx hb dL_adds_4 (lv_at hl 4 rfl) ?_
  have hPq := g_pre hE hG (.ref (ad 0) :: [.int (zI wq), .int (zI cq), .int (zI pq), .int (nI tq)])
  refine gx_fin (rest := []) (vx_runV (C := RX9) (b := ad 0) (As := [.int (zI wq), .int (zI cq), .int (zI pq), .int (nI tq)]) (rest := []) (g := F0 mM _ ls _) ⟨hx, hb, hml, hown, hts⟩ hM (cwV 4 hts gL_adds_X9_addPoint rfl rfl rfl (by decide +kernel) ⟨(Nat.le_of_ble_eq_true rfl), (Nat.le_of_ble_eq_true rfl)⟩) ⟨hPq.1, g_recv hE hG (k := 0) (r := (RX9, TX9, 6)) (by omega) rfl rfl, hPq.2⟩ rfl rfl hl.1 rfl (Nat.le_of_ble_eq_true rfl) dL_adds_6 ⟨(Nat.le_of_ble_eq_true rfl), (Nat.le_of_ble_eq_true rfl)⟩) hG.2.2 (fun e9 ce q9 A1 J1 H locs hp hB hS hce hv hcl => ?_) (fun v9 u9 t9 H locs ht hp hB hz hS => ?_)
  · have hG : gH D base sM ad (33 + 2 * n) (gw cy ad n A1 J1) H locs := ⟨hB, gl_D hG.2.1, hS⟩
    rcases hp with ⟨rfl, rfl, rfl, hno⟩ | ⟨rfl, rfl, rfl, hno⟩
    · exact absurd hg hno
    · refine vx_catch (own := RL) (name := "java/lang/IllegalStateException") hown [] ⟨0, 9, 10, 36⟩ [] htab (fun z h => nomatch h) (by decide) (by decide) (hts (.classLink RL 36 "java/lang/IllegalStateException") (List.mem_of_getElem? (i := 1) rfl)) (vx_self (k := 6) (hts _ ((fun h9 => List.mem_cons_of_mem _ (List.mem_append_right _ h9)) (show Cond.instantiable "java/lang/IllegalStateException" 6 ∈ (vx_at0 RX9 67 "java/lang/IllegalStateException" vxN).filter goodWord from by decide +kernel)))) hce hv hcl ?_
      refine lv_astore (lv' := [(5, .ref q9), (0, .ref (ad 0)), (1, .int (zI wq)), (2, .int (zI cq)), (3, .int (zI pq)), (4, .int (nI tq))]) hx hb dL_adds_10 hl (by decide) rfl (fun ls hl => ?_)
      refine lv_iconst (v := zI (-1)) hx hb dL_adds_12 (by decide) ?_
      exact gx_iret hx hb hr hlocks hG (Nat.le_of_ble_eq_true rfl) (Nat.le_of_ble_eq_true rfl) ⟨rfl, rfl, rfl⟩ dL_adds_13
  · obtain ⟨pN, oN, rfl, hnew, had, hN, A1, J1, hw1, hJ1, hC1, hO1⟩ := hp
    exfalso; have := hnew.2.1; omega
abbrev PL_points_old (ad : Nat → Nat) (A : Nat → Nat → Int32) (J : Nat → Nat → Int64) (G : Nat → Nat → Int) (nq xN yN : Nat) : Option Value → (Nat → Nat → Int32) → (Nat → Nat → Int64) → Prop := fun v_ A1 J1 => (v_ = some (.int (nI 1)) ∧ A = A1 ∧ J = J1)
set_option maxHeartbeats 4000000 in
set_option maxRecDepth 100000 in
theorem cL_points_oldC (l : Launch) (D : va_G) (cy : Nat → ClassId) (base : Nat) (ad : Nat → Nat) (n : Nat) (A : Nat → Nat → Int32) (J : Nat → Nat → Int64) (G : Nat → Nat → Int) (nq xN yN : Nat) (hst : l.stackTraces = false) (hnq : nq = n) (hL : LI nq A J G) (hxN : xN < 1073741824) (hyN : yN < 1073741824) (h09 : 0 < G 28 9) : gMetX l yL_points wsL_points ({ frames := 8, cells := 3, slots := 19, locals := 149 } : Room) D cy base ad n A J [.ref (ad 0), .int (nI xN), .int (nI yN), .ref (ad 28), .ref (ad 29), .ref (ad 31)] (PL_points_old ad A J G nq xN yN) pxNo 3 19 := by
  refine gx_ofW (cc := cL_points) (maxL := 16) (ret := (some .boolean)) (by decide) rfl (Nat.le_of_ble_eq_true rfl) ?_
  intro pM eM sM mM aM bM methM cM H locs ls hx hb hr hts hown hlocks hml hout hE hG hl
  have hl : lv_has ls 16 [(0, .ref (ad 0)), (1, .int (nI xN)), (2, .int (nI yN)), (3, .ref (ad 28)), (4, .ref (ad 29)), (5, .ref (ad 31))] := hl
  have hinX4 : ∀ w ∈ u_ws RX4 TX4 10, w ∈ wsL_points := by decide +kernel
  have hinX5 : ∀ w ∈ u_ws RX5 TX5 3, w ∈ wsL_points := by decide +kernel
  have hinX6 : ∀ w ∈ u_ws RX6 TX6 3, w ∈ wsL_points := by decide +kernel
  have hinX7 : ∀ w ∈ u_ws RX7 TX7 2, w ∈ wsL_points := by decide +kernel
  have hinX9 : ∀ w ∈ u_ws RX9 TX9 6, w ∈ wsL_points := by decide +kernel
  have hL : LI n A J G := by rw [← hnq]; exact hL
  obtain ⟨hC, hgr, hv9, hd9, hR, c1, c2, hA0, hA1, hA2, hc2, hc1⟩ := id hL
  have hsn := hC.bd.2.2.2.2.2.2.2.2.1
  have hn12 := hC.1.2
  refine lv_aload_n hx hb dL_points_0 rfl (lv_at hl 0 rfl) ?_
  refine g_callV (As := []) (rest := []) (r := (RX9, TX9, 6)) ⟨hx, hb, hml, hown, hts⟩ hE hG (cX9_pointsC l D cy base ad n A J n hC.1 (by first | assumption | omega)) (cwV 0 hts gL_points_X9_points rfl rfl rfl (by decide +kernel) ⟨Nat.le_of_ble_eq_true rfl, Nat.le_of_ble_eq_true rfl⟩) (by omega) rfl rfl rfl hl.1 rfl (Nat.le_of_ble_eq_true rfl) dL_points_1 ⟨(by show 0 ≤ 3; omega), (by show 0 ≤ 19; omega)⟩ (fun v_ A1 J1 H locs hp hG => ?_)
  obtain ⟨rfl, rfl, rfl⟩ := hp
  refine W.eq (g2 := F0 mM 4 ls [.int (nI n)]) rfl ?_
  refine lv_istore (lv' := [(6, .int (nI n)), (0, .ref (ad 0)), (1, .int (nI xN)), (2, .int (nI yN)), (3, .ref (ad 28)), (4, .ref (ad 29)), (5, .ref (ad 31))]) hx hb dL_points_4 hl (by decide) rfl (fun ls hl => ?_)
  refine lv_iload_n hx hb dL_points_6 rfl (lv_at hl 2 rfl) ?_
  refine lv_iconst (v := nI 4) hx hb dL_points_7 (by decide) ?_
  refine lv_irem hx hb dL_points_8 (by decide) ?_
  refine g_top (y := nI (xN % 4)) (pk_rem (by omega) (by omega) (by omega)) ?_
  obtain ⟨cN, hcN⟩ : ∃ k : Nat, xN % 4 = k := ⟨_, rfl⟩
  have hcN2 : cN < 4 := by omega
  refine g_top (y := nI cN) (by rw [hcN]) ?_
  refine lv_istore (lv' := [(7, .int (nI cN)), (6, .int (nI n)), (0, .ref (ad 0)), (1, .int (nI xN)), (2, .int (nI yN)), (3, .ref (ad 28)), (4, .ref (ad 29)), (5, .ref (ad 31))]) hx hb dL_points_9 hl (by decide) rfl (fun ls hl => ?_)
  have LLq38 : ∀  (wN : Nat) (hwN : wN ≤ 12 ∧ ((cN = 0 ∧ 1 ≤ wN) ∨ (cN ≠ 0 ∧ 2 ≤ wN))) (H : Heap) (locs : List Loc) (ls : Array Slot), gH D base sM ad (33 + 2 * n) (gw cy ad n A J) H locs → lv_has ls 16 [(0, .ref (ad 0)), (1, .int (nI xN)), (2, .int (nI yN)), (3, .ref (ad 28)), (4, .ref (ad 29)), (5, .ref (ad 31)), (6, .int (nI n)), (7, .int (nI cN))] → W pM l eM ({ frames := 8, cells := 3, slots := 19, locals := 149 } : Room) sM mM aM bM methM cM H locs (0) (0) (vx_MQ bM (gPost D cy base ad n (PL_points_old ad A J G nq xN yN)) (gXC D cy base ad n (pxNo)) aM sM 3 19 (fun q => base ≤ q)) (F0 mM 38 ls [.int (nI wN)]) := by
    intro wN hwN H locs ls hG hl
    refine lv_istore (lv' := [(8, .int (nI wN)), (0, .ref (ad 0)), (1, .int (nI xN)), (2, .int (nI yN)), (3, .ref (ad 28)), (4, .ref (ad 29)), (5, .ref (ad 31)), (6, .int (nI n)), (7, .int (nI cN))]) hx hb dL_points_38 hl (by decide) rfl (fun ls hl => ?_)
    have LLq62 : ∀  (pN : Nat) (hpN : pN = 1 ∨ pN = 2 ∨ pN = 4) (H : Heap) (locs : List Loc) (ls : Array Slot), gH D base sM ad (33 + 2 * n) (gw cy ad n A J) H locs → lv_has ls 16 [(0, .ref (ad 0)), (1, .int (nI xN)), (2, .int (nI yN)), (3, .ref (ad 28)), (4, .ref (ad 29)), (5, .ref (ad 31)), (6, .int (nI n)), (7, .int (nI cN)), (8, .int (nI wN))] → W pM l eM ({ frames := 8, cells := 3, slots := 19, locals := 149 } : Room) sM mM aM bM methM cM H locs (0) (0) (vx_MQ bM (gPost D cy base ad n (PL_points_old ad A J G nq xN yN)) (gXC D cy base ad n (pxNo)) aM sM 3 19 (fun q => base ≤ q)) (F0 mM 62 ls [.int (nI pN)]) := by
      intro pN hpN H locs ls hG hl
      refine lv_istore (lv' := [(9, .int (nI pN)), (0, .ref (ad 0)), (1, .int (nI xN)), (2, .int (nI yN)), (3, .ref (ad 28)), (4, .ref (ad 29)), (5, .ref (ad 31)), (6, .int (nI n)), (7, .int (nI cN)), (8, .int (nI wN))]) hx hb dL_points_62 hl (by decide) rfl (fun ls hl => ?_)
      have LLq83 : ∀  (eN : Nat) (heN : eN = 1 ∨ (eN = 2 ∧ pN = 1)) (H : Heap) (locs : List Loc) (ls : Array Slot), gH D base sM ad (33 + 2 * n) (gw cy ad n A J) H locs → lv_has ls 16 [(0, .ref (ad 0)), (1, .int (nI xN)), (2, .int (nI yN)), (3, .ref (ad 28)), (4, .ref (ad 29)), (5, .ref (ad 31)), (6, .int (nI n)), (7, .int (nI cN)), (8, .int (nI wN)), (9, .int (nI pN))] → W pM l eM ({ frames := 8, cells := 3, slots := 19, locals := 149 } : Room) sM mM aM bM methM cM H locs (0) (0) (vx_MQ bM (gPost D cy base ad n (PL_points_old ad A J G nq xN yN)) (gXC D cy base ad n (pxNo)) aM sM 3 19 (fun q => base ≤ q)) (F0 mM 83 ls [.int (nI eN)]) := by
        intro eN heN H locs ls hG hl
        refine lv_istore (lv' := [(10, .int (nI eN)), (0, .ref (ad 0)), (1, .int (nI xN)), (2, .int (nI yN)), (3, .ref (ad 28)), (4, .ref (ad 29)), (5, .ref (ad 31)), (6, .int (nI n)), (7, .int (nI cN)), (8, .int (nI wN)), (9, .int (nI pN))]) hx hb dL_points_83 hl (by decide) rfl (fun ls hl => ?_)
        have LLq116 : ∀ (_ : Unit)   (H : Heap) (locs : List Loc) (ls : Array Slot), gH D base sM ad (33 + 2 * n) (gw cy ad n A J) H locs → lv_has ls 16 [(0, .ref (ad 0)), (1, .int (nI xN)), (2, .int (nI yN)), (3, .ref (ad 28)), (4, .ref (ad 29)), (5, .ref (ad 31)), (6, .int (nI n)), (7, .int (nI cN)), (8, .int (nI wN)), (9, .int (nI pN)), (10, .int (nI eN)), (11, .int (zI (-1)))] → W pM l eM ({ frames := 8, cells := 3, slots := 19, locals := 149 } : Room) sM mM aM bM methM cM H locs (0) (0) (vx_MQ bM (gPost D cy base ad n (PL_points_old ad A J G nq xN yN)) (gXC D cy base ad n (pxNo)) aM sM 3 19 (fun q => base ≤ q)) (F0 mM 116 ls []) := by
          intro _ H locs ls hG hl
          refine lv_aload_n hx hb dL_points_116 rfl (lv_at hl 0 rfl) ?_
          refine lv_iload hx hb dL_points_117 (lv_at hl 8 rfl) ?_
          refine lv_iload hx hb dL_points_119 (lv_at hl 7 rfl) ?_
          refine lv_iload hx hb dL_points_121 (lv_at hl 9 rfl) ?_
          have LLq134 : ∀  (tN : Nat) (htN : tN + 1 = eN) (H : Heap) (locs : List Loc) (ls : Array Slot), gH D base sM ad (33 + 2 * n) (gw cy ad n A J) H locs → lv_has ls 16 [(0, .ref (ad 0)), (1, .int (nI xN)), (2, .int (nI yN)), (3, .ref (ad 28)), (4, .ref (ad 29)), (5, .ref (ad 31)), (6, .int (nI n)), (7, .int (nI cN)), (8, .int (nI wN)), (9, .int (nI pN)), (10, .int (nI eN)), (11, .int (zI (-1)))] → W pM l eM ({ frames := 8, cells := 3, slots := 19, locals := 149 } : Room) sM mM aM bM methM cM H locs (0) (0) (vx_MQ bM (gPost D cy base ad n (PL_points_old ad A J G nq xN yN)) (gXC D cy base ad n (pxNo)) aM sM 3 19 (fun q => base ≤ q)) (F0 mM 134 ls [.int (nI tN), .int (nI pN), .int (nI cN), .int (nI wN), .ref (ad 0)]) := by
            intro tN htN H locs ls hG hl
            refine gN_callT (As := [.ref (ad 0), .int (nI wN), .int (nI cN), .int (nI pN), .int (nI tN)]) (rest := []) ⟨hx, hb, hml, hown, hts⟩ hE hG (cL_adds_oldC l D cy base ad n A J G n ((wN : Nat) : Int) ((cN : Nat) : Int) ((pN : Nat) : Int) tN (by first | assumption | omega) (by first | assumption | omega) (by first | assumption | omega) ⟨by omega, by omega, by omega, by omega⟩ (by first | assumption | omega) (by first | assumption | omega) (by first | assumption | omega) (by first | assumption | omega) (by first | assumption | omega)) (vx_cwSW 5 hts gL_points_L_adds rfl rfl rfl (by decide +kernel) ⟨Nat.le_of_ble_eq_true rfl, Nat.le_of_ble_eq_true rfl⟩) rfl hl.1 rfl (Nat.le_of_ble_eq_true rfl) dL_points_134 ⟨(by show 3 ≤ 3; omega), (by show 19 ≤ 19; omega)⟩ (fun _ _ _ hz => hz) (fun v_ A134 J134 H locs hp hG => W.widen (k := 3) (n := 19) (by omega) (by omega) ?_)
            obtain ⟨rfl, rfl, rfl⟩ := hp
            refine W.eq (g2 := F0 mM 137 ls [.int (zI (-1))]) rfl ?_
            refine lv_istore (lv' := [(12, .int (zI (-1))), (0, .ref (ad 0)), (1, .int (nI xN)), (2, .int (nI yN)), (3, .ref (ad 28)), (4, .ref (ad 29)), (5, .ref (ad 31)), (6, .int (nI n)), (7, .int (nI cN)), (8, .int (nI wN)), (9, .int (nI pN)), (10, .int (nI eN)), (11, .int (zI (-1)))]) hx hb dL_points_137 hl (by decide) rfl (fun ls hl => ?_)
            refine lv_iload hx hb dL_points_139 (lv_at hl 12 rfl) ?_
            refine lv_if_ge (tgt := 165) hx hb dL_points_141 (by decide) (fun c141 => ?_) (fun c141 => ?_)
            · skip
              have c141 : nI 0 ≤ (zI (-1)) := c141
              have c141 : ((0 : Nat) : Int) ≤ (-1) := (cmp_le (nI_toInt (by omega)) (zI_toInt (by omega) (by omega))).mp c141
              exfalso; omega
            · skip
              have c141 : ¬ (nI 0 ≤ (zI (-1))) := c141
              have c141 : ¬ (((0 : Nat) : Int) ≤ (-1)) := fun z9 => c141 ((cmp_le (nI_toInt (by omega)) (zI_toInt (by omega) (by omega))).mpr z9)
              refine lv_iload hx hb dL_points_144 (lv_at hl 0 rfl) ?_
              refine lv_iconst (v := zI (-1)) hx hb dL_points_146 (by decide) ?_
              refine lv_icmp_ne (tgt := 163) hx hb dL_points_147 (by decide) (fun c147 => ?_) (fun c147 => ?_)
              · skip
                have c147 : ¬ ((-1) = (-1)) := fun z9 => c147 ((cmp_eq (zI_toInt (by omega) (by omega)) (zI_toInt (by omega) (by omega))).mpr z9)
                exact absurd rfl c147
              · skip
                have c147 : (-1) = (-1) := (cmp_eq (zI_toInt (by omega) (by omega)) (zI_toInt (by omega) (by omega))).mp c147
                refine lv_aload_n hx hb dL_points_150 rfl (lv_at hl 1 rfl) ?_
                refine g_callV (As := []) (rest := []) (r := (RX9, TX9, 6)) ⟨hx, hb, hml, hown, hts⟩ hE hG (cX9_pointsC l D cy base ad n A J n hC.1 (by first | assumption | omega)) (cwV 0 hts gL_points_X9_points rfl rfl rfl (by decide +kernel) ⟨Nat.le_of_ble_eq_true rfl, Nat.le_of_ble_eq_true rfl⟩) (by omega) rfl rfl rfl hl.1 rfl (Nat.le_of_ble_eq_true rfl) dL_points_151 ⟨(by show 3 ≤ 3; omega), (by show 19 ≤ 19; omega)⟩ (fun v_ A151 J151 H locs hp hG => ?_)
                obtain ⟨rfl, rfl, rfl⟩ := hp
                refine W.eq (g2 := F0 mM 154 ls [.int (nI n)]) rfl ?_
                refine lv_iload hx hb dL_points_154 (lv_at hl 7 rfl) ?_
                refine lv_icmp_ne (tgt := 163) hx hb dL_points_156 (by decide) (fun c156 => ?_) (fun c156 => ?_)
                · skip
                  have c156 : ¬ (n = n) := fun z9 => c156 ((nI_eq (by omega) (by omega)).mpr z9)
                  exact absurd rfl c156
                · skip
                  have c156 : n = n := (nI_eq (by omega) (by omega)).mp c156
                  refine lv_iconst (v := nI 1) hx hb dL_points_159 (by decide) ?_
                  refine lv_goto (tgt := 164) hx hb dL_points_160 (by decide) ?_
                  exact gx_zret hx hb hr hlocks hG rfl (by show 3 ≤ 3; omega) (by show 19 ≤ 19; omega) ⟨rfl, rfl, rfl⟩ dL_points_164
          refine lv_iload hx hb dL_points_123 (lv_at hl 10 rfl) ?_
          refine lv_iconst (v := nI 2) hx hb dL_points_125 (by decide) ?_
          refine lv_icmp_ne (tgt := 133) hx hb dL_points_126 (by decide) (fun c126 => ?_) (fun c126 => ?_)
          · skip
            have c126 : ¬ (eN = 2) := fun z9 => c126 ((nI_eq (by omega) (by omega)).mpr z9)
            refine lv_iconst (v := nI 0) hx hb dL_points_133 (by decide) ?_
            exact LLq134 0 (by omega) _ _ _ hG (lv_sub hl [0, 1, 2, 3, 4, 5, 6, 7, 8, 9, 10, 11] rfl)
          · skip
            have c126 : eN = 2 := (nI_eq (by omega) (by omega)).mp c126
            refine lv_iconst (v := nI 1) hx hb dL_points_129 (by decide) ?_
            refine lv_goto (tgt := 134) hx hb dL_points_130 (by decide) ?_
            exact LLq134 1 (by omega) _ _ _ hG (lv_sub hl [0, 1, 2, 3, 4, 5, 6, 7, 8, 9, 10, 11] rfl)
        refine lv_iload hx hb dL_points_85 (lv_at hl 7 rfl) ?_
        refine lv_bipush (v := nI 12) hx hb dL_points_87 (by decide) ?_
        refine lv_icmp_eq (tgt := 99) hx hb dL_points_89 (by decide) (fun c89 => ?_) (fun c89 => ?_)
        · skip
          have c89 : n = 12 := (nI_eq (by omega) (by omega)).mp c89
          refine lv_iconst (v := zI (-1)) hx hb dL_points_99 (by decide) ?_
          refine lv_goto (tgt := 114) hx hb dL_points_100 (by decide) ?_
          refine lv_istore (lv' := [(11, .int (zI (-1))), (10, .int (nI eN)), (0, .ref (ad 0)), (1, .int (nI xN)), (2, .int (nI yN)), (3, .ref (ad 28)), (4, .ref (ad 29)), (5, .ref (ad 31)), (6, .int (nI n)), (7, .int (nI cN)), (8, .int (nI wN)), (9, .int (nI pN))]) hx hb dL_points_114 hl (by decide) rfl (fun ls hl => ?_)
          exact LLq116 () _ _ _ hG (lv_sub hl [2, 3, 4, 5, 6, 7, 8, 9, 10, 11, 1, 0] rfl)
        · skip
          have c89 : ¬ (n = 12) := fun z9 => c89 ((nI_eq (by omega) (by omega)).mpr z9)
          refine lv_aload hx hb dL_points_92 (lv_at hl 6 rfl) ?_
          refine lv_iconst (v := nI 0) hx hb dL_points_94 (by decide) ?_
          refine g_iald hx hb hE hG (k := 31) (by omega) rfl 0 (rfl) (by omega) (by omega) dL_points_95 ?_
          refine g_top (y := zI (G 28 9)) (hA0) ?_
          refine lv_if_le (tgt := 103) hx hb dL_points_96 (by decide) (fun c96 => ?_) (fun c96 => ?_)
          · skip
            have c96 : (zI (G 28 9)) ≤ nI 0 := c96
            have c96 : (G 28 9) ≤ ((0 : Nat) : Int) := (cmp_le (zI_toInt (by omega) (by omega)) (nI_toInt (by omega))).mp c96
            exfalso; omega
          · skip
            have c96 : ¬ ((zI (G 28 9)) ≤ nI 0) := c96
            have c96 : ¬ ((G 28 9) ≤ ((0 : Nat) : Int)) := fun z9 => c96 ((cmp_le (zI_toInt (by omega) (by omega)) (nI_toInt (by omega))).mpr z9)
            refine lv_iconst (v := zI (-1)) hx hb dL_points_99 (by decide) ?_
            refine lv_goto (tgt := 114) hx hb dL_points_100 (by decide) ?_
            refine lv_istore (lv' := [(11, .int (zI (-1))), (10, .int (nI eN)), (0, .ref (ad 0)), (1, .int (nI xN)), (2, .int (nI yN)), (3, .ref (ad 28)), (4, .ref (ad 29)), (5, .ref (ad 31)), (6, .int (nI n)), (7, .int (nI cN)), (8, .int (nI wN)), (9, .int (nI pN))]) hx hb dL_points_114 hl (by decide) rfl (fun ls hl => ?_)
            exact LLq116 () _ _ _ hG (lv_sub hl [2, 3, 4, 5, 6, 7, 8, 9, 10, 11, 1, 0] rfl)
      refine lv_iload hx hb dL_points_64 (lv_at hl 0 rfl) ?_
      refine lv_iconst (v := nI 1) hx hb dL_points_66 (by decide) ?_
      refine lv_icmp_ne (tgt := 82) hx hb dL_points_67 (by decide) (fun c67 => ?_) (fun c67 => ?_)
      · skip
        have c67 : ¬ (pN = 1) := fun z9 => c67 ((nI_eq (by omega) (by omega)).mpr z9)
        refine lv_iconst (v := nI 1) hx hb dL_points_82 (by decide) ?_
        exact LLq83 1 (by omega) _ _ _ hG (lv_sub hl [1, 2, 3, 4, 5, 6, 7, 8, 9, 0] rfl)
      · skip
        have c67 : pN = 1 := (nI_eq (by omega) (by omega)).mp c67
        refine lv_iload_n hx hb dL_points_70 rfl (lv_at hl 3 rfl) ?_
        refine lv_iconst (v := nI 3) hx hb dL_points_71 (by decide) ?_
        refine lv_idiv hx hb dL_points_72 (by decide) ?_
        refine g_top (y := nI (yN / 3)) (pk_div (by omega) (by omega) (by omega)) ?_
        refine lv_iconst (v := nI 2) hx hb dL_points_73 (by decide) ?_
        refine lv_irem hx hb dL_points_74 (by decide) ?_
        refine g_top (y := nI ((yN / 3) % 2)) (pk_rem (by omega) (by omega) (by omega)) ?_
        refine lv_if_ne (tgt := 82) hx hb dL_points_75 (by decide) (fun c75 => ?_) (fun c75 => ?_)
        · skip
          have c75 : ¬ ((nI ((yN / 3) % 2)) = nI 0) := c75
          have c75 : ¬ (((yN / 3) % 2) = 0) := fun z9 => c75 ((nI_eq (by omega) (by omega)).mpr z9)
          refine lv_iconst (v := nI 1) hx hb dL_points_82 (by decide) ?_
          exact LLq83 1 (by omega) _ _ _ hG (lv_sub hl [1, 2, 3, 4, 5, 6, 7, 8, 9, 0] rfl)
        · skip
          have c75 : (nI ((yN / 3) % 2)) = nI 0 := c75
          have c75 : ((yN / 3) % 2) = 0 := (nI_eq (by omega) (by omega)).mp c75
          refine lv_iconst (v := nI 2) hx hb dL_points_78 (by decide) ?_
          refine lv_goto (tgt := 83) hx hb dL_points_79 (by decide) ?_
          exact LLq83 2 (by omega) _ _ _ hG (lv_sub hl [1, 2, 3, 4, 5, 6, 7, 8, 9, 0] rfl)
    refine lv_iload_n hx hb dL_points_40 rfl (lv_at hl 3 rfl) ?_
    refine lv_iconst (v := nI 3) hx hb dL_points_41 (by decide) ?_
    refine lv_irem hx hb dL_points_42 (by decide) ?_
    refine g_top (y := nI (yN % 3)) (pk_rem (by omega) (by omega) (by omega)) ?_
    refine lv_if_ne (tgt := 50) hx hb dL_points_43 (by decide) (fun c43 => ?_) (fun c43 => ?_)
    · skip
      have c43 : ¬ ((nI (yN % 3)) = nI 0) := c43
      have c43 : ¬ ((yN % 3) = 0) := fun z9 => c43 ((nI_eq (by omega) (by omega)).mpr z9)
      refine lv_iload_n hx hb dL_points_50 rfl (lv_at hl 3 rfl) ?_
      refine lv_iconst (v := nI 3) hx hb dL_points_51 (by decide) ?_
      refine lv_irem hx hb dL_points_52 (by decide) ?_
      refine g_top (y := nI (yN % 3)) (pk_rem (by omega) (by omega) (by omega)) ?_
      refine lv_iconst (v := nI 1) hx hb dL_points_53 (by decide) ?_
      refine lv_icmp_ne (tgt := 61) hx hb dL_points_54 (by decide) (fun c54 => ?_) (fun c54 => ?_)
      · skip
        have c54 : ¬ ((yN % 3) = 1) := fun z9 => c54 ((nI_eq (by omega) (by omega)).mpr z9)
        refine lv_iconst (v := nI 4) hx hb dL_points_61 (by decide) ?_
        exact LLq62 4 (by omega) _ _ _ hG (lv_sub hl [1, 2, 3, 4, 5, 6, 7, 8, 0] rfl)
      · skip
        have c54 : (yN % 3) = 1 := (nI_eq (by omega) (by omega)).mp c54
        refine lv_iconst (v := nI 2) hx hb dL_points_57 (by decide) ?_
        refine lv_goto (tgt := 62) hx hb dL_points_58 (by decide) ?_
        exact LLq62 2 (by omega) _ _ _ hG (lv_sub hl [1, 2, 3, 4, 5, 6, 7, 8, 0] rfl)
    · skip
      have c43 : (nI (yN % 3)) = nI 0 := c43
      have c43 : (yN % 3) = 0 := (nI_eq (by omega) (by omega)).mp c43
      refine lv_iconst (v := nI 1) hx hb dL_points_46 (by decide) ?_
      refine lv_goto (tgt := 62) hx hb dL_points_47 (by decide) ?_
      exact LLq62 1 (by omega) _ _ _ hG (lv_sub hl [1, 2, 3, 4, 5, 6, 7, 8, 0] rfl)
  refine lv_iload hx hb dL_points_11 (lv_at hl 0 rfl) ?_
  refine lv_if_ne (tgt := 20) hx hb dL_points_13 (by decide) (fun c13 => ?_) (fun c13 => ?_)
  · skip
    have c13 : ¬ ((nI cN) = nI 0) := c13
    have c13 : ¬ (cN = 0) := fun z9 => c13 ((nI_eq (by omega) (by omega)).mpr z9)
    refine lv_iconst (v := nI 2) hx hb dL_points_20 (by decide) ?_
    refine lv_iload_n hx hb dL_points_21 rfl (lv_at hl 3 rfl) ?_
    refine lv_iconst (v := nI 4) hx hb dL_points_22 (by decide) ?_
    refine lv_idiv hx hb dL_points_23 (by decide) ?_
    refine g_top (y := nI (xN / 4)) (pk_div (by omega) (by omega) (by omega)) ?_
    refine lv_iload hx hb dL_points_24 (lv_at hl 0 rfl) ?_
    refine lv_if_ne (tgt := 34) hx hb dL_points_26 (by decide) (fun c26 => ?_) (fun c26 => ?_)
    · skip
      have c26 : ¬ ((nI cN) = nI 0) := c26
      have c26 : ¬ (cN = 0) := fun z9 => c26 ((nI_eq (by omega) (by omega)).mpr z9)
      refine lv_bipush (v := nI 11) hx hb dL_points_34 (by decide) ?_
      refine lv_irem hx hb dL_points_36 (by decide) ?_
      refine g_top (y := nI ((xN / 4) % 11)) (pk_rem (by omega) (by omega) (by omega)) ?_
      refine lv_iadd hx hb dL_points_37 ?_
      refine g_top (y := nI (2 + ((xN / 4) % 11))) (by rw [nI_add]) ?_
      exact LLq38 (2 + ((xN / 4) % 11)) (by omega) _ _ _ hG (lv_sub hl [2, 3, 4, 5, 6, 7, 1, 0] rfl)
    · skip
      have c26 : (nI cN) = nI 0 := c26
      have c26 : cN = 0 := (nI_eq (by omega) (by omega)).mp c26
      refine lv_bipush (v := nI 12) hx hb dL_points_29 (by decide) ?_
      refine lv_goto (tgt := 36) hx hb dL_points_31 (by decide) ?_
      refine lv_irem hx hb dL_points_36 (by decide) ?_
      refine g_top (y := nI ((xN / 4) % 12)) (pk_rem (by omega) (by omega) (by omega)) ?_
      refine lv_iadd hx hb dL_points_37 ?_
      refine g_top (y := nI (2 + ((xN / 4) % 12))) (by rw [nI_add]) ?_
      exact LLq38 (2 + ((xN / 4) % 12)) (by omega) _ _ _ hG (lv_sub hl [2, 3, 4, 5, 6, 7, 1, 0] rfl)
  · skip
    have c13 : (nI cN) = nI 0 := c13
    have c13 : cN = 0 := (nI_eq (by omega) (by omega)).mp c13
    refine lv_iconst (v := nI 1) hx hb dL_points_16 (by decide) ?_
    refine lv_goto (tgt := 21) hx hb dL_points_17 (by decide) ?_
    refine lv_iload_n hx hb dL_points_21 rfl (lv_at hl 3 rfl) ?_
    refine lv_iconst (v := nI 4) hx hb dL_points_22 (by decide) ?_
    refine lv_idiv hx hb dL_points_23 (by decide) ?_
    refine g_top (y := nI (xN / 4)) (pk_div (by omega) (by omega) (by omega)) ?_
    refine lv_iload hx hb dL_points_24 (lv_at hl 0 rfl) ?_
    refine lv_if_ne (tgt := 34) hx hb dL_points_26 (by decide) (fun c26 => ?_) (fun c26 => ?_)
    · skip
      have c26 : ¬ ((nI cN) = nI 0) := c26
      have c26 : ¬ (cN = 0) := fun z9 => c26 ((nI_eq (by omega) (by omega)).mpr z9)
      refine lv_bipush (v := nI 11) hx hb dL_points_34 (by decide) ?_
      refine lv_irem hx hb dL_points_36 (by decide) ?_
      refine g_top (y := nI ((xN / 4) % 11)) (pk_rem (by omega) (by omega) (by omega)) ?_
      refine lv_iadd hx hb dL_points_37 ?_
      refine g_top (y := nI (1 + ((xN / 4) % 11))) (by rw [nI_add]) ?_
      exact LLq38 (1 + ((xN / 4) % 11)) (by omega) _ _ _ hG (lv_sub hl [2, 3, 4, 5, 6, 7, 1, 0] rfl)
    · skip
      have c26 : (nI cN) = nI 0 := c26
      have c26 : cN = 0 := (nI_eq (by omega) (by omega)).mp c26
      refine lv_bipush (v := nI 12) hx hb dL_points_29 (by decide) ?_
      refine lv_goto (tgt := 36) hx hb dL_points_31 (by decide) ?_
      refine lv_irem hx hb dL_points_36 (by decide) ?_
      refine g_top (y := nI ((xN / 4) % 12)) (pk_rem (by omega) (by omega) (by omega)) ?_
      refine lv_iadd hx hb dL_points_37 ?_
      refine g_top (y := nI (1 + ((xN / 4) % 12))) (by rw [nI_add]) ?_
      exact LLq38 (1 + ((xN / 4) % 12)) (by omega) _ _ _ hG (lv_sub hl [2, 3, 4, 5, 6, 7, 1, 0] rfl)

abbrev PL_asks_value (ad : Nat → Nat) (A : Nat → Nat → Int32) (J : Nat → Nat → Int64) (G : Nat → Nat → Int) (iq : Nat) : Option Value → (Nat → Nat → Int32) → (Nat → Nat → Int64) → Prop := fun v_ A1 J1 => (v_ = some (.int (zI (if G 41 iq = 0 then -5000000 else G 39 iq))) ∧ A = A1 ∧ J = J1)
set_option maxHeartbeats 4000000 in
set_option maxRecDepth 100000 in
theorem cL_asks_valueC (l : Launch) (D : va_G) (cy : Nat → ClassId) (base : Nat) (ad : Nat → Nat) (n : Nat) (A : Nat → Nat → Int32) (J : Nat → Nat → Int64) (G : Nat → Nat → Int) (iq : Nat) (hst : l.stackTraces = false) (hC : CAll n A J G) (hi : iq < n) : gMetX l yL_asks wsL_asks ({ frames := 8, cells := 2, slots := 12, locals := 198 } : Room) D cy base ad n A J [.ref (ad 0), .int (nI 0), .int (nI iq)] (PL_asks_value ad A J G iq) pxNo 2 12 := by
  refine gT_ofW (cc := cL_asks) (maxL := 4) (ret := (some .int)) (hh := [(0, 55, 56, 29)]) (by decide) rfl (Nat.le_of_ble_eq_true rfl) ?_
  intro pM eM sM mM aM bM methM cM H locs ls hx hb hr hts hown hlocks hml htab hE hG hl
  have hl : lv_has ls 4 [(0, .ref (ad 0)), (1, .int (nI 0)), (2, .int (nI iq))] := hl
  have hinX0 : ∀ w ∈ u_ws RX0 TX0 5, w ∈ wsL_asks := by decide +kernel
  have hinX1 : ∀ w ∈ u_ws RX1 TX1 5, w ∈ wsL_asks := by decide +kernel
  have hinX2 : ∀ w ∈ u_ws RX2 TX2 1, w ∈ wsL_asks := by decide +kernel
  have hinX4 : ∀ w ∈ u_ws RX4 TX4 10, w ∈ wsL_asks := by decide +kernel
  have hinX5 : ∀ w ∈ u_ws RX5 TX5 3, w ∈ wsL_asks := by decide +kernel
  have hinX6 : ∀ w ∈ u_ws RX6 TX6 3, w ∈ wsL_asks := by decide +kernel
  have hinX9 : ∀ w ∈ u_ws RX9 TX9 6, w ∈ wsL_asks := by decide +kernel
  have hn12 := hC.1.2
  refine lv_iload_n hx hb dL_asks_0 rfl (lv_at hl 1 rfl) ?_
  refine lv_if_ne (tgt := 12) hx hb dL_asks_1 (by decide) (fun c1 => ?_) (fun c1 => ?_)
  · skip
    exact absurd c1 (by decide)
  · skip
    refine lv_aload_n hx hb dL_asks_4 rfl (lv_at hl 0 rfl) ?_
    refine lv_iload_n hx hb dL_asks_5 rfl (lv_at hl 2 rfl) ?_
    have hPq := g_pre hE hG (.ref (ad 0) :: [.int (nI iq)])
    refine gx_fin (rest := []) (vx_runV (C := RX9) (b := ad 0) (As := [.int (nI iq)]) (rest := []) (g := F0 mM _ ls _) ⟨hx, hb, hml, hown, hts⟩ (cX9_valueC l D cy base ad n A J G n ((iq : Nat) : Int) (by first | assumption | omega) (by first | assumption | omega) hC (by first | assumption | omega)) (cwV 1 hts gL_asks_X9_value rfl rfl rfl (by decide +kernel) ⟨(Nat.le_of_ble_eq_true rfl), (Nat.le_of_ble_eq_true rfl)⟩) ⟨hPq.1, g_recv hE hG (k := 0) (r := (RX9, TX9, 6)) (by omega) rfl rfl, hPq.2⟩ rfl rfl hl.1 rfl (Nat.le_of_ble_eq_true rfl) dL_asks_6 ⟨(Nat.le_of_ble_eq_true rfl), (Nat.le_of_ble_eq_true rfl)⟩) hG.2.2 (fun e9 ce q9 A6 J6 H locs hp hB hS hce hv hcl => ?_) (fun v9 u9 t9 H locs ht hp hB hz hS => ?_)
    · have hG : gH D base sM ad (33 + 2 * n) (gw cy ad n A6 J6) H locs := ⟨hB, gl_D hG.2.1, hS⟩
      rcases hp with ⟨rfl, rfl, rfl, hno_6⟩ | ⟨rfl, rfl, rfl, hnn_6⟩
      · skip
        exfalso; omega
      · skip
        refine vx_catch (own := RL) (name := "java/util/NoSuchElementException") hown [] ⟨0, 55, 56, 29⟩ [] htab (fun z h => nomatch h) (by decide) (by decide) (hts (.classLink RL 29 "java/util/NoSuchElementException") (List.mem_of_getElem? (i := 1) rfl)) (vx_self (k := 6) (hts _ ((fun h9 => List.mem_cons_of_mem _ (List.mem_append_left _ (List.mem_append_right _ h9))) (show Cond.instantiable "java/util/NoSuchElementException" 6 ∈ (vx_at0 RX9 159 "java/util/NoSuchElementException" vxN).filter goodWord from by decide +kernel)))) hce hv hcl ?_
        refine lv_astore_n (lv' := [(3, .ref q9), (0, .ref (ad 0)), (1, .int (nI 0)), (2, .int (nI iq))]) hx hb dL_asks_56 rfl hl (by decide) rfl (fun ls hl => ?_)
        refine lv_ldc (v := -5000000) hx hb hown (hts (.constant RL 31 (-5000000)) (List.mem_of_getElem? (i := 2) rfl)) dL_asks_57 ?_
        refine g_top (y := zI (-5000000)) (by decide) ?_
        exact gx_iret hx hb hr hlocks hG (by show 2 ≤ 2; omega) (by show 12 ≤ 12; omega) ⟨(ret_i (if_pos (by obtain ⟨i9, h9, h8, h7⟩ := hnn_6; obtain rfl : iq = i9 := (by omega); exact h7)).symm), rfl, rfl⟩ dL_asks_59
    · obtain ⟨A6, J6⟩ := u9
      have hG : gH D base sM ad (33 + 2 * n) (gw cy ad n A6 J6) H locs := ⟨by rw [← ht]; exact hB, gl_D hG.2.1, hS⟩
      obtain ⟨iq_6, rfl, rfl, rfl, hiq_6⟩ := hp
      refine W.eq (g2 := F0 mM 9 ls [.int (zI (G 39 iq_6))]) rfl ?_
      obtain rfl : iq = iq_6 := by omega
      refine lv_goto (tgt := 55) hx hb dL_asks_9 (by decide) ?_
      exact gx_iret hx hb hr hlocks hG (by show 2 ≤ 2; omega) (by show 12 ≤ 12; omega) ⟨(ret_i (if_neg hiq_6.2.2).symm), rfl, rfl⟩ dL_asks_55

abbrev PL_asks_time (ad : Nat → Nat) (A : Nat → Nat → Int32) (J : Nat → Nat → Int64) (G : Nat → Nat → Int) (iq : Nat) : Option Value → (Nat → Nat → Int32) → (Nat → Nat → Int64) → Prop := fun v_ A1 J1 => (v_ = some (.int (zI (if G 41 iq = 0 then -5000000 else G 40 iq))) ∧ A = A1 ∧ J = J1)
set_option maxHeartbeats 4000000 in
set_option maxRecDepth 100000 in
theorem cL_asks_timeC (l : Launch) (D : va_G) (cy : Nat → ClassId) (base : Nat) (ad : Nat → Nat) (n : Nat) (A : Nat → Nat → Int32) (J : Nat → Nat → Int64) (G : Nat → Nat → Int) (iq : Nat) (hst : l.stackTraces = false) (hC : CAll n A J G) (hi : iq < n) : gMetX l yL_asks wsL_asks ({ frames := 8, cells := 2, slots := 12, locals := 198 } : Room) D cy base ad n A J [.ref (ad 0), .int (nI 1), .int (nI iq)] (PL_asks_time ad A J G iq) pxNo 2 12 := by
  refine gT_ofW (cc := cL_asks) (maxL := 4) (ret := (some .int)) (hh := [(0, 55, 56, 29)]) (by decide) rfl (Nat.le_of_ble_eq_true rfl) ?_
  intro pM eM sM mM aM bM methM cM H locs ls hx hb hr hts hown hlocks hml htab hE hG hl
  have hl : lv_has ls 4 [(0, .ref (ad 0)), (1, .int (nI 1)), (2, .int (nI iq))] := hl
  have hinX0 : ∀ w ∈ u_ws RX0 TX0 5, w ∈ wsL_asks := by decide +kernel
  have hinX1 : ∀ w ∈ u_ws RX1 TX1 5, w ∈ wsL_asks := by decide +kernel
  have hinX2 : ∀ w ∈ u_ws RX2 TX2 1, w ∈ wsL_asks := by decide +kernel
  have hinX4 : ∀ w ∈ u_ws RX4 TX4 10, w ∈ wsL_asks := by decide +kernel
  have hinX5 : ∀ w ∈ u_ws RX5 TX5 3, w ∈ wsL_asks := by decide +kernel
  have hinX6 : ∀ w ∈ u_ws RX6 TX6 3, w ∈ wsL_asks := by decide +kernel
  have hinX9 : ∀ w ∈ u_ws RX9 TX9 6, w ∈ wsL_asks := by decide +kernel
  have hn12 := hC.1.2
  refine lv_iload_n hx hb dL_asks_0 rfl (lv_at hl 1 rfl) ?_
  refine lv_if_ne (tgt := 12) hx hb dL_asks_1 (by decide) (fun c1 => ?_) (fun c1 => ?_)
  · skip
    refine lv_iload_n hx hb dL_asks_12 rfl (lv_at hl 1 rfl) ?_
    refine lv_iconst (v := nI 1) hx hb dL_asks_13 (by decide) ?_
    refine lv_icmp_ne (tgt := 25) hx hb dL_asks_14 (by decide) (fun c14 => ?_) (fun c14 => ?_)
    · skip
      exact absurd c14 (by decide)
    · skip
      refine lv_aload_n hx hb dL_asks_17 rfl (lv_at hl 0 rfl) ?_
      refine lv_iload_n hx hb dL_asks_18 rfl (lv_at hl 2 rfl) ?_
      have hPq := g_pre hE hG (.ref (ad 0) :: [.int (nI iq)])
      refine gx_fin (rest := []) (vx_runV (C := RX9) (b := ad 0) (As := [.int (nI iq)]) (rest := []) (g := F0 mM _ ls _) ⟨hx, hb, hml, hown, hts⟩ (cX9_timeC l D cy base ad n A J G n ((iq : Nat) : Int) (by first | assumption | omega) (by first | assumption | omega) hC (by first | assumption | omega)) (cwV 1 hts gL_asks_X9_time rfl rfl rfl (by decide +kernel) ⟨(Nat.le_of_ble_eq_true rfl), (Nat.le_of_ble_eq_true rfl)⟩) ⟨hPq.1, g_recv hE hG (k := 0) (r := (RX9, TX9, 6)) (by omega) rfl rfl, hPq.2⟩ rfl rfl hl.1 rfl (Nat.le_of_ble_eq_true rfl) dL_asks_19 ⟨(Nat.le_of_ble_eq_true rfl), (Nat.le_of_ble_eq_true rfl)⟩) hG.2.2 (fun e9 ce q9 A19 J19 H locs hp hB hS hce hv hcl => ?_) (fun v9 u9 t9 H locs ht hp hB hz hS => ?_)
      · have hG : gH D base sM ad (33 + 2 * n) (gw cy ad n A19 J19) H locs := ⟨hB, gl_D hG.2.1, hS⟩
        rcases hp with ⟨rfl, rfl, rfl, hno_19⟩ | ⟨rfl, rfl, rfl, hnn_19⟩
        · skip
          exfalso; omega
        · skip
          refine vx_catch (own := RL) (name := "java/util/NoSuchElementException") hown [] ⟨0, 55, 56, 29⟩ [] htab (fun z h => nomatch h) (by decide) (by decide) (hts (.classLink RL 29 "java/util/NoSuchElementException") (List.mem_of_getElem? (i := 1) rfl)) (vx_self (k := 6) (hts _ ((fun h9 => List.mem_cons_of_mem _ (List.mem_append_left _ (List.mem_append_right _ h9))) (show Cond.instantiable "java/util/NoSuchElementException" 6 ∈ (vx_at0 RX9 159 "java/util/NoSuchElementException" vxN).filter goodWord from by decide +kernel)))) hce hv hcl ?_
          refine lv_astore_n (lv' := [(3, .ref q9), (0, .ref (ad 0)), (1, .int (nI 1)), (2, .int (nI iq))]) hx hb dL_asks_56 rfl hl (by decide) rfl (fun ls hl => ?_)
          refine lv_ldc (v := -5000000) hx hb hown (hts (.constant RL 31 (-5000000)) (List.mem_of_getElem? (i := 2) rfl)) dL_asks_57 ?_
          refine g_top (y := zI (-5000000)) (by decide) ?_
          exact gx_iret hx hb hr hlocks hG (by show 2 ≤ 2; omega) (by show 12 ≤ 12; omega) ⟨(ret_i (if_pos (by obtain ⟨i9, h9, h8, h7⟩ := hnn_19; obtain rfl : iq = i9 := (by omega); exact h7)).symm), rfl, rfl⟩ dL_asks_59
      · obtain ⟨A19, J19⟩ := u9
        have hG : gH D base sM ad (33 + 2 * n) (gw cy ad n A19 J19) H locs := ⟨by rw [← ht]; exact hB, gl_D hG.2.1, hS⟩
        obtain ⟨iq_19, rfl, rfl, rfl, hiq_19⟩ := hp
        refine W.eq (g2 := F0 mM 22 ls [.int (zI (G 40 iq_19))]) rfl ?_
        obtain rfl : iq = iq_19 := by omega
        refine lv_goto (tgt := 55) hx hb dL_asks_22 (by decide) ?_
        exact gx_iret hx hb hr hlocks hG (by show 2 ≤ 2; omega) (by show 12 ≤ 12; omega) ⟨(ret_i (if_neg hiq_19.2.2).symm), rfl, rfl⟩ dL_asks_55
  · skip
    exact absurd c1 (by decide)

abbrev PL_asks_number (ad : Nat → Nat) (A : Nat → Nat → Int32) (J : Nat → Nat → Int64) (G : Nat → Nat → Int) (iq : Nat) : Option Value → (Nat → Nat → Int32) → (Nat → Nat → Int64) → Prop := fun v_ A1 J1 => (v_ = some (.int (zI (if G 28 21 = 0 then -5000000 else G 28 20))) ∧ A = A1 ∧ J = J1)
set_option maxHeartbeats 4000000 in
set_option maxRecDepth 100000 in
theorem cL_asks_numberC (l : Launch) (D : va_G) (cy : Nat → ClassId) (base : Nat) (ad : Nat → Nat) (n : Nat) (A : Nat → Nat → Int32) (J : Nat → Nat → Int64) (G : Nat → Nat → Int) (iq : Nat) (hst : l.stackTraces = false) (hC : CAll n A J G) : gMetX l yL_asks wsL_asks ({ frames := 8, cells := 2, slots := 12, locals := 198 } : Room) D cy base ad n A J [.ref (ad 0), .int (nI 2), .int (nI iq)] (PL_asks_number ad A J G iq) pxNo 2 12 := by
  refine gT_ofW (cc := cL_asks) (maxL := 4) (ret := (some .int)) (hh := [(0, 55, 56, 29)]) (by decide) rfl (Nat.le_of_ble_eq_true rfl) ?_
  intro pM eM sM mM aM bM methM cM H locs ls hx hb hr hts hown hlocks hml htab hE hG hl
  have hl : lv_has ls 4 [(0, .ref (ad 0)), (1, .int (nI 2)), (2, .int (nI iq))] := hl
  have hinX0 : ∀ w ∈ u_ws RX0 TX0 5, w ∈ wsL_asks := by decide +kernel
  have hinX1 : ∀ w ∈ u_ws RX1 TX1 5, w ∈ wsL_asks := by decide +kernel
  have hinX2 : ∀ w ∈ u_ws RX2 TX2 1, w ∈ wsL_asks := by decide +kernel
  have hinX4 : ∀ w ∈ u_ws RX4 TX4 10, w ∈ wsL_asks := by decide +kernel
  have hinX5 : ∀ w ∈ u_ws RX5 TX5 3, w ∈ wsL_asks := by decide +kernel
  have hinX6 : ∀ w ∈ u_ws RX6 TX6 3, w ∈ wsL_asks := by decide +kernel
  have hinX9 : ∀ w ∈ u_ws RX9 TX9 6, w ∈ wsL_asks := by decide +kernel
  have hn12 := hC.1.2
  refine lv_iload_n hx hb dL_asks_0 rfl (lv_at hl 1 rfl) ?_
  refine lv_if_ne (tgt := 12) hx hb dL_asks_1 (by decide) (fun c1 => ?_) (fun c1 => ?_)
  · skip
    refine lv_iload_n hx hb dL_asks_12 rfl (lv_at hl 1 rfl) ?_
    refine lv_iconst (v := nI 1) hx hb dL_asks_13 (by decide) ?_
    refine lv_icmp_ne (tgt := 25) hx hb dL_asks_14 (by decide) (fun c14 => ?_) (fun c14 => ?_)
    · skip
      refine lv_iload_n hx hb dL_asks_25 rfl (lv_at hl 1 rfl) ?_
      refine lv_iconst (v := nI 2) hx hb dL_asks_26 (by decide) ?_
      refine lv_icmp_ne (tgt := 37) hx hb dL_asks_27 (by decide) (fun c27 => ?_) (fun c27 => ?_)
      · skip
        exact absurd c27 (by decide)
      · skip
        refine lv_aload_n hx hb dL_asks_30 rfl (lv_at hl 0 rfl) ?_
        have hPq := g_pre hE hG (.ref (ad 0) :: [])
        refine gx_fin (rest := []) (vx_runV (C := RX9) (b := ad 0) (As := []) (rest := []) (g := F0 mM _ ls _) ⟨hx, hb, hml, hown, hts⟩ (cX9_numberC l D cy base ad n A J G n (by first | assumption | omega) (by first | assumption | omega) hC) (cwV 0 hts gL_asks_X9_number rfl rfl rfl (by decide +kernel) ⟨(Nat.le_of_ble_eq_true rfl), (Nat.le_of_ble_eq_true rfl)⟩) ⟨hPq.1, g_recv hE hG (k := 0) (r := (RX9, TX9, 6)) (by omega) rfl rfl, hPq.2⟩ rfl rfl hl.1 rfl (Nat.le_of_ble_eq_true rfl) dL_asks_31 ⟨(Nat.le_of_ble_eq_true rfl), (Nat.le_of_ble_eq_true rfl)⟩) hG.2.2 (fun e9 ce q9 A31 J31 H locs hp hB hS hce hv hcl => ?_) (fun v9 u9 t9 H locs ht hp hB hz hS => ?_)
        · have hG : gH D base sM ad (33 + 2 * n) (gw cy ad n A31 J31) H locs := ⟨hB, gl_D hG.2.1, hS⟩
          obtain ⟨rfl, rfl, rfl, hno_31⟩ := hp
          refine vx_catch (own := RL) (name := "java/util/NoSuchElementException") hown [] ⟨0, 55, 56, 29⟩ [] htab (fun z h => nomatch h) (by decide) (by decide) (hts (.classLink RL 29 "java/util/NoSuchElementException") (List.mem_of_getElem? (i := 1) rfl)) (vx_self (k := 6) (hts _ ((fun h9 => List.mem_cons_of_mem _ (List.mem_append_left _ (List.mem_append_right _ h9))) (show Cond.instantiable "java/util/NoSuchElementException" 6 ∈ (vx_at0 RX9 159 "java/util/NoSuchElementException" vxN).filter goodWord from by decide +kernel)))) hce hv hcl ?_
          refine lv_astore_n (lv' := [(3, .ref q9), (0, .ref (ad 0)), (1, .int (nI 2)), (2, .int (nI iq))]) hx hb dL_asks_56 rfl hl (by decide) rfl (fun ls hl => ?_)
          refine lv_ldc (v := -5000000) hx hb hown (hts (.constant RL 31 (-5000000)) (List.mem_of_getElem? (i := 2) rfl)) dL_asks_57 ?_
          refine g_top (y := zI (-5000000)) (by decide) ?_
          exact gx_iret hx hb hr hlocks hG (by show 1 ≤ 2; omega) (by show 6 ≤ 12; omega) ⟨(ret_i (if_pos hno_31).symm), rfl, rfl⟩ dL_asks_59
        · obtain ⟨A31, J31⟩ := u9
          have hG : gH D base sM ad (33 + 2 * n) (gw cy ad n A31 J31) H locs := ⟨by rw [← ht]; exact hB, gl_D hG.2.1, hS⟩
          obtain ⟨rfl, rfl, rfl, hne_31⟩ := hp
          refine W.eq (g2 := F0 mM 34 ls [.int (zI (G 28 20))]) rfl ?_
          refine lv_goto (tgt := 55) hx hb dL_asks_34 (by decide) ?_
          exact gx_iret hx hb hr hlocks hG (by show 1 ≤ 2; omega) (by show 6 ≤ 12; omega) ⟨(ret_i (if_neg hne_31).symm), rfl, rfl⟩ dL_asks_55
    · skip
      exact absurd c14 (by decide)
  · skip
    exact absurd c1 (by decide)

abbrev PL_asks_dval (ad : Nat → Nat) (A : Nat → Nat → Int32) (J : Nat → Nat → Int64) (G : Nat → Nat → Int) (iq : Nat) : Option Value → (Nat → Nat → Int32) → (Nat → Nat → Int64) → Prop := fun v_ A1 J1 => (v_ = some (.int (zI (if mDers G 46 iq = 1 then mDers G 47 iq else -5000000))) ∧ J = J1 ∧ (∀ k, k < 12 ∨ 28 ≤ k ∨ k % 2 = 0 → A1 k = A k))
set_option maxHeartbeats 4000000 in
set_option maxRecDepth 100000 in
theorem cL_asks_dvalC (l : Launch) (D : va_G) (cy : Nat → ClassId) (base : Nat) (ad : Nat → Nat) (n : Nat) (A : Nat → Nat → Int32) (J : Nat → Nat → Int64) (G : Nat → Nat → Int) (iq : Nat) (hst : l.stackTraces = false) (hC : CAll n A J G) (hi : iq < 8) : gMetX l yL_asks wsL_asks ({ frames := 8, cells := 2, slots := 12, locals := 198 } : Room) D cy base ad n A J [.ref (ad 0), .int (nI 3), .int (nI iq)] (PL_asks_dval ad A J G iq) pxNo 2 12 := by
  refine gT_ofW (cc := cL_asks) (maxL := 4) (ret := (some .int)) (hh := [(0, 55, 56, 29)]) (by decide) rfl (Nat.le_of_ble_eq_true rfl) ?_
  intro pM eM sM mM aM bM methM cM H locs ls hx hb hr hts hown hlocks hml htab hE hG hl
  have hl : lv_has ls 4 [(0, .ref (ad 0)), (1, .int (nI 3)), (2, .int (nI iq))] := hl
  have hinX0 : ∀ w ∈ u_ws RX0 TX0 5, w ∈ wsL_asks := by decide +kernel
  have hinX1 : ∀ w ∈ u_ws RX1 TX1 5, w ∈ wsL_asks := by decide +kernel
  have hinX2 : ∀ w ∈ u_ws RX2 TX2 1, w ∈ wsL_asks := by decide +kernel
  have hinX4 : ∀ w ∈ u_ws RX4 TX4 10, w ∈ wsL_asks := by decide +kernel
  have hinX5 : ∀ w ∈ u_ws RX5 TX5 3, w ∈ wsL_asks := by decide +kernel
  have hinX6 : ∀ w ∈ u_ws RX6 TX6 3, w ∈ wsL_asks := by decide +kernel
  have hinX9 : ∀ w ∈ u_ws RX9 TX9 6, w ∈ wsL_asks := by decide +kernel
  have hn12 := hC.1.2
  refine lv_iload_n hx hb dL_asks_0 rfl (lv_at hl 1 rfl) ?_
  refine lv_if_ne (tgt := 12) hx hb dL_asks_1 (by decide) (fun c1 => ?_) (fun c1 => ?_)
  · skip
    refine lv_iload_n hx hb dL_asks_12 rfl (lv_at hl 1 rfl) ?_
    refine lv_iconst (v := nI 1) hx hb dL_asks_13 (by decide) ?_
    refine lv_icmp_ne (tgt := 25) hx hb dL_asks_14 (by decide) (fun c14 => ?_) (fun c14 => ?_)
    · skip
      refine lv_iload_n hx hb dL_asks_25 rfl (lv_at hl 1 rfl) ?_
      refine lv_iconst (v := nI 2) hx hb dL_asks_26 (by decide) ?_
      refine lv_icmp_ne (tgt := 37) hx hb dL_asks_27 (by decide) (fun c27 => ?_) (fun c27 => ?_)
      · skip
        refine lv_iload_n hx hb dL_asks_37 rfl (lv_at hl 1 rfl) ?_
        refine lv_iconst (v := nI 3) hx hb dL_asks_38 (by decide) ?_
        refine lv_icmp_ne (tgt := 50) hx hb dL_asks_39 (by decide) (fun c39 => ?_) (fun c39 => ?_)
        · skip
          exact absurd c39 (by decide)
        · skip
          refine lv_aload_n hx hb dL_asks_42 rfl (lv_at hl 0 rfl) ?_
          refine lv_iload_n hx hb dL_asks_43 rfl (lv_at hl 2 rfl) ?_
          have hPq := g_pre hE hG (.ref (ad 0) :: [.int (nI iq)])
          refine gx_fin (rest := []) (vx_runV (C := RX9) (b := ad 0) (As := [.int (nI iq)]) (rest := []) (g := F0 mM _ ls _) ⟨hx, hb, hml, hown, hts⟩ (cX9_derivedValueC l D cy base ad n A J G n ((iq : Nat) : Int) (by first | assumption | omega) (by first | assumption | omega) hC (by first | assumption | omega)) (cwV 1 hts gL_asks_X9_derivedValue rfl rfl rfl (by decide +kernel) ⟨(Nat.le_of_ble_eq_true rfl), (Nat.le_of_ble_eq_true rfl)⟩) ⟨hPq.1, g_recv hE hG (k := 0) (r := (RX9, TX9, 6)) (by omega) rfl rfl, hPq.2⟩ rfl rfl hl.1 rfl (Nat.le_of_ble_eq_true rfl) dL_asks_44 ⟨(Nat.le_of_ble_eq_true rfl), (Nat.le_of_ble_eq_true rfl)⟩) hG.2.2 (fun e9 ce q9 A44 J44 H locs hp hB hS hce hv hcl => ?_) (fun v9 u9 t9 H locs ht hp hB hz hS => ?_)
          · have hG : gH D base sM ad (33 + 2 * n) (gw cy ad n A44 J44) H locs := ⟨hB, gl_D hG.2.1, hS⟩
            rcases hp with ⟨rfl, rfl, rfl, hno_44⟩ | ⟨rfl, rfl, hno_44, hO_44⟩
            · skip
              exfalso; omega
            · skip
              refine vx_catch (own := RL) (name := "java/util/NoSuchElementException") hown [] ⟨0, 55, 56, 29⟩ [] htab (fun z h => nomatch h) (by decide) (by decide) (hts (.classLink RL 29 "java/util/NoSuchElementException") (List.mem_of_getElem? (i := 1) rfl)) (vx_self (k := 6) (hts _ ((fun h9 => List.mem_cons_of_mem _ (List.mem_append_left _ (List.mem_append_right _ h9))) (show Cond.instantiable "java/util/NoSuchElementException" 6 ∈ (vx_at0 RX9 159 "java/util/NoSuchElementException" vxN).filter goodWord from by decide +kernel)))) hce hv hcl ?_
              refine lv_astore_n (lv' := [(3, .ref q9), (0, .ref (ad 0)), (1, .int (nI 3)), (2, .int (nI iq))]) hx hb dL_asks_56 rfl hl (by decide) rfl (fun ls hl => ?_)
              refine lv_ldc (v := -5000000) hx hb hown (hts (.constant RL 31 (-5000000)) (List.mem_of_getElem? (i := 2) rfl)) dL_asks_57 ?_
              refine g_top (y := zI (-5000000)) (by decide) ?_
              exact gx_iret hx hb hr hlocks hG (by show 1 ≤ 2; omega) (by show 6 ≤ 12; omega) ⟨(ret_i (if_neg (by have h9 := hno_44.2.2; rw [Int.toNat_natCast] at h9; omega)).symm), rfl, hO_44⟩ dL_asks_59
          · obtain ⟨A44, J44⟩ := u9
            have hG : gH D base sM ad (33 + 2 * n) (gw cy ad n A44 J44) H locs := ⟨by rw [← ht]; exact hB, gl_D hG.2.1, hS⟩
            obtain ⟨iq_44, rfl, rfl, hiq_44, hO_44⟩ := hp
            refine W.eq (g2 := F0 mM 47 ls [.int (zI (mDers G 47 iq_44))]) rfl ?_
            obtain rfl : iq = iq_44 := by omega
            refine lv_goto (tgt := 55) hx hb dL_asks_47 (by decide) ?_
            exact gx_iret hx hb hr hlocks hG (by show 1 ≤ 2; omega) (by show 6 ≤ 12; omega) ⟨(ret_i (if_pos hiq_44.2.2).symm), rfl, hO_44⟩ dL_asks_55
      · skip
        exact absurd c27 (by decide)
    · skip
      exact absurd c14 (by decide)
  · skip
    exact absurd c1 (by decide)

abbrev PL_asks_dtime (ad : Nat → Nat) (A : Nat → Nat → Int32) (J : Nat → Nat → Int64) (G : Nat → Nat → Int) (iq : Nat) : Option Value → (Nat → Nat → Int32) → (Nat → Nat → Int64) → Prop := fun v_ A1 J1 => (v_ = some (.int (zI (if mDers G 46 iq = 1 then mDers G 48 iq else -5000000))) ∧ J = J1 ∧ (∀ k, k < 12 ∨ 28 ≤ k ∨ k % 2 = 0 → A1 k = A k))
set_option maxHeartbeats 4000000 in
set_option maxRecDepth 100000 in
theorem cL_asks_dtimeC (l : Launch) (D : va_G) (cy : Nat → ClassId) (base : Nat) (ad : Nat → Nat) (n : Nat) (A : Nat → Nat → Int32) (J : Nat → Nat → Int64) (G : Nat → Nat → Int) (iq : Nat) (hst : l.stackTraces = false) (hC : CAll n A J G) (hi : iq < 8) : gMetX l yL_asks wsL_asks ({ frames := 8, cells := 2, slots := 12, locals := 198 } : Room) D cy base ad n A J [.ref (ad 0), .int (nI 4), .int (nI iq)] (PL_asks_dtime ad A J G iq) pxNo 2 12 := by
  refine gT_ofW (cc := cL_asks) (maxL := 4) (ret := (some .int)) (hh := [(0, 55, 56, 29)]) (by decide) rfl (Nat.le_of_ble_eq_true rfl) ?_
  intro pM eM sM mM aM bM methM cM H locs ls hx hb hr hts hown hlocks hml htab hE hG hl
  have hl : lv_has ls 4 [(0, .ref (ad 0)), (1, .int (nI 4)), (2, .int (nI iq))] := hl
  have hinX0 : ∀ w ∈ u_ws RX0 TX0 5, w ∈ wsL_asks := by decide +kernel
  have hinX1 : ∀ w ∈ u_ws RX1 TX1 5, w ∈ wsL_asks := by decide +kernel
  have hinX2 : ∀ w ∈ u_ws RX2 TX2 1, w ∈ wsL_asks := by decide +kernel
  have hinX4 : ∀ w ∈ u_ws RX4 TX4 10, w ∈ wsL_asks := by decide +kernel
  have hinX5 : ∀ w ∈ u_ws RX5 TX5 3, w ∈ wsL_asks := by decide +kernel
  have hinX6 : ∀ w ∈ u_ws RX6 TX6 3, w ∈ wsL_asks := by decide +kernel
  have hinX9 : ∀ w ∈ u_ws RX9 TX9 6, w ∈ wsL_asks := by decide +kernel
  have hn12 := hC.1.2
  refine lv_iload_n hx hb dL_asks_0 rfl (lv_at hl 1 rfl) ?_
  refine lv_if_ne (tgt := 12) hx hb dL_asks_1 (by decide) (fun c1 => ?_) (fun c1 => ?_)
  · skip
    refine lv_iload_n hx hb dL_asks_12 rfl (lv_at hl 1 rfl) ?_
    refine lv_iconst (v := nI 1) hx hb dL_asks_13 (by decide) ?_
    refine lv_icmp_ne (tgt := 25) hx hb dL_asks_14 (by decide) (fun c14 => ?_) (fun c14 => ?_)
    · skip
      refine lv_iload_n hx hb dL_asks_25 rfl (lv_at hl 1 rfl) ?_
      refine lv_iconst (v := nI 2) hx hb dL_asks_26 (by decide) ?_
      refine lv_icmp_ne (tgt := 37) hx hb dL_asks_27 (by decide) (fun c27 => ?_) (fun c27 => ?_)
      · skip
        refine lv_iload_n hx hb dL_asks_37 rfl (lv_at hl 1 rfl) ?_
        refine lv_iconst (v := nI 3) hx hb dL_asks_38 (by decide) ?_
        refine lv_icmp_ne (tgt := 50) hx hb dL_asks_39 (by decide) (fun c39 => ?_) (fun c39 => ?_)
        · skip
          refine lv_aload_n hx hb dL_asks_50 rfl (lv_at hl 0 rfl) ?_
          refine lv_iload_n hx hb dL_asks_51 rfl (lv_at hl 2 rfl) ?_
          have hPq := g_pre hE hG (.ref (ad 0) :: [.int (nI iq)])
          refine gx_fin (rest := []) (vx_runV (C := RX9) (b := ad 0) (As := [.int (nI iq)]) (rest := []) (g := F0 mM _ ls _) ⟨hx, hb, hml, hown, hts⟩ (cX9_derivedTimeC l D cy base ad n A J G n ((iq : Nat) : Int) (by first | assumption | omega) (by first | assumption | omega) hC (by first | assumption | omega)) (cwV 1 hts gL_asks_X9_derivedTime rfl rfl rfl (by decide +kernel) ⟨(Nat.le_of_ble_eq_true rfl), (Nat.le_of_ble_eq_true rfl)⟩) ⟨hPq.1, g_recv hE hG (k := 0) (r := (RX9, TX9, 6)) (by omega) rfl rfl, hPq.2⟩ rfl rfl hl.1 rfl (Nat.le_of_ble_eq_true rfl) dL_asks_52 ⟨(Nat.le_of_ble_eq_true rfl), (Nat.le_of_ble_eq_true rfl)⟩) hG.2.2 (fun e9 ce q9 A52 J52 H locs hp hB hS hce hv hcl => ?_) (fun v9 u9 t9 H locs ht hp hB hz hS => ?_)
          · have hG : gH D base sM ad (33 + 2 * n) (gw cy ad n A52 J52) H locs := ⟨hB, gl_D hG.2.1, hS⟩
            rcases hp with ⟨rfl, rfl, rfl, hno_52⟩ | ⟨rfl, rfl, hno_52, hO_52⟩
            · skip
              exfalso; omega
            · skip
              refine vx_catch (own := RL) (name := "java/util/NoSuchElementException") hown [] ⟨0, 55, 56, 29⟩ [] htab (fun z h => nomatch h) (by decide) (by decide) (hts (.classLink RL 29 "java/util/NoSuchElementException") (List.mem_of_getElem? (i := 1) rfl)) (vx_self (k := 6) (hts _ ((fun h9 => List.mem_cons_of_mem _ (List.mem_append_left _ (List.mem_append_right _ h9))) (show Cond.instantiable "java/util/NoSuchElementException" 6 ∈ (vx_at0 RX9 159 "java/util/NoSuchElementException" vxN).filter goodWord from by decide +kernel)))) hce hv hcl ?_
              refine lv_astore_n (lv' := [(3, .ref q9), (0, .ref (ad 0)), (1, .int (nI 4)), (2, .int (nI iq))]) hx hb dL_asks_56 rfl hl (by decide) rfl (fun ls hl => ?_)
              refine lv_ldc (v := -5000000) hx hb hown (hts (.constant RL 31 (-5000000)) (List.mem_of_getElem? (i := 2) rfl)) dL_asks_57 ?_
              refine g_top (y := zI (-5000000)) (by decide) ?_
              exact gx_iret hx hb hr hlocks hG (by show 1 ≤ 2; omega) (by show 6 ≤ 12; omega) ⟨(ret_i (if_neg (by have h9 := hno_52.2.2; rw [Int.toNat_natCast] at h9; omega)).symm), rfl, hO_52⟩ dL_asks_59
          · obtain ⟨A52, J52⟩ := u9
            have hG : gH D base sM ad (33 + 2 * n) (gw cy ad n A52 J52) H locs := ⟨by rw [← ht]; exact hB, gl_D hG.2.1, hS⟩
            obtain ⟨iq_52, rfl, rfl, hiq_52, hO_52⟩ := hp
            refine W.eq (g2 := F0 mM 55 ls [.int (zI (mDers G 48 iq_52))]) rfl ?_
            obtain rfl : iq = iq_52 := by omega
            exact gx_iret hx hb hr hlocks hG (by show 1 ≤ 2; omega) (by show 6 ≤ 12; omega) ⟨(ret_i (if_pos hiq_52.2.2).symm), rfl, hO_52⟩ dL_asks_55
        · skip
          exact absurd c39 (by decide)
      · skip
        exact absurd c27 (by decide)
    · skip
      exact absurd c14 (by decide)
  · skip
    exact absurd c1 (by decide)

abbrev PL_sets (ad : Nat → Nat) (A : Nat → Nat → Int32) (J : Nat → Nat → Int64) (G : Nat → Nat → Int) (nq dN oN fN sN : Nat) : Option Value → (Nat → Nat → Int32) → (Nat → Nat → Int64) → Prop := fun v_ A1 J1 => (v_ = some (.int (nI 1)) ∧ J = J1 ∧ (¬ (mReach G (fN : Int) (sN : Int)).testBit dN = true) ∧ (CAll nq A1 J1 (gu (gu (gu G 43 dN (oN : Int)) 44 dN (fN : Int)) 45 dN (sN : Int))) ∧ (∀ k, 28 ≤ k → A1 k = A k)) ∨ (v_ = some (.int (nI 0)) ∧ A = A1 ∧ J = J1 ∧ ((mReach G (fN : Int) (sN : Int)).testBit dN = true))
set_option maxHeartbeats 4000000 in
set_option maxRecDepth 100000 in
theorem cL_setsC (l : Launch) (D : va_G) (cy : Nat → ClassId) (base : Nat) (ad : Nat → Nat) (n : Nat) (A : Nat → Nat → Int32) (J : Nat → Nat → Int64) (G : Nat → Nat → Int) (nq dN oN fN sN : Nat) (hst : l.stackTraces = false) (hnq : nq = n) (hC : CAll nq A J G) (hg9 : dN < 8 ∧ oN < 5 ∧ isOp (fN : Int) ∧ isOp (sN : Int)) : gMetX l yL_sets wsL_sets ({ frames := 7, cells := 1, slots := 6, locals := 124 } : Room) D cy base ad n A J [.ref (ad 0), .int (nI dN), .int (nI oN), .int (nI fN), .int (nI sN)] (PL_sets ad A J G nq dN oN fN sN) pxNo 1 6 := by
  refine gT_ofW (cc := cL_sets) (maxL := 6) (ret := (some .boolean)) (hh := [(0, 10, 11, 36)]) (by decide) rfl (Nat.le_of_ble_eq_true rfl) ?_
  intro pM eM sM mM aM bM methM cM H locs ls hx hb hr hts hown hlocks hml htab hE hG hl
  have hl : lv_has ls 6 [(0, .ref (ad 0)), (1, .int (nI dN)), (2, .int (nI oN)), (3, .int (nI fN)), (4, .int (nI sN))] := hl
  have hinX1 : ∀ w ∈ u_ws RX1 TX1 5, w ∈ wsL_sets := by decide +kernel
  have hinX2 : ∀ w ∈ u_ws RX2 TX2 1, w ∈ wsL_sets := by decide +kernel
  have hinX9 : ∀ w ∈ u_ws RX9 TX9 6, w ∈ wsL_sets := by decide +kernel
  refine lv_aload_n hx hb dL_sets_0 rfl (lv_at hl 0 rfl) ?_
  refine lv_iload_n hx hb dL_sets_1 rfl (lv_at hl 1 rfl) ?_
  refine lv_iload_n hx hb dL_sets_2 rfl (lv_at hl 2 rfl) ?_
  refine lv_iload_n hx hb dL_sets_3 rfl (lv_at hl 3 rfl) ?_
  refine lv_iload hx hb dL_sets_4 (lv_at hl 4 rfl) ?_
  have hPq := g_pre hE hG (.ref (ad 0) :: [.int (nI dN), .int (nI oN), .int (nI fN), .int (nI sN)])
  refine gx_fin (rest := []) (vx_runV (C := RX9) (b := ad 0) (As := [.int (nI dN), .int (nI oN), .int (nI fN), .int (nI sN)]) (rest := []) (g := F0 mM _ ls _) ⟨hx, hb, hml, hown, hts⟩ (cX9_deriveC l D cy base ad n A J G nq (dN : Int) (oN : Int) (fN : Int) (sN : Int) (by first | assumption | omega) (by first | assumption | omega) (by first | assumption | omega) (by first | assumption | omega) (by first | assumption | omega) (by first | assumption | omega) (by first | assumption | omega)) (cwV 4 hts gL_sets_X9_derive rfl rfl rfl (by decide +kernel) ⟨(Nat.le_of_ble_eq_true rfl), (Nat.le_of_ble_eq_true rfl)⟩) ⟨hPq.1, g_recv hE hG (k := 0) (r := (RX9, TX9, 6)) (by omega) rfl rfl, hPq.2⟩ rfl rfl hl.1 rfl (Nat.le_of_ble_eq_true rfl) dL_sets_6 ⟨(Nat.le_of_ble_eq_true rfl), (Nat.le_of_ble_eq_true rfl)⟩) hG.2.2 (fun e9 ce q9 A6 J6 H locs hp hB hS hce hv hcl => ?_) (fun v9 u9 t9 H locs ht hp hB hz hS => ?_)
  · have hG : gH D base sM ad (33 + 2 * n) (gw cy ad n A6 J6) H locs := ⟨hB, gl_D hG.2.1, hS⟩
    rcases hp with ⟨rfl, rfl, rfl, hno_6⟩ | ⟨rfl, rfl, rfl, hg_6, hre_6⟩
    · skip
      exact absurd ⟨by omega, by omega, by omega, by omega, hg9.2.2.1, hg9.2.2.2⟩ hno_6
    · skip
      refine vx_catch (own := RL) (name := "java/lang/IllegalStateException") hown [] ⟨0, 10, 11, 36⟩ [] htab (fun z h => nomatch h) (by decide) (by decide) (hts (.classLink RL 36 "java/lang/IllegalStateException") (List.mem_of_getElem? (i := 1) rfl)) (vx_self (k := 6) (hts _ ((fun h9 => List.mem_cons_of_mem _ (List.mem_append_right _ h9)) (show Cond.instantiable "java/lang/IllegalStateException" 6 ∈ (vx_at0 RX9 67 "java/lang/IllegalStateException" vxN).filter goodWord from by decide +kernel)))) hce hv hcl ?_
      refine lv_astore (lv' := [(5, .ref q9), (0, .ref (ad 0)), (1, .int (nI dN)), (2, .int (nI oN)), (3, .int (nI fN)), (4, .int (nI sN))]) hx hb dL_sets_11 hl (by decide) rfl (fun ls hl => ?_)
      refine lv_iconst (v := nI 0) hx hb dL_sets_13 (by decide) ?_
      exact gx_zret hx hb hr hlocks hG rfl (by show 1 ≤ 1; omega) (by show 6 ≤ 6; omega) (Or.inr ⟨rfl, rfl, rfl, hre_6⟩) dL_sets_14
  · obtain ⟨A6, J6⟩ := u9
    have hG : gH D base sM ad (33 + 2 * n) (gw cy ad n A6 J6) H locs := ⟨by rw [← ht]; exact hB, gl_D hG.2.1, hS⟩
    obtain ⟨rfl, rfl, hg_6, hnr_6, hC1_6, hO_6⟩ := hp
    refine W.eq (g2 := F0 mM 9 ls []) rfl ?_
    refine lv_iconst (v := nI 1) hx hb dL_sets_9 (by decide) ?_
    exact gx_zret hx hb hr hlocks hG rfl (by show 1 ≤ 1; omega) (by show 6 ≤ 6; omega) (Or.inl ⟨rfl, rfl, hnr_6, hC1_6, hO_6⟩) dL_sets_10

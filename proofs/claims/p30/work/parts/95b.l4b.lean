abbrev PL_areDerived (ad : Nat → Nat) (A : Nat → Nat → Int32) (J : Nat → Nat → Int64) (G : Nat → Nat → Int) (nq : Nat) : Option Value → (Nat → Nat → Int32) → (Nat → Nat → Int64) → Prop := fun v_ A1 J1 => (v_ = some (.int (nI 1)) ∧ J = J1 ∧ (∀ k, k < 12 ∨ 28 ≤ k ∨ k % 2 = 0 → A1 k = A k))
set_option maxHeartbeats 4000000 in
set_option maxRecDepth 100000 in
theorem cL_areDerivedC (l : Launch) (D : va_G) (cy : Nat → ClassId) (base : Nat) (ad : Nat → Nat) (n : Nat) (A : Nat → Nat → Int32) (J : Nat → Nat → Int64) (G : Nat → Nat → Int) (nq : Nat) (hst : l.stackTraces = false) (hnq : nq = n) (hC : CAll nq A J G) (hd9 : ∀ k, k < 8 → A 32 k = nI (dN G k)) : gMetX l yL_areDerived wsL_areDerived ({ frames := 9, cells := 96, slots := 576, locals := 221 } : Room) D cy base ad n A J [.ref (ad 0), .ref (ad 32)] (PL_areDerived ad A J G nq) pxNo 96 576 := by
  refine gx_ofW (cc := cL_areDerived) (maxL := 15) (ret := (some .boolean)) (by decide) rfl (Nat.le_of_ble_eq_true rfl) ?_
  intro pM eM sM mM aM bM methM cM H locs ls hx hb hr hts hown hlocks hml hout hE hG hl
  have hl : lv_has ls 15 [(0, .ref (ad 0)), (1, .ref (ad 32))] := hl
  have hinX0 : ∀ w ∈ u_ws RX0 TX0 5, w ∈ wsL_areDerived := by decide +kernel
  have hinX1 : ∀ w ∈ u_ws RX1 TX1 5, w ∈ wsL_areDerived := by decide +kernel
  have hinX2 : ∀ w ∈ u_ws RX2 TX2 1, w ∈ wsL_areDerived := by decide +kernel
  have hinX4 : ∀ w ∈ u_ws RX4 TX4 10, w ∈ wsL_areDerived := by decide +kernel
  have hinX5 : ∀ w ∈ u_ws RX5 TX5 3, w ∈ wsL_areDerived := by decide +kernel
  have hinX6 : ∀ w ∈ u_ws RX6 TX6 3, w ∈ wsL_areDerived := by decide +kernel
  have hinX9 : ∀ w ∈ u_ws RX9 TX9 6, w ∈ wsL_areDerived := by decide +kernel
  have hC : CAll n A J G := by rw [← hnq]; exact hC
  obtain ⟨-, -, h41b, -, -, -, -, -, -, -, -, hdv, hdr, -, -, hn, -⟩ := hC.bd
  have hdD := (Ders_st hdv hdr).2.1
  have hn9 := hC.1.2
  refine lv_iconst (v := nI 1) hx hb dL_areDerived_0 (by decide) ?_
  refine lv_istore_n (lv' := [(2, .int (nI 1)), (0, .ref (ad 0)), (1, .ref (ad 32))]) hx hb dL_areDerived_1 rfl hl (by decide) rfl (fun ls hl => ?_)
  refine lv_iconst (v := nI 0) hx hb dL_areDerived_2 (by decide) ?_
  refine lv_istore_n (lv' := [(3, .int (nI 0)), (2, .int (nI 1)), (0, .ref (ad 0)), (1, .ref (ad 32))]) hx hb dL_areDerived_3 rfl hl (by decide) rfl (fun ls hl => ?_)
  have LLq4 : ∀ (fuel : Nat) (kq : Nat) (Aq : Nat → Nat → Int32) (hkq : kq ≤ 8) (hOq : ∀ k, k < 12 ∨ 28 ≤ k ∨ k % 2 = 0 → Aq k = A k) (_ : (8 - kq) < fuel) (H : Heap) (locs : List Loc) (ls : Array Slot), gH D base sM ad (33 + 2 * n) (gw cy ad n Aq J) H locs → lv_has ls 15 [(0, .ref (ad 0)), (1, .ref (ad 32)), (2, .int (nI 1)), (3, .int (nI kq))] → W pM l eM ({ frames := 9, cells := 96, slots := 576, locals := 221 } : Room) sM mM aM bM methM cM H locs (12 * kq) (72 * kq) (vx_MQ bM (gPost D cy base ad n (PL_areDerived ad A J G nq)) (gXC D cy base ad n (pxNo)) aM sM 96 576 (fun q => base ≤ q)) (F0 mM 4 ls []) := by
    intro fuel
    induction fuel with
    | zero => intro kq Aq hkq hOq hms H locs ls hG hl; exact absurd hms (Nat.not_lt_zero _)
    | succ fuel ihq4 =>
      intro kq Aq hkq hOq hms H locs ls hG hl
      refine lv_iload_n hx hb dL_areDerived_4 rfl (lv_at hl 3 rfl) ?_
      refine lv_bipush (v := nI 8) hx hb dL_areDerived_5 (by decide) ?_
      refine lv_icmp_ge (tgt := 428) hx hb dL_areDerived_7 (by decide) (fun c7 => ?_) (fun c7 => ?_)
      · skip
        have c7 : 8 ≤ kq := (nI_leI (by omega) (by omega)).mp c7
        refine lv_iload_n hx hb dL_areDerived_428 rfl (lv_at hl 2 rfl) ?_
        exact gx_zret hx hb hr hlocks hG rfl (by show 12 * kq ≤ 96; omega) (by show 72 * kq ≤ 576; omega) ⟨rfl, rfl, hOq⟩ dL_areDerived_429
      · skip
        have c7 : ¬ (8 ≤ kq) := fun z9 => c7 ((nI_leI (by omega) (by omega)).mpr z9)
        have hfx := Ders_fix hdv hdr (k := kq) (by omega)
        have hdl := dN_lt hdv kq
        refine lv_iload_n hx hb dL_areDerived_10 rfl (lv_at hl 2 rfl) ?_
        refine lv_if_eq (tgt := 428) hx hb dL_areDerived_11 (by decide) (fun c11 => ?_) (fun c11 => ?_)
        · skip
          exact absurd c11 (by decide)
        · skip
          refine lv_aload_n hx hb dL_areDerived_14 rfl (lv_at hl 1 rfl) ?_
          refine lv_iload_n hx hb dL_areDerived_15 rfl (lv_at hl 3 rfl) ?_
          refine g_iald hx hb hE hG (k := 32) (by omega) rfl kq (rfl) (by omega) (by omega) dL_areDerived_16 ?_
          refine g_top (y := nI (dN G kq)) ((congrFun ((by assumption : ∀ k, k < 12 ∨ 28 ≤ k ∨ k % 2 = 0 → Aq k = A k) 32 (by omega)) kq).trans (hd9 kq (by omega))) ?_
          refine lv_bipush (v := nI 10) hx hb dL_areDerived_17 (by decide) ?_
          refine lv_ishr hx hb dL_areDerived_19 ?_
          refine g_top (y := nI (dN G kq / 1024)) (dN_sh hdv kq) ?_
          refine lv_sipush (v := nI 1023) hx hb dL_areDerived_20 (by decide) ?_
          refine lv_iand hx hb dL_areDerived_23 ?_
          refine g_top (y := nI (dN G kq / 1024 % 1024)) (n_and (by omega)) ?_
          obtain ⟨aN, haN⟩ : ∃ k : Nat, dN G kq / 1024 % 1024 = k := ⟨_, rfl⟩
          refine g_top (y := nI aN) (by rw [haN]) ?_
          have haN3 : LAn G kq aN (G 44 kq) := by rw [← haN]; exact dN_a hdv kq
          refine lv_istore (lv' := [(4, .int (nI aN)), (0, .ref (ad 0)), (1, .ref (ad 32)), (2, .int (nI 1)), (3, .int (nI kq))]) hx hb dL_areDerived_24 hl (by decide) rfl (fun ls hl => ?_)
          refine lv_aload_n hx hb dL_areDerived_26 rfl (lv_at hl 2 rfl) ?_
          refine lv_iload_n hx hb dL_areDerived_27 rfl (lv_at hl 4 rfl) ?_
          refine g_iald hx hb hE hG (k := 32) (by omega) rfl kq (rfl) (by omega) (by omega) dL_areDerived_28 ?_
          refine g_top (y := nI (dN G kq)) ((congrFun ((by assumption : ∀ k, k < 12 ∨ 28 ≤ k ∨ k % 2 = 0 → Aq k = A k) 32 (by omega)) kq).trans (hd9 kq (by omega))) ?_
          refine lv_sipush (v := nI 1023) hx hb dL_areDerived_29 (by decide) ?_
          refine lv_iand hx hb dL_areDerived_32 ?_
          refine g_top (y := nI (dN G kq % 1024)) (n_and (by omega)) ?_
          obtain ⟨bN, hbN⟩ : ∃ k : Nat, dN G kq % 1024 = k := ⟨_, rfl⟩
          refine g_top (y := nI bN) (by rw [hbN]) ?_
          have hbN3 : LAn G kq bN (G 45 kq) := by rw [← hbN]; exact dN_b hdv kq
          refine lv_istore (lv' := [(5, .int (nI bN)), (4, .int (nI aN)), (0, .ref (ad 0)), (1, .ref (ad 32)), (2, .int (nI 1)), (3, .int (nI kq))]) hx hb dL_areDerived_33 hl (by decide) rfl (fun ls hl => ?_)
          have LLq91 : ∀  (x1 : Int) (Ao : Nat → Nat → Int32) (hOo : ∀ k, k < 12 ∨ 28 ≤ k ∨ k % 2 = 0 → Ao k = A k) (hx1 : LHs G kq (G 44 kq) x1) (hx1r : -5000000 ≤ x1 ∧ x1 ≤ 1000000000) (H : Heap) (locs : List Loc) (ls : Array Slot), gH D base sM ad (33 + 2 * n) (gw cy ad n Ao J) H locs → lv_has ls 15 [(0, .ref (ad 0)), (1, .ref (ad 32)), (2, .int (nI 1)), (3, .int (nI kq)), (4, .int (nI aN)), (5, .int (nI bN))] → W pM l eM ({ frames := 9, cells := 96, slots := 576, locals := 221 } : Room) sM mM aM bM methM cM H locs (12 * kq + 2) (72 * kq + 12) (vx_MQ bM (gPost D cy base ad n (PL_areDerived ad A J G nq)) (gXC D cy base ad n (pxNo)) aM sM 96 576 (fun q => base ≤ q)) (F0 mM 91 ls [.long (zL x1)]) := by
            intro x1 Ao hOo hx1 hx1r H locs ls hG hl
            refine lv_lstore (lv' := [(6, .long (zL x1)), (0, .ref (ad 0)), (1, .ref (ad 32)), (2, .int (nI 1)), (3, .int (nI kq)), (4, .int (nI aN)), (5, .int (nI bN))]) hx hb dL_areDerived_91 hl (by decide) rfl (fun ls hl => ?_)
            have LLq149 : ∀  (x2 : Int) (Ap : Nat → Nat → Int32) (hOp : ∀ k, k < 12 ∨ 28 ≤ k ∨ k % 2 = 0 → Ap k = A k) (hx2 : LHs G kq (G 45 kq) x2) (hx2r : -5000000 ≤ x2 ∧ x2 ≤ 1000000000) (H : Heap) (locs : List Loc) (ls : Array Slot), gH D base sM ad (33 + 2 * n) (gw cy ad n Ap J) H locs → lv_has ls 15 [(0, .ref (ad 0)), (1, .ref (ad 32)), (2, .int (nI 1)), (3, .int (nI kq)), (4, .int (nI aN)), (5, .int (nI bN)), (6, .long (zL x1))] → W pM l eM ({ frames := 9, cells := 96, slots := 576, locals := 221 } : Room) sM mM aM bM methM cM H locs (12 * kq + 4) (72 * kq + 24) (vx_MQ bM (gPost D cy base ad n (PL_areDerived ad A J G nq)) (gXC D cy base ad n (pxNo)) aM sM 96 576 (fun q => base ≤ q)) (F0 mM 149 ls [.long (zL x2)]) := by
              intro x2 Ap hOp hx2 hx2r H locs ls hG hl
              refine lv_lstore (lv' := [(8, .long (zL x2)), (0, .ref (ad 0)), (1, .ref (ad 32)), (2, .int (nI 1)), (3, .int (nI kq)), (4, .int (nI aN)), (5, .int (nI bN)), (6, .long (zL x1))]) hx hb dL_areDerived_149 hl (by decide) rfl (fun ls hl => ?_)
              have LLq169 : ∀   (hnc : ¬ mDers G 46 kq = 1) (H : Heap) (locs : List Loc) (ls : Array Slot), gH D base sM ad (33 + 2 * n) (gw cy ad n Ap J) H locs → lv_has ls 15 [(0, .ref (ad 0)), (1, .ref (ad 32)), (2, .int (nI 1)), (3, .int (nI kq)), (4, .int (nI aN)), (5, .int (nI bN)), (6, .long (zL x1)), (8, .long (zL x2))] → W pM l eM ({ frames := 9, cells := 96, slots := 576, locals := 221 } : Room) sM mM aM bM methM cM H locs (12 * kq + 4) (72 * kq + 24) (vx_MQ bM (gPost D cy base ad n (PL_areDerived ad A J G nq)) (gXC D cy base ad n (pxNo)) aM sM 96 576 (fun q => base ≤ q)) (F0 mM 169 ls []) := by
                intro hnc H locs ls hG hl
                refine lv_aload_n hx hb dL_areDerived_169 rfl (lv_at hl 0 rfl) ?_
                refine lv_iconst (v := nI 3) hx hb dL_areDerived_170 (by decide) ?_
                refine lv_iload_n hx hb dL_areDerived_171 rfl (lv_at hl 3 rfl) ?_
                refine gN_callT (As := [.ref (ad 0), .int (nI 3), .int (nI kq)]) (rest := []) ⟨hx, hb, hml, hown, hts⟩ hE hG (cL_asks_dvalC l D cy base ad n Ap J G kq (by first | assumption | omega) (hC.dersG (by assumption)) (by first | assumption | omega)) (vx_cwSW 3 hts gL_areDerived_L_asks rfl rfl rfl (by decide +kernel) ⟨Nat.le_of_ble_eq_true rfl, Nat.le_of_ble_eq_true rfl⟩) rfl hl.1 rfl (Nat.le_of_ble_eq_true rfl) dL_areDerived_172 ⟨(by show 12 * kq + 6 ≤ 96; omega), (by show 72 * kq + 36 ≤ 576; omega)⟩ (fun _ _ _ hz => hz) (fun v_ A172 J172 H locs hp hG => W.widen (k := 12 * kq + 6) (n := 72 * kq + 36) (by omega) (by omega) ?_)
                obtain ⟨rfl, rfl, hO_172⟩ := hp
                refine W.eq (g2 := F0 mM 175 ls [.int (zI (if mDers G 46 kq = 1 then mDers G 47 kq else -5000000))]) rfl ?_
                have hK172 : ∀ k, k < 12 ∨ 28 ≤ k ∨ k % 2 = 0 → A172 k = A k := fun k hk => (hO_172 k hk).trans ((by assumption : ∀ k, k < 12 ∨ 28 ≤ k ∨ k % 2 = 0 → Ap k = A k) k hk)
                obtain ⟨v9, hv9⟩ : ∃ x : Int, (if mDers G 46 kq = 1 then mDers G 47 kq else -5000000) = x := ⟨_, rfl⟩
                have hv9r : -5000000 ≤ v9 ∧ v9 ≤ 1000000000 := by
                  have h9 := hdD kq
                  rw [← hv9]
                  split <;> omega
                refine g_top (y := zI v9) (by rw [hv9]) ?_
                refine lv_ldc (v := -5000000) hx hb hown (hts (.constant RL 31 (-5000000)) (List.mem_of_getElem? (i := 2) rfl)) dL_areDerived_175 ?_
                refine g_top (y := zI (-5000000)) (by decide) ?_
                refine lv_icmp_ne (tgt := 195) hx hb dL_areDerived_177 (by decide) (fun c177 => ?_) (fun c177 => ?_)
                · skip
                  have c177 : ¬ (v9 = (-5000000)) := fun z9 => c177 ((cmp_eq (zI_toInt (by omega) (by omega)) (zI_toInt (by omega) (by omega))).mpr z9)
                  rw [if_neg hnc] at hv9; exact absurd hv9.symm c177
                · skip
                  have c177 : v9 = (-5000000) := (cmp_eq (zI_toInt (by omega) (by omega)) (zI_toInt (by omega) (by omega))).mp c177
                  refine lv_aload_n hx hb dL_areDerived_180 rfl (lv_at hl 0 rfl) ?_
                  refine lv_iconst (v := nI 4) hx hb dL_areDerived_181 (by decide) ?_
                  refine lv_iload_n hx hb dL_areDerived_182 rfl (lv_at hl 3 rfl) ?_
                  refine gN_callT (As := [.ref (ad 0), .int (nI 4), .int (nI kq)]) (rest := []) ⟨hx, hb, hml, hown, hts⟩ hE hG (cL_asks_dtimeC l D cy base ad n A172 J G kq (by first | assumption | omega) (hC.dersG (by assumption)) (by first | assumption | omega)) (vx_cwSW 3 hts gL_areDerived_L_asks rfl rfl rfl (by decide +kernel) ⟨Nat.le_of_ble_eq_true rfl, Nat.le_of_ble_eq_true rfl⟩) rfl hl.1 rfl (Nat.le_of_ble_eq_true rfl) dL_areDerived_183 ⟨(by show 12 * kq + 8 ≤ 96; omega), (by show 72 * kq + 48 ≤ 576; omega)⟩ (fun _ _ _ hz => hz) (fun v_ A183 J183 H locs hp hG => W.widen (k := 12 * kq + 8) (n := 72 * kq + 48) (by omega) (by omega) ?_)
                  obtain ⟨rfl, rfl, hO_183⟩ := hp
                  refine W.eq (g2 := F0 mM 186 ls [.int (zI (if mDers G 46 kq = 1 then mDers G 48 kq else -5000000))]) rfl ?_
                  have hK183 : ∀ k, k < 12 ∨ 28 ≤ k ∨ k % 2 = 0 → A183 k = A k := fun k hk => (hO_183 k hk).trans ((by assumption : ∀ k, k < 12 ∨ 28 ≤ k ∨ k % 2 = 0 → A172 k = A k) k hk)
                  obtain ⟨w9, hw9⟩ : ∃ x : Int, (if mDers G 46 kq = 1 then mDers G 48 kq else -5000000) = x := ⟨_, rfl⟩
                  have hw9r : -5000000 ≤ w9 ∧ w9 ≤ 1000000000 := by
                    have h9 := hdD kq
                    rw [← hw9]
                    split <;> omega
                  refine g_top (y := zI w9) (by rw [hw9]) ?_
                  refine lv_ldc (v := -5000000) hx hb hown (hts (.constant RL 31 (-5000000)) (List.mem_of_getElem? (i := 2) rfl)) dL_areDerived_186 ?_
                  refine g_top (y := zI (-5000000)) (by decide) ?_
                  refine lv_icmp_ne (tgt := 195) hx hb dL_areDerived_188 (by decide) (fun c188 => ?_) (fun c188 => ?_)
                  · skip
                    have c188 : ¬ (w9 = (-5000000)) := fun z9 => c188 ((cmp_eq (zI_toInt (by omega) (by omega)) (zI_toInt (by omega) (by omega))).mpr z9)
                    rw [if_neg hnc] at hw9; exact absurd hw9.symm c188
                  · skip
                    have c188 : w9 = (-5000000) := (cmp_eq (zI_toInt (by omega) (by omega)) (zI_toInt (by omega) (by omega))).mp c188
                    refine lv_iconst (v := nI 1) hx hb dL_areDerived_191 (by decide) ?_
                    refine lv_goto (tgt := 196) hx hb dL_areDerived_192 (by decide) ?_
                    refine lv_istore_n (lv' := [(2, .int (nI 1)), (0, .ref (ad 0)), (1, .ref (ad 32)), (3, .int (nI kq)), (4, .int (nI aN)), (5, .int (nI bN)), (6, .long (zL x1)), (8, .long (zL x2))]) hx hb dL_areDerived_196 rfl hl (by decide) rfl (fun ls hl => ?_)
                    refine lv_goto (tgt := 422) hx hb dL_areDerived_197 (by decide) ?_
                    refine lv_iinc (v := nI (kq + 1)) (lv' := [(3, .int (nI (kq + 1))), (2, .int (nI 1)), (0, .ref (ad 0)), (1, .ref (ad 32)), (4, .int (nI aN)), (5, .int (nI bN)), (6, .long (zL x1)), (8, .long (zL x2))]) hx hb dL_areDerived_422 hl (k := 3) rfl (by rw [show (Int32.ofInt 1 : Int32) = nI 1 from rfl, nI_add]) (by decide) rfl (fun ls hl => ?_)
                    refine lv_goto (tgt := 4) hx hb dL_areDerived_425 (by decide) ?_
                    refine W.widen (k := 12 * (kq + 1)) (n := 72 * (kq + 1)) (by omega) (by omega) ?_
                    exact ihq4 (kq + 1) A183 (by omega) (by assumption) (by omega) _ _ _ hG (lv_sub hl [2, 3, 1, 0] rfl)
              refine lv_lload hx hb dL_areDerived_151 (lv_at hl 7 rfl) ?_
              refine lv_ldc2 (v := -5000000) hx hb hown (hts (.constantLong RL 115 (-5000000)) (List.mem_of_getElem? (i := 1) rfl)) dL_areDerived_153 ?_
              refine g_topl (y := zL (-5000000)) (by decide) ?_
              refine W.lcmp hx hb dL_areDerived_156 ?_
              refine lv_if_eq (tgt := 169) hx hb dL_areDerived_157 (by decide) (fun c157 => ?_) (fun c157 => ?_)
              · skip
                have c157 : x1 = (-5000000) := ((lg_cmp_eq _ _).trans (zL_eq (by omega) (by omega) (by omega) (by omega))).mp c157
                have hnc : ¬ mDers G 46 kq = 1 := fun z9 => LHs_none hx1 c157 hdD ⟨((mCan_k G kq).mp (hfx.1.mp z9)).1, ((mCan_k G kq).mp (hfx.1.mp z9)).2.1⟩
                exact LLq169 hnc _ _ _ hG (lv_sub hl [1, 2, 3, 4, 5, 6, 7, 0] rfl)
              · skip
                have c157 : ¬ (x1 = (-5000000)) := fun z9 => c157 (((lg_cmp_eq _ _).trans (zL_eq (by omega) (by omega) (by omega) (by omega))).mpr z9)
                refine lv_lload hx hb dL_areDerived_160 (lv_at hl 0 rfl) ?_
                refine lv_ldc2 (v := -5000000) hx hb hown (hts (.constantLong RL 115 (-5000000)) (List.mem_of_getElem? (i := 1) rfl)) dL_areDerived_162 ?_
                refine g_topl (y := zL (-5000000)) (by decide) ?_
                refine W.lcmp hx hb dL_areDerived_165 ?_
                refine lv_if_ne (tgt := 200) hx hb dL_areDerived_166 (by decide) (fun c166 => ?_) (fun c166 => ?_)
                · skip
                  have c166 : ¬ (x2 = (-5000000)) := fun z9 => c166 (((lg_cmp_eq _ _).trans (zL_eq (by omega) (by omega) (by omega) (by omega))).mpr z9)
                  obtain ⟨⟨h43, hh1⟩, hv1⟩ := LHs_some hx1 c157
                  obtain ⟨⟨-, hh2⟩, hv2⟩ := LHs_some hx2 c166
                  have hk1 : mDers G 46 kq = 1 := hfx.1.mpr ((mCan_k G kq).mpr ⟨h43, hh1, hh2⟩)
                  obtain ⟨h47, h48⟩ := hfx.2 hk1
                  rw [mVl_k, ← hv1, ← hv2] at h47
                  rw [mTm_k] at h48
                  have haN2 := (haN3.resolve_left (fun z9 => h43 z9.1)).2
                  have haN8 := isOp_n haN2 (hdv kq).2.1
                  have hbN2 := (hbN3.resolve_left (fun z9 => h43 z9.1)).2
                  have hbN8 := isOp_n hbN2 (hdv kq).2.2
                  have hop := OpR (hdv kq) h43
                  have hx1r := mVo_r hdD (G 44 kq)
                  have hx2r := mVo_r hdD (G 45 kq)
                  rw [← hv1] at hx1r
                  rw [← hv2] at hx2r
                  clear haN3 hbN3
                  refine lv_aload_n hx hb dL_areDerived_200 rfl (lv_at hl 2 rfl) ?_
                  refine lv_iload_n hx hb dL_areDerived_201 rfl (lv_at hl 4 rfl) ?_
                  refine g_iald hx hb hE hG (k := 32) (by omega) rfl kq (rfl) (by omega) (by omega) dL_areDerived_202 ?_
                  refine g_top (y := nI (dN G kq)) ((congrFun ((by assumption : ∀ k, k < 12 ∨ 28 ≤ k ∨ k % 2 = 0 → Ap k = A k) 32 (by omega)) kq).trans (hd9 kq (by omega))) ?_
                  refine lv_bipush (v := nI 20) hx hb dL_areDerived_203 (by decide) ?_
                  refine lv_ishr hx hb dL_areDerived_205 ?_
                  refine g_top (y := nI ((G 43 kq).toNat + 1)) (dN_op hdv h43) ?_
                  refine lv_iconst (v := nI 1) hx hb dL_areDerived_206 (by decide) ?_
                  refine lv_isub hx hb dL_areDerived_207 ?_
                  refine g_top (y := zI (G 43 kq)) ((by rw [pk_sub (by omega), show (G 43 kq).toNat + 1 - 1 = (G 43 kq).toNat from by omega, ← zI_nat (by omega)])) ?_
                  refine lv_istore (lv' := [(10, .int (zI (G 43 kq))), (8, .long (zL x2)), (0, .ref (ad 0)), (1, .ref (ad 32)), (2, .int (nI 1)), (3, .int (nI kq)), (4, .int (nI aN)), (5, .int (nI bN)), (6, .long (zL x1))]) hx hb dL_areDerived_208 hl (by decide) rfl (fun ls hl => ?_)
                  have LLq290 : ∀  (yq : Int) (hyq : yq = mOp (G 43 kq) x1 x2) (H : Heap) (locs : List Loc) (ls : Array Slot), gH D base sM ad (33 + 2 * n) (gw cy ad n Ap J) H locs → lv_has ls 15 [(0, .ref (ad 0)), (1, .ref (ad 32)), (2, .int (nI 1)), (3, .int (nI kq)), (4, .int (nI aN)), (5, .int (nI bN)), (6, .long (zL x1)), (8, .long (zL x2)), (10, .int (zI (G 43 kq)))] → W pM l eM ({ frames := 9, cells := 96, slots := 576, locals := 221 } : Room) sM mM aM bM methM cM H locs (12 * kq + 4) (72 * kq + 24) (vx_MQ bM (gPost D cy base ad n (PL_areDerived ad A J G nq)) (gXC D cy base ad n (pxNo)) aM sM 96 576 (fun q => base ≤ q)) (F0 mM 290 ls [.long (zL yq)]) := by
                    intro yq hyq H locs ls hG hl
                    have hyr := mOp_r (op := G 43 kq) hx1r hx2r
                    rw [← hyq] at hyr
                    refine lv_lstore (lv' := [(11, .long (zL yq)), (0, .ref (ad 0)), (1, .ref (ad 32)), (2, .int (nI 1)), (3, .int (nI kq)), (4, .int (nI aN)), (5, .int (nI bN)), (6, .long (zL x1)), (8, .long (zL x2)), (10, .int (zI (G 43 kq)))]) hx hb dL_areDerived_290 hl (by decide) rfl (fun ls hl => ?_)
                    have LLq319 : ∀  (t1 : Int) (Ar : Nat → Nat → Int32) (hOr : ∀ k, k < 12 ∨ 28 ≤ k ∨ k % 2 = 0 → Ar k = A k) (ht1 : t1 = mTo (mDers G) (G 44 kq)) (H : Heap) (locs : List Loc) (ls : Array Slot), gH D base sM ad (33 + 2 * n) (gw cy ad n Ar J) H locs → lv_has ls 15 [(0, .ref (ad 0)), (1, .ref (ad 32)), (2, .int (nI 1)), (3, .int (nI kq)), (4, .int (nI aN)), (5, .int (nI bN)), (6, .long (zL x1)), (8, .long (zL x2)), (10, .int (zI (G 43 kq))), (11, .long (zL yq))] → W pM l eM ({ frames := 9, cells := 96, slots := 576, locals := 221 } : Room) sM mM aM bM methM cM H locs (12 * kq + 6) (72 * kq + 36) (vx_MQ bM (gPost D cy base ad n (PL_areDerived ad A J G nq)) (gXC D cy base ad n (pxNo)) aM sM 96 576 (fun q => base ≤ q)) (F0 mM 319 ls [.int (zI t1)]) := by
                      intro t1 Ar hOr ht1 H locs ls hG hl
                      have ht1r := mTo_r hdD (G 44 kq)
                      rw [← ht1] at ht1r
                      refine lv_istore (lv' := [(13, .int (zI t1)), (0, .ref (ad 0)), (1, .ref (ad 32)), (2, .int (nI 1)), (3, .int (nI kq)), (4, .int (nI aN)), (5, .int (nI bN)), (6, .long (zL x1)), (8, .long (zL x2)), (10, .int (zI (G 43 kq))), (11, .long (zL yq))]) hx hb dL_areDerived_319 hl (by decide) rfl (fun ls hl => ?_)
                      have LLq348 : ∀  (t2 : Int) (As : Nat → Nat → Int32) (hOs : ∀ k, k < 12 ∨ 28 ≤ k ∨ k % 2 = 0 → As k = A k) (ht2 : t2 = mTo (mDers G) (G 45 kq)) (H : Heap) (locs : List Loc) (ls : Array Slot), gH D base sM ad (33 + 2 * n) (gw cy ad n As J) H locs → lv_has ls 15 [(0, .ref (ad 0)), (1, .ref (ad 32)), (2, .int (nI 1)), (3, .int (nI kq)), (4, .int (nI aN)), (5, .int (nI bN)), (6, .long (zL x1)), (8, .long (zL x2)), (10, .int (zI (G 43 kq))), (11, .long (zL yq)), (13, .int (zI t1))] → W pM l eM ({ frames := 9, cells := 96, slots := 576, locals := 221 } : Room) sM mM aM bM methM cM H locs (12 * kq + 8) (72 * kq + 48) (vx_MQ bM (gPost D cy base ad n (PL_areDerived ad A J G nq)) (gXC D cy base ad n (pxNo)) aM sM 96 576 (fun q => base ≤ q)) (F0 mM 348 ls [.int (zI t2)]) := by
                        intro t2 As hOs ht2 H locs ls hG hl
                        have ht2r := mTo_r hdD (G 45 kq)
                        rw [← ht2] at ht2r
                        refine lv_istore (lv' := [(14, .int (zI t2)), (0, .ref (ad 0)), (1, .ref (ad 32)), (2, .int (nI 1)), (3, .int (nI kq)), (4, .int (nI aN)), (5, .int (nI bN)), (6, .long (zL x1)), (8, .long (zL x2)), (10, .int (zI (G 43 kq))), (11, .long (zL yq)), (13, .int (zI t1))]) hx hb dL_areDerived_348 hl (by decide) rfl (fun ls hl => ?_)
                        refine lv_aload_n hx hb dL_areDerived_350 rfl (lv_at hl 1 rfl) ?_
                        refine lv_iconst (v := nI 3) hx hb dL_areDerived_351 (by decide) ?_
                        refine lv_iload_n hx hb dL_areDerived_352 rfl (lv_at hl 4 rfl) ?_
                        refine gN_callT (As := [.ref (ad 0), .int (nI 3), .int (nI kq)]) (rest := []) ⟨hx, hb, hml, hown, hts⟩ hE hG (cL_asks_dvalC l D cy base ad n As J G kq (by first | assumption | omega) (hC.dersG (by assumption)) (by first | assumption | omega)) (vx_cwSW 3 hts gL_areDerived_L_asks rfl rfl rfl (by decide +kernel) ⟨Nat.le_of_ble_eq_true rfl, Nat.le_of_ble_eq_true rfl⟩) rfl hl.1 rfl (Nat.le_of_ble_eq_true rfl) dL_areDerived_353 ⟨(by show 12 * kq + 10 ≤ 96; omega), (by show 72 * kq + 60 ≤ 576; omega)⟩ (fun _ _ _ hz => hz) (fun v_ A353 J353 H locs hp hG => W.widen (k := 12 * kq + 10) (n := 72 * kq + 60) (by omega) (by omega) ?_)
                        obtain ⟨rfl, rfl, hO_353⟩ := hp
                        refine W.eq (g2 := F0 mM 356 ls [.int (zI (if mDers G 46 kq = 1 then mDers G 47 kq else -5000000))]) rfl ?_
                        have hK353 : ∀ k, k < 12 ∨ 28 ≤ k ∨ k % 2 = 0 → A353 k = A k := fun k hk => (hO_353 k hk).trans ((by assumption : ∀ k, k < 12 ∨ 28 ≤ k ∨ k % 2 = 0 → As k = A k) k hk)
                        obtain ⟨v9, hv9⟩ : ∃ x : Int, (if mDers G 46 kq = 1 then mDers G 47 kq else -5000000) = x := ⟨_, rfl⟩
                        have hv9r : -5000000 ≤ v9 ∧ v9 ≤ 1000000000 := by
                          have h9 := hdD kq
                          rw [← hv9]
                          split <;> omega
                        refine g_top (y := zI v9) (by rw [hv9]) ?_
                        refine lv_i2l (v := zL v9) hx hb dL_areDerived_356 (zL_i2l (by omega) (by omega)) ?_
                        have LLq389 : ∀  (zq : Int) (hzq : zq = mClamp yq) (H : Heap) (locs : List Loc) (ls : Array Slot), gH D base sM ad (33 + 2 * n) (gw cy ad n A353 J) H locs → lv_has ls 15 [(0, .ref (ad 0)), (1, .ref (ad 32)), (2, .int (nI 1)), (3, .int (nI kq)), (4, .int (nI aN)), (5, .int (nI bN)), (6, .long (zL x1)), (8, .long (zL x2)), (10, .int (zI (G 43 kq))), (11, .long (zL yq)), (13, .int (zI t1)), (14, .int (zI t2))] → W pM l eM ({ frames := 9, cells := 96, slots := 576, locals := 221 } : Room) sM mM aM bM methM cM H locs (12 * kq + 10) (72 * kq + 60) (vx_MQ bM (gPost D cy base ad n (PL_areDerived ad A J G nq)) (gXC D cy base ad n (pxNo)) aM sM 96 576 (fun q => base ≤ q)) (F0 mM 389 ls [.long (zL zq), .long (zL v9)]) := by
                          intro zq hzq H locs ls hG hl
                          have hzr : -1000000 ≤ zq ∧ zq ≤ 1000000 := by rw [hzq]; unfold mClamp; (repeat' split) <;> omega
                          refine W.lcmp hx hb dL_areDerived_389 ?_
                          refine lv_if_ne (tgt := 420) hx hb dL_areDerived_390 (by decide) (fun c390 => ?_) (fun c390 => ?_)
                          · skip
                            have c390 : ¬ (v9 = zq) := fun z9 => c390 (((lg_cmp_eq _ _).trans (zL_eq (by omega) (by omega) (by omega) (by omega))).mpr z9)
                            rw [if_pos hk1] at hv9; exact absurd (by rw [hzq, hyq, ← hv9, h47]; rfl) c390
                          · skip
                            have c390 : v9 = zq := ((lg_cmp_eq _ _).trans (zL_eq (by omega) (by omega) (by omega) (by omega))).mp c390
                            refine lv_aload_n hx hb dL_areDerived_393 rfl (lv_at hl 0 rfl) ?_
                            refine lv_iconst (v := nI 4) hx hb dL_areDerived_394 (by decide) ?_
                            refine lv_iload_n hx hb dL_areDerived_395 rfl (lv_at hl 3 rfl) ?_
                            refine gN_callT (As := [.ref (ad 0), .int (nI 4), .int (nI kq)]) (rest := []) ⟨hx, hb, hml, hown, hts⟩ hE hG (cL_asks_dtimeC l D cy base ad n A353 J G kq (by first | assumption | omega) (hC.dersG (by assumption)) (by first | assumption | omega)) (vx_cwSW 3 hts gL_areDerived_L_asks rfl rfl rfl (by decide +kernel) ⟨Nat.le_of_ble_eq_true rfl, Nat.le_of_ble_eq_true rfl⟩) rfl hl.1 rfl (Nat.le_of_ble_eq_true rfl) dL_areDerived_396 ⟨(by show 12 * kq + 12 ≤ 96; omega), (by show 72 * kq + 72 ≤ 576; omega)⟩ (fun _ _ _ hz => hz) (fun v_ A396 J396 H locs hp hG => W.widen (k := 12 * kq + 12) (n := 72 * kq + 72) (by omega) (by omega) ?_)
                            obtain ⟨rfl, rfl, hO_396⟩ := hp
                            refine W.eq (g2 := F0 mM 399 ls [.int (zI (if mDers G 46 kq = 1 then mDers G 48 kq else -5000000))]) rfl ?_
                            have hK396 : ∀ k, k < 12 ∨ 28 ≤ k ∨ k % 2 = 0 → A396 k = A k := fun k hk => (hO_396 k hk).trans ((by assumption : ∀ k, k < 12 ∨ 28 ≤ k ∨ k % 2 = 0 → A353 k = A k) k hk)
                            obtain ⟨w9, hw9⟩ : ∃ x : Int, (if mDers G 46 kq = 1 then mDers G 48 kq else -5000000) = x := ⟨_, rfl⟩
                            have hw9r : -5000000 ≤ w9 ∧ w9 ≤ 1000000000 := by
                              have h9 := hdD kq
                              rw [← hw9]
                              split <;> omega
                            refine g_top (y := zI w9) (by rw [hw9]) ?_
                            refine lv_iload hx hb dL_areDerived_399 (lv_at hl 10 rfl) ?_
                            refine lv_iload hx hb dL_areDerived_401 (lv_at hl 11 rfl) ?_
                            refine lv_icmp_le (tgt := 411) hx hb dL_areDerived_403 (by decide) (fun c403 => ?_) (fun c403 => ?_)
                            · skip
                              have c403 : t1 ≤ t2 := (cmp_le (zI_toInt (by omega) (by omega)) (zI_toInt (by omega) (by omega))).mp c403
                              refine lv_iload hx hb dL_areDerived_411 (lv_at hl 11 rfl) ?_
                              refine lv_icmp_ne (tgt := 420) hx hb dL_areDerived_413 (by decide) (fun c413 => ?_) (fun c413 => ?_)
                              · skip
                                have c413 : ¬ (w9 = t2) := fun z9 => c413 ((cmp_eq (zI_toInt (by omega) (by omega)) (zI_toInt (by omega) (by omega))).mpr z9)
                                rw [if_pos hk1, h48, ← ht1, ← ht2] at hw9; split at hw9 <;> (exfalso; omega)
                              · skip
                                have c413 : w9 = t2 := (cmp_eq (zI_toInt (by omega) (by omega)) (zI_toInt (by omega) (by omega))).mp c413
                                refine lv_iconst (v := nI 1) hx hb dL_areDerived_416 (by decide) ?_
                                refine lv_goto (tgt := 421) hx hb dL_areDerived_417 (by decide) ?_
                                refine lv_istore_n (lv' := [(2, .int (nI 1)), (0, .ref (ad 0)), (1, .ref (ad 32)), (3, .int (nI kq)), (4, .int (nI aN)), (5, .int (nI bN)), (6, .long (zL x1)), (8, .long (zL x2)), (10, .int (zI (G 43 kq))), (11, .long (zL yq)), (13, .int (zI t1)), (14, .int (zI t2))]) hx hb dL_areDerived_421 rfl hl (by decide) rfl (fun ls hl => ?_)
                                refine lv_iinc (v := nI (kq + 1)) (lv' := [(3, .int (nI (kq + 1))), (2, .int (nI 1)), (0, .ref (ad 0)), (1, .ref (ad 32)), (4, .int (nI aN)), (5, .int (nI bN)), (6, .long (zL x1)), (8, .long (zL x2)), (10, .int (zI (G 43 kq))), (11, .long (zL yq)), (13, .int (zI t1)), (14, .int (zI t2))]) hx hb dL_areDerived_422 hl (k := 3) rfl (by rw [show (Int32.ofInt 1 : Int32) = nI 1 from rfl, nI_add]) (by decide) rfl (fun ls hl => ?_)
                                refine lv_goto (tgt := 4) hx hb dL_areDerived_425 (by decide) ?_
                                refine W.widen (k := 12 * (kq + 1)) (n := 72 * (kq + 1)) (by omega) (by omega) ?_
                                exact ihq4 (kq + 1) A396 (by omega) (by assumption) (by omega) _ _ _ hG (lv_sub hl [2, 3, 1, 0] rfl)
                            · skip
                              have c403 : ¬ (t1 ≤ t2) := fun z9 => c403 ((cmp_le (zI_toInt (by omega) (by omega)) (zI_toInt (by omega) (by omega))).mpr z9)
                              refine lv_iload hx hb dL_areDerived_406 (lv_at hl 10 rfl) ?_
                              refine lv_goto (tgt := 413) hx hb dL_areDerived_408 (by decide) ?_
                              refine lv_icmp_ne (tgt := 420) hx hb dL_areDerived_413 (by decide) (fun c413 => ?_) (fun c413 => ?_)
                              · skip
                                have c413 : ¬ (w9 = t1) := fun z9 => c413 ((cmp_eq (zI_toInt (by omega) (by omega)) (zI_toInt (by omega) (by omega))).mpr z9)
                                rw [if_pos hk1, h48, ← ht1, ← ht2] at hw9; split at hw9 <;> (exfalso; omega)
                              · skip
                                have c413 : w9 = t1 := (cmp_eq (zI_toInt (by omega) (by omega)) (zI_toInt (by omega) (by omega))).mp c413
                                refine lv_iconst (v := nI 1) hx hb dL_areDerived_416 (by decide) ?_
                                refine lv_goto (tgt := 421) hx hb dL_areDerived_417 (by decide) ?_
                                refine lv_istore_n (lv' := [(2, .int (nI 1)), (0, .ref (ad 0)), (1, .ref (ad 32)), (3, .int (nI kq)), (4, .int (nI aN)), (5, .int (nI bN)), (6, .long (zL x1)), (8, .long (zL x2)), (10, .int (zI (G 43 kq))), (11, .long (zL yq)), (13, .int (zI t1)), (14, .int (zI t2))]) hx hb dL_areDerived_421 rfl hl (by decide) rfl (fun ls hl => ?_)
                                refine lv_iinc (v := nI (kq + 1)) (lv' := [(3, .int (nI (kq + 1))), (2, .int (nI 1)), (0, .ref (ad 0)), (1, .ref (ad 32)), (4, .int (nI aN)), (5, .int (nI bN)), (6, .long (zL x1)), (8, .long (zL x2)), (10, .int (zI (G 43 kq))), (11, .long (zL yq)), (13, .int (zI t1)), (14, .int (zI t2))]) hx hb dL_areDerived_422 hl (k := 3) rfl (by rw [show (Int32.ofInt 1 : Int32) = nI 1 from rfl, nI_add]) (by decide) rfl (fun ls hl => ?_)
                                refine lv_goto (tgt := 4) hx hb dL_areDerived_425 (by decide) ?_
                                refine W.widen (k := 12 * (kq + 1)) (n := 72 * (kq + 1)) (by omega) (by omega) ?_
                                exact ihq4 (kq + 1) A396 (by omega) (by assumption) (by omega) _ _ _ hG (lv_sub hl [2, 3, 1, 0] rfl)
                        refine lv_lload hx hb dL_areDerived_357 (lv_at hl 10 rfl) ?_
                        refine lv_ldc2 (v := 1000000) hx hb hown (hts (.constantLong RL 117 (1000000)) (List.mem_of_getElem? (i := 3) rfl)) dL_areDerived_359 ?_
                        refine g_topl (y := zL (1000000)) (by decide) ?_
                        refine W.lcmp hx hb dL_areDerived_362 ?_
                        refine lv_if_le (tgt := 372) hx hb dL_areDerived_363 (by decide) (fun c363 => ?_) (fun c363 => ?_)
                        · skip
                          have c363 : yq ≤ (1000000) := ((lg_cmp_le _ _).trans (zL_le (by omega) (by omega) (by omega) (by omega))).mp c363
                          refine lv_lload hx hb dL_areDerived_372 (lv_at hl 10 rfl) ?_
                          refine lv_ldc2 (v := -1000000) hx hb hown (hts (.constantLong RL 119 (-1000000)) (List.mem_of_getElem? (i := 4) rfl)) dL_areDerived_374 ?_
                          refine g_topl (y := zL (-1000000)) (by decide) ?_
                          refine W.lcmp hx hb dL_areDerived_377 ?_
                          refine lv_if_ge (tgt := 387) hx hb dL_areDerived_378 (by decide) (fun c378 => ?_) (fun c378 => ?_)
                          · skip
                            have c378 : (-1000000) ≤ yq := ((lg_cmp_ge _ _).trans (zL_le (by omega) (by omega) (by omega) (by omega))).mp c378
                            refine lv_lload hx hb dL_areDerived_387 (lv_at hl 10 rfl) ?_
                            exact LLq389 yq (by unfold mClamp; (repeat' split) <;> omega) _ _ _ hG (lv_sub hl [1, 2, 3, 4, 5, 6, 7, 8, 9, 10, 11, 0] rfl)
                          · skip
                            have c378 : ¬ ((-1000000) ≤ yq) := fun z9 => c378 (((lg_cmp_ge _ _).trans (zL_le (by omega) (by omega) (by omega) (by omega))).mpr z9)
                            refine lv_ldc2 (v := -1000000) hx hb hown (hts (.constantLong RL 119 (-1000000)) (List.mem_of_getElem? (i := 4) rfl)) dL_areDerived_381 ?_
                            refine g_topl (y := zL (-1000000)) (by decide) ?_
                            refine lv_goto (tgt := 389) hx hb dL_areDerived_384 (by decide) ?_
                            exact LLq389 (-1000000) (by unfold mClamp; (repeat' split) <;> omega) _ _ _ hG (lv_sub hl [1, 2, 3, 4, 5, 6, 7, 8, 9, 10, 11, 0] rfl)
                        · skip
                          have c363 : ¬ (yq ≤ (1000000)) := fun z9 => c363 (((lg_cmp_le _ _).trans (zL_le (by omega) (by omega) (by omega) (by omega))).mpr z9)
                          refine lv_ldc2 (v := 1000000) hx hb hown (hts (.constantLong RL 117 (1000000)) (List.mem_of_getElem? (i := 3) rfl)) dL_areDerived_366 ?_
                          refine g_topl (y := zL (1000000)) (by decide) ?_
                          refine lv_goto (tgt := 389) hx hb dL_areDerived_369 (by decide) ?_
                          exact LLq389 (1000000) (by unfold mClamp; (repeat' split) <;> omega) _ _ _ hG (lv_sub hl [1, 2, 3, 4, 5, 6, 7, 8, 9, 10, 11, 0] rfl)
                      refine lv_iload hx hb dL_areDerived_321 (lv_at hl 6 rfl) ?_
                      refine lv_bipush (v := nI 100) hx hb dL_areDerived_323 (by decide) ?_
                      refine lv_icmp_lt (tgt := 341) hx hb dL_areDerived_325 (by decide) (fun c325 => ?_) (fun c325 => ?_)
                      · skip
                        have c325 : bN < 100 := (nI_ltI (by omega) (by omega)).mp c325
                        refine lv_aload_n hx hb dL_areDerived_341 rfl (lv_at hl 1 rfl) ?_
                        refine lv_iconst (v := nI 1) hx hb dL_areDerived_342 (by decide) ?_
                        refine lv_iload hx hb dL_areDerived_343 (lv_at hl 6 rfl) ?_
                        refine gN_callT (As := [.ref (ad 0), .int (nI 1), .int (nI bN)]) (rest := []) ⟨hx, hb, hml, hown, hts⟩ hE hG (cL_asks_timeC l D cy base ad n Ar J G bN (by first | assumption | omega) (hC.dersG (by assumption)) ((has_p hbN2 (by omega) hn (h41b bN).1).mp hh2).1) (vx_cwSW 3 hts gL_areDerived_L_asks rfl rfl rfl (by decide +kernel) ⟨Nat.le_of_ble_eq_true rfl, Nat.le_of_ble_eq_true rfl⟩) rfl hl.1 rfl (Nat.le_of_ble_eq_true rfl) dL_areDerived_345 ⟨(by show 12 * kq + 8 ≤ 96; omega), (by show 72 * kq + 48 ≤ 576; omega)⟩ (fun _ _ _ hz => hz) (fun v_ A345 J345 H locs hp hG => W.widen (k := 12 * kq + 8) (n := 72 * kq + 48) (by omega) (by omega) ?_)
                        obtain ⟨rfl, rfl, rfl⟩ := hp
                        refine W.eq (g2 := F0 mM 348 ls [.int (zI (if G 41 bN = 0 then -5000000 else G 40 bN))]) rfl ?_
                        obtain ⟨s9, hs9⟩ : ∃ x : Int, (if G 41 bN = 0 then -5000000 else G 40 bN) = x := ⟨_, rfl⟩
                        have hs9r : -5000000 ≤ s9 ∧ s9 ≤ 1000000000 := by
                          have h9 := hdr bN
                          rw [← hs9]
                          split <;> omega
                        refine g_top (y := zI s9) (by rw [hs9]) ?_
                        exact LLq348 s9 Ar (by assumption) (by first | exact LTm_d hbN2 (by omega) hh2 hs9 | exact LTm_p hbN2 (by omega) hh2 hs9) _ _ _ hG (lv_sub hl [1, 2, 3, 4, 5, 6, 7, 8, 9, 10, 0] rfl)
                      · skip
                        have c325 : ¬ (bN < 100) := fun z9 => c325 ((nI_ltI (by omega) (by omega)).mpr z9)
                        refine lv_aload_n hx hb dL_areDerived_328 rfl (lv_at hl 1 rfl) ?_
                        refine lv_iconst (v := nI 4) hx hb dL_areDerived_329 (by decide) ?_
                        refine lv_iload hx hb dL_areDerived_330 (lv_at hl 6 rfl) ?_
                        refine lv_bipush (v := nI 100) hx hb dL_areDerived_332 (by decide) ?_
                        refine lv_isub hx hb dL_areDerived_334 ?_
                        refine g_top (y := nI (bN - 100)) (pk_sub (by omega)) ?_
                        refine gN_callT (As := [.ref (ad 0), .int (nI 4), .int (nI (bN - 100))]) (rest := []) ⟨hx, hb, hml, hown, hts⟩ hE hG (cL_asks_dtimeC l D cy base ad n Ar J G (bN - 100) (by first | assumption | omega) (hC.dersG (by assumption)) (by first | assumption | omega)) (vx_cwSW 3 hts gL_areDerived_L_asks rfl rfl rfl (by decide +kernel) ⟨Nat.le_of_ble_eq_true rfl, Nat.le_of_ble_eq_true rfl⟩) rfl hl.1 rfl (Nat.le_of_ble_eq_true rfl) dL_areDerived_335 ⟨(by show 12 * kq + 8 ≤ 96; omega), (by show 72 * kq + 48 ≤ 576; omega)⟩ (fun _ _ _ hz => hz) (fun v_ A335 J335 H locs hp hG => W.widen (k := 12 * kq + 8) (n := 72 * kq + 48) (by omega) (by omega) ?_)
                        obtain ⟨rfl, rfl, hO_335⟩ := hp
                        refine W.eq (g2 := F0 mM 338 ls [.int (zI (if mDers G 46 (bN - 100) = 1 then mDers G 48 (bN - 100) else -5000000))]) rfl ?_
                        have hK335 : ∀ k, k < 12 ∨ 28 ≤ k ∨ k % 2 = 0 → A335 k = A k := fun k hk => (hO_335 k hk).trans ((by assumption : ∀ k, k < 12 ∨ 28 ≤ k ∨ k % 2 = 0 → Ar k = A k) k hk)
                        obtain ⟨s9, hs9⟩ : ∃ x : Int, (if mDers G 46 (bN - 100) = 1 then mDers G 48 (bN - 100) else -5000000) = x := ⟨_, rfl⟩
                        have hs9r : -5000000 ≤ s9 ∧ s9 ≤ 1000000000 := by
                          have h9 := hdD (bN - 100)
                          rw [← hs9]
                          split <;> omega
                        refine g_top (y := zI s9) (by rw [hs9]) ?_
                        refine lv_goto (tgt := 348) hx hb dL_areDerived_338 (by decide) ?_
                        exact LLq348 s9 A335 (by assumption) (by first | exact LTm_d hbN2 (by omega) hh2 hs9 | exact LTm_p hbN2 (by omega) hh2 hs9) _ _ _ hG (lv_sub hl [1, 2, 3, 4, 5, 6, 7, 8, 9, 10, 0] rfl)
                    refine lv_iload hx hb dL_areDerived_292 (lv_at hl 5 rfl) ?_
                    refine lv_bipush (v := nI 100) hx hb dL_areDerived_294 (by decide) ?_
                    refine lv_icmp_lt (tgt := 312) hx hb dL_areDerived_296 (by decide) (fun c296 => ?_) (fun c296 => ?_)
                    · skip
                      have c296 : aN < 100 := (nI_ltI (by omega) (by omega)).mp c296
                      refine lv_aload_n hx hb dL_areDerived_312 rfl (lv_at hl 1 rfl) ?_
                      refine lv_iconst (v := nI 1) hx hb dL_areDerived_313 (by decide) ?_
                      refine lv_iload hx hb dL_areDerived_314 (lv_at hl 5 rfl) ?_
                      refine gN_callT (As := [.ref (ad 0), .int (nI 1), .int (nI aN)]) (rest := []) ⟨hx, hb, hml, hown, hts⟩ hE hG (cL_asks_timeC l D cy base ad n Ap J G aN (by first | assumption | omega) (hC.dersG (by assumption)) ((has_p haN2 (by omega) hn (h41b aN).1).mp hh1).1) (vx_cwSW 3 hts gL_areDerived_L_asks rfl rfl rfl (by decide +kernel) ⟨Nat.le_of_ble_eq_true rfl, Nat.le_of_ble_eq_true rfl⟩) rfl hl.1 rfl (Nat.le_of_ble_eq_true rfl) dL_areDerived_316 ⟨(by show 12 * kq + 6 ≤ 96; omega), (by show 72 * kq + 36 ≤ 576; omega)⟩ (fun _ _ _ hz => hz) (fun v_ A316 J316 H locs hp hG => W.widen (k := 12 * kq + 6) (n := 72 * kq + 36) (by omega) (by omega) ?_)
                      obtain ⟨rfl, rfl, rfl⟩ := hp
                      refine W.eq (g2 := F0 mM 319 ls [.int (zI (if G 41 aN = 0 then -5000000 else G 40 aN))]) rfl ?_
                      obtain ⟨t9, ht9⟩ : ∃ x : Int, (if G 41 aN = 0 then -5000000 else G 40 aN) = x := ⟨_, rfl⟩
                      have ht9r : -5000000 ≤ t9 ∧ t9 ≤ 1000000000 := by
                        have h9 := hdr aN
                        rw [← ht9]
                        split <;> omega
                      refine g_top (y := zI t9) (by rw [ht9]) ?_
                      exact LLq319 t9 Ap (by assumption) (by first | exact LTm_d haN2 (by omega) hh1 ht9 | exact LTm_p haN2 (by omega) hh1 ht9) _ _ _ hG (lv_sub hl [1, 2, 3, 4, 5, 6, 7, 8, 9, 0] rfl)
                    · skip
                      have c296 : ¬ (aN < 100) := fun z9 => c296 ((nI_ltI (by omega) (by omega)).mpr z9)
                      refine lv_aload_n hx hb dL_areDerived_299 rfl (lv_at hl 1 rfl) ?_
                      refine lv_iconst (v := nI 4) hx hb dL_areDerived_300 (by decide) ?_
                      refine lv_iload hx hb dL_areDerived_301 (lv_at hl 5 rfl) ?_
                      refine lv_bipush (v := nI 100) hx hb dL_areDerived_303 (by decide) ?_
                      refine lv_isub hx hb dL_areDerived_305 ?_
                      refine g_top (y := nI (aN - 100)) (pk_sub (by omega)) ?_
                      refine gN_callT (As := [.ref (ad 0), .int (nI 4), .int (nI (aN - 100))]) (rest := []) ⟨hx, hb, hml, hown, hts⟩ hE hG (cL_asks_dtimeC l D cy base ad n Ap J G (aN - 100) (by first | assumption | omega) (hC.dersG (by assumption)) (by first | assumption | omega)) (vx_cwSW 3 hts gL_areDerived_L_asks rfl rfl rfl (by decide +kernel) ⟨Nat.le_of_ble_eq_true rfl, Nat.le_of_ble_eq_true rfl⟩) rfl hl.1 rfl (Nat.le_of_ble_eq_true rfl) dL_areDerived_306 ⟨(by show 12 * kq + 6 ≤ 96; omega), (by show 72 * kq + 36 ≤ 576; omega)⟩ (fun _ _ _ hz => hz) (fun v_ A306 J306 H locs hp hG => W.widen (k := 12 * kq + 6) (n := 72 * kq + 36) (by omega) (by omega) ?_)
                      obtain ⟨rfl, rfl, hO_306⟩ := hp
                      refine W.eq (g2 := F0 mM 309 ls [.int (zI (if mDers G 46 (aN - 100) = 1 then mDers G 48 (aN - 100) else -5000000))]) rfl ?_
                      have hK306 : ∀ k, k < 12 ∨ 28 ≤ k ∨ k % 2 = 0 → A306 k = A k := fun k hk => (hO_306 k hk).trans ((by assumption : ∀ k, k < 12 ∨ 28 ≤ k ∨ k % 2 = 0 → Ap k = A k) k hk)
                      obtain ⟨t9, ht9⟩ : ∃ x : Int, (if mDers G 46 (aN - 100) = 1 then mDers G 48 (aN - 100) else -5000000) = x := ⟨_, rfl⟩
                      have ht9r : -5000000 ≤ t9 ∧ t9 ≤ 1000000000 := by
                        have h9 := hdD (aN - 100)
                        rw [← ht9]
                        split <;> omega
                      refine g_top (y := zI t9) (by rw [ht9]) ?_
                      refine lv_goto (tgt := 319) hx hb dL_areDerived_309 (by decide) ?_
                      exact LLq319 t9 A306 (by assumption) (by first | exact LTm_d haN2 (by omega) hh1 ht9 | exact LTm_p haN2 (by omega) hh1 ht9) _ _ _ hG (lv_sub hl [1, 2, 3, 4, 5, 6, 7, 8, 9, 0] rfl)
                  refine lv_iload hx hb dL_areDerived_210 (lv_at hl 0 rfl) ?_
                  refine lv_if_ne (tgt := 223) hx hb dL_areDerived_212 (by decide) (fun c212 => ?_) (fun c212 => ?_)
                  · skip
                    have c212 : ¬ ((zI (G 43 kq)) = nI 0) := c212
                    have c212 : ¬ ((G 43 kq) = ((0 : Nat) : Int)) := fun z9 => c212 ((cmp_eq (zI_toInt (by omega) (by omega)) (nI_toInt (by omega))).mpr z9)
                    refine lv_iload hx hb dL_areDerived_223 (lv_at hl 0 rfl) ?_
                    refine lv_iconst (v := nI 1) hx hb dL_areDerived_225 (by decide) ?_
                    refine lv_icmp_ne (tgt := 237) hx hb dL_areDerived_226 (by decide) (fun c226 => ?_) (fun c226 => ?_)
                    · skip
                      have c226 : ¬ ((G 43 kq) = ((1 : Nat) : Int)) := fun z9 => c226 ((cmp_eq (zI_toInt (by omega) (by omega)) (nI_toInt (by omega))).mpr z9)
                      refine lv_iload hx hb dL_areDerived_237 (lv_at hl 0 rfl) ?_
                      refine lv_iconst (v := nI 2) hx hb dL_areDerived_239 (by decide) ?_
                      refine lv_icmp_ne (tgt := 251) hx hb dL_areDerived_240 (by decide) (fun c240 => ?_) (fun c240 => ?_)
                      · skip
                        have c240 : ¬ ((G 43 kq) = ((2 : Nat) : Int)) := fun z9 => c240 ((cmp_eq (zI_toInt (by omega) (by omega)) (nI_toInt (by omega))).mpr z9)
                        refine lv_iload hx hb dL_areDerived_251 (lv_at hl 0 rfl) ?_
                        refine lv_iconst (v := nI 3) hx hb dL_areDerived_253 (by decide) ?_
                        refine lv_icmp_ne (tgt := 275) hx hb dL_areDerived_254 (by decide) (fun c254 => ?_) (fun c254 => ?_)
                        · skip
                          have c254 : ¬ ((G 43 kq) = ((3 : Nat) : Int)) := fun z9 => c254 ((cmp_eq (zI_toInt (by omega) (by omega)) (nI_toInt (by omega))).mpr z9)
                          refine lv_lload hx hb dL_areDerived_275 (lv_at hl 8 rfl) ?_
                          refine lv_lload hx hb dL_areDerived_277 (lv_at hl 1 rfl) ?_
                          refine W.lcmp hx hb dL_areDerived_279 ?_
                          refine lv_if_ge (tgt := 288) hx hb dL_areDerived_280 (by decide) (fun c280 => ?_) (fun c280 => ?_)
                          · skip
                            have c280 : x2 ≤ x1 := ((lg_cmp_ge _ _).trans (zL_le (by omega) (by omega) (by omega) (by omega))).mp c280
                            refine lv_lload hx hb dL_areDerived_288 (lv_at hl 1 rfl) ?_
                            exact LLq290 x2 (by unfold mOp; (repeat' split) <;> omega) _ _ _ hG (lv_sub hl [2, 3, 4, 5, 6, 7, 8, 1, 0] rfl)
                          · skip
                            have c280 : ¬ (x2 ≤ x1) := fun z9 => c280 (((lg_cmp_ge _ _).trans (zL_le (by omega) (by omega) (by omega) (by omega))).mpr z9)
                            refine lv_lload hx hb dL_areDerived_283 (lv_at hl 8 rfl) ?_
                            refine lv_goto (tgt := 290) hx hb dL_areDerived_285 (by decide) ?_
                            exact LLq290 x1 (by unfold mOp; (repeat' split) <;> omega) _ _ _ hG (lv_sub hl [2, 3, 4, 5, 6, 7, 8, 1, 0] rfl)
                        · skip
                          have c254 : (G 43 kq) = ((3 : Nat) : Int) := (cmp_eq (zI_toInt (by omega) (by omega)) (nI_toInt (by omega))).mp c254
                          refine lv_lload hx hb dL_areDerived_257 (lv_at hl 8 rfl) ?_
                          refine lv_lload hx hb dL_areDerived_259 (lv_at hl 1 rfl) ?_
                          refine W.lcmp hx hb dL_areDerived_261 ?_
                          refine lv_if_ge (tgt := 270) hx hb dL_areDerived_262 (by decide) (fun c262 => ?_) (fun c262 => ?_)
                          · skip
                            have c262 : x2 ≤ x1 := ((lg_cmp_ge _ _).trans (zL_le (by omega) (by omega) (by omega) (by omega))).mp c262
                            refine lv_lload hx hb dL_areDerived_270 (lv_at hl 8 rfl) ?_
                            refine lv_goto (tgt := 290) hx hb dL_areDerived_272 (by decide) ?_
                            exact LLq290 x1 (by unfold mOp; (repeat' split) <;> omega) _ _ _ hG (lv_sub hl [2, 3, 4, 5, 6, 7, 8, 1, 0] rfl)
                          · skip
                            have c262 : ¬ (x2 ≤ x1) := fun z9 => c262 (((lg_cmp_ge _ _).trans (zL_le (by omega) (by omega) (by omega) (by omega))).mpr z9)
                            refine lv_lload hx hb dL_areDerived_265 (lv_at hl 1 rfl) ?_
                            refine lv_goto (tgt := 290) hx hb dL_areDerived_267 (by decide) ?_
                            exact LLq290 x2 (by unfold mOp; (repeat' split) <;> omega) _ _ _ hG (lv_sub hl [2, 3, 4, 5, 6, 7, 8, 1, 0] rfl)
                      · skip
                        have c240 : (G 43 kq) = ((2 : Nat) : Int) := (cmp_eq (zI_toInt (by omega) (by omega)) (nI_toInt (by omega))).mp c240
                        refine lv_lload hx hb dL_areDerived_243 (lv_at hl 8 rfl) ?_
                        refine lv_lload hx hb dL_areDerived_245 (lv_at hl 1 rfl) ?_
                        refine lv_lmul hx hb dL_areDerived_247 ?_
                        refine g_topl (y := zL (x1 * x2)) (zL_mul _ _) ?_
                        refine lv_goto (tgt := 290) hx hb dL_areDerived_248 (by decide) ?_
                        exact LLq290 (x1 * x2) (by unfold mOp; (repeat' split) <;> omega) _ _ _ hG (lv_sub hl [2, 3, 4, 5, 6, 7, 8, 1, 0] rfl)
                    · skip
                      have c226 : (G 43 kq) = ((1 : Nat) : Int) := (cmp_eq (zI_toInt (by omega) (by omega)) (nI_toInt (by omega))).mp c226
                      refine lv_lload hx hb dL_areDerived_229 (lv_at hl 8 rfl) ?_
                      refine lv_lload hx hb dL_areDerived_231 (lv_at hl 1 rfl) ?_
                      refine lv_lsub hx hb dL_areDerived_233 ?_
                      refine g_topl (y := zL (x1 - x2)) (zL_sub _ _) ?_
                      refine lv_goto (tgt := 290) hx hb dL_areDerived_234 (by decide) ?_
                      exact LLq290 (x1 - x2) (by unfold mOp; (repeat' split) <;> omega) _ _ _ hG (lv_sub hl [2, 3, 4, 5, 6, 7, 8, 1, 0] rfl)
                  · skip
                    have c212 : (zI (G 43 kq)) = nI 0 := c212
                    have c212 : (G 43 kq) = ((0 : Nat) : Int) := (cmp_eq (zI_toInt (by omega) (by omega)) (nI_toInt (by omega))).mp c212
                    refine lv_lload hx hb dL_areDerived_215 (lv_at hl 8 rfl) ?_
                    refine lv_lload hx hb dL_areDerived_217 (lv_at hl 1 rfl) ?_
                    refine lv_ladd hx hb dL_areDerived_219 ?_
                    refine g_topl (y := zL (x1 + x2)) (zL_add _ _) ?_
                    refine lv_goto (tgt := 290) hx hb dL_areDerived_220 (by decide) ?_
                    exact LLq290 (x1 + x2) (by unfold mOp; (repeat' split) <;> omega) _ _ _ hG (lv_sub hl [2, 3, 4, 5, 6, 7, 8, 1, 0] rfl)
                · skip
                  have c166 : x2 = (-5000000) := ((lg_cmp_eq _ _).trans (zL_eq (by omega) (by omega) (by omega) (by omega))).mp c166
                  have hnc : ¬ mDers G 46 kq = 1 := fun z9 => LHs_none hx2 c166 hdD ⟨((mCan_k G kq).mp (hfx.1.mp z9)).1, ((mCan_k G kq).mp (hfx.1.mp z9)).2.2⟩
                  exact LLq169 hnc _ _ _ hG (lv_sub hl [1, 2, 3, 4, 5, 6, 7, 0] rfl)
            refine lv_aload_n hx hb dL_areDerived_93 rfl (lv_at hl 2 rfl) ?_
            refine lv_iload_n hx hb dL_areDerived_94 rfl (lv_at hl 4 rfl) ?_
            refine g_iald hx hb hE hG (k := 32) (by omega) rfl kq (rfl) (by omega) (by omega) dL_areDerived_95 ?_
            refine g_top (y := nI (dN G kq)) ((congrFun ((by assumption : ∀ k, k < 12 ∨ 28 ≤ k ∨ k % 2 = 0 → Ao k = A k) 32 (by omega)) kq).trans (hd9 kq (by omega))) ?_
            refine lv_if_ne (tgt := 105) hx hb dL_areDerived_96 (by decide) (fun c96 => ?_) (fun c96 => ?_)
            · skip
              have c96 : ¬ ((nI (dN G kq)) = nI 0) := c96
              have c96 : ¬ ((dN G kq) = 0) := fun z9 => c96 ((nI_eq (by omega) (by omega)).mpr z9)
              have h43 : G 43 kq ≠ -1 := fun z9 => c96 ((dN_0 hdv kq).mpr z9)
              have hbN2 := (hbN3.resolve_left (fun z9 => h43 z9.1)).2
              have hbN8 := isOp_n hbN2 (hdv kq).2.2
              refine lv_iload hx hb dL_areDerived_105 (lv_at hl 6 rfl) ?_
              refine lv_bipush (v := nI 100) hx hb dL_areDerived_107 (by decide) ?_
              refine lv_icmp_lt (tgt := 126) hx hb dL_areDerived_109 (by decide) (fun c109 => ?_) (fun c109 => ?_)
              · skip
                have c109 : bN < 100 := (nI_ltI (by omega) (by omega)).mp c109
                refine lv_iload hx hb dL_areDerived_126 (lv_at hl 6 rfl) ?_
                refine lv_aload_n hx hb dL_areDerived_128 rfl (lv_at hl 1 rfl) ?_
                refine g_callV (As := []) (rest := [.int (nI bN)]) (r := (RX9, TX9, 6)) ⟨hx, hb, hml, hown, hts⟩ hE hG (cX9_pointsC l D cy base ad n Ao J n (hC.dersG (by assumption)).1 (by first | assumption | omega)) (cwV 0 hts gL_areDerived_X9_points rfl rfl rfl (by decide +kernel) ⟨Nat.le_of_ble_eq_true rfl, Nat.le_of_ble_eq_true rfl⟩) (by omega) rfl rfl rfl hl.1 rfl (Nat.le_of_ble_eq_true rfl) dL_areDerived_129 ⟨(by show 12 * kq + 2 ≤ 96; omega), (by show 72 * kq + 12 ≤ 576; omega)⟩ (fun v_ A129 J129 H locs hp hG => ?_)
                obtain ⟨rfl, rfl, rfl⟩ := hp
                refine W.eq (g2 := F0 mM 132 ls [.int (nI n), .int (nI bN)]) rfl ?_
                refine lv_icmp_ge (tgt := 146) hx hb dL_areDerived_132 (by decide) (fun c132 => ?_) (fun c132 => ?_)
                · skip
                  have c132 : n ≤ bN := (nI_leI (by omega) (by omega)).mp c132
                  refine lv_ldc2 (v := -5000000) hx hb hown (hts (.constantLong RL 115 (-5000000)) (List.mem_of_getElem? (i := 1) rfl)) dL_areDerived_146 ?_
                  refine g_topl (y := zL (-5000000)) (by decide) ?_
                  refine W.widen (k := 12 * kq + 4) (n := 72 * kq + 24) (by omega) (by omega) ?_
                  exact LLq149 (-5000000) Ao (by assumption) (by first | exact LHs_0 h43 | exact LHs_d h43 hbN2 (by omega) hy2 | exact LHs_p h43 hbN2 (by omega) hn (by omega) (h41b bN).1 hy2 | exact LHs_n hbN2 (by omega) hn (by omega)) (by omega) _ _ _ hG (lv_sub hl [1, 2, 3, 4, 5, 6, 0] rfl)
                · skip
                  have c132 : ¬ (n ≤ bN) := fun z9 => c132 ((nI_leI (by omega) (by omega)).mpr z9)
                  refine lv_aload_n hx hb dL_areDerived_135 rfl (lv_at hl 1 rfl) ?_
                  refine lv_iconst (v := nI 0) hx hb dL_areDerived_136 (by decide) ?_
                  refine lv_iload hx hb dL_areDerived_137 (lv_at hl 6 rfl) ?_
                  refine gN_callT (As := [.ref (ad 0), .int (nI 0), .int (nI bN)]) (rest := []) ⟨hx, hb, hml, hown, hts⟩ hE hG (cL_asks_valueC l D cy base ad n Ao J G bN (by first | assumption | omega) (hC.dersG (by assumption)) (by first | assumption | omega)) (vx_cwSW 3 hts gL_areDerived_L_asks rfl rfl rfl (by decide +kernel) ⟨Nat.le_of_ble_eq_true rfl, Nat.le_of_ble_eq_true rfl⟩) rfl hl.1 rfl (Nat.le_of_ble_eq_true rfl) dL_areDerived_139 ⟨(by show 12 * kq + 4 ≤ 96; omega), (by show 72 * kq + 24 ≤ 576; omega)⟩ (fun _ _ _ hz => hz) (fun v_ A139 J139 H locs hp hG => W.widen (k := 12 * kq + 4) (n := 72 * kq + 24) (by omega) (by omega) ?_)
                  obtain ⟨rfl, rfl, rfl⟩ := hp
                  refine W.eq (g2 := F0 mM 142 ls [.int (zI (if G 41 bN = 0 then -5000000 else G 39 bN))]) rfl ?_
                  obtain ⟨y2, hy2⟩ : ∃ x : Int, (if G 41 bN = 0 then -5000000 else G 39 bN) = x := ⟨_, rfl⟩
                  have hy2r : -5000000 ≤ y2 ∧ y2 ≤ 1000000000 := by
                    have h9 := hdr bN
                    rw [← hy2]
                    split <;> omega
                  refine g_top (y := zI y2) (by rw [hy2]) ?_
                  refine lv_i2l (v := zL y2) hx hb dL_areDerived_142 (zL_i2l (by omega) (by omega)) ?_
                  refine lv_goto (tgt := 149) hx hb dL_areDerived_143 (by decide) ?_
                  exact LLq149 y2 Ao (by assumption) (by first | exact LHs_0 h43 | exact LHs_d h43 hbN2 (by omega) hy2 | exact LHs_p h43 hbN2 (by omega) hn (by omega) (h41b bN).1 hy2 | exact LHs_n hbN2 (by omega) hn (by omega)) (by omega) _ _ _ hG (lv_sub hl [1, 2, 3, 4, 5, 6, 0] rfl)
              · skip
                have c109 : ¬ (bN < 100) := fun z9 => c109 ((nI_ltI (by omega) (by omega)).mpr z9)
                refine lv_aload_n hx hb dL_areDerived_112 rfl (lv_at hl 1 rfl) ?_
                refine lv_iconst (v := nI 3) hx hb dL_areDerived_113 (by decide) ?_
                refine lv_iload hx hb dL_areDerived_114 (lv_at hl 6 rfl) ?_
                refine lv_bipush (v := nI 100) hx hb dL_areDerived_116 (by decide) ?_
                refine lv_isub hx hb dL_areDerived_118 ?_
                refine g_top (y := nI (bN - 100)) (pk_sub (by omega)) ?_
                refine gN_callT (As := [.ref (ad 0), .int (nI 3), .int (nI (bN - 100))]) (rest := []) ⟨hx, hb, hml, hown, hts⟩ hE hG (cL_asks_dvalC l D cy base ad n Ao J G (bN - 100) (by first | assumption | omega) (hC.dersG (by assumption)) (by first | assumption | omega)) (vx_cwSW 3 hts gL_areDerived_L_asks rfl rfl rfl (by decide +kernel) ⟨Nat.le_of_ble_eq_true rfl, Nat.le_of_ble_eq_true rfl⟩) rfl hl.1 rfl (Nat.le_of_ble_eq_true rfl) dL_areDerived_119 ⟨(by show 12 * kq + 4 ≤ 96; omega), (by show 72 * kq + 24 ≤ 576; omega)⟩ (fun _ _ _ hz => hz) (fun v_ A119 J119 H locs hp hG => W.widen (k := 12 * kq + 4) (n := 72 * kq + 24) (by omega) (by omega) ?_)
                obtain ⟨rfl, rfl, hO_119⟩ := hp
                refine W.eq (g2 := F0 mM 122 ls [.int (zI (if mDers G 46 (bN - 100) = 1 then mDers G 47 (bN - 100) else -5000000))]) rfl ?_
                have hK119 : ∀ k, k < 12 ∨ 28 ≤ k ∨ k % 2 = 0 → A119 k = A k := fun k hk => (hO_119 k hk).trans ((by assumption : ∀ k, k < 12 ∨ 28 ≤ k ∨ k % 2 = 0 → Ao k = A k) k hk)
                obtain ⟨y2, hy2⟩ : ∃ x : Int, (if mDers G 46 (bN - 100) = 1 then mDers G 47 (bN - 100) else -5000000) = x := ⟨_, rfl⟩
                have hy2r : -5000000 ≤ y2 ∧ y2 ≤ 1000000000 := by
                  have h9 := hdD (bN - 100)
                  rw [← hy2]
                  split <;> omega
                refine g_top (y := zI y2) (by rw [hy2]) ?_
                refine lv_i2l (v := zL y2) hx hb dL_areDerived_122 (zL_i2l (by omega) (by omega)) ?_
                refine lv_goto (tgt := 149) hx hb dL_areDerived_123 (by decide) ?_
                exact LLq149 y2 A119 (by assumption) (by first | exact LHs_0 h43 | exact LHs_d h43 hbN2 (by omega) hy2 | exact LHs_p h43 hbN2 (by omega) hn (by omega) (h41b bN).1 hy2 | exact LHs_n hbN2 (by omega) hn (by omega)) (by omega) _ _ _ hG (lv_sub hl [1, 2, 3, 4, 5, 6, 0] rfl)
            · skip
              have c96 : (nI (dN G kq)) = nI 0 := c96
              have c96 : (dN G kq) = 0 := (nI_eq (by omega) (by omega)).mp c96
              have h43 : G 43 kq = -1 := (dN_0 hdv kq).mp c96
              refine lv_ldc2 (v := -5000000) hx hb hown (hts (.constantLong RL 115 (-5000000)) (List.mem_of_getElem? (i := 1) rfl)) dL_areDerived_99 ?_
              refine g_topl (y := zL (-5000000)) (by decide) ?_
              refine lv_goto (tgt := 149) hx hb dL_areDerived_102 (by decide) ?_
              refine W.widen (k := 12 * kq + 4) (n := 72 * kq + 24) (by omega) (by omega) ?_
              exact LLq149 (-5000000) Ao (by assumption) (by first | exact LHs_0 h43 | exact LHs_d h43 hbN2 (by omega) hy2 | exact LHs_p h43 hbN2 (by omega) hn (by omega) (h41b bN).1 hy2 | exact LHs_n hbN2 (by omega) hn (by omega)) (by omega) _ _ _ hG (lv_sub hl [1, 2, 3, 4, 5, 6, 0] rfl)
          refine lv_aload_n hx hb dL_areDerived_35 rfl (lv_at hl 3 rfl) ?_
          refine lv_iload_n hx hb dL_areDerived_36 rfl (lv_at hl 5 rfl) ?_
          refine g_iald hx hb hE hG (k := 32) (by omega) rfl kq (rfl) (by omega) (by omega) dL_areDerived_37 ?_
          refine g_top (y := nI (dN G kq)) ((congrFun ((by assumption : ∀ k, k < 12 ∨ 28 ≤ k ∨ k % 2 = 0 → Aq k = A k) 32 (by omega)) kq).trans (hd9 kq (by omega))) ?_
          refine lv_if_ne (tgt := 47) hx hb dL_areDerived_38 (by decide) (fun c38 => ?_) (fun c38 => ?_)
          · skip
            have c38 : ¬ ((nI (dN G kq)) = nI 0) := c38
            have c38 : ¬ ((dN G kq) = 0) := fun z9 => c38 ((nI_eq (by omega) (by omega)).mpr z9)
            have h43 : G 43 kq ≠ -1 := fun z9 => c38 ((dN_0 hdv kq).mpr z9)
            have haN2 := (haN3.resolve_left (fun z9 => h43 z9.1)).2
            have haN8 := isOp_n haN2 (hdv kq).2.1
            refine lv_iload hx hb dL_areDerived_47 (lv_at hl 1 rfl) ?_
            refine lv_bipush (v := nI 100) hx hb dL_areDerived_49 (by decide) ?_
            refine lv_icmp_lt (tgt := 68) hx hb dL_areDerived_51 (by decide) (fun c51 => ?_) (fun c51 => ?_)
            · skip
              have c51 : aN < 100 := (nI_ltI (by omega) (by omega)).mp c51
              refine lv_iload hx hb dL_areDerived_68 (lv_at hl 1 rfl) ?_
              refine lv_aload_n hx hb dL_areDerived_70 rfl (lv_at hl 2 rfl) ?_
              refine g_callV (As := []) (rest := [.int (nI aN)]) (r := (RX9, TX9, 6)) ⟨hx, hb, hml, hown, hts⟩ hE hG (cX9_pointsC l D cy base ad n Aq J n (hC.dersG (by assumption)).1 (by first | assumption | omega)) (cwV 0 hts gL_areDerived_X9_points rfl rfl rfl (by decide +kernel) ⟨Nat.le_of_ble_eq_true rfl, Nat.le_of_ble_eq_true rfl⟩) (by omega) rfl rfl rfl hl.1 rfl (Nat.le_of_ble_eq_true rfl) dL_areDerived_71 ⟨(by show 12 * kq ≤ 96; omega), (by show 72 * kq ≤ 576; omega)⟩ (fun v_ A71 J71 H locs hp hG => ?_)
              obtain ⟨rfl, rfl, rfl⟩ := hp
              refine W.eq (g2 := F0 mM 74 ls [.int (nI n), .int (nI aN)]) rfl ?_
              refine lv_icmp_ge (tgt := 88) hx hb dL_areDerived_74 (by decide) (fun c74 => ?_) (fun c74 => ?_)
              · skip
                have c74 : n ≤ aN := (nI_leI (by omega) (by omega)).mp c74
                refine lv_ldc2 (v := -5000000) hx hb hown (hts (.constantLong RL 115 (-5000000)) (List.mem_of_getElem? (i := 1) rfl)) dL_areDerived_88 ?_
                refine g_topl (y := zL (-5000000)) (by decide) ?_
                refine W.widen (k := 12 * kq + 2) (n := 72 * kq + 12) (by omega) (by omega) ?_
                exact LLq91 (-5000000) Aq (by assumption) (by first | exact LHs_0 h43 | exact LHs_d h43 haN2 (by omega) hy1 | exact LHs_p h43 haN2 (by omega) hn (by omega) (h41b aN).1 hy1 | exact LHs_n haN2 (by omega) hn (by omega)) (by omega) _ _ _ hG (lv_sub hl [2, 3, 4, 5, 1, 0] rfl)
              · skip
                have c74 : ¬ (n ≤ aN) := fun z9 => c74 ((nI_leI (by omega) (by omega)).mpr z9)
                refine lv_aload_n hx hb dL_areDerived_77 rfl (lv_at hl 2 rfl) ?_
                refine lv_iconst (v := nI 0) hx hb dL_areDerived_78 (by decide) ?_
                refine lv_iload hx hb dL_areDerived_79 (lv_at hl 1 rfl) ?_
                refine gN_callT (As := [.ref (ad 0), .int (nI 0), .int (nI aN)]) (rest := []) ⟨hx, hb, hml, hown, hts⟩ hE hG (cL_asks_valueC l D cy base ad n Aq J G aN (by first | assumption | omega) (hC.dersG (by assumption)) (by first | assumption | omega)) (vx_cwSW 3 hts gL_areDerived_L_asks rfl rfl rfl (by decide +kernel) ⟨Nat.le_of_ble_eq_true rfl, Nat.le_of_ble_eq_true rfl⟩) rfl hl.1 rfl (Nat.le_of_ble_eq_true rfl) dL_areDerived_81 ⟨(by show 12 * kq + 2 ≤ 96; omega), (by show 72 * kq + 12 ≤ 576; omega)⟩ (fun _ _ _ hz => hz) (fun v_ A81 J81 H locs hp hG => W.widen (k := 12 * kq + 2) (n := 72 * kq + 12) (by omega) (by omega) ?_)
                obtain ⟨rfl, rfl, rfl⟩ := hp
                refine W.eq (g2 := F0 mM 84 ls [.int (zI (if G 41 aN = 0 then -5000000 else G 39 aN))]) rfl ?_
                obtain ⟨y1, hy1⟩ : ∃ x : Int, (if G 41 aN = 0 then -5000000 else G 39 aN) = x := ⟨_, rfl⟩
                have hy1r : -5000000 ≤ y1 ∧ y1 ≤ 1000000000 := by
                  have h9 := hdr aN
                  rw [← hy1]
                  split <;> omega
                refine g_top (y := zI y1) (by rw [hy1]) ?_
                refine lv_i2l (v := zL y1) hx hb dL_areDerived_84 (zL_i2l (by omega) (by omega)) ?_
                refine lv_goto (tgt := 91) hx hb dL_areDerived_85 (by decide) ?_
                exact LLq91 y1 Aq (by assumption) (by first | exact LHs_0 h43 | exact LHs_d h43 haN2 (by omega) hy1 | exact LHs_p h43 haN2 (by omega) hn (by omega) (h41b aN).1 hy1 | exact LHs_n haN2 (by omega) hn (by omega)) (by omega) _ _ _ hG (lv_sub hl [2, 3, 4, 5, 1, 0] rfl)
            · skip
              have c51 : ¬ (aN < 100) := fun z9 => c51 ((nI_ltI (by omega) (by omega)).mpr z9)
              refine lv_aload_n hx hb dL_areDerived_54 rfl (lv_at hl 2 rfl) ?_
              refine lv_iconst (v := nI 3) hx hb dL_areDerived_55 (by decide) ?_
              refine lv_iload hx hb dL_areDerived_56 (lv_at hl 1 rfl) ?_
              refine lv_bipush (v := nI 100) hx hb dL_areDerived_58 (by decide) ?_
              refine lv_isub hx hb dL_areDerived_60 ?_
              refine g_top (y := nI (aN - 100)) (pk_sub (by omega)) ?_
              refine gN_callT (As := [.ref (ad 0), .int (nI 3), .int (nI (aN - 100))]) (rest := []) ⟨hx, hb, hml, hown, hts⟩ hE hG (cL_asks_dvalC l D cy base ad n Aq J G (aN - 100) (by first | assumption | omega) (hC.dersG (by assumption)) (by first | assumption | omega)) (vx_cwSW 3 hts gL_areDerived_L_asks rfl rfl rfl (by decide +kernel) ⟨Nat.le_of_ble_eq_true rfl, Nat.le_of_ble_eq_true rfl⟩) rfl hl.1 rfl (Nat.le_of_ble_eq_true rfl) dL_areDerived_61 ⟨(by show 12 * kq + 2 ≤ 96; omega), (by show 72 * kq + 12 ≤ 576; omega)⟩ (fun _ _ _ hz => hz) (fun v_ A61 J61 H locs hp hG => W.widen (k := 12 * kq + 2) (n := 72 * kq + 12) (by omega) (by omega) ?_)
              obtain ⟨rfl, rfl, hO_61⟩ := hp
              refine W.eq (g2 := F0 mM 64 ls [.int (zI (if mDers G 46 (aN - 100) = 1 then mDers G 47 (aN - 100) else -5000000))]) rfl ?_
              have hK61 : ∀ k, k < 12 ∨ 28 ≤ k ∨ k % 2 = 0 → A61 k = A k := fun k hk => (hO_61 k hk).trans ((by assumption : ∀ k, k < 12 ∨ 28 ≤ k ∨ k % 2 = 0 → Aq k = A k) k hk)
              obtain ⟨y1, hy1⟩ : ∃ x : Int, (if mDers G 46 (aN - 100) = 1 then mDers G 47 (aN - 100) else -5000000) = x := ⟨_, rfl⟩
              have hy1r : -5000000 ≤ y1 ∧ y1 ≤ 1000000000 := by
                have h9 := hdD (aN - 100)
                rw [← hy1]
                split <;> omega
              refine g_top (y := zI y1) (by rw [hy1]) ?_
              refine lv_i2l (v := zL y1) hx hb dL_areDerived_64 (zL_i2l (by omega) (by omega)) ?_
              refine lv_goto (tgt := 91) hx hb dL_areDerived_65 (by decide) ?_
              exact LLq91 y1 A61 (by assumption) (by first | exact LHs_0 h43 | exact LHs_d h43 haN2 (by omega) hy1 | exact LHs_p h43 haN2 (by omega) hn (by omega) (h41b aN).1 hy1 | exact LHs_n haN2 (by omega) hn (by omega)) (by omega) _ _ _ hG (lv_sub hl [2, 3, 4, 5, 1, 0] rfl)
          · skip
            have c38 : (nI (dN G kq)) = nI 0 := c38
            have c38 : (dN G kq) = 0 := (nI_eq (by omega) (by omega)).mp c38
            have h43 : G 43 kq = -1 := (dN_0 hdv kq).mp c38
            refine lv_ldc2 (v := -5000000) hx hb hown (hts (.constantLong RL 115 (-5000000)) (List.mem_of_getElem? (i := 1) rfl)) dL_areDerived_41 ?_
            refine g_topl (y := zL (-5000000)) (by decide) ?_
            refine lv_goto (tgt := 91) hx hb dL_areDerived_44 (by decide) ?_
            refine W.widen (k := 12 * kq + 2) (n := 72 * kq + 12) (by omega) (by omega) ?_
            exact LLq91 (-5000000) Aq (by assumption) (by first | exact LHs_0 h43 | exact LHs_d h43 haN2 (by omega) hy1 | exact LHs_p h43 haN2 (by omega) hn (by omega) (h41b aN).1 hy1 | exact LHs_n haN2 (by omega) hn (by omega)) (by omega) _ _ _ hG (lv_sub hl [2, 3, 4, 5, 1, 0] rfl)
  refine W.widen (k := 12 * 0) (n := 72 * 0) (by omega) (by omega) ?_
  exact LLq4 _ 0 A (by omega) (fun _ _ => rfl) (Nat.lt_succ_self _) _ _ _ hG (lv_sub hl [2, 3, 1, 0] rfl)

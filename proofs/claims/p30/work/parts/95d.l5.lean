abbrev PL_step (ad : Nat → Nat) (A : Nat → Nat → Int32) (J : Nat → Nat → Int64) (G : Nat → Nat → Int) (nq wN xN yN : Nat) : Option Value → (Nat → Nat → Int32) → (Nat → Nat → Int64) → Prop := fun v_ A1 J1 => (∃ (G1 : Nat → Nat → Int), v_ = some (.int (nI 1)) ∧ (LI nq A1 J1 G1) ∧ (G 28 9 ≤ G1 28 9 ∧ (2 ≤ wN → wN < 6 → 0 < G1 28 9)) ∧ (∀ k, 28 ≤ k → J1 k = J k))
set_option maxHeartbeats 4000000 in
set_option maxRecDepth 100000 in
theorem cL_stepC (l : Launch) (D : va_G) (cy : Nat → ClassId) (base : Nat) (ad : Nat → Nat) (n : Nat) (A : Nat → Nat → Int32) (J : Nat → Nat → Int64) (G : Nat → Nat → Int) (nq wN xN yN : Nat) (hst : l.stackTraces = false) (hnq : nq = n) (hL : LI nq A J G) (hxN : xN < 1073741824) (hyN : yN < 1073741824) (hwN : wN < 14) : gMetX l yL_step wsL_step ({ frames := 9, cells := 2, slots := 12, locals := 178 } : Room) D cy base ad n A J [.ref (ad 0), .int (nI wN), .int (nI xN), .int (nI yN), .ref (ad 28), .ref (ad 30), .ref (ad 31), .ref (ad 32)] (PL_step ad A J G nq wN xN yN) pxNo 2 12 := by
  refine gx_ofW (cc := cL_step) (maxL := 12) (ret := (some .boolean)) (by decide) rfl (Nat.le_of_ble_eq_true rfl) ?_
  intro pM eM sM mM aM bM methM cM H locs ls hx hb hr hts hown hlocks hml hout hE hG hl
  have hl : lv_has ls 12 [(0, .ref (ad 0)), (1, .int (nI wN)), (2, .int (nI xN)), (3, .int (nI yN)), (4, .ref (ad 28)), (5, .ref (ad 30)), (6, .ref (ad 31)), (7, .ref (ad 32))] := hl
  have hinX0 : ∀ w ∈ u_ws RX0 TX0 5, w ∈ wsL_step := by decide +kernel
  have hinX1 : ∀ w ∈ u_ws RX1 TX1 5, w ∈ wsL_step := by decide +kernel
  have hinX2 : ∀ w ∈ u_ws RX2 TX2 1, w ∈ wsL_step := by decide +kernel
  have hinX3 : ∀ w ∈ u_ws RX3 TX3 3, w ∈ wsL_step := by decide +kernel
  have hinX4 : ∀ w ∈ u_ws RX4 TX4 10, w ∈ wsL_step := by decide +kernel
  have hinX5 : ∀ w ∈ u_ws RX5 TX5 3, w ∈ wsL_step := by decide +kernel
  have hinX6 : ∀ w ∈ u_ws RX6 TX6 3, w ∈ wsL_step := by decide +kernel
  have hinX7 : ∀ w ∈ u_ws RX7 TX7 2, w ∈ wsL_step := by decide +kernel
  have hinX8 : ∀ w ∈ u_ws RX8 TX8 7, w ∈ wsL_step := by decide +kernel
  have hinX9 : ∀ w ∈ u_ws RX9 TX9 6, w ∈ wsL_step := by decide +kernel
  have hL : LI n A J G := by rw [← hnq]; exact hL
  obtain ⟨hC, hgr, hv9, hd9, hR, c1, c2, hA0, hA1, hA2, hc2, hc1⟩ := id hL
  obtain ⟨hT, -, -, -, htk, hol, hpr, -, hsn, -, hok, -, -, hsum, hln, hn, -⟩ := hC.bd
  have hnf := hok.2.2.2.2.1.2.2.2.2.1
  clear hok
  have hn12 := hC.1.2
  have LLq81 : ∀ (_ : Unit)   (H : Heap) (locs : List Loc) (ls : Array Slot), gH D base sM ad (33 + 2 * n) (gw cy ad n A J) H locs → lv_has ls 12 [(0, .ref (ad 0)), (1, .int (nI wN)), (2, .int (nI xN)), (3, .int (nI yN)), (4, .ref (ad 28)), (5, .ref (ad 30)), (6, .ref (ad 31)), (7, .ref (ad 32))] → W pM l eM ({ frames := 9, cells := 2, slots := 12, locals := 178 } : Room) sM mM aM bM methM cM H locs (0) (0) (vx_MQ bM (gPost D cy base ad n (PL_step ad A J G nq wN xN yN)) (gXC D cy base ad n (pxNo)) aM sM 2 12 (fun q => base ≤ q)) (F0 mM 81 ls []) := by
    intro _ H locs ls hG hl
    refine lv_iload_n hx hb dL_step_81 rfl (lv_at hl 1 rfl) ?_
    refine lv_bipush (v := nI 6) hx hb dL_step_82 (by decide) ?_
    refine lv_icmp_ge (tgt := 162) hx hb dL_step_84 (by decide) (fun c84 => ?_) (fun c84 => ?_)
    · skip
      have c84 : 6 ≤ wN := (nI_leI (by omega) (by omega)).mp c84
      refine lv_iload_n hx hb dL_step_162 rfl (lv_at hl 1 rfl) ?_
      refine lv_bipush (v := nI 10) hx hb dL_step_163 (by decide) ?_
      refine lv_icmp_ge (tgt := 253) hx hb dL_step_165 (by decide) (fun c165 => ?_) (fun c165 => ?_)
      · skip
        have c165 : 10 ≤ wN := (nI_leI (by omega) (by omega)).mp c165
        have LLq285 : ∀ (_ : Unit)   (H : Heap) (locs : List Loc) (ls : Array Slot), gH D base sM ad (33 + 2 * n) (gw cy ad n A J) H locs → lv_has ls 12 [(0, .ref (ad 0)), (1, .int (nI wN)), (2, .int (nI xN)), (3, .int (nI yN)), (4, .ref (ad 28)), (5, .ref (ad 30)), (6, .ref (ad 31)), (7, .ref (ad 32))] → W pM l eM ({ frames := 9, cells := 2, slots := 12, locals := 178 } : Room) sM mM aM bM methM cM H locs (0) (0) (vx_MQ bM (gPost D cy base ad n (PL_step ad A J G nq wN xN yN)) (gXC D cy base ad n (pxNo)) aM sM 2 12 (fun q => base ≤ q)) (F0 mM 285 ls []) := by
          intro _ H locs ls hG hl
          have LLq379 : ∀ (_ : Unit)   (H : Heap) (locs : List Loc) (ls : Array Slot), gH D base sM ad (33 + 2 * n) (gw cy ad n A J) H locs → lv_has ls 12 [(0, .ref (ad 0)), (2, .int (nI xN)), (3, .int (nI yN)), (7, .ref (ad 32))] → W pM l eM ({ frames := 9, cells := 2, slots := 12, locals := 178 } : Room) sM mM aM bM methM cM H locs (0) (0) (vx_MQ bM (gPost D cy base ad n (PL_step ad A J G nq wN xN yN)) (gXC D cy base ad n (pxNo)) aM sM 2 12 (fun q => base ≤ q)) (F0 mM 379 ls []) := by
            intro _ H locs ls hG hl
            refine lv_aload_n hx hb dL_step_379 rfl (lv_at hl 0 rfl) ?_
            refine lv_iload_n hx hb dL_step_380 rfl (lv_at hl 1 rfl) ?_
            refine lv_iload_n hx hb dL_step_381 rfl (lv_at hl 2 rfl) ?_
            refine lv_aload hx hb dL_step_382 (lv_at hl 3 rfl) ?_
            refine gN_callS (As := [.ref (ad 0), .int (nI xN), .int (nI yN), .ref (ad 32)]) (rest := []) ⟨hx, hb, hml, hown, hts⟩ hE hG (cL_derivesC l D cy base ad n A J G n xN yN (by first | assumption | omega) (by first | assumption | omega) (by first | assumption | omega) (by first | assumption | omega) (by first | assumption | omega) (by first | assumption | omega)) (va_cwS 4 hts gL_step_L_derives rfl rfl rfl (by decide +kernel) ⟨Nat.le_of_ble_eq_true rfl, Nat.le_of_ble_eq_true rfl⟩) rfl hl.1 rfl (Nat.le_of_ble_eq_true rfl) dL_step_384 ⟨(by show 1 ≤ 2; omega), (by show 6 ≤ 12; omega)⟩ (fun _ _ _ hz => hz) (fun v_ A384 J384 H locs hp hG => W.widen (k := 1) (n := 6) (by omega) (by omega) ?_)
            obtain ⟨G1_384, rfl, rfl, hC1_384, hG1_384, hd1_384, hO_384⟩ := hp
            refine W.eq (g2 := F0 mM 387 ls [.int (nI 1)]) rfl ?_
            exact gx_zret hx hb hr hlocks hG rfl (by show 1 ≤ 2; omega) (by show 6 ≤ 12; omega) ⟨_, rfl, (by rw [hnq]; exact hL.derive hC1_384 hG1_384 hd1_384 hO_384), ⟨by rw [hG1_384 _ _ (by omega)]; exact Int.le_refl _, fun _ h9 => by omega⟩, fun _ _ => rfl⟩ dL_step_387
          refine lv_iload_n hx hb dL_step_285 rfl (lv_at hl 1 rfl) ?_
          refine lv_bipush (v := nI 11) hx hb dL_step_286 (by decide) ?_
          refine lv_icmp_ne (tgt := 379) hx hb dL_step_288 (by decide) (fun c288 => ?_) (fun c288 => ?_)
          · skip
            have c288 : ¬ (wN = 11) := fun z9 => c288 ((nI_eq (by omega) (by omega)).mpr z9)
            exact LLq379 () _ _ _ hG (lv_sub hl [0, 2, 3, 7] rfl)
          · skip
            have c288 : wN = 11 := (nI_eq (by omega) (by omega)).mp c288
            refine lv_aload_n hx hb dL_step_291 rfl (lv_at hl 0 rfl) ?_
            refine g_callV (As := []) (rest := []) (r := (RX9, TX9, 6)) ⟨hx, hb, hml, hown, hts⟩ hE hG (cX9_onLineC l D cy base ad n A J G n (by first | assumption | omega) (by first | assumption | omega)) (cwV 0 hts gL_step_X9_onLine rfl rfl rfl (by decide +kernel) ⟨Nat.le_of_ble_eq_true rfl, Nat.le_of_ble_eq_true rfl⟩) (by omega) rfl rfl rfl hl.1 rfl (Nat.le_of_ble_eq_true rfl) dL_step_292 ⟨(by show 0 ≤ 2; omega), (by show 0 ≤ 12; omega)⟩ (fun v_ A292 J292 H locs hp hG => ?_)
            obtain ⟨rfl, rfl, rfl⟩ := hp
            refine W.eq (g2 := F0 mM 295 ls [.int (zI (G 28 10))]) rfl ?_
            refine lv_if_le (tgt := 379) hx hb dL_step_295 (by decide) (fun c295 => ?_) (fun c295 => ?_)
            · skip
              have c295 : (zI (G 28 10)) ≤ nI 0 := c295
              have c295 : (G 28 10) ≤ ((0 : Nat) : Int) := (cmp_le (zI_toInt (by omega) (by omega)) (nI_toInt (by omega))).mp c295
              exact LLq379 () _ _ _ hG (lv_sub hl [0, 2, 3, 7] rfl)
            · skip
              have c295 : ¬ ((zI (G 28 10)) ≤ nI 0) := c295
              have c295 : ¬ ((G 28 10) ≤ ((0 : Nat) : Int)) := fun z9 => c295 ((cmp_le (zI_toInt (by omega) (by omega)) (nI_toInt (by omega))).mpr z9)
              refine lv_iload_n hx hb dL_step_298 rfl (lv_at hl 2 rfl) ?_
              refine lv_aload_n hx hb dL_step_299 rfl (lv_at hl 0 rfl) ?_
              refine g_callV (As := []) (rest := [.int (nI xN)]) (r := (RX9, TX9, 6)) ⟨hx, hb, hml, hown, hts⟩ hE hG (cX9_onLineC l D cy base ad n A J G n (by first | assumption | omega) (by first | assumption | omega)) (cwV 0 hts gL_step_X9_onLine rfl rfl rfl (by decide +kernel) ⟨Nat.le_of_ble_eq_true rfl, Nat.le_of_ble_eq_true rfl⟩) (by omega) rfl rfl rfl hl.1 rfl (Nat.le_of_ble_eq_true rfl) dL_step_300 ⟨(by show 0 ≤ 2; omega), (by show 0 ≤ 12; omega)⟩ (fun v_ A300 J300 H locs hp hG => ?_)
              obtain ⟨rfl, rfl, rfl⟩ := hp
              refine W.eq (g2 := F0 mM 303 ls [.int (zI (G 28 10)), .int (nI xN)]) rfl ?_
              refine lv_irem hx hb dL_step_303 (zI_ne0 (by omega) (by omega)) ?_
              refine g_top (y := zI (((xN : Nat) : Int) % G 28 10)) ((by rw [← zI_n]; exact zI_rem (by omega) (by omega) (by omega) (by omega))) ?_
              obtain ⟨ix, hix⟩ : ∃ v : Int, ((xN : Nat) : Int) % G 28 10 = v := ⟨_, rfl⟩
              have hix2 : 0 ≤ ix ∧ ix < G 28 10 := by rw [← hix]; exact ⟨Int.emod_nonneg _ (by omega), Int.emod_lt_of_pos _ (by omega)⟩
              refine g_top (y := zI ix) (by rw [hix]) ?_
              have hbx := hln ix.toNat
              refine lv_istore (lv' := [(8, .int (zI ix)), (0, .ref (ad 0)), (1, .int (nI wN)), (2, .int (nI xN)), (3, .int (nI yN)), (4, .ref (ad 28)), (5, .ref (ad 30)), (6, .ref (ad 31)), (7, .ref (ad 32))]) hx hb dL_step_304 hl (by decide) rfl (fun ls hl => ?_)
              have LLq334 : ∀  (cI : Int) (hcI : 1 ≤ cI ∧ cI ≤ G 28 10 - ix) (H : Heap) (locs : List Loc) (ls : Array Slot), gH D base sM ad (33 + 2 * n) (gw cy ad n A J) H locs → lv_has ls 12 [(8, .int (zI ix)), (0, .ref (ad 0)), (1, .int (nI wN)), (2, .int (nI xN)), (3, .int (nI yN)), (4, .ref (ad 28)), (5, .ref (ad 30)), (6, .ref (ad 31)), (7, .ref (ad 32))] → W pM l eM ({ frames := 9, cells := 2, slots := 12, locals := 178 } : Room) sM mM aM bM methM cM H locs (0) (0) (vx_MQ bM (gPost D cy base ad n (PL_step ad A J G nq wN xN yN)) (gXC D cy base ad n (pxNo)) aM sM 2 12 (fun q => base ≤ q)) (F0 mM 334 ls [.int (zI cI)]) := by
                intro cI hcI H locs ls hG hl
                refine lv_istore (lv' := [(9, .int (zI cI)), (8, .int (zI ix)), (0, .ref (ad 0)), (1, .int (nI wN)), (2, .int (nI xN)), (3, .int (nI yN)), (4, .ref (ad 28)), (5, .ref (ad 30)), (6, .ref (ad 31)), (7, .ref (ad 32))]) hx hb dL_step_334 hl (by decide) rfl (fun ls hl => ?_)
                refine lv_aload hx hb dL_step_336 (lv_at hl 8 rfl) ?_
                refine lv_iconst (v := nI 1) hx hb dL_step_338 (by decide) ?_
                refine lv_dup2_11 hx hb dL_step_339 rfl rfl ?_
                refine g_iald hx hb hE hG (k := 31) (by omega) rfl 1 (rfl) (by omega) (by omega) dL_step_340 ?_
                refine g_top (y := zI c1) (hA1) ?_
                refine lv_iload hx hb dL_step_341 (lv_at hl 0 rfl) ?_
                refine lv_iadd hx hb dL_step_343 ?_
                refine g_top (y := zI (c1 + cI)) (zI_add _ _) ?_
                refine g_iast hx hb hE hG (k := 31) (by omega) (fun _ => rfl) 1 (rfl) (by omega) (by omega) dL_step_344 (fun H locs hG => ?_)
                refine lv_aload_n hx hb dL_step_345 rfl (lv_at hl 2 rfl) ?_
                refine lv_iload hx hb dL_step_346 (lv_at hl 1 rfl) ?_
                refine lv_iload hx hb dL_step_348 (lv_at hl 0 rfl) ?_
                refine gN_callV (As := [.int (zI ix), .int (zI cI)]) (rest := []) (r := (RX9, TX9, 6)) ⟨hx, hb, hml, hown, hts⟩ hE hG (cX9_cutC l D cy base ad n (gu A 31 1 (zI (c1 + cI))) J G n ix cI (by first | assumption | omega) (by first | assumption | omega) (hC.of (fun k hk => gu_ne _ _ _ (by omega))) (by first | assumption | omega) (by first | assumption | omega)) (cwV 2 hts gL_step_X9_cut rfl rfl rfl (by decide +kernel) ⟨Nat.le_of_ble_eq_true rfl, Nat.le_of_ble_eq_true rfl⟩) (by omega) rfl rfl rfl hl.1 rfl (Nat.le_of_ble_eq_true rfl) dL_step_350 ⟨(by show 1 ≤ 2; omega), (by show 6 ≤ 12; omega)⟩ (fun e_ A_ J_ hz => by
                  rcases hz with ⟨he_, hA_, hJ_, hf0_⟩ | ⟨he_, hA_, hJ_, hf0_⟩
                  · omega
                  · omega) (fun v_ A350 J350 H locs hp hG => W.widen (k := 1) (n := 6) (by omega) (by omega) ?_)
                obtain ⟨rfl, rfl, hin_350, hC1_350, hO_350⟩ := hp
                refine W.eq (g2 := F0 mM 353 ls [.int (zI (G 28 10 - cI))]) rfl ?_
                refine lv_bipush (v := nI 8) hx hb dL_step_353 (by decide) ?_
                refine lv_aload hx hb dL_step_355 (lv_at hl 8 rfl) ?_
                refine lv_iconst (v := nI 0) hx hb dL_step_357 (by decide) ?_
                refine g_iald hx hb hE hG (k := 31) (by omega) rfl 0 (rfl) (by omega) (by omega) dL_step_358 ?_
                refine g_top (y := zI (G 28 9)) ((congrFun (hO_350 31 (by omega)) 0).trans (by rw [gu_at, if_neg (by omega)]; exact hA0)) ?_
                refine lv_imul hx hb dL_step_359 ?_
                refine g_top (y := zI (8 * (G 28 9))) (zI_mul_ni _ _) ?_
                refine lv_aload hx hb dL_step_360 (lv_at hl 8 rfl) ?_
                refine lv_iconst (v := nI 1) hx hb dL_step_362 (by decide) ?_
                refine g_iald hx hb hE hG (k := 31) (by omega) rfl 1 (rfl) (by omega) (by omega) dL_step_363 ?_
                refine g_top (y := zI (c1 + cI)) ((congrFun (hO_350 31 (by omega)) 1).trans (by rw [gu_at, if_pos ⟨rfl, rfl⟩])) ?_
                refine lv_isub hx hb dL_step_364 ?_
                refine g_top (y := zI ((8 * (G 28 9)) - (c1 + cI))) (zI_sub _ _) ?_
                refine lv_aload_n hx hb dL_step_365 rfl (lv_at hl 2 rfl) ?_
                refine g_callV (As := []) (rest := [.int (zI ((8 * (G 28 9)) - (c1 + cI))), .int (zI (G 28 10 - cI))]) (r := (RX9, TX9, 6)) ⟨hx, hb, hml, hown, hts⟩ hE hG (cX9_takenC l D cy base ad n A350 J (mDrop G ix.toNat cI.toNat (G 28 10 - ((cI.toNat : Nat) : Int)).toNat) n (by first | assumption | omega) hC1_350) (cwV 0 hts gL_step_X9_taken rfl rfl rfl (by decide +kernel) ⟨Nat.le_of_ble_eq_true rfl, Nat.le_of_ble_eq_true rfl⟩) (by omega) rfl rfl rfl hl.1 rfl (Nat.le_of_ble_eq_true rfl) dL_step_366 ⟨(by show 1 ≤ 2; omega), (by show 6 ≤ 12; omega)⟩ (fun v_ A366 J366 H locs hp hG => ?_)
                obtain ⟨rfl, rfl, rfl⟩ := hp
                refine W.eq (g2 := F0 mM 369 ls [.int (zI ((mDrop G ix.toNat cI.toNat (G 28 10 - ((cI.toNat : Nat) : Int)).toNat) 28 12)), .int (zI ((8 * (G 28 9)) - (c1 + cI))), .int (zI (G 28 10 - cI))]) rfl ?_
                refine g_top (y := zI (G 28 12)) (by rw [drop_j (by decide)]) ?_
                refine lv_isub hx hb dL_step_369 ?_
                refine g_top (y := zI (((8 * (G 28 9)) - (c1 + cI)) - (G 28 12))) (zI_sub _ _) ?_
                refine lv_icmp_ne (tgt := 377) hx hb dL_step_370 (by decide) (fun c370 => ?_) (fun c370 => ?_)
                · skip
                  have c370 : ¬ ((G 28 10 - cI) = (((8 * (G 28 9)) - (c1 + cI)) - (G 28 12))) := fun z9 => c370 ((cmp_eq (zI_toInt (by omega) (by omega)) (zI_toInt (by omega) (by omega))).mpr z9)
                  exfalso; omega
                · skip
                  have c370 : (G 28 10 - cI) = (((8 * (G 28 9)) - (c1 + cI)) - (G 28 12)) := (cmp_eq (zI_toInt (by omega) (by omega)) (zI_toInt (by omega) (by omega))).mp c370
                  refine lv_iconst (v := nI 1) hx hb dL_step_373 (by decide) ?_
                  refine lv_goto (tgt := 378) hx hb dL_step_374 (by decide) ?_
                  exact gx_zret hx hb hr hlocks hG rfl (by show 1 ≤ 2; omega) (by show 6 ≤ 12; omega) ⟨_, rfl, (by rw [hnq]; exact hL.cut hC1_350 (by omega) (by omega) hA1 (by omega) hO_350), ⟨by rw [drop_j (by decide)]; exact Int.le_refl _, fun _ h9 => by omega⟩, fun _ _ => rfl⟩ dL_step_378
              refine lv_iconst (v := nI 1) hx hb dL_step_306 (by decide) ?_
              refine lv_iload_n hx hb dL_step_307 rfl (lv_at hl 4 rfl) ?_
              refine lv_aload_n hx hb dL_step_308 rfl (lv_at hl 1 rfl) ?_
              refine g_callV (As := []) (rest := [.int (nI yN), .int (nI 1)]) (r := (RX9, TX9, 6)) ⟨hx, hb, hml, hown, hts⟩ hE hG (cX9_onLineC l D cy base ad n A J G n (by first | assumption | omega) (by first | assumption | omega)) (cwV 0 hts gL_step_X9_onLine rfl rfl rfl (by decide +kernel) ⟨Nat.le_of_ble_eq_true rfl, Nat.le_of_ble_eq_true rfl⟩) (by omega) rfl rfl rfl hl.1 rfl (Nat.le_of_ble_eq_true rfl) dL_step_309 ⟨(by show 0 ≤ 2; omega), (by show 0 ≤ 12; omega)⟩ (fun v_ A309 J309 H locs hp hG => ?_)
              obtain ⟨rfl, rfl, rfl⟩ := hp
              refine W.eq (g2 := F0 mM 312 ls [.int (zI (G 28 10)), .int (nI yN), .int (nI 1)]) rfl ?_
              refine lv_iload hx hb dL_step_312 (lv_at hl 0 rfl) ?_
              refine lv_isub hx hb dL_step_314 ?_
              refine g_top (y := zI ((G 28 10) - ix)) (zI_sub _ _) ?_
              refine lv_bipush (v := nI 70) hx hb dL_step_315 (by decide) ?_
              refine lv_icmp_ge (tgt := 330) hx hb dL_step_317 (by decide) (fun c317 => ?_) (fun c317 => ?_)
              · skip
                have c317 : ((70 : Nat) : Int) ≤ ((G 28 10) - ix) := (cmp_le (nI_toInt (by omega)) (zI_toInt (by omega) (by omega))).mp c317
                refine lv_bipush (v := nI 70) hx hb dL_step_330 (by decide) ?_
                refine lv_irem hx hb dL_step_332 (by decide) ?_
                refine g_top (y := nI (yN % 70)) (pk_rem (by omega) (by omega) (by omega)) ?_
                refine lv_iadd hx hb dL_step_333 ?_
                refine g_top (y := nI (1 + (yN % 70))) (by rw [nI_add]) ?_
                exact LLq334 ((1 + (yN % 70) : Nat) : Int) (by omega) _ _ _ hG (lv_sub hl [0, 1, 2, 3, 4, 5, 6, 7, 8] rfl)
              · skip
                have c317 : ¬ (((70 : Nat) : Int) ≤ ((G 28 10) - ix)) := fun z9 => c317 ((cmp_le (nI_toInt (by omega)) (zI_toInt (by omega) (by omega))).mpr z9)
                refine lv_aload_n hx hb dL_step_320 rfl (lv_at hl 1 rfl) ?_
                refine g_callV (As := []) (rest := [.int (nI yN), .int (nI 1)]) (r := (RX9, TX9, 6)) ⟨hx, hb, hml, hown, hts⟩ hE hG (cX9_onLineC l D cy base ad n A J G n (by first | assumption | omega) (by first | assumption | omega)) (cwV 0 hts gL_step_X9_onLine rfl rfl rfl (by decide +kernel) ⟨Nat.le_of_ble_eq_true rfl, Nat.le_of_ble_eq_true rfl⟩) (by omega) rfl rfl rfl hl.1 rfl (Nat.le_of_ble_eq_true rfl) dL_step_321 ⟨(by show 0 ≤ 2; omega), (by show 0 ≤ 12; omega)⟩ (fun v_ A321 J321 H locs hp hG => ?_)
                obtain ⟨rfl, rfl, rfl⟩ := hp
                refine W.eq (g2 := F0 mM 324 ls [.int (zI (G 28 10)), .int (nI yN), .int (nI 1)]) rfl ?_
                refine lv_iload hx hb dL_step_324 (lv_at hl 0 rfl) ?_
                refine lv_isub hx hb dL_step_326 ?_
                refine g_top (y := zI ((G 28 10) - ix)) (zI_sub _ _) ?_
                refine lv_goto (tgt := 332) hx hb dL_step_327 (by decide) ?_
                refine lv_irem hx hb dL_step_332 (zI_ne0 (by omega) (by omega)) ?_
                refine g_top (y := zI (((yN : Nat) : Int) % ((G 28 10) - ix))) (by simp only [← zI_n]; exact zI_rem (by omega) (by omega) (by omega) (by omega)) ?_
                have hm1 := Int.emod_nonneg (yN : Int) (show (G 28 10 - ix) ≠ 0 by omega)
                have hm2 := Int.emod_lt_of_pos (yN : Int) (show 0 < (G 28 10 - ix) by omega)
                refine lv_iadd hx hb dL_step_333 ?_
                refine g_top (y := zI (1 + (((yN : Nat) : Int) % ((G 28 10) - ix)))) (zI_add_ni _ _) ?_
                exact LLq334 (1 + (((yN : Nat) : Int) % ((G 28 10) - ix))) (by omega) _ _ _ hG (lv_sub hl [0, 1, 2, 3, 4, 5, 6, 7, 8] rfl)
        refine lv_iload_n hx hb dL_step_253 rfl (lv_at hl 1 rfl) ?_
        refine lv_bipush (v := nI 10) hx hb dL_step_254 (by decide) ?_
        refine lv_icmp_ne (tgt := 285) hx hb dL_step_256 (by decide) (fun c256 => ?_) (fun c256 => ?_)
        · skip
          have c256 : ¬ (wN = 10) := fun z9 => c256 ((nI_eq (by omega) (by omega)).mpr z9)
          exact LLq285 () _ _ _ hG (lv_sub hl [0, 1, 2, 3, 4, 5, 6, 7] rfl)
        · skip
          have c256 : wN = 10 := (nI_eq (by omega) (by omega)).mp c256
          refine lv_aload_n hx hb dL_step_259 rfl (lv_at hl 0 rfl) ?_
          refine g_callV (As := []) (rest := []) (r := (RX9, TX9, 6)) ⟨hx, hb, hml, hown, hts⟩ hE hG (cX9_onLineC l D cy base ad n A J G n (by first | assumption | omega) (by first | assumption | omega)) (cwV 0 hts gL_step_X9_onLine rfl rfl rfl (by decide +kernel) ⟨Nat.le_of_ble_eq_true rfl, Nat.le_of_ble_eq_true rfl⟩) (by omega) rfl rfl rfl hl.1 rfl (Nat.le_of_ble_eq_true rfl) dL_step_260 ⟨(by show 0 ≤ 2; omega), (by show 0 ≤ 12; omega)⟩ (fun v_ A260 J260 H locs hp hG => ?_)
          obtain ⟨rfl, rfl, rfl⟩ := hp
          refine W.eq (g2 := F0 mM 263 ls [.int (zI (G 28 10))]) rfl ?_
          refine lv_if_le (tgt := 285) hx hb dL_step_263 (by decide) (fun c263 => ?_) (fun c263 => ?_)
          · skip
            have c263 : (zI (G 28 10)) ≤ nI 0 := c263
            have c263 : (G 28 10) ≤ ((0 : Nat) : Int) := (cmp_le (zI_toInt (by omega) (by omega)) (nI_toInt (by omega))).mp c263
            exact LLq285 () _ _ _ hG (lv_sub hl [0, 1, 2, 3, 4, 5, 6, 7] rfl)
          · skip
            have c263 : ¬ ((zI (G 28 10)) ≤ nI 0) := c263
            have c263 : ¬ ((G 28 10) ≤ ((0 : Nat) : Int)) := fun z9 => c263 ((cmp_le (zI_toInt (by omega) (by omega)) (nI_toInt (by omega))).mpr z9)
            refine lv_aload_n hx hb dL_step_266 rfl (lv_at hl 0 rfl) ?_
            refine lv_iload_n hx hb dL_step_267 rfl (lv_at hl 2 rfl) ?_
            refine lv_aload_n hx hb dL_step_268 rfl (lv_at hl 0 rfl) ?_
            refine g_callV (As := []) (rest := [.int (nI xN), .ref (ad 0)]) (r := (RX9, TX9, 6)) ⟨hx, hb, hml, hown, hts⟩ hE hG (cX9_onLineC l D cy base ad n A J G n (by first | assumption | omega) (by first | assumption | omega)) (cwV 0 hts gL_step_X9_onLine rfl rfl rfl (by decide +kernel) ⟨Nat.le_of_ble_eq_true rfl, Nat.le_of_ble_eq_true rfl⟩) (by omega) rfl rfl rfl hl.1 rfl (Nat.le_of_ble_eq_true rfl) dL_step_269 ⟨(by show 0 ≤ 2; omega), (by show 0 ≤ 12; omega)⟩ (fun v_ A269 J269 H locs hp hG => ?_)
            obtain ⟨rfl, rfl, rfl⟩ := hp
            refine W.eq (g2 := F0 mM 272 ls [.int (zI (G 28 10)), .int (nI xN), .ref (ad 0)]) rfl ?_
            refine lv_irem hx hb dL_step_272 (zI_ne0 (by omega) (by omega)) ?_
            refine g_top (y := zI (((xN : Nat) : Int) % G 28 10)) ((by rw [← zI_n]; exact zI_rem (by omega) (by omega) (by omega) (by omega))) ?_
            obtain ⟨ix, hix⟩ : ∃ v : Int, ((xN : Nat) : Int) % G 28 10 = v := ⟨_, rfl⟩
            have hix2 : 0 ≤ ix ∧ ix < G 28 10 := by rw [← hix]; exact ⟨Int.emod_nonneg _ (by omega), Int.emod_lt_of_pos _ (by omega)⟩
            refine g_top (y := zI ix) (by rw [hix]) ?_
            have hbx := hln ix.toNat
            refine gN_callV (As := [.int (zI ix)]) (rest := []) (r := (RX9, TX9, 6)) ⟨hx, hb, hml, hown, hts⟩ hE hG (cX9_flipC l D cy base ad n A J G n ix (by first | assumption | omega) (by first | assumption | omega) (by first | assumption | omega) (by first | assumption | omega)) (cwV 1 hts gL_step_X9_flip rfl rfl rfl (by decide +kernel) ⟨Nat.le_of_ble_eq_true rfl, Nat.le_of_ble_eq_true rfl⟩) (by omega) rfl rfl rfl hl.1 rfl (Nat.le_of_ble_eq_true rfl) dL_step_273 ⟨(by show 1 ≤ 2; omega), (by show 6 ≤ 12; omega)⟩ (fun e_ A_ J_ hz => by
              rcases hz with ⟨he_, hA_, hJ_, hf0_⟩
              · omega) (fun v_ A273 J273 H locs hp hG => W.widen (k := 1) (n := 6) (by omega) (by omega) ?_)
            obtain ⟨rfl, rfl, hin_273, hC1_273, hO_273⟩ := hp
            refine W.eq (g2 := F0 mM 276 ls [.int (zI (1 - G 37 ix.toNat))]) rfl ?_
            refine lv_if_lt (tgt := 283) hx hb dL_step_276 (by decide) (fun c276 => ?_) (fun c276 => ?_)
            · skip
              have c276 : (zI (1 - G 37 ix.toNat)) < nI 0 := c276
              have c276 : (1 - G 37 ix.toNat) < ((0 : Nat) : Int) := (cmp_lt (zI_toInt (by omega) (by omega)) (nI_toInt (by omega))).mp c276
              exfalso; omega
            · skip
              have c276 : ¬ ((zI (1 - G 37 ix.toNat)) < nI 0) := c276
              have c276 : ¬ ((1 - G 37 ix.toNat) < ((0 : Nat) : Int)) := fun z9 => c276 ((cmp_lt (zI_toInt (by omega) (by omega)) (nI_toInt (by omega))).mpr z9)
              refine lv_iconst (v := nI 1) hx hb dL_step_279 (by decide) ?_
              refine lv_goto (tgt := 284) hx hb dL_step_280 (by decide) ?_
              exact gx_zret hx hb hr hlocks hG rfl (by show 1 ≤ 2; omega) (by show 6 ≤ 12; omega) ⟨_, rfl, (by rw [hnq]; exact hL.flip hC1_273 (fun k hk => hO_273 k (by omega))), ⟨by rw [gu_ne _ _ _ (by decide)]; exact Int.le_refl _, fun _ h9 => by omega⟩, fun _ _ => rfl⟩ dL_step_284
      · skip
        have c165 : ¬ (10 ≤ wN) := fun z9 => c165 ((nI_leI (by omega) (by omega)).mpr z9)
        refine lv_aload_n hx hb dL_step_168 rfl (lv_at hl 0 rfl) ?_
        refine g_callV (As := []) (rest := []) (r := (RX9, TX9, 6)) ⟨hx, hb, hml, hown, hts⟩ hE hG (cX9_onLineC l D cy base ad n A J G n (by first | assumption | omega) (by first | assumption | omega)) (cwV 0 hts gL_step_X9_onLine rfl rfl rfl (by decide +kernel) ⟨Nat.le_of_ble_eq_true rfl, Nat.le_of_ble_eq_true rfl⟩) (by omega) rfl rfl rfl hl.1 rfl (Nat.le_of_ble_eq_true rfl) dL_step_169 ⟨(by show 0 ≤ 2; omega), (by show 0 ≤ 12; omega)⟩ (fun v_ A169 J169 H locs hp hG => ?_)
        obtain ⟨rfl, rfl, rfl⟩ := hp
        refine W.eq (g2 := F0 mM 172 ls [.int (zI (G 28 10))]) rfl ?_
        refine lv_istore (lv' := [(8, .int (zI (G 28 10))), (0, .ref (ad 0)), (1, .int (nI wN)), (2, .int (nI xN)), (3, .int (nI yN)), (4, .ref (ad 28)), (5, .ref (ad 30)), (6, .ref (ad 31)), (7, .ref (ad 32))]) hx hb dL_step_172 hl (by decide) rfl (fun ls hl => ?_)
        have LLq193 : ∀  (bN : Nat) (hbN : 1 ≤ bN ∧ bN ≤ 600) (H : Heap) (locs : List Loc) (ls : Array Slot), gH D base sM ad (33 + 2 * n) (gw cy ad n A J) H locs → lv_has ls 12 [(8, .int (zI (G 28 10))), (0, .ref (ad 0)), (1, .int (nI wN)), (2, .int (nI xN)), (3, .int (nI yN)), (4, .ref (ad 28)), (5, .ref (ad 30)), (6, .ref (ad 31)), (7, .ref (ad 32))] → W pM l eM ({ frames := 9, cells := 2, slots := 12, locals := 178 } : Room) sM mM aM bM methM cM H locs (0) (0) (vx_MQ bM (gPost D cy base ad n (PL_step ad A J G nq wN xN yN)) (gXC D cy base ad n (pxNo)) aM sM 2 12 (fun q => base ≤ q)) (F0 mM 193 ls [.int (nI bN)]) := by
          intro bN hbN H locs ls hG hl
          refine lv_istore (lv' := [(9, .int (nI bN)), (8, .int (zI (G 28 10))), (0, .ref (ad 0)), (1, .int (nI wN)), (2, .int (nI xN)), (3, .int (nI yN)), (4, .ref (ad 28)), (5, .ref (ad 30)), (6, .ref (ad 31)), (7, .ref (ad 32))]) hx hb dL_step_193 hl (by decide) rfl (fun ls hl => ?_)
          refine lv_aload_n hx hb dL_step_195 rfl (lv_at hl 2 rfl) ?_
          refine g_callV (As := []) (rest := []) (r := (RX9, TX9, 6)) ⟨hx, hb, hml, hown, hts⟩ hE hG (cX9_framesC l D cy base ad n A J G n (by first | assumption | omega) (by first | assumption | omega)) (cwV 0 hts gL_step_X9_frames rfl rfl rfl (by decide +kernel) ⟨Nat.le_of_ble_eq_true rfl, Nat.le_of_ble_eq_true rfl⟩) (by omega) rfl rfl rfl hl.1 rfl (Nat.le_of_ble_eq_true rfl) dL_step_196 ⟨(by show 0 ≤ 2; omega), (by show 0 ≤ 12; omega)⟩ (fun v_ A196 J196 H locs hp hG => ?_)
          obtain ⟨rfl, rfl, rfl⟩ := hp
          refine W.eq (g2 := F0 mM 199 ls [.int (zI (G 28 21))]) rfl ?_
          refine lv_istore (lv' := [(10, .int (zI (G 28 21))), (9, .int (nI bN)), (8, .int (zI (G 28 10))), (0, .ref (ad 0)), (1, .int (nI wN)), (2, .int (nI xN)), (3, .int (nI yN)), (4, .ref (ad 28)), (5, .ref (ad 30)), (6, .ref (ad 31)), (7, .ref (ad 32))]) hx hb dL_step_199 hl (by decide) rfl (fun ls hl => ?_)
          refine lv_aload_n hx hb dL_step_201 rfl (lv_at hl 3 rfl) ?_
          refine g_callV (As := []) (rest := []) (r := (RX9, TX9, 6)) ⟨hx, hb, hml, hown, hts⟩ hE hG (cX9_takenC l D cy base ad n A J G n (by first | assumption | omega) (by first | assumption | omega)) (cwV 0 hts gL_step_X9_taken rfl rfl rfl (by decide +kernel) ⟨Nat.le_of_ble_eq_true rfl, Nat.le_of_ble_eq_true rfl⟩) (by omega) rfl rfl rfl hl.1 rfl (Nat.le_of_ble_eq_true rfl) dL_step_202 ⟨(by show 0 ≤ 2; omega), (by show 0 ≤ 12; omega)⟩ (fun v_ A202 J202 H locs hp hG => ?_)
          obtain ⟨rfl, rfl, rfl⟩ := hp
          refine W.eq (g2 := F0 mM 205 ls [.int (zI (G 28 12))]) rfl ?_
          refine lv_istore (lv' := [(11, .int (zI (G 28 12))), (10, .int (zI (G 28 21))), (9, .int (nI bN)), (8, .int (zI (G 28 10))), (0, .ref (ad 0)), (1, .int (nI wN)), (2, .int (nI xN)), (3, .int (nI yN)), (4, .ref (ad 28)), (5, .ref (ad 30)), (6, .ref (ad 31)), (7, .ref (ad 32))]) hx hb dL_step_205 hl (by decide) rfl (fun ls hl => ?_)
          refine lv_aload_n hx hb dL_step_207 rfl (lv_at hl 4 rfl) ?_
          refine lv_iload hx hb dL_step_208 (lv_at hl 2 rfl) ?_
          refine gN_callV (As := [.int (nI bN)]) (rest := []) (r := (RX9, TX9, 6)) ⟨hx, hb, hml, hown, hts⟩ hE hG (cX9_receiveC l D cy base ad n A J G n ((bN : Nat) : Int) (by first | assumption | omega) (by first | assumption | omega) (by first | assumption | omega) (by first | assumption | omega)) (cwV 1 hts gL_step_X9_receive rfl rfl rfl (by decide +kernel) ⟨Nat.le_of_ble_eq_true rfl, Nat.le_of_ble_eq_true rfl⟩) (by omega) rfl rfl rfl hl.1 rfl (Nat.le_of_ble_eq_true rfl) dL_step_210 ⟨(by show 1 ≤ 2; omega), (by show 6 ≤ 12; omega)⟩ (fun e_ A_ J_ hz => by
            rcases hz with ⟨he_, hA_, hJ_, hf0_⟩
            · omega) (fun v_ A210 J210 H locs hp hG => W.widen (k := 1) (n := 6) (by omega) (by omega) ?_)
          obtain ⟨mq_210, rfl, hin_210, hmq2_210, hC1_210, hO_210, hJ9_210⟩ := hp
          refine W.eq (g2 := F0 mM 213 ls [.int (zI (mRcvU G mq_210))]) rfl ?_
          refine lv_aload_n hx hb dL_step_213 rfl (lv_at hl 4 rfl) ?_
          refine g_callV (As := []) (rest := [.int (zI (mRcvU G mq_210))]) (r := (RX9, TX9, 6)) ⟨hx, hb, hml, hown, hts⟩ hE hG (cX9_framesC l D cy base ad n A210 J210 (mDrop (mRcv G mq_210) 0 mq_210 (G 28 10 - (mq_210 : Int)).toNat) n (by first | assumption | omega) hC1_210) (cwV 0 hts gL_step_X9_frames rfl rfl rfl (by decide +kernel) ⟨Nat.le_of_ble_eq_true rfl, Nat.le_of_ble_eq_true rfl⟩) (by omega) rfl rfl rfl hl.1 rfl (Nat.le_of_ble_eq_true rfl) dL_step_214 ⟨(by show 1 ≤ 2; omega), (by show 6 ≤ 12; omega)⟩ (fun v_ A214 J214 H locs hp hG => ?_)
          obtain ⟨rfl, rfl, rfl⟩ := hp
          refine W.eq (g2 := F0 mM 217 ls [.int (zI ((mDrop (mRcv G mq_210) 0 mq_210 (G 28 10 - (mq_210 : Int)).toNat) 28 21)), .int (zI (mRcvU G mq_210))]) rfl ?_
          refine g_top (y := zI (G 28 21 + mRcvU G mq_210)) (by rw [drop_j (by decide), mRcv_21]) ?_
          have hU := mRcvU_r G mq_210
          refine lv_iload hx hb dL_step_217 (lv_at hl 1 rfl) ?_
          refine lv_isub hx hb dL_step_219 ?_
          refine g_top (y := zI ((G 28 21 + mRcvU G mq_210) - (G 28 21))) (zI_sub _ _) ?_
          refine lv_icmp_ne (tgt := 251) hx hb dL_step_220 (by decide) (fun c220 => ?_) (fun c220 => ?_)
          · skip
            have c220 : ¬ ((mRcvU G mq_210) = ((G 28 21 + mRcvU G mq_210) - (G 28 21))) := fun z9 => c220 ((cmp_eq (zI_toInt (by omega) (by omega)) (zI_toInt (by omega) (by omega))).mpr z9)
            exfalso; omega
          · skip
            have c220 : (mRcvU G mq_210) = ((G 28 21 + mRcvU G mq_210) - (G 28 21)) := (cmp_eq (zI_toInt (by omega) (by omega)) (zI_toInt (by omega) (by omega))).mp c220
            refine lv_aload_n hx hb dL_step_223 rfl (lv_at hl 4 rfl) ?_
            refine g_callV (As := []) (rest := []) (r := (RX9, TX9, 6)) ⟨hx, hb, hml, hown, hts⟩ hE hG (cX9_takenC l D cy base ad n A210 J210 (mDrop (mRcv G mq_210) 0 mq_210 (G 28 10 - (mq_210 : Int)).toNat) n (by first | assumption | omega) hC1_210) (cwV 0 hts gL_step_X9_taken rfl rfl rfl (by decide +kernel) ⟨Nat.le_of_ble_eq_true rfl, Nat.le_of_ble_eq_true rfl⟩) (by omega) rfl rfl rfl hl.1 rfl (Nat.le_of_ble_eq_true rfl) dL_step_224 ⟨(by show 1 ≤ 2; omega), (by show 6 ≤ 12; omega)⟩ (fun v_ A224 J224 H locs hp hG => ?_)
            obtain ⟨rfl, rfl, rfl⟩ := hp
            refine W.eq (g2 := F0 mM 227 ls [.int (zI ((mDrop (mRcv G mq_210) 0 mq_210 (G 28 10 - (mq_210 : Int)).toNat) 28 12))]) rfl ?_
            refine g_top (y := zI (G 28 12 + (mq_210 : Int))) (by rw [drop_j (by decide), mRcv_12]) ?_
            refine lv_iload hx hb dL_step_227 (lv_at hl 0 rfl) ?_
            refine lv_iload hx hb dL_step_229 (lv_at hl 2 rfl) ?_
            refine lv_iload hx hb dL_step_231 (lv_at hl 3 rfl) ?_
            refine lv_icmp_ge (tgt := 241) hx hb dL_step_233 (by decide) (fun c233 => ?_) (fun c233 => ?_)
            · skip
              have c233 : (G 28 10) ≤ ((bN : Nat) : Int) := (cmp_le (zI_toInt (by omega) (by omega)) (nI_toInt (by omega))).mp c233
              refine lv_iload hx hb dL_step_241 (lv_at hl 3 rfl) ?_
              refine lv_iadd hx hb dL_step_243 ?_
              refine g_top (y := zI ((G 28 12) + (G 28 10))) (zI_add _ _) ?_
              refine lv_icmp_ne (tgt := 251) hx hb dL_step_244 (by decide) (fun c244 => ?_) (fun c244 => ?_)
              · skip
                have c244 : ¬ ((G 28 12 + (mq_210 : Int)) = ((G 28 12) + (G 28 10))) := fun z9 => c244 ((cmp_eq (zI_toInt (by omega) (by omega)) (zI_toInt (by omega) (by omega))).mpr z9)
                exfalso; omega
              · skip
                have c244 : (G 28 12 + (mq_210 : Int)) = ((G 28 12) + (G 28 10)) := (cmp_eq (zI_toInt (by omega) (by omega)) (zI_toInt (by omega) (by omega))).mp c244
                refine lv_iconst (v := nI 1) hx hb dL_step_247 (by decide) ?_
                refine lv_goto (tgt := 252) hx hb dL_step_248 (by decide) ?_
                exact gx_zret hx hb hr hlocks hG rfl (by show 1 ≤ 2; omega) (by show 6 ≤ 12; omega) ⟨_, rfl, (by rw [hnq]; exact hL.rcv hC1_210 (by omega) hO_210), ⟨by rw [drop_j (by decide), mRcv_sc G _ (by omega)]; exact Int.le_refl _, fun _ h9 => by omega⟩, hJ9_210⟩ dL_step_252
            · skip
              have c233 : ¬ ((G 28 10) ≤ ((bN : Nat) : Int)) := fun z9 => c233 ((cmp_le (zI_toInt (by omega) (by omega)) (nI_toInt (by omega))).mpr z9)
              refine lv_iload hx hb dL_step_236 (lv_at hl 2 rfl) ?_
              refine lv_goto (tgt := 243) hx hb dL_step_238 (by decide) ?_
              refine lv_iadd hx hb dL_step_243 ?_
              refine g_top (y := zI ((G 28 12) + ((bN : Nat) : Int))) (zI_add_in _ _) ?_
              refine lv_icmp_ne (tgt := 251) hx hb dL_step_244 (by decide) (fun c244 => ?_) (fun c244 => ?_)
              · skip
                have c244 : ¬ ((G 28 12 + (mq_210 : Int)) = ((G 28 12) + ((bN : Nat) : Int))) := fun z9 => c244 ((cmp_eq (zI_toInt (by omega) (by omega)) (zI_toInt (by omega) (by omega))).mpr z9)
                exfalso; omega
              · skip
                have c244 : (G 28 12 + (mq_210 : Int)) = ((G 28 12) + ((bN : Nat) : Int)) := (cmp_eq (zI_toInt (by omega) (by omega)) (zI_toInt (by omega) (by omega))).mp c244
                refine lv_iconst (v := nI 1) hx hb dL_step_247 (by decide) ?_
                refine lv_goto (tgt := 252) hx hb dL_step_248 (by decide) ?_
                exact gx_zret hx hb hr hlocks hG rfl (by show 1 ≤ 2; omega) (by show 6 ≤ 12; omega) ⟨_, rfl, (by rw [hnq]; exact hL.rcv hC1_210 (by omega) hO_210), ⟨by rw [drop_j (by decide), mRcv_sc G _ (by omega)]; exact Int.le_refl _, fun _ h9 => by omega⟩, hJ9_210⟩ dL_step_252
        refine lv_iconst (v := nI 1) hx hb dL_step_174 (by decide) ?_
        refine lv_iload_n hx hb dL_step_175 rfl (lv_at hl 3 rfl) ?_
        refine lv_iload_n hx hb dL_step_176 rfl (lv_at hl 4 rfl) ?_
        refine lv_iconst (v := nI 3) hx hb dL_step_177 (by decide) ?_
        refine lv_irem hx hb dL_step_178 (by decide) ?_
        refine g_top (y := nI (yN % 3)) (pk_rem (by omega) (by omega) (by omega)) ?_
        refine lv_if_ne (tgt := 188) hx hb dL_step_179 (by decide) (fun c179 => ?_) (fun c179 => ?_)
        · skip
          have c179 : ¬ ((nI (yN % 3)) = nI 0) := c179
          have c179 : ¬ ((yN % 3) = 0) := fun z9 => c179 ((nI_eq (by omega) (by omega)).mpr z9)
          refine lv_sipush (v := nI 130) hx hb dL_step_188 (by decide) ?_
          refine lv_irem hx hb dL_step_191 (by decide) ?_
          refine g_top (y := nI (xN % 130)) (pk_rem (by omega) (by omega) (by omega)) ?_
          refine lv_iadd hx hb dL_step_192 ?_
          refine g_top (y := nI (1 + (xN % 130))) (by rw [nI_add]) ?_
          exact LLq193 (1 + (xN % 130)) (by omega) _ _ _ hG (lv_sub hl [0, 1, 2, 3, 4, 5, 6, 7, 8] rfl)
        · skip
          have c179 : (nI (yN % 3)) = nI 0 := c179
          have c179 : (yN % 3) = 0 := (nI_eq (by omega) (by omega)).mp c179
          refine lv_sipush (v := nI 600) hx hb dL_step_182 (by decide) ?_
          refine lv_goto (tgt := 191) hx hb dL_step_185 (by decide) ?_
          refine lv_irem hx hb dL_step_191 (by decide) ?_
          refine g_top (y := nI (xN % 600)) (pk_rem (by omega) (by omega) (by omega)) ?_
          refine lv_iadd hx hb dL_step_192 ?_
          refine g_top (y := nI (1 + (xN % 600))) (by rw [nI_add]) ?_
          exact LLq193 (1 + (xN % 600)) (by omega) _ _ _ hG (lv_sub hl [0, 1, 2, 3, 4, 5, 6, 7, 8] rfl)
    · skip
      have c84 : ¬ (6 ≤ wN) := fun z9 => c84 ((nI_leI (by omega) (by omega)).mpr z9)
      have LLq104 : ∀  (tN : Nat) (htN : 1 ≤ tN ∧ tN ≤ 40) (H : Heap) (locs : List Loc) (ls : Array Slot), gH D base sM ad (33 + 2 * n) (gw cy ad n A J) H locs → lv_has ls 12 [(0, .ref (ad 0)), (1, .int (nI wN)), (2, .int (nI xN)), (3, .int (nI yN)), (4, .ref (ad 28)), (5, .ref (ad 30)), (6, .ref (ad 31)), (7, .ref (ad 32))] → W pM l eM ({ frames := 9, cells := 2, slots := 12, locals := 178 } : Room) sM mM aM bM methM cM H locs (0) (0) (vx_MQ bM (gPost D cy base ad n (PL_step ad A J G nq wN xN yN)) (gXC D cy base ad n (pxNo)) aM sM 2 12 (fun q => base ≤ q)) (F0 mM 104 ls [.int (nI tN)]) := by
        intro tN htN H locs ls hG hl
        refine lv_istore (lv' := [(8, .int (nI tN)), (0, .ref (ad 0)), (1, .int (nI wN)), (2, .int (nI xN)), (3, .int (nI yN)), (4, .ref (ad 28)), (5, .ref (ad 30)), (6, .ref (ad 31)), (7, .ref (ad 32))]) hx hb dL_step_104 hl (by decide) rfl (fun ls hl => ?_)
        refine lv_aload hx hb dL_step_106 (lv_at hl 7 rfl) ?_
        refine lv_iconst (v := nI 0) hx hb dL_step_108 (by decide) ?_
        refine g_iald hx hb hE hG (k := 31) (by omega) rfl 0 (rfl) (by omega) (by omega) dL_step_109 ?_
        refine g_top (y := zI (G 28 9)) (hA0) ?_
        refine lv_iload hx hb dL_step_110 (lv_at hl 0 rfl) ?_
        refine lv_iadd hx hb dL_step_112 ?_
        refine g_top (y := zI ((G 28 9) + ((tN : Nat) : Int))) (zI_add_in _ _) ?_
        refine lv_sipush (v := nI 1000) hx hb dL_step_113 (by decide) ?_
        refine lv_icmp_le (tgt := 121) hx hb dL_step_116 (by decide) (fun c116 => ?_) (fun c116 => ?_)
        · skip
          have c116 : ((G 28 9) + ((tN : Nat) : Int)) ≤ ((1000 : Nat) : Int) := (cmp_le (zI_toInt (by omega) (by omega)) (nI_toInt (by omega))).mp c116
          refine lv_aload hx hb dL_step_121 (lv_at hl 7 rfl) ?_
          refine lv_iconst (v := nI 0) hx hb dL_step_123 (by decide) ?_
          refine lv_dup2_11 hx hb dL_step_124 rfl rfl ?_
          refine g_iald hx hb hE hG (k := 31) (by omega) rfl 0 (rfl) (by omega) (by omega) dL_step_125 ?_
          refine g_top (y := zI (G 28 9)) (hA0) ?_
          refine lv_iload hx hb dL_step_126 (lv_at hl 0 rfl) ?_
          refine lv_iadd hx hb dL_step_128 ?_
          refine g_top (y := zI ((G 28 9) + ((tN : Nat) : Int))) (zI_add_in _ _) ?_
          refine g_iast hx hb hE hG (k := 31) (by omega) (fun _ => rfl) 0 (rfl) (by omega) (by omega) dL_step_129 (fun H locs hG => ?_)
          refine lv_aload_n hx hb dL_step_130 rfl (lv_at hl 1 rfl) ?_
          refine lv_iload hx hb dL_step_131 (lv_at hl 0 rfl) ?_
          refine gN_callV (As := [.int (nI tN)]) (rest := []) (r := (RX9, TX9, 6)) ⟨hx, hb, hml, hown, hts⟩ hE hG (cX9_sendC l D cy base ad n (gu A 31 0 (zI ((G 28 9) + ((tN : Nat) : Int)))) J G n ((tN : Nat) : Int) (by first | assumption | omega) (by first | assumption | omega) (hC.of (fun k hk => gu_ne _ _ _ (by omega))) (by first | assumption | omega)) (cwV 1 hts gL_step_X9_send rfl rfl rfl (by decide +kernel) ⟨Nat.le_of_ble_eq_true rfl, Nat.le_of_ble_eq_true rfl⟩) (by omega) rfl rfl rfl hl.1 rfl (Nat.le_of_ble_eq_true rfl) dL_step_133 ⟨(by show 1 ≤ 2; omega), (by show 6 ≤ 12; omega)⟩ (fun e_ A_ J_ hz => by
            rcases hz with ⟨he_, hA_, hJ_, hf0_⟩ | ⟨he_, hA_, hJ_, hf0_⟩
            · omega
            · omega) (fun v_ A133 J133 H locs hp hG => W.widen (k := 1) (n := 6) (by omega) (by omega) ?_)
          obtain ⟨rfl, hin_133, hC1_133, hO_133, hJ9_133⟩ := hp
          refine W.eq (g2 := F0 mM 136 ls [.int (zI (G 28 10 + 8 * ((tN : Nat) : Int)))]) rfl ?_
          refine lv_bipush (v := nI 8) hx hb dL_step_136 (by decide) ?_
          refine lv_aload hx hb dL_step_138 (lv_at hl 7 rfl) ?_
          refine lv_iconst (v := nI 0) hx hb dL_step_140 (by decide) ?_
          refine g_iald hx hb hE hG (k := 31) (by omega) rfl 0 (rfl) (by omega) (by omega) dL_step_141 ?_
          refine g_top (y := zI (G 28 9 + ((tN : Nat) : Int))) ((congrFun (hO_133 31 (by omega) (by omega)) 0).trans (by rw [gu_at, if_pos ⟨rfl, rfl⟩])) ?_
          refine lv_imul hx hb dL_step_142 ?_
          refine g_top (y := zI (8 * (G 28 9 + ((tN : Nat) : Int)))) (zI_mul_ni _ _) ?_
          refine lv_aload hx hb dL_step_143 (lv_at hl 7 rfl) ?_
          refine lv_iconst (v := nI 1) hx hb dL_step_145 (by decide) ?_
          refine g_iald hx hb hE hG (k := 31) (by omega) rfl 1 (rfl) (by omega) (by omega) dL_step_146 ?_
          refine g_top (y := zI c1) ((congrFun (hO_133 31 (by omega) (by omega)) 1).trans (by rw [gu_at, if_neg (by omega)]; exact hA1)) ?_
          refine lv_isub hx hb dL_step_147 ?_
          refine g_top (y := zI ((8 * (G 28 9 + ((tN : Nat) : Int))) - c1)) (zI_sub _ _) ?_
          refine lv_aload_n hx hb dL_step_148 rfl (lv_at hl 1 rfl) ?_
          refine g_callV (As := []) (rest := [.int (zI ((8 * (G 28 9 + ((tN : Nat) : Int))) - c1)), .int (zI (G 28 10 + 8 * ((tN : Nat) : Int)))]) (r := (RX9, TX9, 6)) ⟨hx, hb, hml, hown, hts⟩ hE hG (cX9_takenC l D cy base ad n A133 J133 (mSend G ((tN : Nat) : Int).toNat) n (by first | assumption | omega) hC1_133) (cwV 0 hts gL_step_X9_taken rfl rfl rfl (by decide +kernel) ⟨Nat.le_of_ble_eq_true rfl, Nat.le_of_ble_eq_true rfl⟩) (by omega) rfl rfl rfl hl.1 rfl (Nat.le_of_ble_eq_true rfl) dL_step_149 ⟨(by show 1 ≤ 2; omega), (by show 6 ≤ 12; omega)⟩ (fun v_ A149 J149 H locs hp hG => ?_)
          obtain ⟨rfl, rfl, rfl⟩ := hp
          refine W.eq (g2 := F0 mM 152 ls [.int (zI ((mSend G ((tN : Nat) : Int).toNat) 28 12)), .int (zI ((8 * (G 28 9 + ((tN : Nat) : Int))) - c1)), .int (zI (G 28 10 + 8 * ((tN : Nat) : Int)))]) rfl ?_
          refine g_top (y := zI (G 28 12)) (by rw [mSend_12]) ?_
          refine lv_isub hx hb dL_step_152 ?_
          refine g_top (y := zI (((8 * (G 28 9 + ((tN : Nat) : Int))) - c1) - (G 28 12))) (zI_sub _ _) ?_
          refine lv_icmp_ne (tgt := 160) hx hb dL_step_153 (by decide) (fun c153 => ?_) (fun c153 => ?_)
          · skip
            have c153 : ¬ ((G 28 10 + 8 * ((tN : Nat) : Int)) = (((8 * (G 28 9 + ((tN : Nat) : Int))) - c1) - (G 28 12))) := fun z9 => c153 ((cmp_eq (zI_toInt (by omega) (by omega)) (zI_toInt (by omega) (by omega))).mpr z9)
            exfalso; omega
          · skip
            have c153 : (G 28 10 + 8 * ((tN : Nat) : Int)) = (((8 * (G 28 9 + ((tN : Nat) : Int))) - c1) - (G 28 12)) := (cmp_eq (zI_toInt (by omega) (by omega)) (zI_toInt (by omega) (by omega))).mp c153
            refine lv_iconst (v := nI 1) hx hb dL_step_156 (by decide) ?_
            refine lv_goto (tgt := 161) hx hb dL_step_157 (by decide) ?_
            exact gx_zret hx hb hr hlocks hG rfl (by show 1 ≤ 2; omega) (by show 6 ≤ 12; omega) ⟨_, rfl, (by rw [hnq]; exact hL.send hC1_133 (by omega) hO_133), ⟨by rw [mSend_9]; omega, fun _ _ => by rw [mSend_9]; omega⟩, hJ9_133⟩ dL_step_161
        · skip
          have c116 : ¬ (((G 28 9) + ((tN : Nat) : Int)) ≤ ((1000 : Nat) : Int)) := fun z9 => c116 ((cmp_le (zI_toInt (by omega) (by omega)) (nI_toInt (by omega))).mpr z9)
          refine lv_iconst (v := nI 1) hx hb dL_step_119 (by decide) ?_
          exact gx_zret hx hb hr hlocks hG rfl (by show 0 ≤ 2; omega) (by show 0 ≤ 12; omega) ⟨G, rfl, (by rw [hnq]; exact hL), ⟨Int.le_refl _, fun _ _ => by omega⟩, fun _ _ => rfl⟩ dL_step_120
      refine lv_iconst (v := nI 1) hx hb dL_step_87 (by decide) ?_
      refine lv_iload_n hx hb dL_step_88 rfl (lv_at hl 2 rfl) ?_
      refine lv_iload_n hx hb dL_step_89 rfl (lv_at hl 3 rfl) ?_
      refine lv_iconst (v := nI 3) hx hb dL_step_90 (by decide) ?_
      refine lv_irem hx hb dL_step_91 (by decide) ?_
      refine g_top (y := nI (yN % 3)) (pk_rem (by omega) (by omega) (by omega)) ?_
      refine lv_if_ne (tgt := 100) hx hb dL_step_92 (by decide) (fun c92 => ?_) (fun c92 => ?_)
      · skip
        have c92 : ¬ ((nI (yN % 3)) = nI 0) := c92
        have c92 : ¬ ((yN % 3) = 0) := fun z9 => c92 ((nI_eq (by omega) (by omega)).mpr z9)
        refine lv_bipush (v := nI 12) hx hb dL_step_100 (by decide) ?_
        refine lv_irem hx hb dL_step_102 (by decide) ?_
        refine g_top (y := nI (xN % 12)) (pk_rem (by omega) (by omega) (by omega)) ?_
        refine lv_iadd hx hb dL_step_103 ?_
        refine g_top (y := nI (1 + (xN % 12))) (by rw [nI_add]) ?_
        exact LLq104 (1 + (xN % 12)) (by omega) _ _ _ hG (lv_sub hl [0, 1, 2, 3, 4, 5, 6, 7] rfl)
      · skip
        have c92 : (nI (yN % 3)) = nI 0 := c92
        have c92 : (yN % 3) = 0 := (nI_eq (by omega) (by omega)).mp c92
        refine lv_bipush (v := nI 40) hx hb dL_step_95 (by decide) ?_
        refine lv_goto (tgt := 102) hx hb dL_step_97 (by decide) ?_
        refine lv_irem hx hb dL_step_102 (by decide) ?_
        refine g_top (y := nI (xN % 40)) (pk_rem (by omega) (by omega) (by omega)) ?_
        refine lv_iadd hx hb dL_step_103 ?_
        refine g_top (y := nI (1 + (xN % 40))) (by rw [nI_add]) ?_
        exact LLq104 (1 + (xN % 40)) (by omega) _ _ _ hG (lv_sub hl [0, 1, 2, 3, 4, 5, 6, 7] rfl)
  refine lv_iload_n hx hb dL_step_0 rfl (lv_at hl 1 rfl) ?_
  refine lv_iconst (v := nI 2) hx hb dL_step_1 (by decide) ?_
  refine lv_icmp_ge (tgt := 81) hx hb dL_step_2 (by decide) (fun c2 => ?_) (fun c2 => ?_)
  · skip
    have c2 : 2 ≤ wN := (nI_leI (by omega) (by omega)).mp c2
    exact LLq81 () _ _ _ hG (lv_sub hl [0, 1, 2, 3, 4, 5, 6, 7] rfl)
  · skip
    have c2 : ¬ (2 ≤ wN) := fun z9 => c2 ((nI_leI (by omega) (by omega)).mpr z9)
    refine lv_aload_n hx hb dL_step_5 rfl (lv_at hl 0 rfl) ?_
    refine g_callV (As := []) (rest := []) (r := (RX9, TX9, 6)) ⟨hx, hb, hml, hown, hts⟩ hE hG (cX9_pointsC l D cy base ad n A J n hC.1 (by first | assumption | omega)) (cwV 0 hts gL_step_X9_points rfl rfl rfl (by decide +kernel) ⟨Nat.le_of_ble_eq_true rfl, Nat.le_of_ble_eq_true rfl⟩) (by omega) rfl rfl rfl hl.1 rfl (Nat.le_of_ble_eq_true rfl) dL_step_6 ⟨(by show 0 ≤ 2; omega), (by show 0 ≤ 12; omega)⟩ (fun v_ A6 J6 H locs hp hG => ?_)
    obtain ⟨rfl, rfl, rfl⟩ := hp
    refine W.eq (g2 := F0 mM 9 ls [.int (nI n)]) rfl ?_
    refine lv_if_le (tgt := 81) hx hb dL_step_9 (by decide) (fun c9 => ?_) (fun c9 => ?_)
    · skip
      have c9 : (nI n) ≤ nI 0 := c9
      have c9 : n ≤ 0 := (nI_leI (by omega) (by omega)).mp c9
      exact LLq81 () _ _ _ hG (lv_sub hl [0, 1, 2, 3, 4, 5, 6, 7] rfl)
    · skip
      have c9 : ¬ ((nI n) ≤ nI 0) := c9
      have c9 : ¬ (n ≤ 0) := fun z9 => c9 ((nI_leI (by omega) (by omega)).mpr z9)
      refine lv_iload_n hx hb dL_step_12 rfl (lv_at hl 2 rfl) ?_
      refine lv_aload_n hx hb dL_step_13 rfl (lv_at hl 0 rfl) ?_
      refine g_callV (As := []) (rest := [.int (nI xN)]) (r := (RX9, TX9, 6)) ⟨hx, hb, hml, hown, hts⟩ hE hG (cX9_pointsC l D cy base ad n A J n hC.1 (by first | assumption | omega)) (cwV 0 hts gL_step_X9_points rfl rfl rfl (by decide +kernel) ⟨Nat.le_of_ble_eq_true rfl, Nat.le_of_ble_eq_true rfl⟩) (by omega) rfl rfl rfl hl.1 rfl (Nat.le_of_ble_eq_true rfl) dL_step_14 ⟨(by show 0 ≤ 2; omega), (by show 0 ≤ 12; omega)⟩ (fun v_ A14 J14 H locs hp hG => ?_)
      obtain ⟨rfl, rfl, rfl⟩ := hp
      refine W.eq (g2 := F0 mM 17 ls [.int (nI n), .int (nI xN)]) rfl ?_
      refine lv_irem hx hb dL_step_17 (nI_nz (by omega) (by omega)) ?_
      refine g_top (y := nI (xN % n)) (pk_rem (by omega) (by omega) (by omega)) ?_
      obtain ⟨pN, hpN⟩ : ∃ k : Nat, xN % n = k := ⟨_, rfl⟩
      have hpN2 : pN < n := by rw [← hpN]; exact Nat.mod_lt _ (by omega)
      obtain ⟨t1, t2, t3, t4, t5, t6⟩ := TOk_at (hT.2.2 pN (by omega))
      have hglr := gLo_range (cv := G 30 pN) t1.1 t1.2
      have hghr := gHi_range (cv := G 30 pN) t1.1 t1.2
      have hprp := hpr pN (by omega)
      refine g_top (y := nI pN) (by rw [hpN]) ?_
      refine lv_istore (lv' := [(8, .int (nI pN)), (0, .ref (ad 0)), (1, .int (nI wN)), (2, .int (nI xN)), (3, .int (nI yN)), (4, .ref (ad 28)), (5, .ref (ad 30)), (6, .ref (ad 31)), (7, .ref (ad 32))]) hx hb dL_step_18 hl (by decide) rfl (fun ls hl => ?_)
      refine lv_aload hx hb dL_step_20 (lv_at hl 6 rfl) ?_
      refine lv_iload hx hb dL_step_22 (lv_at hl 0 rfl) ?_
      refine g_iald hx hb hE hG (k := 30) (by omega) rfl pN (rfl) (by omega) (by omega) dL_step_24 ?_
      refine g_top (y := zI (G 35 pN)) (hv9 pN (by omega)) ?_
      refine lv_istore (lv' := [(9, .int (zI (G 35 pN))), (8, .int (nI pN)), (0, .ref (ad 0)), (1, .int (nI wN)), (2, .int (nI xN)), (3, .int (nI yN)), (4, .ref (ad 28)), (5, .ref (ad 30)), (6, .ref (ad 31)), (7, .ref (ad 32))]) hx hb dL_step_25 hl (by decide) rfl (fun ls hl => ?_)
      refine lv_aload hx hb dL_step_27 (lv_at hl 7 rfl) ?_
      refine lv_iload hx hb dL_step_29 (lv_at hl 1 rfl) ?_
      refine lv_aload hx hb dL_step_31 (lv_at hl 6 rfl) ?_
      refine lv_iload hx hb dL_step_33 (lv_at hl 1 rfl) ?_
      refine g_callS (As := [.ref (ad 28), .int (nI pN)]) (rest := [.int (nI pN), .ref (ad 30)]) ⟨hx, hb, hml, hown, hts⟩ hE hG (cL_leastC l D cy base ad n A J pN (G 29 pN) (G 30 pN) (by first | assumption | omega) (by first | exact (hgr pN (by omega)).1 | (rw [gu_ne _ _ _ (by decide)]; exact (hgr pN (by omega)).1)) (by first | exact (hgr pN (by omega)).2.1 | (rw [gu_ne _ _ _ (by decide)]; exact (hgr pN (by omega)).2.1)) (by first | assumption | omega) (by first | assumption | omega)) (va_cwS 2 hts gL_step_L_least rfl rfl rfl (by decide +kernel) ⟨Nat.le_of_ble_eq_true rfl, Nat.le_of_ble_eq_true rfl⟩) rfl hl.1 rfl (Nat.le_of_ble_eq_true rfl) dL_step_35 ⟨(by show 0 ≤ 2; omega), (by show 0 ≤ 12; omega)⟩ (fun v_ A35 J35 H locs hp hG => ?_)
      obtain ⟨rfl, rfl, rfl⟩ := hp
      refine W.eq (g2 := F0 mM 38 ls [.int (zI (gLo (G 30 pN) (G 29 pN))), .int (nI pN), .ref (ad 30)]) rfl ?_
      refine lv_iload_n hx hb dL_step_38 rfl (lv_at hl 5 rfl) ?_
      refine lv_aload hx hb dL_step_39 (lv_at hl 6 rfl) ?_
      refine lv_iload hx hb dL_step_41 (lv_at hl 1 rfl) ?_
      refine g_callS (As := [.ref (ad 28), .int (nI pN)]) (rest := [.int (nI yN), .int (zI (gLo (G 30 pN) (G 29 pN))), .int (nI pN), .ref (ad 30)]) ⟨hx, hb, hml, hown, hts⟩ hE hG (cL_mostC l D cy base ad n A J pN (G 29 pN) (G 30 pN) (by first | assumption | omega) (by first | exact (hgr pN (by omega)).1 | (rw [gu_ne _ _ _ (by decide)]; exact (hgr pN (by omega)).1)) (by first | exact (hgr pN (by omega)).2.1 | (rw [gu_ne _ _ _ (by decide)]; exact (hgr pN (by omega)).2.1)) (by first | assumption | omega) (by first | assumption | omega)) (va_cwS 2 hts gL_step_L_most rfl rfl rfl (by decide +kernel) ⟨Nat.le_of_ble_eq_true rfl, Nat.le_of_ble_eq_true rfl⟩) rfl hl.1 rfl (Nat.le_of_ble_eq_true rfl) dL_step_43 ⟨(by show 0 ≤ 2; omega), (by show 0 ≤ 12; omega)⟩ (fun v_ A43 J43 H locs hp hG => ?_)
      obtain ⟨rfl, rfl, rfl⟩ := hp
      refine W.eq (g2 := F0 mM 46 ls [.int (zI (gHi (G 30 pN) (G 29 pN))), .int (nI yN), .int (zI (gLo (G 30 pN) (G 29 pN))), .int (nI pN), .ref (ad 30)]) rfl ?_
      refine lv_aload hx hb dL_step_46 (lv_at hl 6 rfl) ?_
      refine lv_iload hx hb dL_step_48 (lv_at hl 1 rfl) ?_
      refine g_callS (As := [.ref (ad 28), .int (nI pN)]) (rest := [.int (zI (gHi (G 30 pN) (G 29 pN))), .int (nI yN), .int (zI (gLo (G 30 pN) (G 29 pN))), .int (nI pN), .ref (ad 30)]) ⟨hx, hb, hml, hown, hts⟩ hE hG (cL_leastC l D cy base ad n A J pN (G 29 pN) (G 30 pN) (by first | assumption | omega) (by first | exact (hgr pN (by omega)).1 | (rw [gu_ne _ _ _ (by decide)]; exact (hgr pN (by omega)).1)) (by first | exact (hgr pN (by omega)).2.1 | (rw [gu_ne _ _ _ (by decide)]; exact (hgr pN (by omega)).2.1)) (by first | assumption | omega) (by first | assumption | omega)) (va_cwS 2 hts gL_step_L_least rfl rfl rfl (by decide +kernel) ⟨Nat.le_of_ble_eq_true rfl, Nat.le_of_ble_eq_true rfl⟩) rfl hl.1 rfl (Nat.le_of_ble_eq_true rfl) dL_step_50 ⟨(by show 0 ≤ 2; omega), (by show 0 ≤ 12; omega)⟩ (fun v_ A50 J50 H locs hp hG => ?_)
      obtain ⟨rfl, rfl, rfl⟩ := hp
      refine W.eq (g2 := F0 mM 53 ls [.int (zI (gLo (G 30 pN) (G 29 pN))), .int (zI (gHi (G 30 pN) (G 29 pN))), .int (nI yN), .int (zI (gLo (G 30 pN) (G 29 pN))), .int (nI pN), .ref (ad 30)]) rfl ?_
      refine lv_isub hx hb dL_step_53 ?_
      refine g_top (y := zI ((gHi (G 30 pN) (G 29 pN)) - (gLo (G 30 pN) (G 29 pN)))) (zI_sub _ _) ?_
      refine lv_iconst (v := nI 1) hx hb dL_step_54 (by decide) ?_
      refine lv_iadd hx hb dL_step_55 ?_
      refine g_top (y := zI (((gHi (G 30 pN) (G 29 pN)) - (gLo (G 30 pN) (G 29 pN))) + 1)) (zI_add_in _ _) ?_
      refine lv_irem hx hb dL_step_56 (zI_ne0 (by omega) (by omega)) ?_
      refine g_top (y := zI (((yN : Nat) : Int) % (gHi (G 30 pN) (G 29 pN) - gLo (G 30 pN) (G 29 pN) + 1))) ((by rw [← zI_n]; exact zI_rem (by omega) (by omega) (by omega) (by omega))) ?_
      refine lv_iadd hx hb dL_step_57 ?_
      refine g_top (y := zI ((gLo (G 30 pN) (G 29 pN)) + (((yN : Nat) : Int) % (gHi (G 30 pN) (G 29 pN) - gLo (G 30 pN) (G 29 pN) + 1)))) (zI_add _ _) ?_
      obtain ⟨vI, hvI⟩ : ∃ v : Int, (gLo (G 30 pN) (G 29 pN)) + (((yN : Nat) : Int) % (gHi (G 30 pN) (G 29 pN) - gLo (G 30 pN) (G 29 pN) + 1)) = v := ⟨_, rfl⟩
      have hvr : gLo (G 30 pN) (G 29 pN) ≤ vI ∧ vI ≤ gHi (G 30 pN) (G 29 pN) := by
        have h1 := Int.emod_nonneg (yN : Int) (show (gHi (G 30 pN) (G 29 pN) - gLo (G 30 pN) (G 29 pN) + 1) ≠ 0 by omega)
        have h2 := Int.emod_lt_of_pos (yN : Int) (show 0 < (gHi (G 30 pN) (G 29 pN) - gLo (G 30 pN) (G 29 pN) + 1) by omega)
        rw [← hvI]; omega
      refine g_top (y := zI vI) (by rw [hvI]) ?_
      refine g_iast hx hb hE hG (k := 30) (by omega) (fun _ => rfl) pN (rfl) (by omega) (by omega) dL_step_58 (fun H locs hG => ?_)
      refine lv_aload_n hx hb dL_step_59 rfl (lv_at hl 2 rfl) ?_
      refine lv_iload hx hb dL_step_60 (lv_at hl 1 rfl) ?_
      refine lv_aload hx hb dL_step_62 (lv_at hl 7 rfl) ?_
      refine lv_iload hx hb dL_step_64 (lv_at hl 1 rfl) ?_
      refine g_iald hx hb hE hG (k := 30) (by omega) rfl pN (rfl) (by omega) (by omega) dL_step_66 ?_
      refine g_top (y := zI vI) (by first | rfl | (simp [gu_at]; done) | (rw [gu_at]; simp; omega)) ?_
      refine gN_callV (As := [.int (nI pN), .int (zI vI)]) (rest := []) (r := (RX9, TX9, 6)) ⟨hx, hb, hml, hown, hts⟩ hE hG (cX9_putC l D cy base ad n (gu A 30 pN (zI vI)) J G n ((pN : Nat) : Int) vI (by first | assumption | omega) (by first | assumption | omega) (hC.of (fun k hk => gu_ne _ _ _ (by omega))) (by first | assumption | omega) (by first | assumption | omega)) (cwV 2 hts gL_step_X9_put rfl rfl rfl (by decide +kernel) ⟨Nat.le_of_ble_eq_true rfl, Nat.le_of_ble_eq_true rfl⟩) (by omega) rfl rfl rfl hl.1 rfl (Nat.le_of_ble_eq_true rfl) dL_step_67 ⟨(by show 2 ≤ 2; omega), (by show 12 ≤ 12; omega)⟩ (fun e_ A_ J_ hz => by
        rcases hz with ⟨he_, hA_, hJ_, hf0_⟩ | ⟨he_, hA_, hJ_, hf0_⟩
        · omega
        · obtain ⟨i9, h9, h8, h7⟩ := hf0_; obtain rfl : pN = i9 := (by omega); exact h7 hvr) (fun v_ A67 J67 H locs hp hG => W.widen (k := 2) (n := 12) (by omega) (by omega) ?_)
      obtain ⟨iq_67, rfl, rfl, hiq_67, hC1_67, hO_67⟩ := hp
      refine W.eq (g2 := F0 mM 70 ls [.int (zI (G 35 iq_67))]) rfl ?_
      obtain rfl : pN = iq_67 := (by have := hiq_67; omega)
      refine lv_iload hx hb dL_step_70 (lv_at hl 0 rfl) ?_
      refine lv_icmp_ne (tgt := 79) hx hb dL_step_72 (by decide) (fun c72 => ?_) (fun c72 => ?_)
      · skip
        have c72 : ¬ ((G 35 pN) = (G 35 pN)) := fun z9 => c72 ((cmp_eq (zI_toInt (by omega) (by omega)) (zI_toInt (by omega) (by omega))).mpr z9)
        exfalso; omega
      · skip
        have c72 : (G 35 pN) = (G 35 pN) := (cmp_eq (zI_toInt (by omega) (by omega)) (zI_toInt (by omega) (by omega))).mp c72
        refine lv_iconst (v := nI 1) hx hb dL_step_75 (by decide) ?_
        refine lv_goto (tgt := 80) hx hb dL_step_76 (by decide) ?_
        exact gx_zret hx hb hr hlocks hG rfl (by show 2 ≤ 2; omega) (by show 12 ≤ 12; omega) ⟨_, rfl, (by rw [hnq]; exact hL.put hC1_67 (by omega) hO_67), ⟨by rw [gu_ne _ _ _ (by decide)]; exact Int.le_refl _, fun h9 _ => by omega⟩, fun _ _ => rfl⟩ dL_step_80

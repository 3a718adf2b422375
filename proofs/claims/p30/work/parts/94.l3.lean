abbrev PL_areBits (ad : Nat → Nat) (A : Nat → Nat → Int32) (J : Nat → Nat → Int64) (G : Nat → Nat → Int) (nq xN : Nat) (c0 c1 : Int) : Option Value → (Nat → Nat → Int32) → (Nat → Nat → Int64) → Prop := fun v_ A1 J1 => (v_ = some (.int (nI 1)) ∧ J = J1 ∧ (CAll nq A1 J1 G) ∧ (∀ k, k ≠ 5 → A1 k = A k))
set_option maxHeartbeats 4000000 in
set_option maxRecDepth 100000 in
theorem cL_areBitsC (l : Launch) (D : va_G) (cy : Nat → ClassId) (base : Nat) (ad : Nat → Nat) (n : Nat) (A : Nat → Nat → Int32) (J : Nat → Nat → Int64) (G : Nat → Nat → Int) (nq xN : Nat) (c0 c1 : Int) (hst : l.stackTraces = false) (hnq : nq = n) (hC : CAll nq A J G) (hA0 : A 31 0 = zI c0) (hA1 : A 31 1 = zI c1) (hc0 : c0 = G 28 9) (hc1 : G 28 10 + G 28 12 + c1 = 8 * c0 ∧ 0 ≤ c1 ∧ c1 ≤ 8000) (hxN : xN < 1073741824) : gMetX l yL_areBits wsL_areBits ({ frames := 7, cells := 70, slots := 420, locals := 121 } : Room) D cy base ad n A J [.ref (ad 0), .ref (ad 31), .int (nI xN)] (PL_areBits ad A J G nq xN c0 c1) pxNo 70 420 := by
  refine gx_ofW (cc := cL_areBits) (maxL := 8) (ret := (some .boolean)) (by decide) rfl (Nat.le_of_ble_eq_true rfl) ?_
  intro pM eM sM mM aM bM methM cM H locs ls hx hb hr hts hown hlocks hml hout hE hG hl
  have hl : lv_has ls 8 [(0, .ref (ad 0)), (1, .ref (ad 31)), (2, .int (nI xN))] := hl
  have hinX3 : ∀ w ∈ u_ws RX3 TX3 3, w ∈ wsL_areBits := by decide +kernel
  have hinX7 : ∀ w ∈ u_ws RX7 TX7 2, w ∈ wsL_areBits := by decide +kernel
  have hinX8 : ∀ w ∈ u_ws RX8 TX8 7, w ∈ wsL_areBits := by decide +kernel
  have hinX9 : ∀ w ∈ u_ws RX9 TX9 6, w ∈ wsL_areBits := by decide +kernel
  have hC : CAll n A J G := by rw [← hnq]; exact hC
  obtain ⟨hT, h28, h41b, hpa, htk, hol, hpr, hso, hsn, hol2, hok, hdv, hdr, hsum, hln, hn, h21b⟩ := hC.bd
  have hnr := hok.2.2.2.2.1
  have hsa := hok.2.2.2.2.2
  have hso14 := hok.2.2.2.1
  refine lv_iconst (v := nI 0) hx hb dL_areBits_0 (by decide) ?_
  refine lv_istore_n (lv' := [(3, .int (nI 0)), (0, .ref (ad 0)), (1, .ref (ad 31)), (2, .int (nI xN))]) hx hb dL_areBits_1 rfl hl (by decide) rfl (fun ls hl => ?_)
  refine lv_iconst (v := nI 0) hx hb dL_areBits_2 (by decide) ?_
  refine lv_istore (lv' := [(4, .int (nI 0)), (3, .int (nI 0)), (0, .ref (ad 0)), (1, .ref (ad 31)), (2, .int (nI xN))]) hx hb dL_areBits_3 hl (by decide) rfl (fun ls hl => ?_)
  refine lv_aload_n hx hb dL_areBits_5 rfl (lv_at hl 2 rfl) ?_
  refine g_callV (As := []) (rest := []) (r := (RX9, TX9, 6)) ⟨hx, hb, hml, hown, hts⟩ hE hG (cX9_sentC l D cy base ad n A J G n (by first | assumption | omega) (by first | assumption | omega)) (cwV 0 hts gL_areBits_X9_sent rfl rfl rfl (by decide +kernel) ⟨Nat.le_of_ble_eq_true rfl, Nat.le_of_ble_eq_true rfl⟩) (by omega) rfl rfl rfl hl.1 rfl (Nat.le_of_ble_eq_true rfl) dL_areBits_6 ⟨(by show 0 ≤ 70; omega), (by show 0 ≤ 420; omega)⟩ (fun v_ A6 J6 H locs hp hG => ?_)
  obtain ⟨rfl, rfl, rfl⟩ := hp
  refine W.eq (g2 := F0 mM 9 ls [.int (zI (G 28 9))]) rfl ?_
  refine lv_aload_n hx hb dL_areBits_9 rfl (lv_at hl 3 rfl) ?_
  refine lv_iconst (v := nI 0) hx hb dL_areBits_10 (by decide) ?_
  refine g_iald hx hb hE hG (k := 31) (by omega) rfl 0 (rfl) (by omega) (by omega) dL_areBits_11 ?_
  refine g_top (y := zI c0) (hA0) ?_
  refine lv_icmp_ne (tgt := 56) hx hb dL_areBits_12 (by decide) (fun c12 => ?_) (fun c12 => ?_)
  · skip
    have c12 : ¬ ((G 28 9) = c0) := fun z9 => c12 ((cmp_eq (zI_toInt (by omega) (by omega)) (zI_toInt (by omega) (by omega))).mpr z9)
    exfalso; omega
  · skip
    have c12 : (G 28 9) = c0 := (cmp_eq (zI_toInt (by omega) (by omega)) (zI_toInt (by omega) (by omega))).mp c12
    refine lv_aload_n hx hb dL_areBits_15 rfl (lv_at hl 2 rfl) ?_
    refine g_callV (As := []) (rest := []) (r := (RX9, TX9, 6)) ⟨hx, hb, hml, hown, hts⟩ hE hG (cX9_onLineC l D cy base ad n A J G n (by first | assumption | omega) (by first | assumption | omega)) (cwV 0 hts gL_areBits_X9_onLine rfl rfl rfl (by decide +kernel) ⟨Nat.le_of_ble_eq_true rfl, Nat.le_of_ble_eq_true rfl⟩) (by omega) rfl rfl rfl hl.1 rfl (Nat.le_of_ble_eq_true rfl) dL_areBits_16 ⟨(by show 0 ≤ 70; omega), (by show 0 ≤ 420; omega)⟩ (fun v_ A16 J16 H locs hp hG => ?_)
    obtain ⟨rfl, rfl, rfl⟩ := hp
    refine W.eq (g2 := F0 mM 19 ls [.int (zI (G 28 10))]) rfl ?_
    refine lv_aload_n hx hb dL_areBits_19 rfl (lv_at hl 2 rfl) ?_
    refine g_callV (As := []) (rest := [.int (zI (G 28 10))]) (r := (RX9, TX9, 6)) ⟨hx, hb, hml, hown, hts⟩ hE hG (cX9_takenC l D cy base ad n A J G n (by first | assumption | omega) (by first | assumption | omega)) (cwV 0 hts gL_areBits_X9_taken rfl rfl rfl (by decide +kernel) ⟨Nat.le_of_ble_eq_true rfl, Nat.le_of_ble_eq_true rfl⟩) (by omega) rfl rfl rfl hl.1 rfl (Nat.le_of_ble_eq_true rfl) dL_areBits_20 ⟨(by show 0 ≤ 70; omega), (by show 0 ≤ 420; omega)⟩ (fun v_ A20 J20 H locs hp hG => ?_)
    obtain ⟨rfl, rfl, rfl⟩ := hp
    refine W.eq (g2 := F0 mM 23 ls [.int (zI (G 28 12)), .int (zI (G 28 10))]) rfl ?_
    refine lv_iadd hx hb dL_areBits_23 ?_
    refine g_top (y := zI ((G 28 10) + (G 28 12))) (zI_add _ _) ?_
    refine lv_aload_n hx hb dL_areBits_24 rfl (lv_at hl 3 rfl) ?_
    refine lv_iconst (v := nI 1) hx hb dL_areBits_25 (by decide) ?_
    refine g_iald hx hb hE hG (k := 31) (by omega) rfl 1 (rfl) (by omega) (by omega) dL_areBits_26 ?_
    refine g_top (y := zI c1) (hA1) ?_
    refine lv_iadd hx hb dL_areBits_27 ?_
    refine g_top (y := zI (((G 28 10) + (G 28 12)) + c1)) (zI_add _ _) ?_
    refine lv_bipush (v := nI 8) hx hb dL_areBits_28 (by decide) ?_
    refine lv_aload_n hx hb dL_areBits_30 rfl (lv_at hl 3 rfl) ?_
    refine lv_iconst (v := nI 0) hx hb dL_areBits_31 (by decide) ?_
    refine g_iald hx hb hE hG (k := 31) (by omega) rfl 0 (rfl) (by omega) (by omega) dL_areBits_32 ?_
    refine g_top (y := zI c0) (hA0) ?_
    refine lv_imul hx hb dL_areBits_33 ?_
    refine g_top (y := zI (8 * c0)) (zI_mul_ni _ _) ?_
    refine lv_icmp_ne (tgt := 56) hx hb dL_areBits_34 (by decide) (fun c34 => ?_) (fun c34 => ?_)
    · skip
      have c34 : ¬ ((((G 28 10) + (G 28 12)) + c1) = (8 * c0)) := fun z9 => c34 ((cmp_eq (zI_toInt (by omega) (by omega)) (zI_toInt (by omega) (by omega))).mpr z9)
      exfalso; omega
    · skip
      have c34 : (((G 28 10) + (G 28 12)) + c1) = (8 * c0) := (cmp_eq (zI_toInt (by omega) (by omega)) (zI_toInt (by omega) (by omega))).mp c34
      refine lv_aload_n hx hb dL_areBits_37 rfl (lv_at hl 2 rfl) ?_
      refine g_callV (As := []) (rest := []) (r := (RX9, TX9, 6)) ⟨hx, hb, hml, hown, hts⟩ hE hG (cX9_stateC l D cy base ad n A J G n (by first | assumption | omega) (by first | assumption | omega)) (cwV 0 hts gL_areBits_X9_state rfl rfl rfl (by decide +kernel) ⟨Nat.le_of_ble_eq_true rfl, Nat.le_of_ble_eq_true rfl⟩) (by omega) rfl rfl rfl hl.1 rfl (Nat.le_of_ble_eq_true rfl) dL_areBits_38 ⟨(by show 0 ≤ 70; omega), (by show 0 ≤ 420; omega)⟩ (fun v_ A38 J38 H locs hp hG => ?_)
      obtain ⟨rfl, rfl, rfl⟩ := hp
      refine W.eq (g2 := F0 mM 41 ls [.int (zI (G 28 14))]) rfl ?_
      refine lv_if_lt (tgt := 56) hx hb dL_areBits_41 (by decide) (fun c41 => ?_) (fun c41 => ?_)
      · skip
        have c41 : (zI (G 28 14)) < nI 0 := c41
        have c41 : (G 28 14) < ((0 : Nat) : Int) := (cmp_lt (zI_toInt (by omega) (by omega)) (nI_toInt (by omega))).mp c41
        exfalso; omega
      · skip
        have c41 : ¬ ((zI (G 28 14)) < nI 0) := c41
        have c41 : ¬ ((G 28 14) < ((0 : Nat) : Int)) := fun z9 => c41 ((cmp_lt (zI_toInt (by omega) (by omega)) (nI_toInt (by omega))).mpr z9)
        refine lv_aload_n hx hb dL_areBits_44 rfl (lv_at hl 2 rfl) ?_
        refine g_callV (As := []) (rest := []) (r := (RX9, TX9, 6)) ⟨hx, hb, hml, hown, hts⟩ hE hG (cX9_stateC l D cy base ad n A J G n (by first | assumption | omega) (by first | assumption | omega)) (cwV 0 hts gL_areBits_X9_state rfl rfl rfl (by decide +kernel) ⟨Nat.le_of_ble_eq_true rfl, Nat.le_of_ble_eq_true rfl⟩) (by omega) rfl rfl rfl hl.1 rfl (Nat.le_of_ble_eq_true rfl) dL_areBits_45 ⟨(by show 0 ≤ 70; omega), (by show 0 ≤ 420; omega)⟩ (fun v_ A45 J45 H locs hp hG => ?_)
        obtain ⟨rfl, rfl, rfl⟩ := hp
        refine W.eq (g2 := F0 mM 48 ls [.int (zI (G 28 14))]) rfl ?_
        refine lv_iconst (v := nI 2) hx hb dL_areBits_48 (by decide) ?_
        refine lv_icmp_gt (tgt := 56) hx hb dL_areBits_49 (by decide) (fun c49 => ?_) (fun c49 => ?_)
        · skip
          have c49 : ((2 : Nat) : Int) < (G 28 14) := (cmp_lt (nI_toInt (by omega)) (zI_toInt (by omega) (by omega))).mp c49
          exfalso; omega
        · skip
          have c49 : ¬ (((2 : Nat) : Int) < (G 28 14)) := fun z9 => c49 ((cmp_lt (nI_toInt (by omega)) (zI_toInt (by omega) (by omega))).mpr z9)
          refine lv_iconst (v := nI 1) hx hb dL_areBits_52 (by decide) ?_
          refine lv_goto (tgt := 57) hx hb dL_areBits_53 (by decide) ?_
          refine lv_istore (lv' := [(5, .int (nI 1)), (4, .int (nI 0)), (3, .int (nI 0)), (0, .ref (ad 0)), (1, .ref (ad 31)), (2, .int (nI xN))]) hx hb dL_areBits_57 hl (by decide) rfl (fun ls hl => ?_)
          refine lv_iconst (v := nI 0) hx hb dL_areBits_59 (by decide) ?_
          refine lv_istore (lv' := [(6, .int (nI 0)), (5, .int (nI 1)), (4, .int (nI 0)), (3, .int (nI 0)), (0, .ref (ad 0)), (1, .ref (ad 31)), (2, .int (nI xN))]) hx hb dL_areBits_60 hl (by decide) rfl (fun ls hl => ?_)
          have LLq62 : ∀ (fuel : Nat) (kq bq : Nat) (tq : Int) (hkq : kq ≤ 64) (hbt : mTop G kq bq tq) (hbq : bq ≤ 64 ∧ 0 ≤ tq ∧ tq ≤ 1000) (_ : (64 - kq) < fuel) (H : Heap) (locs : List Loc) (ls : Array Slot), gH D base sM ad (33 + 2 * n) (gw cy ad n A J) H locs → lv_has ls 8 [(0, .ref (ad 0)), (1, .ref (ad 31)), (2, .int (nI xN)), (3, .int (zI tq)), (4, .int (nI bq)), (5, .int (nI 1)), (6, .int (nI kq))] → W pM l eM ({ frames := 7, cells := 70, slots := 420, locals := 121 } : Room) sM mM aM bM methM cM H locs (kq) (6 * kq) (vx_MQ bM (gPost D cy base ad n (PL_areBits ad A J G nq xN c0 c1)) (gXC D cy base ad n (pxNo)) aM sM 70 420 (fun q => base ≤ q)) (F0 mM 62 ls []) := by
            intro fuel
            induction fuel with
            | zero => intro kq bq tq hkq hbt hbq hms H locs ls hG hl; exact absurd hms (Nat.not_lt_zero _)
            | succ fuel ihq62 =>
              intro kq bq tq hkq hbt hbq hms H locs ls hG hl
              have hmr := mMat_range (G := G) htk kq
              have hmb := mMat_bd (G := G) htk kq
              refine lv_iload hx hb dL_areBits_62 (lv_at hl 6 rfl) ?_
              refine lv_bipush (v := nI 64) hx hb dL_areBits_64 (by decide) ?_
              refine lv_icmp_ge (tgt := 143) hx hb dL_areBits_66 (by decide) (fun c66 => ?_) (fun c66 => ?_)
              · skip
                have c66 : 64 ≤ kq := (nI_leI (by omega) (by omega)).mp c66
                have hk64 : kq = 64 := by omega
                have hb63 := mTop_end (by rw [hk64] at hbt; exact hbt)
                refine lv_iload hx hb dL_areBits_143 (lv_at hl 5 rfl) ?_
                refine lv_if_eq (tgt := 161) hx hb dL_areBits_145 (by decide) (fun c145 => ?_) (fun c145 => ?_)
                · skip
                  exact absurd c145 (by decide)
                · skip
                  refine lv_aload_n hx hb dL_areBits_148 rfl (lv_at hl 0 rfl) ?_
                  refine g_callV (As := []) (rest := []) (r := (RX9, TX9, 6)) ⟨hx, hb, hml, hown, hts⟩ hE hG (cX9_bestOffsetC l D cy base ad n A J G n (by first | assumption | omega) (by first | assumption | omega)) (cwV 0 hts gL_areBits_X9_bestOffset rfl rfl rfl (by decide +kernel) ⟨Nat.le_of_ble_eq_true rfl, Nat.le_of_ble_eq_true rfl⟩) (by omega) rfl rfl rfl hl.1 rfl (Nat.le_of_ble_eq_true rfl) dL_areBits_149 ⟨(by show kq ≤ 70; omega), (by show 6 * kq ≤ 420; omega)⟩ (fun v_ A149 J149 H locs hp hG => ?_)
                  obtain ⟨rfl, rfl, rfl⟩ := hp
                  refine W.eq (g2 := F0 mM 152 ls [.int (nI (mBest (mMat G) 63))]) rfl ?_
                  refine lv_iload hx hb dL_areBits_152 (lv_at hl 4 rfl) ?_
                  refine lv_icmp_ne (tgt := 161) hx hb dL_areBits_154 (by decide) (fun c154 => ?_) (fun c154 => ?_)
                  · skip
                    have c154 : ¬ ((mBest (mMat G) 63) = bq) := fun z9 => c154 ((nI_eq (by omega) (by omega)).mpr z9)
                    exfalso; omega
                  · skip
                    have c154 : (mBest (mMat G) 63) = bq := (nI_eq (by omega) (by omega)).mp c154
                    refine lv_iconst (v := nI 1) hx hb dL_areBits_157 (by decide) ?_
                    refine lv_goto (tgt := 162) hx hb dL_areBits_158 (by decide) ?_
                    refine lv_istore (lv' := [(5, .int (nI 1)), (0, .ref (ad 0)), (1, .ref (ad 31)), (2, .int (nI xN)), (3, .int (zI tq)), (4, .int (nI bq)), (6, .int (nI kq))]) hx hb dL_areBits_162 hl (by decide) rfl (fun ls hl => ?_)
                    refine lv_aload_n hx hb dL_areBits_164 rfl (lv_at hl 1 rfl) ?_
                    refine g_callV (As := []) (rest := []) (r := (RX9, TX9, 6)) ⟨hx, hb, hml, hown, hts⟩ hE hG (cX9_onLineC l D cy base ad n A J G n (by first | assumption | omega) (by first | assumption | omega)) (cwV 0 hts gL_areBits_X9_onLine rfl rfl rfl (by decide +kernel) ⟨Nat.le_of_ble_eq_true rfl, Nat.le_of_ble_eq_true rfl⟩) (by omega) rfl rfl rfl hl.1 rfl (Nat.le_of_ble_eq_true rfl) dL_areBits_165 ⟨(by show kq ≤ 70; omega), (by show 6 * kq ≤ 420; omega)⟩ (fun v_ A165 J165 H locs hp hG => ?_)
                    obtain ⟨rfl, rfl, rfl⟩ := hp
                    refine W.eq (g2 := F0 mM 168 ls [.int (zI (G 28 10))]) rfl ?_
                    refine lv_if_le (tgt := 247) hx hb dL_areBits_168 (by decide) (fun c168 => ?_) (fun c168 => ?_)
                    · skip
                      have c168 : (zI (G 28 10)) ≤ nI 0 := c168
                      have c168 : (G 28 10) ≤ ((0 : Nat) : Int) := (cmp_le (zI_toInt (by omega) (by omega)) (nI_toInt (by omega))).mp c168
                      refine lv_iload hx hb dL_areBits_247 (lv_at hl 0 rfl) ?_
                      exact gx_zret hx hb hr hlocks hG rfl (by show kq ≤ 70; omega) (by show 6 * kq ≤ 420; omega) ⟨rfl, rfl, (by rw [hnq]; exact hC), fun _ _ => rfl⟩ dL_areBits_249
                    · skip
                      have c168 : ¬ ((zI (G 28 10)) ≤ nI 0) := c168
                      have c168 : ¬ ((G 28 10) ≤ ((0 : Nat) : Int)) := fun z9 => c168 ((cmp_le (zI_toInt (by omega) (by omega)) (nI_toInt (by omega))).mpr z9)
                      refine lv_iload hx hb dL_areBits_171 (lv_at hl 0 rfl) ?_
                      refine lv_if_eq (tgt := 247) hx hb dL_areBits_173 (by decide) (fun c173 => ?_) (fun c173 => ?_)
                      · skip
                        exact absurd c173 (by decide)
                      · skip
                        refine lv_iload_n hx hb dL_areBits_176 rfl (lv_at hl 3 rfl) ?_
                        refine lv_aload_n hx hb dL_areBits_177 rfl (lv_at hl 1 rfl) ?_
                        refine g_callV (As := []) (rest := [.int (nI xN)]) (r := (RX9, TX9, 6)) ⟨hx, hb, hml, hown, hts⟩ hE hG (cX9_onLineC l D cy base ad n A J G n (by first | assumption | omega) (by first | assumption | omega)) (cwV 0 hts gL_areBits_X9_onLine rfl rfl rfl (by decide +kernel) ⟨Nat.le_of_ble_eq_true rfl, Nat.le_of_ble_eq_true rfl⟩) (by omega) rfl rfl rfl hl.1 rfl (Nat.le_of_ble_eq_true rfl) dL_areBits_178 ⟨(by show kq ≤ 70; omega), (by show 6 * kq ≤ 420; omega)⟩ (fun v_ A178 J178 H locs hp hG => ?_)
                        obtain ⟨rfl, rfl, rfl⟩ := hp
                        refine W.eq (g2 := F0 mM 181 ls [.int (zI (G 28 10)), .int (nI xN)]) rfl ?_
                        refine lv_irem hx hb dL_areBits_181 (zI_ne0 (by omega) (by omega)) ?_
                        refine g_top (y := zI (((xN : Nat) : Int) % G 28 10)) (by rw [← zI_n]; exact zI_rem (by omega) (by omega) (by omega) (by omega)) ?_
                        obtain ⟨ix, hix⟩ : ∃ ix : Int, ((xN : Nat) : Int) % G 28 10 = ix := ⟨_, rfl⟩
                        have hix2 : 0 ≤ ix ∧ ix < G 28 10 := by rw [← hix]; exact ⟨Int.emod_nonneg _ (by omega), Int.emod_lt_of_pos _ (by omega)⟩
                        refine g_top (y := zI ix) (by rw [hix]) ?_
                        have hbx := hln ix.toNat
                        refine lv_istore (lv' := [(6, .int (zI ix)), (5, .int (nI 1)), (0, .ref (ad 0)), (1, .ref (ad 31)), (2, .int (nI xN)), (3, .int (zI tq)), (4, .int (nI bq))]) hx hb dL_areBits_182 hl (by decide) rfl (fun ls hl => ?_)
                        refine lv_aload_n hx hb dL_areBits_184 rfl (lv_at hl 2 rfl) ?_
                        refine lv_iload hx hb dL_areBits_185 (lv_at hl 0 rfl) ?_
                        refine gN_callV (As := [.int (zI ix)]) (rest := []) (r := (RX9, TX9, 6)) ⟨hx, hb, hml, hown, hts⟩ hE hG (cX9_bitC l D cy base ad n A J G n ix (by first | assumption | omega) (by first | assumption | omega) (by first | assumption | omega) (by first | assumption | omega)) (cwV 1 hts gL_areBits_X9_bit rfl rfl rfl (by decide +kernel) ⟨Nat.le_of_ble_eq_true rfl, Nat.le_of_ble_eq_true rfl⟩) (by omega) rfl rfl rfl hl.1 rfl (Nat.le_of_ble_eq_true rfl) dL_areBits_187 ⟨(by show kq + 1 ≤ 70; omega), (by show 6 * kq + 6 ≤ 420; omega)⟩ (fun e_ A_ J_ hz => by
                          rcases hz with ⟨he_, hA_, hJ_, hf0_⟩
                          · omega) (fun v_ A187 J187 H locs hp hG => W.widen (k := kq + 1) (n := 6 * kq + 6) (by omega) (by omega) ?_)
                        obtain ⟨rfl, rfl, rfl, hin_187⟩ := hp
                        refine W.eq (g2 := F0 mM 190 ls [.int (zI (G 37 ix.toNat))]) rfl ?_
                        refine lv_istore (lv' := [(7, .int (zI (G 37 ix.toNat))), (6, .int (zI ix)), (5, .int (nI 1)), (0, .ref (ad 0)), (1, .ref (ad 31)), (2, .int (nI xN)), (3, .int (zI tq)), (4, .int (nI bq))]) hx hb dL_areBits_190 hl (by decide) rfl (fun ls hl => ?_)
                        have LLq203 : ∀ (_ : Unit)   (H : Heap) (locs : List Loc) (ls : Array Slot), gH D base sM ad (33 + 2 * n) (gw cy ad n A J) H locs → lv_has ls 8 [(7, .int (zI (G 37 ix.toNat))), (6, .int (zI ix)), (5, .int (nI 1)), (0, .ref (ad 0)), (1, .ref (ad 31)), (2, .int (nI xN)), (3, .int (zI tq)), (4, .int (nI bq))] → W pM l eM ({ frames := 7, cells := 70, slots := 420, locals := 121 } : Room) sM mM aM bM methM cM H locs (kq + 1) (6 * kq + 6) (vx_MQ bM (gPost D cy base ad n (PL_areBits ad A J G nq xN c0 c1)) (gXC D cy base ad n (pxNo)) aM sM 70 420 (fun q => base ≤ q)) (F0 mM 203 ls []) := by
                          intro _ H locs ls hG hl
                          refine lv_aload_n hx hb dL_areBits_203 rfl (lv_at hl 3 rfl) ?_
                          refine lv_iload hx hb dL_areBits_204 (lv_at hl 1 rfl) ?_
                          refine gN_callV (As := [.int (zI ix)]) (rest := []) (r := (RX9, TX9, 6)) ⟨hx, hb, hml, hown, hts⟩ hE hG (cX9_flipC l D cy base ad n A J G n ix (by first | assumption | omega) (by first | assumption | omega) (by first | assumption | omega) (by first | assumption | omega)) (cwV 1 hts gL_areBits_X9_flip rfl rfl rfl (by decide +kernel) ⟨Nat.le_of_ble_eq_true rfl, Nat.le_of_ble_eq_true rfl⟩) (by omega) rfl rfl rfl hl.1 rfl (Nat.le_of_ble_eq_true rfl) dL_areBits_206 ⟨(by show kq + 2 ≤ 70; omega), (by show 6 * kq + 12 ≤ 420; omega)⟩ (fun e_ A_ J_ hz => by
                            rcases hz with ⟨he_, hA_, hJ_, hf0_⟩
                            · omega) (fun v_ A206 J206 H locs hp hG => W.widen (k := kq + 2) (n := 6 * kq + 12) (by omega) (by omega) ?_)
                          obtain ⟨rfl, rfl, hin_206, hC1_206, hO_206⟩ := hp
                          refine W.eq (g2 := F0 mM 209 ls [.int (zI (1 - G 37 ix.toNat))]) rfl ?_
                          refine lv_iconst (v := nI 1) hx hb dL_areBits_209 (by decide) ?_
                          refine lv_iload hx hb dL_areBits_210 (lv_at hl 0 rfl) ?_
                          refine lv_isub hx hb dL_areBits_212 ?_
                          refine g_top (y := zI (1 - (G 37 ix.toNat))) (zI_sub_ni _ _) ?_
                          refine lv_icmp_ne (tgt := 244) hx hb dL_areBits_213 (by decide) (fun c213 => ?_) (fun c213 => ?_)
                          · skip
                            have c213 : ¬ ((1 - G 37 ix.toNat) = (1 - (G 37 ix.toNat))) := fun z9 => c213 ((cmp_eq (zI_toInt (by omega) (by omega)) (zI_toInt (by omega) (by omega))).mpr z9)
                            exfalso; omega
                          · skip
                            have c213 : (1 - G 37 ix.toNat) = (1 - (G 37 ix.toNat)) := (cmp_eq (zI_toInt (by omega) (by omega)) (zI_toInt (by omega) (by omega))).mp c213
                            refine lv_aload_n hx hb dL_areBits_216 rfl (lv_at hl 3 rfl) ?_
                            refine lv_iload hx hb dL_areBits_217 (lv_at hl 1 rfl) ?_
                            refine gN_callV (As := [.int (zI ix)]) (rest := []) (r := (RX9, TX9, 6)) ⟨hx, hb, hml, hown, hts⟩ hE hG (cX9_bitC l D cy base ad n A206 J (gu G 37 ix.toNat (1 - G 37 ix.toNat)) n ix (by first | assumption | omega) (by first | assumption | omega) hC1_206 (by first | assumption | omega)) (cwV 1 hts gL_areBits_X9_bit rfl rfl rfl (by decide +kernel) ⟨Nat.le_of_ble_eq_true rfl, Nat.le_of_ble_eq_true rfl⟩) (by omega) rfl rfl rfl hl.1 rfl (Nat.le_of_ble_eq_true rfl) dL_areBits_219 ⟨(by show kq + 3 ≤ 70; omega), (by show 6 * kq + 18 ≤ 420; omega)⟩ (fun e_ A_ J_ hz => by
                              rcases hz with ⟨he_, hA_, hJ_, hf0_⟩
                              · rw [gu_ne _ _ _ (by decide)] at hf0_; omega) (fun v_ A219 J219 H locs hp hG => W.widen (k := kq + 3) (n := 6 * kq + 18) (by omega) (by omega) ?_)
                            obtain ⟨rfl, rfl, rfl, hin_219⟩ := hp
                            refine W.eq (g2 := F0 mM 222 ls [.int (zI ((gu G 37 ix.toNat (1 - G 37 ix.toNat)) 37 ix.toNat))]) rfl ?_
                            refine g_top (y := zI (1 - G 37 ix.toNat)) (by rw [gu_at, if_pos ⟨rfl, rfl⟩]) ?_
                            refine lv_iconst (v := nI 1) hx hb dL_areBits_222 (by decide) ?_
                            refine lv_iload hx hb dL_areBits_223 (lv_at hl 0 rfl) ?_
                            refine lv_isub hx hb dL_areBits_225 ?_
                            refine g_top (y := zI (1 - (G 37 ix.toNat))) (zI_sub_ni _ _) ?_
                            refine lv_icmp_ne (tgt := 244) hx hb dL_areBits_226 (by decide) (fun c226 => ?_) (fun c226 => ?_)
                            · skip
                              have c226 : ¬ ((1 - G 37 ix.toNat) = (1 - (G 37 ix.toNat))) := fun z9 => c226 ((cmp_eq (zI_toInt (by omega) (by omega)) (zI_toInt (by omega) (by omega))).mpr z9)
                              exfalso; omega
                            · skip
                              have c226 : (1 - G 37 ix.toNat) = (1 - (G 37 ix.toNat)) := (cmp_eq (zI_toInt (by omega) (by omega)) (zI_toInt (by omega) (by omega))).mp c226
                              refine lv_aload_n hx hb dL_areBits_229 rfl (lv_at hl 3 rfl) ?_
                              refine lv_iload hx hb dL_areBits_230 (lv_at hl 1 rfl) ?_
                              refine gN_callV (As := [.int (zI ix)]) (rest := []) (r := (RX9, TX9, 6)) ⟨hx, hb, hml, hown, hts⟩ hE hG (cX9_flipC l D cy base ad n A206 J (gu G 37 ix.toNat (1 - G 37 ix.toNat)) n ix (by first | assumption | omega) (by first | assumption | omega) hC1_206 (by first | assumption | omega)) (cwV 1 hts gL_areBits_X9_flip rfl rfl rfl (by decide +kernel) ⟨Nat.le_of_ble_eq_true rfl, Nat.le_of_ble_eq_true rfl⟩) (by omega) rfl rfl rfl hl.1 rfl (Nat.le_of_ble_eq_true rfl) dL_areBits_232 ⟨(by show kq + 4 ≤ 70; omega), (by show 6 * kq + 24 ≤ 420; omega)⟩ (fun e_ A_ J_ hz => by
                                rcases hz with ⟨he_, hA_, hJ_, hf0_⟩
                                · rw [gu_ne _ _ _ (by decide)] at hf0_; omega) (fun v_ A232 J232 H locs hp hG => W.widen (k := kq + 4) (n := 6 * kq + 24) (by omega) (by omega) ?_)
                              obtain ⟨rfl, rfl, hin_232, hC1_232, hO_232⟩ := hp
                              refine W.eq (g2 := F0 mM 235 ls [.int (zI (1 - (gu G 37 ix.toNat (1 - G 37 ix.toNat)) 37 ix.toNat))]) rfl ?_
                              refine g_top (y := zI (G 37 ix.toNat)) (by rw [gu_at, if_pos ⟨rfl, rfl⟩]; congr 1; omega) ?_
                              rw [gu_bit rfl] at hC1_232
                              refine lv_iload hx hb dL_areBits_235 (lv_at hl 0 rfl) ?_
                              refine lv_icmp_ne (tgt := 244) hx hb dL_areBits_237 (by decide) (fun c237 => ?_) (fun c237 => ?_)
                              · skip
                                have c237 : ¬ ((G 37 ix.toNat) = (G 37 ix.toNat)) := fun z9 => c237 ((cmp_eq (zI_toInt (by omega) (by omega)) (zI_toInt (by omega) (by omega))).mpr z9)
                                exfalso; omega
                              · skip
                                have c237 : (G 37 ix.toNat) = (G 37 ix.toNat) := (cmp_eq (zI_toInt (by omega) (by omega)) (zI_toInt (by omega) (by omega))).mp c237
                                refine lv_iconst (v := nI 1) hx hb dL_areBits_240 (by decide) ?_
                                refine lv_goto (tgt := 245) hx hb dL_areBits_241 (by decide) ?_
                                refine lv_istore (lv' := [(5, .int (nI 1)), (7, .int (zI (G 37 ix.toNat))), (6, .int (zI ix)), (0, .ref (ad 0)), (1, .ref (ad 31)), (2, .int (nI xN)), (3, .int (zI tq)), (4, .int (nI bq))]) hx hb dL_areBits_245 hl (by decide) rfl (fun ls hl => ?_)
                                refine lv_iload hx hb dL_areBits_247 (lv_at hl 0 rfl) ?_
                                exact gx_zret hx hb hr hlocks hG rfl (by show kq + 4 ≤ 70; omega) (by show 6 * kq + 24 ≤ 420; omega) ⟨rfl, rfl, (by rw [hnq]; exact hC1_232), fun k hk => (hO_232 k hk).trans (hO_206 k hk)⟩ dL_areBits_249
                        refine lv_iload hx hb dL_areBits_192 (lv_at hl 0 rfl) ?_
                        refine lv_if_eq (tgt := 203) hx hb dL_areBits_194 (by decide) (fun c194 => ?_) (fun c194 => ?_)
                        · skip
                          have c194 : (zI (G 37 ix.toNat)) = nI 0 := c194
                          have c194 : (G 37 ix.toNat) = ((0 : Nat) : Int) := (cmp_eq (zI_toInt (by omega) (by omega)) (nI_toInt (by omega))).mp c194
                          exact LLq203 () _ _ _ hG (lv_sub hl [0, 1, 2, 3, 4, 5, 6, 7] rfl)
                        · skip
                          have c194 : ¬ ((zI (G 37 ix.toNat)) = nI 0) := c194
                          have c194 : ¬ ((G 37 ix.toNat) = ((0 : Nat) : Int)) := fun z9 => c194 ((cmp_eq (zI_toInt (by omega) (by omega)) (nI_toInt (by omega))).mpr z9)
                          refine lv_iload hx hb dL_areBits_197 (lv_at hl 0 rfl) ?_
                          refine lv_iconst (v := nI 1) hx hb dL_areBits_199 (by decide) ?_
                          refine lv_icmp_ne (tgt := 244) hx hb dL_areBits_200 (by decide) (fun c200 => ?_) (fun c200 => ?_)
                          · skip
                            have c200 : ¬ ((G 37 ix.toNat) = ((1 : Nat) : Int)) := fun z9 => c200 ((cmp_eq (zI_toInt (by omega) (by omega)) (nI_toInt (by omega))).mpr z9)
                            exfalso; omega
                          · skip
                            have c200 : (G 37 ix.toNat) = ((1 : Nat) : Int) := (cmp_eq (zI_toInt (by omega) (by omega)) (nI_toInt (by omega))).mp c200
                            exact LLq203 () _ _ _ hG (lv_sub hl [0, 1, 2, 3, 4, 5, 6, 7] rfl)
              · skip
                have c66 : ¬ (64 ≤ kq) := fun z9 => c66 ((nI_leI (by omega) (by omega)).mpr z9)
                refine lv_iload hx hb dL_areBits_69 (lv_at hl 5 rfl) ?_
                refine lv_if_eq (tgt := 143) hx hb dL_areBits_71 (by decide) (fun c71 => ?_) (fun c71 => ?_)
                · skip
                  exact absurd c71 (by decide)
                · skip
                  refine lv_aload_n hx hb dL_areBits_74 rfl (lv_at hl 0 rfl) ?_
                  refine lv_iload hx hb dL_areBits_75 (lv_at hl 6 rfl) ?_
                  refine gN_callV (As := [.int (nI kq)]) (rest := []) (r := (RX9, TX9, 6)) ⟨hx, hb, hml, hown, hts⟩ hE hG (cX9_matchesC l D cy base ad n A J G n ((kq : Nat) : Int) (by first | assumption | omega) (by first | assumption | omega) (by first | assumption | omega) (by first | assumption | omega)) (cwV 1 hts gL_areBits_X9_matches rfl rfl rfl (by decide +kernel) ⟨Nat.le_of_ble_eq_true rfl, Nat.le_of_ble_eq_true rfl⟩) (by omega) rfl rfl rfl hl.1 rfl (Nat.le_of_ble_eq_true rfl) dL_areBits_77 ⟨(by show kq + 1 ≤ 70; omega), (by show 6 * kq + 6 ≤ 420; omega)⟩ (fun e_ A_ J_ hz => by
                    rcases hz with ⟨he_, hA_, hJ_, hf0_⟩
                    · omega) (fun v_ A77 J77 H locs hp hG => W.widen (k := kq + 1) (n := 6 * kq + 6) (by omega) (by omega) ?_)
                  obtain ⟨rfl, rfl, rfl, hin_77⟩ := hp
                  refine W.eq (g2 := F0 mM 80 ls [.int (zI (mMat G ((kq : Nat) : Int).toNat))]) rfl ?_
                  refine g_top (y := zI (mMat G kq)) (by rw [Int.toNat_natCast]) ?_
                  refine lv_istore (lv' := [(7, .int (zI (mMat G kq))), (0, .ref (ad 0)), (1, .ref (ad 31)), (2, .int (nI xN)), (3, .int (zI tq)), (4, .int (nI bq)), (5, .int (nI 1)), (6, .int (nI kq))]) hx hb dL_areBits_80 hl (by decide) rfl (fun ls hl => ?_)
                  refine lv_iload hx hb dL_areBits_82 (lv_at hl 0 rfl) ?_
                  refine lv_if_lt (tgt := 106) hx hb dL_areBits_84 (by decide) (fun c84 => ?_) (fun c84 => ?_)
                  · skip
                    have c84 : (zI (mMat G kq)) < nI 0 := c84
                    have c84 : (mMat G kq) < ((0 : Nat) : Int) := (cmp_lt (zI_toInt (by omega) (by omega)) (nI_toInt (by omega))).mp c84
                    exfalso; omega
                  · skip
                    have c84 : ¬ ((zI (mMat G kq)) < nI 0) := c84
                    have c84 : ¬ ((mMat G kq) < ((0 : Nat) : Int)) := fun z9 => c84 ((cmp_lt (zI_toInt (by omega) (by omega)) (nI_toInt (by omega))).mpr z9)
                    refine lv_bipush (v := nI 64) hx hb dL_areBits_87 (by decide) ?_
                    refine lv_iload hx hb dL_areBits_89 (lv_at hl 0 rfl) ?_
                    refine lv_imul hx hb dL_areBits_91 ?_
                    refine g_top (y := zI (64 * (mMat G kq))) (zI_mul_ni _ _) ?_
                    refine lv_aload_n hx hb dL_areBits_92 rfl (lv_at hl 1 rfl) ?_
                    refine g_callV (As := []) (rest := [.int (zI (64 * (mMat G kq)))]) (r := (RX9, TX9, 6)) ⟨hx, hb, hml, hown, hts⟩ hE hG (cX9_takenC l D cy base ad n A J G n (by first | assumption | omega) (by first | assumption | omega)) (cwV 0 hts gL_areBits_X9_taken rfl rfl rfl (by decide +kernel) ⟨Nat.le_of_ble_eq_true rfl, Nat.le_of_ble_eq_true rfl⟩) (by omega) rfl rfl rfl hl.1 rfl (Nat.le_of_ble_eq_true rfl) dL_areBits_93 ⟨(by show kq + 1 ≤ 70; omega), (by show 6 * kq + 6 ≤ 420; omega)⟩ (fun v_ A93 J93 H locs hp hG => ?_)
                    obtain ⟨rfl, rfl, rfl⟩ := hp
                    refine W.eq (g2 := F0 mM 96 ls [.int (zI (G 28 12)), .int (zI (64 * (mMat G kq)))]) rfl ?_
                    refine lv_bipush (v := nI 56) hx hb dL_areBits_96 (by decide) ?_
                    refine lv_iadd hx hb dL_areBits_98 ?_
                    refine g_top (y := zI ((G 28 12) + 56)) (zI_add_in _ _) ?_
                    refine lv_icmp_gt (tgt := 106) hx hb dL_areBits_99 (by decide) (fun c99 => ?_) (fun c99 => ?_)
                    · skip
                      have c99 : ((G 28 12) + 56) < (64 * (mMat G kq)) := (cmp_lt (zI_toInt (by omega) (by omega)) (zI_toInt (by omega) (by omega))).mp c99
                      exfalso; omega
                    · skip
                      have c99 : ¬ (((G 28 12) + 56) < (64 * (mMat G kq))) := fun z9 => c99 ((cmp_lt (zI_toInt (by omega) (by omega)) (zI_toInt (by omega) (by omega))).mpr z9)
                      refine lv_iconst (v := nI 1) hx hb dL_areBits_102 (by decide) ?_
                      refine lv_goto (tgt := 107) hx hb dL_areBits_103 (by decide) ?_
                      refine lv_istore (lv' := [(5, .int (nI 1)), (7, .int (zI (mMat G kq))), (0, .ref (ad 0)), (1, .ref (ad 31)), (2, .int (nI xN)), (3, .int (zI tq)), (4, .int (nI bq)), (6, .int (nI kq))]) hx hb dL_areBits_107 hl (by decide) rfl (fun ls hl => ?_)
                      refine lv_iload hx hb dL_areBits_109 (lv_at hl 1 rfl) ?_
                      refine lv_iload_n hx hb dL_areBits_111 rfl (lv_at hl 5 rfl) ?_
                      refine lv_icmp_le (tgt := 120) hx hb dL_areBits_112 (by decide) (fun c112 => ?_) (fun c112 => ?_)
                      · skip
                        have c112 : (mMat G kq) ≤ tq := (cmp_le (zI_toInt (by omega) (by omega)) (zI_toInt (by omega) (by omega))).mp c112
                        refine lv_iload hx hb dL_areBits_120 (lv_at hl 6 rfl) ?_
                        refine lv_istore (lv' := [(4, .int (nI bq)), (5, .int (nI 1)), (7, .int (zI (mMat G kq))), (0, .ref (ad 0)), (1, .ref (ad 31)), (2, .int (nI xN)), (3, .int (zI tq)), (6, .int (nI kq))]) hx hb dL_areBits_122 hl (by decide) rfl (fun ls hl => ?_)
                        refine lv_iload hx hb dL_areBits_124 (lv_at hl 2 rfl) ?_
                        refine lv_iload_n hx hb dL_areBits_126 rfl (lv_at hl 6 rfl) ?_
                        refine lv_icmp_le (tgt := 135) hx hb dL_areBits_127 (by decide) (fun c127 => ?_) (fun c127 => ?_)
                        · skip
                          have c127 : (mMat G kq) ≤ tq := (cmp_le (zI_toInt (by omega) (by omega)) (zI_toInt (by omega) (by omega))).mp c127
                          refine lv_iload_n hx hb dL_areBits_135 rfl (lv_at hl 6 rfl) ?_
                          refine lv_istore_n (lv' := [(3, .int (zI tq)), (4, .int (nI bq)), (5, .int (nI 1)), (7, .int (zI (mMat G kq))), (0, .ref (ad 0)), (1, .ref (ad 31)), (2, .int (nI xN)), (6, .int (nI kq))]) hx hb dL_areBits_136 rfl hl (by decide) rfl (fun ls hl => ?_)
                          refine lv_iinc (v := nI (kq + 1)) (lv' := [(6, .int (nI (kq + 1))), (3, .int (zI tq)), (4, .int (nI bq)), (5, .int (nI 1)), (7, .int (zI (mMat G kq))), (0, .ref (ad 0)), (1, .ref (ad 31)), (2, .int (nI xN))]) hx hb dL_areBits_137 hl (k := 7) rfl (by rw [show (Int32.ofInt 1 : Int32) = nI 1 from rfl, nI_add]) (by decide) rfl (fun ls hl => ?_)
                          refine lv_goto (tgt := 62) hx hb dL_areBits_140 (by decide) ?_
                          refine W.widen (k := kq + 1) (n := 6 * (kq + 1)) (by omega) (by omega) ?_
                          exact ihq62 (kq + 1) bq tq (by omega) (by first | exact mTop_y hbt (by omega) | exact mTop_n hbt (by omega) (by omega)) (by omega) (by omega) _ _ _ hG (lv_sub hl [5, 6, 7, 1, 2, 3, 0] rfl)
                        · skip
                          have c127 : ¬ ((mMat G kq) ≤ tq) := fun z9 => c127 ((cmp_le (zI_toInt (by omega) (by omega)) (zI_toInt (by omega) (by omega))).mpr z9)
                          exfalso; omega
                      · skip
                        have c112 : ¬ ((mMat G kq) ≤ tq) := fun z9 => c112 ((cmp_le (zI_toInt (by omega) (by omega)) (zI_toInt (by omega) (by omega))).mpr z9)
                        refine lv_iload hx hb dL_areBits_115 (lv_at hl 7 rfl) ?_
                        refine lv_goto (tgt := 122) hx hb dL_areBits_117 (by decide) ?_
                        refine lv_istore (lv' := [(4, .int (nI kq)), (5, .int (nI 1)), (7, .int (zI (mMat G kq))), (0, .ref (ad 0)), (1, .ref (ad 31)), (2, .int (nI xN)), (3, .int (zI tq)), (6, .int (nI kq))]) hx hb dL_areBits_122 hl (by decide) rfl (fun ls hl => ?_)
                        refine lv_iload hx hb dL_areBits_124 (lv_at hl 2 rfl) ?_
                        refine lv_iload_n hx hb dL_areBits_126 rfl (lv_at hl 6 rfl) ?_
                        refine lv_icmp_le (tgt := 135) hx hb dL_areBits_127 (by decide) (fun c127 => ?_) (fun c127 => ?_)
                        · skip
                          have c127 : (mMat G kq) ≤ tq := (cmp_le (zI_toInt (by omega) (by omega)) (zI_toInt (by omega) (by omega))).mp c127
                          exfalso; omega
                        · skip
                          have c127 : ¬ ((mMat G kq) ≤ tq) := fun z9 => c127 ((cmp_le (zI_toInt (by omega) (by omega)) (zI_toInt (by omega) (by omega))).mpr z9)
                          refine lv_iload hx hb dL_areBits_130 (lv_at hl 2 rfl) ?_
                          refine lv_goto (tgt := 136) hx hb dL_areBits_132 (by decide) ?_
                          refine lv_istore_n (lv' := [(3, .int (zI (mMat G kq))), (4, .int (nI kq)), (5, .int (nI 1)), (7, .int (zI (mMat G kq))), (0, .ref (ad 0)), (1, .ref (ad 31)), (2, .int (nI xN)), (6, .int (nI kq))]) hx hb dL_areBits_136 rfl hl (by decide) rfl (fun ls hl => ?_)
                          refine lv_iinc (v := nI (kq + 1)) (lv' := [(6, .int (nI (kq + 1))), (3, .int (zI (mMat G kq))), (4, .int (nI kq)), (5, .int (nI 1)), (7, .int (zI (mMat G kq))), (0, .ref (ad 0)), (1, .ref (ad 31)), (2, .int (nI xN))]) hx hb dL_areBits_137 hl (k := 7) rfl (by rw [show (Int32.ofInt 1 : Int32) = nI 1 from rfl, nI_add]) (by decide) rfl (fun ls hl => ?_)
                          refine lv_goto (tgt := 62) hx hb dL_areBits_140 (by decide) ?_
                          refine W.widen (k := kq + 1) (n := 6 * (kq + 1)) (by omega) (by omega) ?_
                          exact ihq62 (kq + 1) kq (mMat G kq) (by omega) (by first | exact mTop_y hbt (by omega) | exact mTop_n hbt (by omega) (by omega)) (by omega) (by omega) _ _ _ hG (lv_sub hl [5, 6, 7, 1, 2, 3, 0] rfl)
          refine W.widen (k := 0) (n := 6 * 0) (by omega) (by omega) ?_
          exact LLq62 _ 0 0 0 (by omega) (Or.inl ⟨rfl, rfl, rfl⟩) (by omega) (Nat.lt_succ_self _) _ _ _ hG (lv_sub hl [4, 5, 6, 3, 2, 1, 0] rfl)

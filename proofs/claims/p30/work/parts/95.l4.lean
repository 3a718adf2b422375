abbrev PL_isWhole (ad : Nat → Nat) (A : Nat → Nat → Int32) (J : Nat → Nat → Int64) (G : Nat → Nat → Int) (nq fN : Nat) : Option Value → (Nat → Nat → Int32) → (Nat → Nat → Int64) → Prop := fun v_ A1 J1 => (v_ = some (.int (nI 1)) ∧ A = A1 ∧ J = J1)
set_option maxHeartbeats 4000000 in
set_option maxRecDepth 100000 in
theorem cL_isWholeC (l : Launch) (D : va_G) (cy : Nat → ClassId) (base : Nat) (ad : Nat → Nat) (n : Nat) (A : Nat → Nat → Int32) (J : Nat → Nat → Int64) (G : Nat → Nat → Int) (nq fN : Nat) (hst : l.stackTraces = false) (hnq : nq = n) (hC : CAll nq A J G) (hgr : LGR A G n) (hv9 : ∀ i, i < 12 → A 30 i = zI (G 35 i)) (hW : mWh G fN) (hfN : fN < 36) : gMetX l yL_isWhole wsL_isWhole ({ frames := 8, cells := 73, slots := 438, locals := 144 } : Room) D cy base ad n A J [.ref (ad 0), .ref (ad 28), .ref (ad 30), .ref (ad 31), .int (nI fN)] (PL_isWhole ad A J G nq fN) pxNo 73 438 := by
  refine gx_ofW (cc := cL_isWhole) (maxL := 8) (ret := (some .boolean)) (by decide) rfl (Nat.le_of_ble_eq_true rfl) ?_
  intro pM eM sM mM aM bM methM cM H locs ls hx hb hr hts hown hlocks hml hout hE hG hl
  have hl : lv_has ls 8 [(0, .ref (ad 0)), (1, .ref (ad 28)), (2, .ref (ad 30)), (3, .ref (ad 31)), (4, .int (nI fN))] := hl
  have hinX0 : ∀ w ∈ u_ws RX0 TX0 5, w ∈ wsL_isWhole := by decide +kernel
  have hinX4 : ∀ w ∈ u_ws RX4 TX4 10, w ∈ wsL_isWhole := by decide +kernel
  have hinX5 : ∀ w ∈ u_ws RX5 TX5 3, w ∈ wsL_isWhole := by decide +kernel
  have hinX6 : ∀ w ∈ u_ws RX6 TX6 3, w ∈ wsL_isWhole := by decide +kernel
  have hinX8 : ∀ w ∈ u_ws RX8 TX8 7, w ∈ wsL_isWhole := by decide +kernel
  have hinX9 : ∀ w ∈ u_ws RX9 TX9 6, w ∈ wsL_isWhole := by decide +kernel
  have hC : CAll n A J G := by rw [← hnq]; exact hC
  obtain ⟨hT, h28, -, hpa, htk, hol, -, -, hsn, -, hok, -, hdr, hsum, hln, hn, -⟩ := hC.bd
  have hsa := hok.2.2.2.2.2
  have hnb := hok.2.2.2.2.1.2.2.2.2.2.2.1
  have hnl := hok.2.2.2.2.1.2.2.2.2.2.2.2
  have hnf := hok.2.2.2.2.1.2.2.2.2.1
  clear hok
  have hn12 := hC.1.2
  obtain ⟨hW1, hW2, hW3, hW4, hW5, hW6⟩ := id hW
  refine lv_aload_n hx hb dL_isWhole_0 rfl (lv_at hl 0 rfl) ?_
  refine g_callV (As := []) (rest := []) (r := (RX9, TX9, 6)) ⟨hx, hb, hml, hown, hts⟩ hE hG (cX9_lostC l D cy base ad n A J G n (by first | assumption | omega) (by first | assumption | omega)) (cwV 0 hts gL_isWhole_X9_lost rfl rfl rfl (by decide +kernel) ⟨Nat.le_of_ble_eq_true rfl, Nat.le_of_ble_eq_true rfl⟩) (by omega) rfl rfl rfl hl.1 rfl (Nat.le_of_ble_eq_true rfl) dL_isWhole_1 ⟨(by show 0 ≤ 73; omega), (by show 0 ≤ 438; omega)⟩ (fun v_ A1 J1 H locs hp hG => ?_)
  obtain ⟨rfl, rfl, rfl⟩ := hp
  refine W.eq (g2 := F0 mM 4 ls [.int (zI (G 28 22))]) rfl ?_
  refine lv_if_ne (tgt := 69) hx hb dL_isWhole_4 (by decide) (fun c4 => ?_) (fun c4 => ?_)
  · skip
    have c4 : ¬ ((zI (G 28 22)) = nI 0) := c4
    have c4 : ¬ ((G 28 22) = ((0 : Nat) : Int)) := fun z9 => c4 ((cmp_eq (zI_toInt (by omega) (by omega)) (nI_toInt (by omega))).mpr z9)
    exfalso; omega
  · skip
    have c4 : (zI (G 28 22)) = nI 0 := c4
    have c4 : (G 28 22) = ((0 : Nat) : Int) := (cmp_eq (zI_toInt (by omega) (by omega)) (nI_toInt (by omega))).mp c4
    refine lv_aload_n hx hb dL_isWhole_7 rfl (lv_at hl 0 rfl) ?_
    refine g_callV (As := []) (rest := []) (r := (RX9, TX9, 6)) ⟨hx, hb, hml, hown, hts⟩ hE hG (cX9_repeatsC l D cy base ad n A J G n (by first | assumption | omega) (by first | assumption | omega)) (cwV 0 hts gL_isWhole_X9_repeats rfl rfl rfl (by decide +kernel) ⟨Nat.le_of_ble_eq_true rfl, Nat.le_of_ble_eq_true rfl⟩) (by omega) rfl rfl rfl hl.1 rfl (Nat.le_of_ble_eq_true rfl) dL_isWhole_8 ⟨(by show 0 ≤ 73; omega), (by show 0 ≤ 438; omega)⟩ (fun v_ A8 J8 H locs hp hG => ?_)
    obtain ⟨rfl, rfl, rfl⟩ := hp
    refine W.eq (g2 := F0 mM 11 ls [.int (zI (G 28 23))]) rfl ?_
    refine lv_if_ne (tgt := 69) hx hb dL_isWhole_11 (by decide) (fun c11 => ?_) (fun c11 => ?_)
    · skip
      have c11 : ¬ ((zI (G 28 23)) = nI 0) := c11
      have c11 : ¬ ((G 28 23) = ((0 : Nat) : Int)) := fun z9 => c11 ((cmp_eq (zI_toInt (by omega) (by omega)) (nI_toInt (by omega))).mpr z9)
      exfalso; omega
    · skip
      have c11 : (zI (G 28 23)) = nI 0 := c11
      have c11 : (G 28 23) = ((0 : Nat) : Int) := (cmp_eq (zI_toInt (by omega) (by omega)) (nI_toInt (by omega))).mp c11
      have LLq35 : ∀ (_ : Unit)   (H : Heap) (locs : List Loc) (ls : Array Slot), gH D base sM ad (33 + 2 * n) (gw cy ad n A J) H locs → lv_has ls 8 [(0, .ref (ad 0)), (1, .ref (ad 28)), (2, .ref (ad 30)), (3, .ref (ad 31)), (4, .int (nI fN))] → W pM l eM ({ frames := 8, cells := 73, slots := 438, locals := 144 } : Room) sM mM aM bM methM cM H locs (0) (0) (vx_MQ bM (gPost D cy base ad n (PL_isWhole ad A J G nq fN)) (gXC D cy base ad n (pxNo)) aM sM 73 438 (fun q => base ≤ q)) (F0 mM 35 ls []) := by
        intro _ H locs ls hG hl
        have LLq53 : ∀ (_ : Unit)   (H : Heap) (locs : List Loc) (ls : Array Slot), gH D base sM ad (33 + 2 * n) (gw cy ad n A J) H locs → lv_has ls 8 [(0, .ref (ad 0)), (1, .ref (ad 28)), (2, .ref (ad 30)), (3, .ref (ad 31)), (4, .int (nI fN))] → W pM l eM ({ frames := 8, cells := 73, slots := 438, locals := 144 } : Room) sM mM aM bM methM cM H locs (0) (0) (vx_MQ bM (gPost D cy base ad n (PL_isWhole ad A J G nq fN)) (gXC D cy base ad n (pxNo)) aM sM 73 438 (fun q => base ≤ q)) (F0 mM 53 ls []) := by
          intro _ H locs ls hG hl
          refine lv_aload_n hx hb dL_isWhole_53 rfl (lv_at hl 0 rfl) ?_
          refine lv_iconst (v := nI 0) hx hb dL_isWhole_54 (by decide) ?_
          refine gN_callV (As := [.int (nI 0)]) (rest := []) (r := (RX9, TX9, 6)) ⟨hx, hb, hml, hown, hts⟩ hE hG (cX9_matchesC l D cy base ad n A J G n (0 : Int) (by first | assumption | omega) (by first | assumption | omega) (by first | assumption | omega) (by first | assumption | omega)) (cwV 1 hts gL_isWhole_X9_matches rfl rfl rfl (by decide +kernel) ⟨Nat.le_of_ble_eq_true rfl, Nat.le_of_ble_eq_true rfl⟩) (by omega) rfl rfl rfl hl.1 rfl (Nat.le_of_ble_eq_true rfl) dL_isWhole_55 ⟨(by show 1 ≤ 73; omega), (by show 6 ≤ 438; omega)⟩ (fun e_ A_ J_ hz => by
            rcases hz with ⟨he_, hA_, hJ_, hf0_⟩
            · omega) (fun v_ A55 J55 H locs hp hG => W.widen (k := 1) (n := 6) (by omega) (by omega) ?_)
          obtain ⟨rfl, rfl, rfl, hin_55⟩ := hp
          refine W.eq (g2 := F0 mM 58 ls [.int (zI (mMat G (0 : Int).toNat))]) rfl ?_
          refine g_top (y := zI (mMat G 0)) (rfl) ?_
          refine lv_iload hx hb dL_isWhole_58 (lv_at hl 4 rfl) ?_
          refine lv_iconst (v := nI 1) hx hb dL_isWhole_60 (by decide) ?_
          refine lv_iadd hx hb dL_isWhole_61 ?_
          refine g_top (y := nI (fN + 1)) (by rw [nI_add]) ?_
          refine lv_icmp_ne (tgt := 69) hx hb dL_isWhole_62 (by decide) (fun c62 => ?_) (fun c62 => ?_)
          · skip
            have c62 : ¬ ((mMat G 0) = ((fN + 1 : Nat) : Int)) := fun z9 => c62 ((cmp_eq (zI_toInt (by omega) (by omega)) (nI_toInt (by omega))).mpr z9)
            exfalso; omega
          · skip
            have c62 : (mMat G 0) = ((fN + 1 : Nat) : Int) := (cmp_eq (zI_toInt (by omega) (by omega)) (nI_toInt (by omega))).mp c62
            refine lv_iconst (v := nI 1) hx hb dL_isWhole_65 (by decide) ?_
            refine lv_goto (tgt := 70) hx hb dL_isWhole_66 (by decide) ?_
            refine lv_istore (lv' := [(5, .int (nI 1)), (0, .ref (ad 0)), (1, .ref (ad 28)), (2, .ref (ad 30)), (3, .ref (ad 31)), (4, .int (nI fN))]) hx hb dL_isWhole_70 hl (by decide) rfl (fun ls hl => ?_)
            refine lv_iconst (v := nI 0) hx hb dL_isWhole_72 (by decide) ?_
            refine lv_istore (lv' := [(6, .int (nI 0)), (5, .int (nI 1)), (0, .ref (ad 0)), (1, .ref (ad 28)), (2, .ref (ad 30)), (3, .ref (ad 31)), (4, .int (nI fN))]) hx hb dL_isWhole_73 hl (by decide) rfl (fun ls hl => ?_)
            have LLq75 : ∀ (fuel : Nat) (pq : Nat) (hpq : pq ≤ n) (_ : (n - pq) < fuel) (H : Heap) (locs : List Loc) (ls : Array Slot), gH D base sM ad (33 + 2 * n) (gw cy ad n A J) H locs → lv_has ls 8 [(0, .ref (ad 0)), (1, .ref (ad 28)), (2, .ref (ad 30)), (3, .ref (ad 31)), (4, .int (nI fN)), (5, .int (nI 1)), (6, .int (nI pq))] → W pM l eM ({ frames := 8, cells := 73, slots := 438, locals := 144 } : Room) sM mM aM bM methM cM H locs (1 + 6 * pq) (6 + 36 * pq) (vx_MQ bM (gPost D cy base ad n (PL_isWhole ad A J G nq fN)) (gXC D cy base ad n (pxNo)) aM sM 73 438 (fun q => base ≤ q)) (F0 mM 75 ls []) := by
              intro fuel
              induction fuel with
              | zero => intro pq hpq hms H locs ls hG hl; exact absurd hms (Nat.not_lt_zero _)
              | succ fuel ihq75 =>
                intro pq hpq hms H locs ls hG hl
                refine lv_iload hx hb dL_isWhole_75 (lv_at hl 6 rfl) ?_
                refine lv_aload_n hx hb dL_isWhole_77 rfl (lv_at hl 0 rfl) ?_
                refine g_callV (As := []) (rest := [.int (nI pq)]) (r := (RX9, TX9, 6)) ⟨hx, hb, hml, hown, hts⟩ hE hG (cX9_pointsC l D cy base ad n A J n hC.1 (by first | assumption | omega)) (cwV 0 hts gL_isWhole_X9_points rfl rfl rfl (by decide +kernel) ⟨Nat.le_of_ble_eq_true rfl, Nat.le_of_ble_eq_true rfl⟩) (by omega) rfl rfl rfl hl.1 rfl (Nat.le_of_ble_eq_true rfl) dL_isWhole_78 ⟨(by show 1 + 6 * pq ≤ 73; omega), (by show 6 + 36 * pq ≤ 438; omega)⟩ (fun v_ A78 J78 H locs hp hG => ?_)
                obtain ⟨rfl, rfl, rfl⟩ := hp
                refine W.eq (g2 := F0 mM 81 ls [.int (nI n), .int (nI pq)]) rfl ?_
                refine lv_icmp_ge (tgt := 179) hx hb dL_isWhole_81 (by decide) (fun c81 => ?_) (fun c81 => ?_)
                · skip
                  have c81 : n ≤ pq := (nI_leI (by omega) (by omega)).mp c81
                  refine lv_iload hx hb dL_isWhole_179 (lv_at hl 5 rfl) ?_
                  exact gx_zret hx hb hr hlocks hG rfl (by show 1 + 6 * pq ≤ 73; omega) (by show 6 + 36 * pq ≤ 438; omega) ⟨rfl, rfl, rfl⟩ dL_isWhole_181
                · skip
                  have c81 : ¬ (n ≤ pq) := fun z9 => c81 ((nI_leI (by omega) (by omega)).mpr z9)
                  obtain ⟨t1, t2, t3, t4, t5, t6⟩ := TOk_at (hT.2.2 pq (by omega))
                  have hrm : 0 ≤ (fN : Int) % G 31 pq ∧ (fN : Int) % G 31 pq < 5 := ⟨Int.emod_nonneg _ (by omega), by have := Int.emod_lt_of_pos (fN : Int) (show 0 < G 31 pq by omega); omega⟩
                  refine lv_iload hx hb dL_isWhole_84 (lv_at hl 5 rfl) ?_
                  refine lv_if_eq (tgt := 179) hx hb dL_isWhole_86 (by decide) (fun c86 => ?_) (fun c86 => ?_)
                  · skip
                    exact absurd c86 (by decide)
                  · skip
                    have LLq166 : ∀ (_ : Unit)   (H : Heap) (locs : List Loc) (ls : Array Slot), gH D base sM ad (33 + 2 * n) (gw cy ad n A J) H locs → lv_has ls 8 [(0, .ref (ad 0)), (1, .ref (ad 28)), (2, .ref (ad 30)), (3, .ref (ad 31)), (4, .int (nI fN)), (6, .int (nI pq))] → W pM l eM ({ frames := 8, cells := 73, slots := 438, locals := 144 } : Room) sM mM aM bM methM cM H locs (1 + 6 * pq + 6) (6 + 36 * pq + 36) (vx_MQ bM (gPost D cy base ad n (PL_isWhole ad A J G nq fN)) (gXC D cy base ad n (pxNo)) aM sM 73 438 (fun q => base ≤ q)) (F0 mM 166 ls []) := by
                      intro _ H locs ls hG hl
                      refine lv_iconst (v := nI 1) hx hb dL_isWhole_166 (by decide) ?_
                      refine lv_goto (tgt := 171) hx hb dL_isWhole_167 (by decide) ?_
                      refine lv_istore (lv' := [(5, .int (nI 1)), (0, .ref (ad 0)), (1, .ref (ad 28)), (2, .ref (ad 30)), (3, .ref (ad 31)), (4, .int (nI fN)), (6, .int (nI pq))]) hx hb dL_isWhole_171 hl (by decide) rfl (fun ls hl => ?_)
                      refine lv_iinc (v := nI (pq + 1)) (lv' := [(6, .int (nI (pq + 1))), (5, .int (nI 1)), (0, .ref (ad 0)), (1, .ref (ad 28)), (2, .ref (ad 30)), (3, .ref (ad 31)), (4, .int (nI fN))]) hx hb dL_isWhole_173 hl (k := 6) rfl (by rw [show (Int32.ofInt 1 : Int32) = nI 1 from rfl, nI_add]) (by decide) rfl (fun ls hl => ?_)
                      refine lv_goto (tgt := 75) hx hb dL_isWhole_176 (by decide) ?_
                      refine W.widen (k := 1 + 6 * (pq + 1)) (n := 6 + 36 * (pq + 1)) (by omega) (by omega) ?_
                      exact ihq75 (pq + 1) (by omega) (by omega) _ _ _ hG (lv_sub hl [2, 3, 4, 5, 6, 1, 0] rfl)
                    refine lv_iload hx hb dL_isWhole_89 (lv_at hl 4 rfl) ?_
                    refine lv_aload_n hx hb dL_isWhole_91 rfl (lv_at hl 1 rfl) ?_
                    refine lv_iconst (v := nI 4) hx hb dL_isWhole_92 (by decide) ?_
                    refine lv_iload hx hb dL_isWhole_93 (lv_at hl 6 rfl) ?_
                    refine lv_imul hx hb dL_isWhole_95 ?_
                    refine g_top (y := nI (4 * pq)) (by rw [pk_mul]) ?_
                    refine lv_iconst (v := nI 2) hx hb dL_isWhole_96 (by decide) ?_
                    refine lv_iadd hx hb dL_isWhole_97 ?_
                    refine g_top (y := nI (4 * pq + 2)) (by rw [nI_add]) ?_
                    refine g_iald hx hb hE hG (k := 28) (by omega) rfl (4 * pq + 2) (rfl) (by omega) (by omega) dL_isWhole_98 ?_
                    refine g_top (y := zI (G 31 pq)) ((hgr pq (by omega)).2.2.1) ?_
                    refine lv_irem hx hb dL_isWhole_99 (zI_ne0 (by omega) (by omega)) ?_
                    refine g_top (y := zI (((fN : Nat) : Int) % G 31 pq)) ((by rw [← zI_n]; exact zI_rem (by omega) (by omega) (by omega) (by omega))) ?_
                    refine lv_aload_n hx hb dL_isWhole_100 rfl (lv_at hl 0 rfl) ?_
                    refine lv_iload hx hb dL_isWhole_101 (lv_at hl 6 rfl) ?_
                    refine gN_callV (As := [.int (nI pq)]) (rest := [.int (zI (((fN : Nat) : Int) % G 31 pq))]) (r := (RX9, TX9, 6)) ⟨hx, hb, hml, hown, hts⟩ hE hG (cX9_placeC l D cy base ad n A J G n ((pq : Nat) : Int) (by first | assumption | omega) (by first | assumption | omega) (by first | assumption | omega) (by first | assumption | omega)) (cwV 1 hts gL_isWhole_X9_place rfl rfl rfl (by decide +kernel) ⟨Nat.le_of_ble_eq_true rfl, Nat.le_of_ble_eq_true rfl⟩) (by omega) rfl rfl rfl hl.1 rfl (Nat.le_of_ble_eq_true rfl) dL_isWhole_103 ⟨(by show 1 + 6 * pq + 1 ≤ 73; omega), (by show 6 + 36 * pq + 6 ≤ 438; omega)⟩ (fun e_ A_ J_ hz => by
                      rcases hz with ⟨he_, hA_, hJ_, hf0_⟩
                      · omega) (fun v_ A103 J103 H locs hp hG => W.widen (k := 1 + 6 * pq + 1) (n := 6 + 36 * pq + 6) (by omega) (by omega) ?_)
                    obtain ⟨iq_103, rfl, rfl, rfl, hiq_103⟩ := hp
                    refine W.eq (g2 := F0 mM 106 ls [.int (zI (100 * G 33 iq_103 + G 34 iq_103)), .int (zI (((fN : Nat) : Int) % G 31 pq))]) rfl ?_
                    obtain rfl : pq = iq_103 := (by omega)
                    refine lv_bipush (v := nI 100) hx hb dL_isWhole_106 (by decide) ?_
                    refine lv_idiv hx hb dL_isWhole_108 (by decide) ?_
                    refine g_top (y := zI (G 33 pq)) ((by rw [← zI_n, zI_div (by omega) (by omega) (by decide) (by decide)]; congr 1; omega)) ?_
                    refine lv_icmp_ne (tgt := 116) hx hb dL_isWhole_109 (by decide) (fun c109 => ?_) (fun c109 => ?_)
                    · skip
                      have c109 : ¬ ((((fN : Nat) : Int) % G 31 pq) = (G 33 pq)) := fun z9 => c109 ((cmp_eq (zI_toInt (by omega) (by omega)) (zI_toInt (by omega) (by omega))).mpr z9)
                      refine lv_iconst (v := nI 0) hx hb dL_isWhole_116 (by decide) ?_
                      refine lv_istore (lv' := [(7, .int (nI 0)), (0, .ref (ad 0)), (1, .ref (ad 28)), (2, .ref (ad 30)), (3, .ref (ad 31)), (4, .int (nI fN)), (5, .int (nI 1)), (6, .int (nI pq))]) hx hb dL_isWhole_117 hl (by decide) rfl (fun ls hl => ?_)
                      refine lv_iload hx hb dL_isWhole_119 (lv_at hl 5 rfl) ?_
                      refine lv_iconst (v := nI 2) hx hb dL_isWhole_121 (by decide) ?_
                      refine lv_icmp_lt (tgt := 166) hx hb dL_isWhole_122 (by decide) (fun c122 => ?_) (fun c122 => ?_)
                      · skip
                        have c122 : fN < 2 := (nI_ltI (by omega) (by omega)).mp c122
                        refine W.widen (k := 1 + 6 * pq + 6) (n := 6 + 36 * pq + 36) (by omega) (by omega) ?_
                        exact LLq166 () _ _ _ hG (lv_sub hl [1, 2, 3, 4, 5, 7] rfl)
                      · skip
                        have c122 : ¬ (fN < 2) := fun z9 => c122 ((nI_ltI (by omega) (by omega)).mpr z9)
                        refine lv_iload hx hb dL_isWhole_125 (lv_at hl 0 rfl) ?_
                        refine lv_if_eq (tgt := 166) hx hb dL_isWhole_127 (by decide) (fun c127 => ?_) (fun c127 => ?_)
                        · skip
                          refine W.widen (k := 1 + 6 * pq + 6) (n := 6 + 36 * pq + 36) (by omega) (by omega) ?_
                          exact LLq166 () _ _ _ hG (lv_sub hl [1, 2, 3, 4, 5, 7] rfl)
                        · skip
                          exact absurd c127 (by decide)
                    · skip
                      have c109 : (((fN : Nat) : Int) % G 31 pq) = (G 33 pq) := (cmp_eq (zI_toInt (by omega) (by omega)) (zI_toInt (by omega) (by omega))).mp c109
                      have hW7 := hW6 pq (by omega)
                      refine lv_iconst (v := nI 1) hx hb dL_isWhole_112 (by decide) ?_
                      refine lv_goto (tgt := 117) hx hb dL_isWhole_113 (by decide) ?_
                      refine lv_istore (lv' := [(7, .int (nI 1)), (0, .ref (ad 0)), (1, .ref (ad 28)), (2, .ref (ad 30)), (3, .ref (ad 31)), (4, .int (nI fN)), (5, .int (nI 1)), (6, .int (nI pq))]) hx hb dL_isWhole_117 hl (by decide) rfl (fun ls hl => ?_)
                      refine lv_iload hx hb dL_isWhole_119 (lv_at hl 5 rfl) ?_
                      refine lv_iconst (v := nI 2) hx hb dL_isWhole_121 (by decide) ?_
                      refine lv_icmp_lt (tgt := 166) hx hb dL_isWhole_122 (by decide) (fun c122 => ?_) (fun c122 => ?_)
                      · skip
                        have c122 : fN < 2 := (nI_ltI (by omega) (by omega)).mp c122
                        refine W.widen (k := 1 + 6 * pq + 6) (n := 6 + 36 * pq + 36) (by omega) (by omega) ?_
                        exact LLq166 () _ _ _ hG (lv_sub hl [1, 2, 3, 4, 5, 7] rfl)
                      · skip
                        have c122 : ¬ (fN < 2) := fun z9 => c122 ((nI_ltI (by omega) (by omega)).mpr z9)
                        refine lv_iload hx hb dL_isWhole_125 (lv_at hl 0 rfl) ?_
                        refine lv_if_eq (tgt := 166) hx hb dL_isWhole_127 (by decide) (fun c127 => ?_) (fun c127 => ?_)
                        · skip
                          exact absurd c127 (by decide)
                        · skip
                          have hW9 := hW7 (by omega) c109
                          have hbd := hdr pq
                          refine lv_aload_n hx hb dL_isWhole_130 rfl (lv_at hl 1 rfl) ?_
                          refine lv_iload hx hb dL_isWhole_131 (lv_at hl 7 rfl) ?_
                          refine gN_callV (As := [.int (nI pq)]) (rest := []) (r := (RX9, TX9, 6)) ⟨hx, hb, hml, hown, hts⟩ hE hG (cX9_valueC l D cy base ad n A J G n ((pq : Nat) : Int) (by first | assumption | omega) (by first | assumption | omega) (by first | assumption | omega) (by first | assumption | omega)) (cwV 1 hts gL_isWhole_X9_value rfl rfl rfl (by decide +kernel) ⟨Nat.le_of_ble_eq_true rfl, Nat.le_of_ble_eq_true rfl⟩) (by omega) rfl rfl rfl hl.1 rfl (Nat.le_of_ble_eq_true rfl) dL_isWhole_133 ⟨(by show 1 + 6 * pq + 3 ≤ 73; omega), (by show 6 + 36 * pq + 18 ≤ 438; omega)⟩ (fun e_ A_ J_ hz => by
                            rcases hz with ⟨he_, hA_, hJ_, hf0_⟩ | ⟨he_, hA_, hJ_, hf0_⟩
                            · omega
                            · obtain ⟨i9, h9, h8, h7⟩ := hf0_; obtain rfl : pq = i9 := (by omega); exact absurd h7 hW9.1) (fun v_ A133 J133 H locs hp hG => W.widen (k := 1 + 6 * pq + 3) (n := 6 + 36 * pq + 18) (by omega) (by omega) ?_)
                          obtain ⟨iq_133, rfl, rfl, rfl, hiq_133⟩ := hp
                          refine W.eq (g2 := F0 mM 136 ls [.int (zI (G 39 iq_133))]) rfl ?_
                          obtain rfl : pq = iq_133 := (by omega)
                          refine lv_aload_n hx hb dL_isWhole_136 rfl (lv_at hl 3 rfl) ?_
                          refine lv_iload hx hb dL_isWhole_137 (lv_at hl 7 rfl) ?_
                          refine g_iald hx hb hE hG (k := 30) (by omega) rfl pq (rfl) (by omega) (by omega) dL_isWhole_139 ?_
                          refine g_top (y := zI (G 35 pq)) (hv9 pq (by omega)) ?_
                          refine lv_icmp_ne (tgt := 170) hx hb dL_isWhole_140 (by decide) (fun c140 => ?_) (fun c140 => ?_)
                          · skip
                            have c140 : ¬ ((G 39 pq) = (G 35 pq)) := fun z9 => c140 ((cmp_eq (zI_toInt (by omega) (by omega)) (zI_toInt (by omega) (by omega))).mpr z9)
                            exfalso; omega
                          · skip
                            have c140 : (G 39 pq) = (G 35 pq) := (cmp_eq (zI_toInt (by omega) (by omega)) (zI_toInt (by omega) (by omega))).mp c140
                            refine lv_aload_n hx hb dL_isWhole_143 rfl (lv_at hl 1 rfl) ?_
                            refine lv_iload hx hb dL_isWhole_144 (lv_at hl 7 rfl) ?_
                            refine gN_callV (As := [.int (nI pq)]) (rest := []) (r := (RX9, TX9, 6)) ⟨hx, hb, hml, hown, hts⟩ hE hG (cX9_timeC l D cy base ad n A J G n ((pq : Nat) : Int) (by first | assumption | omega) (by first | assumption | omega) (by first | assumption | omega) (by first | assumption | omega)) (cwV 1 hts gL_isWhole_X9_time rfl rfl rfl (by decide +kernel) ⟨Nat.le_of_ble_eq_true rfl, Nat.le_of_ble_eq_true rfl⟩) (by omega) rfl rfl rfl hl.1 rfl (Nat.le_of_ble_eq_true rfl) dL_isWhole_146 ⟨(by show 1 + 6 * pq + 5 ≤ 73; omega), (by show 6 + 36 * pq + 30 ≤ 438; omega)⟩ (fun e_ A_ J_ hz => by
                              rcases hz with ⟨he_, hA_, hJ_, hf0_⟩ | ⟨he_, hA_, hJ_, hf0_⟩
                              · omega
                              · obtain ⟨i9, h9, h8, h7⟩ := hf0_; obtain rfl : pq = i9 := (by omega); exact absurd h7 hW9.1) (fun v_ A146 J146 H locs hp hG => W.widen (k := 1 + 6 * pq + 5) (n := 6 + 36 * pq + 30) (by omega) (by omega) ?_)
                            obtain ⟨iq_146, rfl, rfl, rfl, hiq_146⟩ := hp
                            refine W.eq (g2 := F0 mM 149 ls [.int (zI (G 40 iq_146))]) rfl ?_
                            obtain rfl : pq = iq_146 := (by omega)
                            refine lv_bipush (v := nI 64) hx hb dL_isWhole_149 (by decide) ?_
                            refine lv_idiv hx hb dL_isWhole_151 (by decide) ?_
                            refine g_top (y := zI ((fN : Nat) : Int)) ((by rw [← zI_n, zI_div (by omega) (by omega) (by decide) (by decide)]; congr 1; omega)) ?_
                            refine lv_iload hx hb dL_isWhole_152 (lv_at hl 5 rfl) ?_
                            refine lv_icmp_ne (tgt := 170) hx hb dL_isWhole_154 (by decide) (fun c154 => ?_) (fun c154 => ?_)
                            · skip
                              have c154 : ¬ (((fN : Nat) : Int) = ((fN : Nat) : Int)) := fun z9 => c154 ((cmp_eq (zI_toInt (by omega) (by omega)) (nI_toInt (by omega))).mpr z9)
                              exfalso; omega
                            · skip
                              have c154 : ((fN : Nat) : Int) = ((fN : Nat) : Int) := (cmp_eq (zI_toInt (by omega) (by omega)) (nI_toInt (by omega))).mp c154
                              refine lv_aload_n hx hb dL_isWhole_157 rfl (lv_at hl 1 rfl) ?_
                              refine lv_iload hx hb dL_isWhole_158 (lv_at hl 7 rfl) ?_
                              refine gN_callV (As := [.int (nI pq)]) (rest := []) (r := (RX9, TX9, 6)) ⟨hx, hb, hml, hown, hts⟩ hE hG (cX9_missingC l D cy base ad n A J G n ((pq : Nat) : Int) (by first | assumption | omega) (by first | assumption | omega) (by first | assumption | omega) (by first | assumption | omega)) (cwV 1 hts gL_isWhole_X9_missing rfl rfl rfl (by decide +kernel) ⟨Nat.le_of_ble_eq_true rfl, Nat.le_of_ble_eq_true rfl⟩) (by omega) rfl rfl rfl hl.1 rfl (Nat.le_of_ble_eq_true rfl) dL_isWhole_160 ⟨(by show 1 + 6 * pq + 6 ≤ 73; omega), (by show 6 + 36 * pq + 36 ≤ 438; omega)⟩ (fun e_ A_ J_ hz => by
                                rcases hz with ⟨he_, hA_, hJ_, hf0_⟩
                                · omega) (fun v_ A160 J160 H locs hp hG => W.widen (k := 1 + 6 * pq + 6) (n := 6 + 36 * pq + 36) (by omega) (by omega) ?_)
                              obtain ⟨iq_160, rfl, rfl, rfl, hiq_160⟩ := hp
                              refine W.eq (g2 := F0 mM 163 ls [.int (zI (G 42 iq_160))]) rfl ?_
                              obtain rfl : pq = iq_160 := (by omega)
                              refine lv_if_ne (tgt := 170) hx hb dL_isWhole_163 (by decide) (fun c163 => ?_) (fun c163 => ?_)
                              · skip
                                have c163 : ¬ ((zI (G 42 pq)) = nI 0) := c163
                                have c163 : ¬ ((G 42 pq) = ((0 : Nat) : Int)) := fun z9 => c163 ((cmp_eq (zI_toInt (by omega) (by omega)) (nI_toInt (by omega))).mpr z9)
                                exfalso; omega
                              · skip
                                have c163 : (zI (G 42 pq)) = nI 0 := c163
                                have c163 : (G 42 pq) = ((0 : Nat) : Int) := (cmp_eq (zI_toInt (by omega) (by omega)) (nI_toInt (by omega))).mp c163
                                exact LLq166 () _ _ _ hG (lv_sub hl [1, 2, 3, 4, 5, 7] rfl)
            refine W.widen (k := 1 + 6 * 0) (n := 6 + 36 * 0) (by omega) (by omega) ?_
            exact LLq75 _ 0 (by omega) (Nat.lt_succ_self _) _ _ _ hG (lv_sub hl [2, 3, 4, 5, 6, 1, 0] rfl)
        refine lv_aload_n hx hb dL_isWhole_35 rfl (lv_at hl 0 rfl) ?_
        refine g_callV (As := []) (rest := []) (r := (RX9, TX9, 6)) ⟨hx, hb, hml, hown, hts⟩ hE hG (cX9_stateC l D cy base ad n A J G n (by first | assumption | omega) (by first | assumption | omega)) (cwV 0 hts gL_isWhole_X9_state rfl rfl rfl (by decide +kernel) ⟨Nat.le_of_ble_eq_true rfl, Nat.le_of_ble_eq_true rfl⟩) (by omega) rfl rfl rfl hl.1 rfl (Nat.le_of_ble_eq_true rfl) dL_isWhole_36 ⟨(by show 0 ≤ 73; omega), (by show 0 ≤ 438; omega)⟩ (fun v_ A36 J36 H locs hp hG => ?_)
        obtain ⟨rfl, rfl, rfl⟩ := hp
        refine W.eq (g2 := F0 mM 39 ls [.int (zI (G 28 14))]) rfl ?_
        refine lv_iload hx hb dL_isWhole_39 (lv_at hl 4 rfl) ?_
        refine lv_iconst (v := nI 2) hx hb dL_isWhole_41 (by decide) ?_
        refine lv_icmp_ge (tgt := 49) hx hb dL_isWhole_42 (by decide) (fun c42 => ?_) (fun c42 => ?_)
        · skip
          have c42 : 2 ≤ fN := (nI_leI (by omega) (by omega)).mp c42
          refine lv_iconst (v := nI 2) hx hb dL_isWhole_49 (by decide) ?_
          refine lv_icmp_ne (tgt := 69) hx hb dL_isWhole_50 (by decide) (fun c50 => ?_) (fun c50 => ?_)
          · skip
            have c50 : ¬ ((G 28 14) = ((2 : Nat) : Int)) := fun z9 => c50 ((cmp_eq (zI_toInt (by omega) (by omega)) (nI_toInt (by omega))).mpr z9)
            exfalso; omega
          · skip
            have c50 : (G 28 14) = ((2 : Nat) : Int) := (cmp_eq (zI_toInt (by omega) (by omega)) (nI_toInt (by omega))).mp c50
            exact LLq53 () _ _ _ hG (lv_sub hl [0, 1, 2, 3, 4] rfl)
        · skip
          have c42 : ¬ (2 ≤ fN) := fun z9 => c42 ((nI_leI (by omega) (by omega)).mpr z9)
          refine lv_iconst (v := nI 1) hx hb dL_isWhole_45 (by decide) ?_
          refine lv_goto (tgt := 50) hx hb dL_isWhole_46 (by decide) ?_
          refine lv_icmp_ne (tgt := 69) hx hb dL_isWhole_50 (by decide) (fun c50 => ?_) (fun c50 => ?_)
          · skip
            have c50 : ¬ ((G 28 14) = ((1 : Nat) : Int)) := fun z9 => c50 ((cmp_eq (zI_toInt (by omega) (by omega)) (nI_toInt (by omega))).mpr z9)
            exfalso; omega
          · skip
            have c50 : (G 28 14) = ((1 : Nat) : Int) := (cmp_eq (zI_toInt (by omega) (by omega)) (nI_toInt (by omega))).mp c50
            exact LLq53 () _ _ _ hG (lv_sub hl [0, 1, 2, 3, 4] rfl)
      refine lv_aload_n hx hb dL_isWhole_14 rfl (lv_at hl 0 rfl) ?_
      refine g_callV (As := []) (rest := []) (r := (RX9, TX9, 6)) ⟨hx, hb, hml, hown, hts⟩ hE hG (cX9_framesC l D cy base ad n A J G n (by first | assumption | omega) (by first | assumption | omega)) (cwV 0 hts gL_isWhole_X9_frames rfl rfl rfl (by decide +kernel) ⟨Nat.le_of_ble_eq_true rfl, Nat.le_of_ble_eq_true rfl⟩) (by omega) rfl rfl rfl hl.1 rfl (Nat.le_of_ble_eq_true rfl) dL_isWhole_15 ⟨(by show 0 ≤ 73; omega), (by show 0 ≤ 438; omega)⟩ (fun v_ A15 J15 H locs hp hG => ?_)
      obtain ⟨rfl, rfl, rfl⟩ := hp
      refine W.eq (g2 := F0 mM 18 ls [.int (zI (G 28 21))]) rfl ?_
      refine lv_iload hx hb dL_isWhole_18 (lv_at hl 4 rfl) ?_
      refine lv_iconst (v := nI 2) hx hb dL_isWhole_20 (by decide) ?_
      refine lv_icmp_ge (tgt := 28) hx hb dL_isWhole_21 (by decide) (fun c21 => ?_) (fun c21 => ?_)
      · skip
        have c21 : 2 ≤ fN := (nI_leI (by omega) (by omega)).mp c21
        refine lv_iload hx hb dL_isWhole_28 (lv_at hl 4 rfl) ?_
        refine lv_iconst (v := nI 1) hx hb dL_isWhole_30 (by decide) ?_
        refine lv_isub hx hb dL_isWhole_31 ?_
        refine g_top (y := nI (fN - 1)) (pk_sub (by omega)) ?_
        refine lv_icmp_ne (tgt := 69) hx hb dL_isWhole_32 (by decide) (fun c32 => ?_) (fun c32 => ?_)
        · skip
          have c32 : ¬ ((G 28 21) = ((fN - 1 : Nat) : Int)) := fun z9 => c32 ((cmp_eq (zI_toInt (by omega) (by omega)) (nI_toInt (by omega))).mpr z9)
          exfalso; omega
        · skip
          have c32 : (G 28 21) = ((fN - 1 : Nat) : Int) := (cmp_eq (zI_toInt (by omega) (by omega)) (nI_toInt (by omega))).mp c32
          exact LLq35 () _ _ _ hG (lv_sub hl [0, 1, 2, 3, 4] rfl)
      · skip
        have c21 : ¬ (2 ≤ fN) := fun z9 => c21 ((nI_leI (by omega) (by omega)).mpr z9)
        refine lv_iconst (v := nI 0) hx hb dL_isWhole_24 (by decide) ?_
        refine lv_goto (tgt := 32) hx hb dL_isWhole_25 (by decide) ?_
        refine lv_icmp_ne (tgt := 69) hx hb dL_isWhole_32 (by decide) (fun c32 => ?_) (fun c32 => ?_)
        · skip
          have c32 : ¬ ((G 28 21) = ((0 : Nat) : Int)) := fun z9 => c32 ((cmp_eq (zI_toInt (by omega) (by omega)) (nI_toInt (by omega))).mpr z9)
          exfalso; omega
        · skip
          have c32 : (G 28 21) = ((0 : Nat) : Int) := (cmp_eq (zI_toInt (by omega) (by omega)) (nI_toInt (by omega))).mp c32
          exact LLq35 () _ _ _ hG (lv_sub hl [0, 1, 2, 3, 4] rfl)
abbrev PL_derives (ad : Nat → Nat) (A : Nat → Nat → Int32) (J : Nat → Nat → Int64) (G : Nat → Nat → Int) (nq xN yN : Nat) : Option Value → (Nat → Nat → Int32) → (Nat → Nat → Int64) → Prop := fun v_ A1 J1 => (∃ (G1 : Nat → Nat → Int), v_ = some (.int (nI 1)) ∧ J = J1 ∧ (CAll nq A1 J1 G1) ∧ (∀ k j, k < 43 ∨ 45 < k → G1 k j = G k j) ∧ (∀ k, k < 8 → A1 32 k = nI (dN G1 k)) ∧ (∀ k, 28 ≤ k → k ≠ 32 → A1 k = A k))
set_option maxHeartbeats 4000000 in
set_option maxRecDepth 100000 in
theorem cL_derivesC (l : Launch) (D : va_G) (cy : Nat → ClassId) (base : Nat) (ad : Nat → Nat) (n : Nat) (A : Nat → Nat → Int32) (J : Nat → Nat → Int64) (G : Nat → Nat → Int) (nq xN yN : Nat) (hst : l.stackTraces = false) (hnq : nq = n) (hC : CAll nq A J G) (hd9 : ∀ k, k < 8 → A 32 k = nI (dN G k)) (hxN : xN < 1073741824) (hyN : yN < 1073741824) : gMetX l yL_derives wsL_derives ({ frames := 8, cells := 1, slots := 6, locals := 149 } : Room) D cy base ad n A J [.ref (ad 0), .int (nI xN), .int (nI yN), .ref (ad 32)] (PL_derives ad A J G nq xN yN) pxNo 1 6 := by
  refine gx_ofW (cc := cL_derives) (maxL := 10) (ret := (some .boolean)) (by decide) rfl (Nat.le_of_ble_eq_true rfl) ?_
  intro pM eM sM mM aM bM methM cM H locs ls hx hb hr hts hown hlocks hml hout hE hG hl
  have hl : lv_has ls 10 [(0, .ref (ad 0)), (1, .int (nI xN)), (2, .int (nI yN)), (3, .ref (ad 32))] := hl
  have hinX1 : ∀ w ∈ u_ws RX1 TX1 5, w ∈ wsL_derives := by decide +kernel
  have hinX2 : ∀ w ∈ u_ws RX2 TX2 1, w ∈ wsL_derives := by decide +kernel
  have hinX9 : ∀ w ∈ u_ws RX9 TX9 6, w ∈ wsL_derives := by decide +kernel
  have hC : CAll n A J G := by rw [← hnq]; exact hC
  have hdv := hC.bd.2.2.2.2.2.2.2.2.2.2.2.1
  refine lv_iload_n hx hb dL_derives_0 rfl (lv_at hl 1 rfl) ?_
  refine lv_bipush (v := nI 8) hx hb dL_derives_1 (by decide) ?_
  refine lv_irem hx hb dL_derives_3 (by decide) ?_
  refine g_top (y := nI (xN % 8)) (pk_rem (by omega) (by omega) (by omega)) ?_
  obtain ⟨kN, hkN⟩ : ∃ k : Nat, xN % 8 = k := ⟨_, rfl⟩
  have hkN2 : kN < 8 := by omega
  refine g_top (y := nI kN) (by rw [hkN]) ?_
  refine lv_istore (lv' := [(4, .int (nI kN)), (0, .ref (ad 0)), (1, .int (nI xN)), (2, .int (nI yN)), (3, .ref (ad 32))]) hx hb dL_derives_4 hl (by decide) rfl (fun ls hl => ?_)
  refine lv_iload_n hx hb dL_derives_6 rfl (lv_at hl 3 rfl) ?_
  refine lv_iconst (v := nI 5) hx hb dL_derives_7 (by decide) ?_
  refine lv_irem hx hb dL_derives_8 (by decide) ?_
  refine g_top (y := nI (yN % 5)) (pk_rem (by omega) (by omega) (by omega)) ?_
  obtain ⟨oN, hoN⟩ : ∃ k : Nat, yN % 5 = k := ⟨_, rfl⟩
  have hoN2 : oN < 5 := by omega
  refine g_top (y := nI oN) (by rw [hoN]) ?_
  refine lv_istore (lv' := [(5, .int (nI oN)), (4, .int (nI kN)), (0, .ref (ad 0)), (1, .int (nI xN)), (2, .int (nI yN)), (3, .ref (ad 32))]) hx hb dL_derives_9 hl (by decide) rfl (fun ls hl => ?_)
  have LLq40 : ∀  (fN : Nat) (hfN : isOp (fN : Int)) (H : Heap) (locs : List Loc) (ls : Array Slot), gH D base sM ad (33 + 2 * n) (gw cy ad n A J) H locs → lv_has ls 10 [(5, .int (nI oN)), (4, .int (nI kN)), (0, .ref (ad 0)), (1, .int (nI xN)), (2, .int (nI yN)), (3, .ref (ad 32))] → W pM l eM ({ frames := 8, cells := 1, slots := 6, locals := 149 } : Room) sM mM aM bM methM cM H locs (0) (0) (vx_MQ bM (gPost D cy base ad n (PL_derives ad A J G nq xN yN)) (gXC D cy base ad n (pxNo)) aM sM 1 6 (fun q => base ≤ q)) (F0 mM 40 ls [.int (nI fN)]) := by
    intro fN hfN H locs ls hG hl
    refine lv_istore (lv' := [(6, .int (nI fN)), (5, .int (nI oN)), (4, .int (nI kN)), (0, .ref (ad 0)), (1, .int (nI xN)), (2, .int (nI yN)), (3, .ref (ad 32))]) hx hb dL_derives_40 hl (by decide) rfl (fun ls hl => ?_)
    have LLq70 : ∀  (sN : Nat) (hsN : isOp (sN : Int)) (H : Heap) (locs : List Loc) (ls : Array Slot), gH D base sM ad (33 + 2 * n) (gw cy ad n A J) H locs → lv_has ls 10 [(6, .int (nI fN)), (5, .int (nI oN)), (4, .int (nI kN)), (0, .ref (ad 0)), (1, .int (nI xN)), (2, .int (nI yN)), (3, .ref (ad 32))] → W pM l eM ({ frames := 8, cells := 1, slots := 6, locals := 149 } : Room) sM mM aM bM methM cM H locs (0) (0) (vx_MQ bM (gPost D cy base ad n (PL_derives ad A J G nq xN yN)) (gXC D cy base ad n (pxNo)) aM sM 1 6 (fun q => base ≤ q)) (F0 mM 70 ls [.int (nI sN)]) := by
      intro sN hsN H locs ls hG hl
      refine lv_istore (lv' := [(7, .int (nI sN)), (6, .int (nI fN)), (5, .int (nI oN)), (4, .int (nI kN)), (0, .ref (ad 0)), (1, .int (nI xN)), (2, .int (nI yN)), (3, .ref (ad 32))]) hx hb dL_derives_70 hl (by decide) rfl (fun ls hl => ?_)
      have LLq99 : ∀  (cN : Nat) (hcN : cN ≤ 1) (hcR : cN = 1 ↔ (mReach G (fN : Int) (sN : Int)).testBit kN = true) (H : Heap) (locs : List Loc) (ls : Array Slot), gH D base sM ad (33 + 2 * n) (gw cy ad n A J) H locs → lv_has ls 10 [(7, .int (nI sN)), (6, .int (nI fN)), (5, .int (nI oN)), (4, .int (nI kN)), (0, .ref (ad 0)), (1, .int (nI xN)), (2, .int (nI yN)), (3, .ref (ad 32))] → W pM l eM ({ frames := 8, cells := 1, slots := 6, locals := 149 } : Room) sM mM aM bM methM cM H locs (0) (0) (vx_MQ bM (gPost D cy base ad n (PL_derives ad A J G nq xN yN)) (gXC D cy base ad n (pxNo)) aM sM 1 6 (fun q => base ≤ q)) (F0 mM 99 ls [.int (nI cN)]) := by
        intro cN hcN hcR H locs ls hG hl
        refine lv_istore (lv' := [(8, .int (nI cN)), (7, .int (nI sN)), (6, .int (nI fN)), (5, .int (nI oN)), (4, .int (nI kN)), (0, .ref (ad 0)), (1, .int (nI xN)), (2, .int (nI yN)), (3, .ref (ad 32))]) hx hb dL_derives_99 hl (by decide) rfl (fun ls hl => ?_)
        refine lv_aload_n hx hb dL_derives_101 rfl (lv_at hl 5 rfl) ?_
        refine lv_iload hx hb dL_derives_102 (lv_at hl 4 rfl) ?_
        refine lv_iload hx hb dL_derives_104 (lv_at hl 3 rfl) ?_
        refine lv_iload hx hb dL_derives_106 (lv_at hl 2 rfl) ?_
        refine lv_iload hx hb dL_derives_108 (lv_at hl 1 rfl) ?_
        refine gN_callT (As := [.ref (ad 0), .int (nI kN), .int (nI oN), .int (nI fN), .int (nI sN)]) (rest := []) ⟨hx, hb, hml, hown, hts⟩ hE hG (cL_setsC l D cy base ad n A J G n kN oN fN sN (by first | assumption | omega) (by first | assumption | omega) (by first | assumption | omega) (by first | assumption | omega)) (vx_cwSW 5 hts gL_derives_L_sets rfl rfl rfl (by decide +kernel) ⟨Nat.le_of_ble_eq_true rfl, Nat.le_of_ble_eq_true rfl⟩) rfl hl.1 rfl (Nat.le_of_ble_eq_true rfl) dL_derives_110 ⟨(by show 1 ≤ 1; omega), (by show 6 ≤ 6; omega)⟩ (fun _ _ _ hz => hz) (fun v_ A110 J110 H locs hp hG => W.widen (k := 1) (n := 6) (by omega) (by omega) ?_)
        rcases hp with ⟨rfl, rfl, hnr_110, hC1_110, hO_110⟩ | ⟨rfl, rfl, rfl, hre_110⟩
        · refine W.eq (g2 := F0 mM 113 ls [.int (nI 1)]) rfl ?_
          have hc0 : cN = 0 := by have := mt hcR.mp hnr_110; omega
          have hC2 : CAll n (gu A110 32 kN (nI ((oN + 1) * 1048576 + fN * 1024 + sN))) J (gu (gu (gu G 43 kN (oN : Int)) 44 kN (fN : Int)) 45 kN (sN : Int)) := hC1_110.of (fun k hk => gu_ne _ _ _ (by omega))
          have hd2 : ∀ k, k < 8 → gu A110 32 kN (nI ((oN + 1) * 1048576 + fN * 1024 + sN)) 32 k = nI (dN (gu (gu (gu G 43 kN (oN : Int)) 44 kN (fN : Int)) 45 kN (sN : Int)) k) := fun k hk => dN_set (fun k hk => (congrFun (hO_110 32 (by omega)) k).trans (hd9 k hk)) hk
          refine lv_istore (lv' := [(9, .int (nI 1)), (8, .int (nI cN)), (7, .int (nI sN)), (6, .int (nI fN)), (5, .int (nI oN)), (4, .int (nI kN)), (0, .ref (ad 0)), (1, .int (nI xN)), (2, .int (nI yN)), (3, .ref (ad 32))]) hx hb dL_derives_113 hl (by decide) rfl (fun ls hl => ?_)
          refine lv_aload_n hx hb dL_derives_115 rfl (lv_at hl 9 rfl) ?_
          refine lv_iload hx hb dL_derives_116 (lv_at hl 5 rfl) ?_
          refine lv_iload hx hb dL_derives_118 (lv_at hl 0 rfl) ?_
          refine lv_if_eq (tgt := 142) hx hb dL_derives_120 (by decide) (fun c120 => ?_) (fun c120 => ?_)
          · skip
            exact absurd c120 (by decide)
          · skip
            refine lv_iload hx hb dL_derives_123 (lv_at hl 4 rfl) ?_
            refine lv_iconst (v := nI 1) hx hb dL_derives_125 (by decide) ?_
            refine lv_iadd hx hb dL_derives_126 ?_
            refine g_top (y := nI (oN + 1)) (by rw [nI_add]) ?_
            refine lv_bipush (v := nI 20) hx hb dL_derives_127 (by decide) ?_
            refine lv_ishl hx hb dL_derives_129 ?_
            refine g_top (y := nI ((oN + 1) * 1048576)) (shl_20 (by omega)) ?_
            refine lv_iload hx hb dL_derives_130 (lv_at hl 3 rfl) ?_
            refine lv_bipush (v := nI 10) hx hb dL_derives_132 (by decide) ?_
            refine lv_ishl hx hb dL_derives_134 ?_
            refine g_top (y := nI (fN * 1024)) (shl_10 (by omega)) ?_
            refine lv_ior hx hb dL_derives_135 ?_
            refine g_top (y := nI ((oN + 1) * 1048576 + fN * 1024)) (or_20 (by omega) (by omega)) ?_
            refine lv_iload hx hb dL_derives_136 (lv_at hl 2 rfl) ?_
            refine lv_ior hx hb dL_derives_138 ?_
            refine g_top (y := nI ((oN + 1) * 1048576 + fN * 1024 + sN)) (or_10 (by omega) (by omega)) ?_
            refine lv_goto (tgt := 146) hx hb dL_derives_139 (by decide) ?_
            refine g_iast hx hb hE hG (k := 32) (by omega) (fun _ => rfl) kN (rfl) (by omega) (by omega) dL_derives_146 (fun H locs hG => ?_)
            refine lv_iload hx hb dL_derives_147 (lv_at hl 0 rfl) ?_
            refine lv_iload hx hb dL_derives_149 (lv_at hl 1 rfl) ?_
            refine lv_if_ne (tgt := 158) hx hb dL_derives_151 (by decide) (fun c151 => ?_) (fun c151 => ?_)
            · skip
              have c151 : ¬ ((nI cN) = nI 0) := c151
              have c151 : ¬ (cN = 0) := fun z9 => c151 ((nI_eq (by omega) (by omega)).mpr z9)
              exfalso; omega
            · skip
              have c151 : (nI cN) = nI 0 := c151
              have c151 : cN = 0 := (nI_eq (by omega) (by omega)).mp c151
              refine lv_iconst (v := nI 1) hx hb dL_derives_154 (by decide) ?_
              refine lv_goto (tgt := 159) hx hb dL_derives_155 (by decide) ?_
              refine lv_icmp_ne (tgt := 166) hx hb dL_derives_159 (by decide) (fun c159 => ?_) (fun c159 => ?_)
              · skip
                exact absurd c159 (by decide)
              · skip
                refine lv_iconst (v := nI 1) hx hb dL_derives_162 (by decide) ?_
                refine lv_goto (tgt := 167) hx hb dL_derives_163 (by decide) ?_
                exact gx_zret hx hb hr hlocks hG rfl (by show 1 ≤ 1; omega) (by show 6 ≤ 6; omega) ⟨_, rfl, rfl, (by rw [hnq]; exact hC2), (fun k j hk => by rw [gu_ne _ _ _ (by omega), gu_ne _ _ _ (by omega), gu_ne _ _ _ (by omega)]), hd2, (fun k a b => by rw [gu_ne _ _ _ b]; exact hO_110 k a)⟩ dL_derives_167
        · refine W.eq (g2 := F0 mM 113 ls [.int (nI 0)]) rfl ?_
          have hc0 : cN = 1 := hcR.mpr hre_110
          refine lv_istore (lv' := [(9, .int (nI 0)), (8, .int (nI cN)), (7, .int (nI sN)), (6, .int (nI fN)), (5, .int (nI oN)), (4, .int (nI kN)), (0, .ref (ad 0)), (1, .int (nI xN)), (2, .int (nI yN)), (3, .ref (ad 32))]) hx hb dL_derives_113 hl (by decide) rfl (fun ls hl => ?_)
          refine lv_aload_n hx hb dL_derives_115 rfl (lv_at hl 9 rfl) ?_
          refine lv_iload hx hb dL_derives_116 (lv_at hl 5 rfl) ?_
          refine lv_iload hx hb dL_derives_118 (lv_at hl 0 rfl) ?_
          refine lv_if_eq (tgt := 142) hx hb dL_derives_120 (by decide) (fun c120 => ?_) (fun c120 => ?_)
          · skip
            refine lv_aload_n hx hb dL_derives_142 rfl (lv_at hl 9 rfl) ?_
            refine lv_iload hx hb dL_derives_143 (lv_at hl 5 rfl) ?_
            refine g_iald hx hb hE hG (k := 32) (by omega) rfl kN (rfl) (by omega) (by omega) dL_derives_145 ?_
            refine g_top (y := nI (dN G kN)) (hd9 kN (by omega)) ?_
            refine g_iast hx hb hE hG (k := 32) (by omega) (fun _ => rfl) kN (rfl) (by omega) (by omega) dL_derives_146 (fun H locs hG => ?_)
            refine lv_iload hx hb dL_derives_147 (lv_at hl 0 rfl) ?_
            refine lv_iload hx hb dL_derives_149 (lv_at hl 1 rfl) ?_
            refine lv_if_ne (tgt := 158) hx hb dL_derives_151 (by decide) (fun c151 => ?_) (fun c151 => ?_)
            · skip
              have c151 : ¬ ((nI cN) = nI 0) := c151
              have c151 : ¬ (cN = 0) := fun z9 => c151 ((nI_eq (by omega) (by omega)).mpr z9)
              refine lv_iconst (v := nI 0) hx hb dL_derives_158 (by decide) ?_
              refine lv_icmp_ne (tgt := 166) hx hb dL_derives_159 (by decide) (fun c159 => ?_) (fun c159 => ?_)
              · skip
                exact absurd c159 (by decide)
              · skip
                refine lv_iconst (v := nI 1) hx hb dL_derives_162 (by decide) ?_
                refine lv_goto (tgt := 167) hx hb dL_derives_163 (by decide) ?_
                exact gx_zret hx hb hr hlocks hG rfl (by show 1 ≤ 1; omega) (by show 6 ≤ 6; omega) ⟨G, rfl, rfl, (by rw [hnq]; exact hC.of (fun k hk => gu_ne _ _ _ (by omega))), (fun _ _ _ => rfl), (fun k hk => by rw [gu_same (hd9 kN (by omega))]; exact hd9 k hk), (fun k a b => gu_ne _ _ _ b)⟩ dL_derives_167
            · skip
              have c151 : (nI cN) = nI 0 := c151
              have c151 : cN = 0 := (nI_eq (by omega) (by omega)).mp c151
              exfalso; omega
          · skip
            exact absurd c120 (by decide)
      refine lv_aload_n hx hb dL_derives_72 rfl (lv_at hl 7 rfl) ?_
      refine lv_iload hx hb dL_derives_73 (lv_at hl 1 rfl) ?_
      refine lv_iload hx hb dL_derives_75 (lv_at hl 3 rfl) ?_
      refine g_callS (As := [.ref (ad 32), .int (nI fN), .int (nI kN)]) (rest := []) ⟨hx, hb, hml, hown, hts⟩ hE hG (cL_reachesC l D cy base ad n A J G fN kN (by first | assumption | omega) (by first | assumption | omega) (by first | assumption | omega) (by first | assumption | omega)) (va_cwS 3 hts gL_derives_L_reaches rfl rfl rfl (by decide +kernel) ⟨Nat.le_of_ble_eq_true rfl, Nat.le_of_ble_eq_true rfl⟩) rfl hl.1 rfl (Nat.le_of_ble_eq_true rfl) dL_derives_77 ⟨(by show 0 ≤ 1; omega), (by show 0 ≤ 6; omega)⟩ (fun v_ A77 J77 H locs hp hG => ?_)
      obtain ⟨rfl, rfl, rfl⟩ := hp
      refine W.eq (g2 := F0 mM 80 ls [.int (nI (tbN (mCTr G (om (fN : Int)) 8) kN))]) rfl ?_
      have htb1 := tbN_le (mCTr G (om (fN : Int)) 8) kN
      refine lv_if_ne (tgt := 94) hx hb dL_derives_80 (by decide) (fun c80 => ?_) (fun c80 => ?_)
      · skip
        have c80 : ¬ ((nI (tbN (mCTr G (om (fN : Int)) 8) kN)) = nI 0) := c80
        have c80 : ¬ ((tbN (mCTr G (om (fN : Int)) 8) kN) = 0) := fun z9 => c80 ((nI_eq (by omega) (by omega)).mpr z9)
        refine lv_iconst (v := nI 1) hx hb dL_derives_94 (by decide) ?_
        refine lv_goto (tgt := 99) hx hb dL_derives_95 (by decide) ?_
        exact LLq99 1 (by omega) (by rw [mReach_or]; first | exact ⟨fun _ => Or.inl (tbN_1.mp (by have := tbN_le (mCTr G (om (fN : Int)) 8) kN; omega)), fun _ => rfl⟩ | exact ⟨fun _ => Or.inr (tbN_1.mp (by have := tbN_le (mCTr G (om (sN : Int)) 8) kN; omega)), fun _ => rfl⟩ | exact ⟨fun z9 => absurd z9 (by decide), fun z9 => by rcases z9 with z9 | z9 <;> (have := tbN_1.mpr z9; omega)⟩) _ _ _ hG (lv_sub hl [0, 1, 2, 3, 4, 5, 6, 7] rfl)
      · skip
        have c80 : (nI (tbN (mCTr G (om (fN : Int)) 8) kN)) = nI 0 := c80
        have c80 : (tbN (mCTr G (om (fN : Int)) 8) kN) = 0 := (nI_eq (by omega) (by omega)).mp c80
        refine lv_aload_n hx hb dL_derives_83 rfl (lv_at hl 7 rfl) ?_
        refine lv_iload hx hb dL_derives_84 (lv_at hl 0 rfl) ?_
        refine lv_iload hx hb dL_derives_86 (lv_at hl 3 rfl) ?_
        refine g_callS (As := [.ref (ad 32), .int (nI sN), .int (nI kN)]) (rest := []) ⟨hx, hb, hml, hown, hts⟩ hE hG (cL_reachesC l D cy base ad n A J G sN kN (by first | assumption | omega) (by first | assumption | omega) (by first | assumption | omega) (by first | assumption | omega)) (va_cwS 3 hts gL_derives_L_reaches rfl rfl rfl (by decide +kernel) ⟨Nat.le_of_ble_eq_true rfl, Nat.le_of_ble_eq_true rfl⟩) rfl hl.1 rfl (Nat.le_of_ble_eq_true rfl) dL_derives_88 ⟨(by show 0 ≤ 1; omega), (by show 0 ≤ 6; omega)⟩ (fun v_ A88 J88 H locs hp hG => ?_)
        obtain ⟨rfl, rfl, rfl⟩ := hp
        refine W.eq (g2 := F0 mM 91 ls [.int (nI (tbN (mCTr G (om (sN : Int)) 8) kN))]) rfl ?_
        have htb2 := tbN_le (mCTr G (om (sN : Int)) 8) kN
        refine lv_if_eq (tgt := 98) hx hb dL_derives_91 (by decide) (fun c91 => ?_) (fun c91 => ?_)
        · skip
          have c91 : (nI (tbN (mCTr G (om (sN : Int)) 8) kN)) = nI 0 := c91
          have c91 : (tbN (mCTr G (om (sN : Int)) 8) kN) = 0 := (nI_eq (by omega) (by omega)).mp c91
          refine lv_iconst (v := nI 0) hx hb dL_derives_98 (by decide) ?_
          exact LLq99 0 (by omega) (by rw [mReach_or]; first | exact ⟨fun _ => Or.inl (tbN_1.mp (by have := tbN_le (mCTr G (om (fN : Int)) 8) kN; omega)), fun _ => rfl⟩ | exact ⟨fun _ => Or.inr (tbN_1.mp (by have := tbN_le (mCTr G (om (sN : Int)) 8) kN; omega)), fun _ => rfl⟩ | exact ⟨fun z9 => absurd z9 (by decide), fun z9 => by rcases z9 with z9 | z9 <;> (have := tbN_1.mpr z9; omega)⟩) _ _ _ hG (lv_sub hl [0, 1, 2, 3, 4, 5, 6, 7] rfl)
        · skip
          have c91 : ¬ ((nI (tbN (mCTr G (om (sN : Int)) 8) kN)) = nI 0) := c91
          have c91 : ¬ ((tbN (mCTr G (om (sN : Int)) 8) kN) = 0) := fun z9 => c91 ((nI_eq (by omega) (by omega)).mpr z9)
          refine lv_iconst (v := nI 1) hx hb dL_derives_94 (by decide) ?_
          refine lv_goto (tgt := 99) hx hb dL_derives_95 (by decide) ?_
          exact LLq99 1 (by omega) (by rw [mReach_or]; first | exact ⟨fun _ => Or.inl (tbN_1.mp (by have := tbN_le (mCTr G (om (fN : Int)) 8) kN; omega)), fun _ => rfl⟩ | exact ⟨fun _ => Or.inr (tbN_1.mp (by have := tbN_le (mCTr G (om (sN : Int)) 8) kN; omega)), fun _ => rfl⟩ | exact ⟨fun z9 => absurd z9 (by decide), fun z9 => by rcases z9 with z9 | z9 <;> (have := tbN_1.mpr z9; omega)⟩) _ _ _ hG (lv_sub hl [0, 1, 2, 3, 4, 5, 6, 7] rfl)
    refine lv_iload_n hx hb dL_derives_42 rfl (lv_at hl 5 rfl) ?_
    refine lv_iconst (v := nI 5) hx hb dL_derives_43 (by decide) ?_
    refine lv_idiv hx hb dL_derives_44 (by decide) ?_
    refine g_top (y := nI (yN / 5)) (pk_div (by omega) (by omega) (by omega)) ?_
    refine lv_iconst (v := nI 2) hx hb dL_derives_45 (by decide) ?_
    refine lv_irem hx hb dL_derives_46 (by decide) ?_
    refine g_top (y := nI ((yN / 5) % 2)) (pk_rem (by omega) (by omega) (by omega)) ?_
    refine lv_if_ne (tgt := 63) hx hb dL_derives_47 (by decide) (fun c47 => ?_) (fun c47 => ?_)
    · skip
      have c47 : ¬ ((nI ((yN / 5) % 2)) = nI 0) := c47
      have c47 : ¬ (((yN / 5) % 2) = 0) := fun z9 => c47 ((nI_eq (by omega) (by omega)).mpr z9)
      refine lv_iload_n hx hb dL_derives_63 rfl (lv_at hl 5 rfl) ?_
      refine lv_bipush (v := nI 10) hx hb dL_derives_64 (by decide) ?_
      refine lv_idiv hx hb dL_derives_66 (by decide) ?_
      refine g_top (y := nI (yN / 10)) (pk_div (by omega) (by omega) (by omega)) ?_
      refine lv_bipush (v := nI 12) hx hb dL_derives_67 (by decide) ?_
      refine lv_irem hx hb dL_derives_69 (by decide) ?_
      refine g_top (y := nI ((yN / 10) % 12)) (pk_rem (by omega) (by omega) (by omega)) ?_
      exact LLq70 ((yN / 10) % 12) (by omega) _ _ _ hG (lv_sub hl [0, 1, 2, 3, 4, 5, 6] rfl)
    · skip
      have c47 : (nI ((yN / 5) % 2)) = nI 0 := c47
      have c47 : ((yN / 5) % 2) = 0 := (nI_eq (by omega) (by omega)).mp c47
      refine lv_bipush (v := nI 100) hx hb dL_derives_50 (by decide) ?_
      refine lv_iload_n hx hb dL_derives_52 rfl (lv_at hl 5 rfl) ?_
      refine lv_bipush (v := nI 10) hx hb dL_derives_53 (by decide) ?_
      refine lv_idiv hx hb dL_derives_55 (by decide) ?_
      refine g_top (y := nI (yN / 10)) (pk_div (by omega) (by omega) (by omega)) ?_
      refine lv_bipush (v := nI 8) hx hb dL_derives_56 (by decide) ?_
      refine lv_irem hx hb dL_derives_58 (by decide) ?_
      refine g_top (y := nI ((yN / 10) % 8)) (pk_rem (by omega) (by omega) (by omega)) ?_
      refine lv_iadd hx hb dL_derives_59 ?_
      refine g_top (y := nI (100 + ((yN / 10) % 8))) (by rw [nI_add]) ?_
      refine lv_goto (tgt := 70) hx hb dL_derives_60 (by decide) ?_
      exact LLq70 (100 + ((yN / 10) % 8)) (by omega) _ _ _ hG (lv_sub hl [0, 1, 2, 3, 4, 5, 6] rfl)
  refine lv_iload_n hx hb dL_derives_11 rfl (lv_at hl 3 rfl) ?_
  refine lv_bipush (v := nI 8) hx hb dL_derives_12 (by decide) ?_
  refine lv_idiv hx hb dL_derives_14 (by decide) ?_
  refine g_top (y := nI (xN / 8)) (pk_div (by omega) (by omega) (by omega)) ?_
  refine lv_iconst (v := nI 3) hx hb dL_derives_15 (by decide) ?_
  refine lv_irem hx hb dL_derives_16 (by decide) ?_
  refine g_top (y := nI ((xN / 8) % 3)) (pk_rem (by omega) (by omega) (by omega)) ?_
  refine lv_if_ne (tgt := 33) hx hb dL_derives_17 (by decide) (fun c17 => ?_) (fun c17 => ?_)
  · skip
    have c17 : ¬ ((nI ((xN / 8) % 3)) = nI 0) := c17
    have c17 : ¬ (((xN / 8) % 3) = 0) := fun z9 => c17 ((nI_eq (by omega) (by omega)).mpr z9)
    refine lv_iload_n hx hb dL_derives_33 rfl (lv_at hl 3 rfl) ?_
    refine lv_bipush (v := nI 24) hx hb dL_derives_34 (by decide) ?_
    refine lv_idiv hx hb dL_derives_36 (by decide) ?_
    refine g_top (y := nI (xN / 24)) (pk_div (by omega) (by omega) (by omega)) ?_
    refine lv_bipush (v := nI 12) hx hb dL_derives_37 (by decide) ?_
    refine lv_irem hx hb dL_derives_39 (by decide) ?_
    refine g_top (y := nI ((xN / 24) % 12)) (pk_rem (by omega) (by omega) (by omega)) ?_
    exact LLq40 ((xN / 24) % 12) (by omega) _ _ _ hG (lv_sub hl [0, 1, 2, 3, 4, 5] rfl)
  · skip
    have c17 : (nI ((xN / 8) % 3)) = nI 0 := c17
    have c17 : ((xN / 8) % 3) = 0 := (nI_eq (by omega) (by omega)).mp c17
    refine lv_bipush (v := nI 100) hx hb dL_derives_20 (by decide) ?_
    refine lv_iload_n hx hb dL_derives_22 rfl (lv_at hl 3 rfl) ?_
    refine lv_bipush (v := nI 24) hx hb dL_derives_23 (by decide) ?_
    refine lv_idiv hx hb dL_derives_25 (by decide) ?_
    refine g_top (y := nI (xN / 24)) (pk_div (by omega) (by omega) (by omega)) ?_
    refine lv_bipush (v := nI 8) hx hb dL_derives_26 (by decide) ?_
    refine lv_irem hx hb dL_derives_28 (by decide) ?_
    refine g_top (y := nI ((xN / 24) % 8)) (pk_rem (by omega) (by omega) (by omega)) ?_
    refine lv_iadd hx hb dL_derives_29 ?_
    refine g_top (y := nI (100 + ((xN / 24) % 8))) (by rw [nI_add]) ?_
    refine lv_goto (tgt := 40) hx hb dL_derives_30 (by decide) ?_
    exact LLq40 (100 + ((xN / 24) % 8)) (by omega) _ _ _ hG (lv_sub hl [0, 1, 2, 3, 4, 5] rfl)

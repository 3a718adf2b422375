abbrev PX5_add (cy : Nat → ClassId) (n : Nat) (ad : Nat → Nat) (A : Nat → Nat → Int32) (J : Nat → Nat → Int64) (G : Nat → Nat → Int) (wq cq pq : Int) (tq : Nat) : Option Value → (Nat → Nat) → Nat → (Nat → va_E) → Prop := fun v_ ad1 N1 w1 => (v_ = some (.int (nI 0)) ∧ ad1 = ad ∧ N1 = 33 + 2 * n ∧ w1 = gw cy ad n A J ∧ (n = 12 ∨ mNone G wq pq ((tq : Int) + 1) pq 0)) ∨ (∃ pN oN : Nat, v_ = some (.int (nI 1)) ∧ (n < 12 ∧ (pN : Int) < pq ∧ (oN : Int) + wq ≤ mLim ((tq : Int) + 1) ∧ mFree G (oN : Int) wq (pN : Int) pq ((tq : Int) + 1) ∧ mNone G wq pq ((tq : Int) + 1) (pN : Int) (oN : Int)) ∧ (∀ k, k < 33 + 2 * n → ad1 k = ad k) ∧ N1 = 33 + 2 * (n + 1) ∧ w1 = gw cy ad1 (n + 1) (aNP A n wq cq pq tq pN oN) (gUse J (gBt oN wq.toNat tq) pq (pN : Int) 4))
set_option maxHeartbeats 4000000 in
set_option maxRecDepth 100000 in
theorem cX5_addC (l : Launch) (D : va_G) (cy : Nat → ClassId) (base : Nat) (ad : Nat → Nat) (n : Nat) (A : Nat → Nat → Int32) (J : Nat → Nat → Int64) (G : Nat → Nat → Int) (wq cq pq : Int) (tq : Nat) (hct : A 1 1 = nI n ∧ n ≤ 12) (hn : G 28 0 = (n : Int)) (hU : UsR J G) (hg : mGood wq cq pq tq) (htq : tq ≤ 1) : gMetW l yX5_add wsX5_add ({ frames := 3, cells := 2, slots := 13, locals := 71 } : Room) D cy base ad (33 + 2 * n) (gw cy ad n A J) [.ref (ad 1), .int (zI wq), .int (zI cq), .int (zI pq), .int (nI tq)] (PX5_add cy n ad A J G wq cq pq tq) 2 13 := by
  refine gW_ofW (cc := cX5_add) (maxL := 10) (ret := (some .boolean)) (by decide) rfl (Nat.le_of_ble_eq_true rfl) ?_
  intro pM eM sM mM aM bM methM cM H locs ls hx hb hr hts hown hlocks hml hnm hE hG hl
  have hl : lv_has ls 10 [(0, .ref (ad 1)), (1, .int (zI wq)), (2, .int (zI cq)), (3, .int (zI pq)), (4, .int (nI tq))] := hl
  have hinX4 : ∀ w ∈ u_ws RX4 TX4 10, w ∈ wsX5_add := by decide +kernel
  have hinX5 : ∀ w ∈ u_ws RX5 TX5 3, w ∈ wsX5_add := by decide +kernel
  have hinX6 : ∀ w ∈ u_ws RX6 TX6 3, w ∈ wsX5_add := by decide +kernel
  obtain ⟨g1, g2, g3, g4⟩ := id hg
  have hp3 : pq = 1 ∨ pq = 2 ∨ pq = 4 := by omega
  refine lv_aload_n hx hb dX5_add_0 rfl (lv_at hl 0 rfl) ?_
  refine g_get (C := RX5) (T := TX5) (NN := 3) (ci := 5) hx hb hts hinX5 hown hE hG (k := 1) (by omega) rfl rfl 1 (by decide) (hts (.fieldLink RX5 21 "Commutator$PointTable" "count" "I") (List.mem_of_getElem? (i := 1) rfl)) rfl (v := .int (A 1 1)) rfl dX5_add_1 ?_
  refine g_top (y := nI n) (hct.1) ?_
  refine lv_bipush (v := nI 12) hx hb dX5_add_4 (by decide) ?_
  refine lv_icmp_lt (tgt := 11) hx hb dX5_add_6 (by decide) (fun c6 => ?_) (fun c6 => ?_)
  · skip
    have c6 : n < 12 := (nI_ltI (by omega) (by omega)).mp c6
    have LLq23 : ∀  (lq : Int) (hlq : lq = mLim ((tq : Int) + 1)) (H : Heap) (locs : List Loc) (ls : Array Slot), gH D base sM ad (33 + 2 * n) (gw cy ad n A J) H locs → lv_has ls 10 [(0, .ref (ad 1)), (1, .int (zI wq)), (2, .int (zI cq)), (3, .int (zI pq)), (4, .int (nI tq))] → W pM l eM ({ frames := 3, cells := 2, slots := 13, locals := 71 } : Room) sM mM aM bM methM cM H locs 0 0 (MQ bM (gPostW D base (PX5_add cy n ad A J G wq cq pq tq)) aM sM 2 13 (fun q => base ≤ q)) (F0 mM 23 ls [.int (zI lq)]) := by
      intro lq hlq H locs ls hG hl
      have hlq2 : (tq = 0 ∧ lq = 48) ∨ (tq = 1 ∧ lq = 24) := by unfold mLim at hlq; split at hlq <;> omega
      refine lv_iload_n hx hb dX5_add_23 rfl (lv_at hl 1 rfl) ?_
      refine lv_isub hx hb dX5_add_24 ?_
      refine g_top (y := zI (lq - wq)) (zI_sub _ _) ?_
      refine lv_istore (lv' := [(5, .int (zI (lq - wq))), (0, .ref (ad 1)), (1, .int (zI wq)), (2, .int (zI cq)), (3, .int (zI pq)), (4, .int (nI tq))]) hx hb dX5_add_25 hl (by decide) rfl (fun ls hl => ?_)
      refine lv_iconst (v := nI 0) hx hb dX5_add_27 (by decide) ?_
      refine lv_istore (lv' := [(6, .int (nI 0)), (5, .int (zI (lq - wq))), (0, .ref (ad 1)), (1, .int (zI wq)), (2, .int (zI cq)), (3, .int (zI pq)), (4, .int (nI tq))]) hx hb dX5_add_28 hl (by decide) rfl (fun ls hl => ?_)
      have LLq30 : ∀ (fuel : Nat) (kp : Nat) (hkp : (kp : Int) ≤ pq) (hno : mNone G wq pq ((tq : Int) + 1) (kp : Int) 0) (_ : (pq.toNat - kp) < fuel) (H : Heap) (locs : List Loc) (ls : Array Slot), gH D base sM ad (33 + 2 * n) (gw cy ad n A J) H locs → lv_has ls 10 [(0, .ref (ad 1)), (1, .int (zI wq)), (2, .int (zI cq)), (3, .int (zI pq)), (4, .int (nI tq)), (5, .int (zI (lq - wq))), (6, .int (nI kp))] → W pM l eM ({ frames := 3, cells := 2, slots := 13, locals := 71 } : Room) sM mM aM bM methM cM H locs 0 0 (MQ bM (gPostW D base (PX5_add cy n ad A J G wq cq pq tq)) aM sM 2 13 (fun q => base ≤ q)) (F0 mM 30 ls []) := by
        intro fuel
        induction fuel with
        | zero => intro kp hkp hno hms H locs ls hG hl; exact absurd hms (Nat.not_lt_zero _)
        | succ fuel ihq30 =>
          intro kp hkp hno hms H locs ls hG hl
          refine lv_iload hx hb dX5_add_30 (lv_at hl 6 rfl) ?_
          refine lv_iload_n hx hb dX5_add_32 rfl (lv_at hl 3 rfl) ?_
          refine lv_icmp_ge (tgt := 126) hx hb dX5_add_33 (by decide) (fun c33 => ?_) (fun c33 => ?_)
          · skip
            have c33 : pq ≤ ((kp : Nat) : Int) := (cmp_le (zI_toInt (by omega) (by omega)) (nI_toInt (by omega))).mp c33
            refine lv_iconst (v := nI 0) hx hb dX5_add_126 (by decide) ?_
            exact gR_zret hx hb hr hlocks hG rfl (Nat.le_of_ble_eq_true rfl) (Nat.le_of_ble_eq_true rfl) (Or.inl ⟨rfl, rfl, rfl, rfl, Or.inr (by rw [show (kp : Int) = pq from by omega] at hno; exact hno)⟩) dX5_add_127
          · skip
            have c33 : ¬ (pq ≤ ((kp : Nat) : Int)) := fun z9 => c33 ((cmp_le (zI_toInt (by omega) (by omega)) (nI_toInt (by omega))).mpr z9)
            refine lv_iconst (v := nI 0) hx hb dX5_add_36 (by decide) ?_
            refine lv_istore (lv' := [(7, .int (nI 0)), (0, .ref (ad 1)), (1, .int (zI wq)), (2, .int (zI cq)), (3, .int (zI pq)), (4, .int (nI tq)), (5, .int (zI (lq - wq))), (6, .int (nI kp))]) hx hb dX5_add_37 hl (by decide) rfl (fun ls hl => ?_)
            have LLq39 : ∀ (fuel : Nat) (ko : Nat) (hko : (ko : Int) ≤ lq - wq + 1) (hni : mNone G wq pq ((tq : Int) + 1) (kp : Int) (ko : Int)) (_ : ((lq - wq + 1).toNat - ko) < fuel) (H : Heap) (locs : List Loc) (ls : Array Slot), gH D base sM ad (33 + 2 * n) (gw cy ad n A J) H locs → lv_has ls 10 [(0, .ref (ad 1)), (1, .int (zI wq)), (2, .int (zI cq)), (3, .int (zI pq)), (4, .int (nI tq)), (5, .int (zI (lq - wq))), (6, .int (nI kp)), (7, .int (nI ko))] → W pM l eM ({ frames := 3, cells := 2, slots := 13, locals := 71 } : Room) sM mM aM bM methM cM H locs 0 0 (MQ bM (gPostW D base (PX5_add cy n ad A J G wq cq pq tq)) aM sM 2 13 (fun q => base ≤ q)) (F0 mM 39 ls []) := by
              intro fuel
              induction fuel with
              | zero => intro ko hko hni hms H locs ls hG hl; exact absurd hms (Nat.not_lt_zero _)
              | succ fuel ihq39 =>
                intro ko hko hni hms H locs ls hG hl
                refine lv_iload hx hb dX5_add_39 (lv_at hl 7 rfl) ?_
                refine lv_iload hx hb dX5_add_41 (lv_at hl 5 rfl) ?_
                refine lv_icmp_gt (tgt := 120) hx hb dX5_add_43 (by decide) (fun c43 => ?_) (fun c43 => ?_)
                · skip
                  have c43 : (lq - wq) < ((ko : Nat) : Int) := (cmp_lt (zI_toInt (by omega) (by omega)) (nI_toInt (by omega))).mp c43
                  refine lv_iinc (v := nI (kp + 1)) (lv' := [(6, .int (nI (kp + 1))), (0, .ref (ad 1)), (1, .int (zI wq)), (2, .int (zI cq)), (3, .int (zI pq)), (4, .int (nI tq)), (5, .int (zI (lq - wq))), (7, .int (nI ko))]) hx hb dX5_add_120 hl (k := 6) rfl (by rw [show (Int32.ofInt 1 : Int32) = nI 1 from rfl, nI_add]) (by decide) rfl (fun ls hl => ?_)
                  refine lv_goto (tgt := 30) hx hb dX5_add_123 (by decide) ?_
                  exact ihq30 (kp + 1) (by omega) (mNone_p hni (by omega)) (by omega) _ _ _ hG (lv_sub hl [1, 2, 3, 4, 5, 6, 0] rfl)
                · skip
                  have c43 : ¬ ((lq - wq) < ((ko : Nat) : Int)) := fun z9 => c43 ((cmp_lt (zI_toInt (by omega) (by omega)) (nI_toInt (by omega))).mpr z9)
                  refine lv_iload hx hb dX5_add_46 (lv_at hl 7 rfl) ?_
                  refine lv_iload_n hx hb dX5_add_48 rfl (lv_at hl 1 rfl) ?_
                  refine g_top (y := nI wq.toNat) (zI_nat (by omega)) ?_
                  refine lv_iload hx hb dX5_add_49 (lv_at hl 4 rfl) ?_
                  refine g_callS (As := [.int (nI ko), .int (nI wq.toNat), .int (nI tq)]) (rest := []) ⟨hx, hb, hml, hown, hts⟩ hE hG (cX5_bitsAtC l D cy base ad n A J ko wq.toNat tq (by first | assumption | omega) (by first | assumption | omega) (by omega)) (va_cwS 3 hts gX5_add_X5_bitsAt rfl rfl rfl (by decide +kernel) ⟨Nat.le_of_ble_eq_true rfl, Nat.le_of_ble_eq_true rfl⟩) rfl hl.1 rfl (Nat.le_of_ble_eq_true rfl) dX5_add_51 ⟨(Nat.le_of_ble_eq_true rfl), (Nat.le_of_ble_eq_true rfl)⟩ (fun v_ A51 J51 H locs hp hG => ?_)
                  obtain ⟨rfl, rfl, rfl⟩ := hp
                  refine W.eq (g2 := F0 mM 54 ls [.long (gBt ko wq.toNat tq)]) rfl ?_
                  refine lv_lstore (lv' := [(8, .long (gBt ko wq.toNat tq)), (0, .ref (ad 1)), (1, .int (zI wq)), (2, .int (zI cq)), (3, .int (zI pq)), (4, .int (nI tq)), (5, .int (zI (lq - wq))), (6, .int (nI kp)), (7, .int (nI ko))]) hx hb dX5_add_54 hl (by decide) rfl (fun ls hl => ?_)
                  refine lv_aload_n hx hb dX5_add_56 rfl (lv_at hl 1 rfl) ?_
                  refine lv_lload hx hb dX5_add_57 (lv_at hl 0 rfl) ?_
                  refine lv_iload_n hx hb dX5_add_59 rfl (lv_at hl 4 rfl) ?_
                  refine lv_iload hx hb dX5_add_60 (lv_at hl 7 rfl) ?_
                  refine g_callV (As := [.long (gBt ko wq.toNat tq), .int (zI pq), .int (nI kp)]) (rest := []) (r := (RX5, TX5, 3)) ⟨hx, hb, hml, hown, hts⟩ hE hG (cX5_isFreeC l D cy base ad n A J (gBt ko wq.toNat tq) pq ((kp : Nat) : Int) (by first | assumption | omega) (by first | assumption | omega)) (cwV 3 hts gX5_add_X5_isFree rfl rfl rfl (by decide +kernel) ⟨Nat.le_of_ble_eq_true rfl, Nat.le_of_ble_eq_true rfl⟩) (by omega) rfl rfl rfl hl.1 rfl (Nat.le_of_ble_eq_true rfl) dX5_add_62 ⟨(Nat.le_of_ble_eq_true rfl), (Nat.le_of_ble_eq_true rfl)⟩ (fun v_ A62 J62 H locs hp hG => ?_)
                  rcases hp with ⟨rfl, rfl, rfl, hC_62⟩ | ⟨rfl, rfl, rfl, hC_62⟩
                  · refine W.eq (g2 := F0 mM 65 ls [.int (nI 1)]) rfl ?_
                    have hfr := (gFreeQ_iff hU (o := ko) (w := wq.toNat) (t := tq) (by omega) (by omega) (by omega) (by omega) hp3 ⟨by omega, by omega⟩).mp hC_62
                    rw [Int.toNat_of_nonneg (show 0 ≤ wq by omega)] at hfr
                    refine lv_if_eq (tgt := 114) hx hb dX5_add_65 (by decide) (fun c65 => ?_) (fun c65 => ?_)
                    · skip
                      exact absurd c65 (by decide)
                    · skip
                      refine lv_aload_n hx hb dX5_add_68 rfl (lv_at hl 1 rfl) ?_
                      refine lv_lload hx hb dX5_add_69 (lv_at hl 0 rfl) ?_
                      refine lv_iload_n hx hb dX5_add_71 rfl (lv_at hl 4 rfl) ?_
                      refine lv_iload hx hb dX5_add_72 (lv_at hl 7 rfl) ?_
                      refine g_callV (As := [.long (gBt ko wq.toNat tq), .int (zI pq), .int (nI kp)]) (rest := []) (r := (RX5, TX5, 3)) ⟨hx, hb, hml, hown, hts⟩ hE hG (cX5_useC l D cy base ad n A J (gBt ko wq.toNat tq) pq ((kp : Nat) : Int) (by first | assumption | omega) (by first | assumption | omega)) (cwV 3 hts gX5_add_X5_use rfl rfl rfl (by decide +kernel) ⟨Nat.le_of_ble_eq_true rfl, Nat.le_of_ble_eq_true rfl⟩) (by omega) rfl rfl rfl hl.1 rfl (Nat.le_of_ble_eq_true rfl) dX5_add_74 ⟨(Nat.le_of_ble_eq_true rfl), (Nat.le_of_ble_eq_true rfl)⟩ (fun v_ A74 J74 H locs hp hG => ?_)
                      obtain ⟨rfl, rfl, rfl⟩ := hp
                      refine W.eq (g2 := F0 mM 77 ls []) rfl ?_
                      refine lv_aload_n hx hb dX5_add_77 rfl (lv_at hl 1 rfl) ?_
                      refine g_get (C := RX5) (T := TX5) (NN := 3) (ci := 5) hx hb hts hinX5 hown hE hG (k := 1) (by omega) rfl rfl 0 (by decide) (hts (.fieldLink RX5 11 "Commutator$PointTable" "rows" "[LCommutator$Point;") (List.mem_of_getElem? (i := 2) rfl)) rfl (v := .ref (ad 2)) rfl dX5_add_78 ?_
                      refine lv_aload_n hx hb dX5_add_81 rfl (lv_at hl 1 rfl) ?_
                      refine g_get (C := RX5) (T := TX5) (NN := 3) (ci := 5) hx hb hts hinX5 hown hE hG (k := 1) (by omega) rfl rfl 1 (by decide) (hts (.fieldLink RX5 21 "Commutator$PointTable" "count" "I") (List.mem_of_getElem? (i := 1) rfl)) rfl (v := .int (A 1 1)) rfl dX5_add_82 ?_
                      refine g_top (y := nI n) (hct.1) ?_
                      refine g_new (own := RX5) (C := RX4) (T := TX4) (NN := 10) (ci := 4) hx hb hts hinX4 tyX4 tyX4_ok hown (hts (.classLink RX5 9 RX4) (List.mem_of_getElem? (i := 3) rfl)) (hts (.instantiable RX4 10) (List.mem_of_getElem? (i := 4) rfl)) (hts (.initialized RX4) (List.mem_of_getElem? (i := 5) rfl)) hE hG rfl (fs := [.int 0, .int 0, .int 0, .int 0, .int 0, .int 0, .int 0, .null, .int 0, .int 0]) (fun j9 hj9 => by have h9 : j9 = 0 ∨ j9 = 1 ∨ j9 = 2 ∨ j9 = 3 ∨ j9 = 4 ∨ j9 = 5 ∨ j9 = 6 ∨ j9 = 7 ∨ j9 = 8 ∨ j9 = 9 := (by omega); rcases h9 with rfl | rfl | rfl | rfl | rfl | rfl | rfl | rfl | rfl | rfl <;> rfl) (Nat.le_of_ble_eq_true rfl) (Nat.le_of_ble_eq_true rfl) dX5_add_85 (fun q H locs hG => ?_)
                      refine lv_dup hx hb dX5_add_88 rfl ?_
                      refine lv_iload_n hx hb dX5_add_89 rfl (lv_at hl 2 rfl) ?_
                      refine lv_iload_n hx hb dX5_add_90 rfl (lv_at hl 3 rfl) ?_
                      refine lv_iload_n hx hb dX5_add_91 rfl (lv_at hl 4 rfl) ?_
                      refine lv_iload hx hb dX5_add_92 (lv_at hl 5 rfl) ?_
                      refine lv_iload hx hb dX5_add_94 (lv_at hl 7 rfl) ?_
                      refine lv_iload hx hb dX5_add_96 (lv_at hl 8 rfl) ?_
                      refine gR_callI (a := q) (As := [.int (zI wq), .int (zI cq), .int (zI pq), .int (nI tq), .int (nI kp), .int (nI ko)]) (rest := [.ref q, .int (nI n), .ref (ad 2)]) ⟨hx, hb, hml, hown, hts⟩ hG (by have h9 := cX4_initC l D cy base (va_up ad (33 + 2 * n) q) (33 + 2 * n + 1) (va_up (gw cy ad n A (gUse J (gBt ko wq.toNat tq) pq ((kp : Nat) : Int) 4)) (33 + 2 * n) (.inr (4, [.int 0, .int 0, .int 0, .int 0, .int 0, .int 0, .int 0, .null, .int 0, .int 0]))) (33 + 2 * n) (zI wq) (zI cq) (zI pq) tq (nI kp) (nI ko) (by omega) (va_up_self _ _ _) htq; rw [va_up_self] at h9; exact h9) (g_pre hE hG _) (cwI 6 hts gX5_add_X4_init rfl rfl rfl (hts (.initialized RX4) (List.mem_of_getElem? (i := 5) rfl)) (hts (.methodLink RX5 37 yX4_init) (List.mem_of_getElem? (i := 19) rfl)) (hts (.instanceMethod yX4_init) (List.mem_of_getElem? (i := 20) rfl)) rfl (by decide +kernel) ⟨(Nat.le_of_ble_eq_true rfl), (Nat.le_of_ble_eq_true rfl)⟩) rfl hl.1 rfl (Nat.le_of_ble_eq_true rfl) dX5_add_98 ⟨(Nat.le_of_ble_eq_true rfl), (Nat.le_of_ble_eq_true rfl)⟩ (fun v_ ad1 N1 w1 H locs hp hG => ?_)
                      obtain ⟨rfl, q2, rfl, rfl, o1, o2, o3⟩ := hp
                      have o4 : ∀ i, i < 33 + 2 * n → w1 i = gw cy ad n A (gUse J (gBt ko wq.toNat tq) pq ((kp : Nat) : Int) 4) i := fun i hi => (o1 i (by omega) (by omega)).trans (va_up_ne _ _ (by omega))
                      have ha2 : ∀ i, i < 33 + 2 * n → va_up (va_up ad (33 + 2 * n) q) (33 + 2 * n + 1) q2 i = ad i := fun i hi => (va_up_ne _ _ (by omega)).trans (va_up_ne _ _ (by omega))
                      have haq : va_up (va_up ad (33 + 2 * n) q) (33 + 2 * n + 1) q2 (33 + 2 * n) = q := (va_up_ne _ _ (by omega)).trans (va_up_self _ _ _)
                      refine gR_astq hx hb hE hG (k := 2) (kv := 33 + 2 * n) (ha2 2 (by omega)) (by omega) haq (by omega) (t0 := 4) (ci := 4) (r := (RX4, TX4, 10)) (o4 2 (by omega)) rfl o3 rfl n rfl (by omega) (by omega) dX5_add_101 (fun H locs hG => ?_)
                      refine lv_aload_n hx hb dX5_add_102 rfl (lv_at hl 1 rfl) ?_
                      refine lv_dup hx hb dX5_add_103 rfl ?_
                      refine gR_get (C := RX5) (T := TX5) (NN := 3) (ci := 5) hx hb hts hinX5 hown hE hG (k := 1) (ha2 1 (by omega)) (by omega) (fs := [.ref (ad 2), .int (A 1 1), .ref (ad 3)]) ((va_up_ne _ _ (by omega)).trans (o4 1 (by omega))) rfl 1 (by decide) (hts (.fieldLink RX5 21 "Commutator$PointTable" "count" "I") (List.mem_of_getElem? (i := 1) rfl)) rfl (v := .int (A 1 1)) rfl dX5_add_104 ?_
                      refine g_top (y := nI n) hct.1 ?_
                      refine lv_iconst (v := nI 1) hx hb dX5_add_107 (by decide) ?_
                      refine lv_iadd hx hb dX5_add_108 ?_
                      refine g_top (y := nI (n + 1)) (nI_add n 1) ?_
                      refine gR_put (C := RX5) (T := TX5) (NN := 3) (ci := 5) hx hb hts hinX5 tyX5 tyX5_ok nmX5 hown hE hG (k := 1) (ha2 1 (by omega)) (by omega) (fs := [.ref (ad 2), .int (A 1 1), .ref (ad 3)]) ((va_up_ne _ _ (by omega)).trans (o4 1 (by omega))) rfl 1 (by decide) (hts (.fieldLink RX5 21 "Commutator$PointTable" "count" "I") (List.mem_of_getElem? (i := 1) rfl)) rfl rfl (ty := .int) (v := .int (nI (n + 1))) (by decide +kernel) rfl rfl (Nat.le_of_ble_eq_true rfl) dX5_add_109 (fun H locs hG => ?_)
                      refine lv_iconst (v := nI 1) hx hb dX5_add_112 (by decide) ?_
                      have hG := hG.as (w' := gw cy (va_up (va_up ad (33 + 2 * n) q) (33 + 2 * n + 1) q2) (n + 1) (aNP A n wq cq pq tq kp ko) (gUse J (gBt ko wq.toNat tq) pq ((kp : Nat) : Int) 4)) (fun _ _ => rfl) (gw_grow ha2 (fun k a b c9 => (va_up_ne _ _ b).trans ((va_up_ne _ _ c9).trans (o4 k a))) (va_up_self _ _ _) ?_ ?_ ?_)
                      · exact gR_zret hx hb hr hlocks (N := 33 + 2 * (n + 1)) hG rfl (Nat.le_of_ble_eq_true rfl) (Nat.le_of_ble_eq_true rfl) (Or.inr ⟨kp, ko, rfl, ⟨by omega, by omega, by omega, hfr, hni⟩, ha2, rfl, rfl⟩) dX5_add_113
                      · rw [va_up_ne _ _ (by omega), va_up_self]
                        have hfe : va_up (fun i => if i < n then some (ad (33 + 2 * i)) else none) n (some q) = fun i => if i < n + 1 then some (va_up (va_up ad (33 + 2 * n) q) (33 + 2 * n + 1) q2 (33 + 2 * i)) else none := by
                          funext j
                          by_cases hj : j = n
                          · subst hj; rw [va_up_self, haq, if_pos (by omega)]
                          · rw [va_up_ne _ _ hj]
                            by_cases hj2 : j < n
                            · rw [if_pos hj2, if_pos (by omega), ha2 _ (by omega)]
                            · rw [if_neg hj2, if_neg (by omega)]
                        rw [hfe]
                      · rw [va_up_ne _ _ (by omega), va_up_ne _ _ (by omega), o3, va_up_self]
                      · rw [va_up_ne _ _ (by omega), va_up_ne _ _ (by omega), o2]
                  · refine W.eq (g2 := F0 mM 65 ls [.int (nI 0)]) rfl ?_
                    have hnf : ¬ mFree G (ko : Int) wq (kp : Int) pq ((tq : Int) + 1) := fun z9 => hC_62 ((gFreeQ_iff hU (o := ko) (w := wq.toNat) (t := tq) (by omega) (by omega) (by omega) (by omega) hp3 ⟨by omega, by omega⟩).mpr (by rw [Int.toNat_of_nonneg (show 0 ≤ wq by omega)]; exact z9))
                    refine lv_if_eq (tgt := 114) hx hb dX5_add_65 (by decide) (fun c65 => ?_) (fun c65 => ?_)
                    · skip
                      refine lv_iinc (v := nI (ko + 1)) (lv' := [(7, .int (nI (ko + 1))), (8, .long (gBt ko wq.toNat tq)), (0, .ref (ad 1)), (1, .int (zI wq)), (2, .int (zI cq)), (3, .int (zI pq)), (4, .int (nI tq)), (5, .int (zI (lq - wq))), (6, .int (nI kp))]) hx hb dX5_add_114 hl (k := 8) rfl (by rw [show (Int32.ofInt 1 : Int32) = nI 1 from rfl, nI_add]) (by decide) rfl (fun ls hl => ?_)
                      refine lv_goto (tgt := 39) hx hb dX5_add_117 (by decide) ?_
                      exact ihq39 (ko + 1) (by omega) (mNone_f hni hnf) (by omega) _ _ _ hG (lv_sub hl [2, 3, 4, 5, 6, 7, 8, 0] rfl)
                    · skip
                      exact absurd c65 (by decide)
            exact LLq39 _ 0 (by omega) hno (Nat.lt_succ_self _) _ _ _ hG (lv_sub hl [1, 2, 3, 4, 5, 6, 7, 0] rfl)
      exact LLq30 _ 0 (by omega) mNone_0 (Nat.lt_succ_self _) _ _ _ hG (lv_sub hl [2, 3, 4, 5, 6, 1, 0] rfl)
    refine lv_iload hx hb dX5_add_11 (lv_at hl 4 rfl) ?_
    refine lv_if_eq (tgt := 21) hx hb dX5_add_13 (by decide) (fun c13 => ?_) (fun c13 => ?_)
    · skip
      have c13 : (nI tq) = nI 0 := c13
      have c13 : tq = 0 := (nI_eq (by omega) (by omega)).mp c13
      refine lv_bipush (v := nI 48) hx hb dX5_add_21 (by decide) ?_
      exact LLq23 48 (by unfold mLim; split <;> omega) _ _ _ hG (lv_sub hl [0, 1, 2, 3, 4] rfl)
    · skip
      have c13 : ¬ ((nI tq) = nI 0) := c13
      have c13 : ¬ (tq = 0) := fun z9 => c13 ((nI_eq (by omega) (by omega)).mpr z9)
      refine lv_bipush (v := nI 24) hx hb dX5_add_16 (by decide) ?_
      refine lv_goto (tgt := 23) hx hb dX5_add_18 (by decide) ?_
      exact LLq23 24 (by unfold mLim; split <;> omega) _ _ _ hG (lv_sub hl [0, 1, 2, 3, 4] rfl)
  · skip
    have c6 : ¬ (n < 12) := fun z9 => c6 ((nI_ltI (by omega) (by omega)).mpr z9)
    refine lv_iconst (v := nI 0) hx hb dX5_add_9 (by decide) ?_
    exact gR_zret hx hb hr hlocks hG rfl (Nat.le_of_ble_eq_true rfl) (Nat.le_of_ble_eq_true rfl) (Or.inl ⟨rfl, rfl, rfl, rfl, Or.inl (by omega)⟩) dX5_add_10

abbrev PX9_addPoint (cy : Nat → ClassId) (n : Nat) (ad : Nat → Nat) (A : Nat → Nat → Int32) (J : Nat → Nat → Int64) (G : Nat → Nat → Int) (wq cq pq : Int) (tq : Nat) : Option Value → (Nat → Nat) → Nat → (Nat → va_E) → Prop := fun v_ ad1 N1 w1 => (∃ pN oN : Nat, v_ = some (.int (nI n)) ∧ (n < 12 ∧ G 28 9 = 0 ∧ mGood wq cq pq tq ∧ (pN : Int) < pq ∧ (oN : Int) + wq ≤ mLim ((tq : Int) + 1) ∧ mFree G (oN : Int) wq (pN : Int) pq ((tq : Int) + 1) ∧ mNone G wq pq ((tq : Int) + 1) (pN : Int) (oN : Int)) ∧ (∀ k, k < 33 + 2 * n → ad1 k = ad k) ∧ N1 = 33 + 2 * (n + 1) ∧ ∃ A1 J1, w1 = gw cy ad1 (n + 1) A1 J1 ∧ J1 = gUse J (gBt oN wq.toNat tq) pq (pN : Int) 4 ∧ CAll (n + 1) A1 J1 (gNG G n wq cq pq tq pN oN) ∧ (∀ k, 28 ≤ k → k < 33 → A1 k = A k))
abbrev EX9_addPoint (ad : Nat → Nat) (A : Nat → Nat → Int32) (J : Nat → Nat → Int64) (G : Nat → Nat → Int) (wq cq pq : Int) (tq : Nat) : String → (Nat → Nat → Int32) → (Nat → Nat → Int64) → Prop := fun e_ A1 J1 => (e_ = "java/lang/IllegalArgumentException" ∧ A = A1 ∧ J = J1 ∧ (¬ mGood wq cq pq tq)) ∨ (e_ = "java/lang/IllegalStateException" ∧ A = A1 ∧ J = J1 ∧ (mGood wq cq pq tq ∧ (0 < G 28 9 ∨ G 28 0 = 12 ∨ mNone G wq pq ((tq : Int) + 1) pq 0)))
set_option maxHeartbeats 4000000 in
set_option maxRecDepth 100000 in
theorem cX9_addPointC (l : Launch) (D : va_G) (cy : Nat → ClassId) (base : Nat) (ad : Nat → Nat) (n : Nat) (A : Nat → Nat → Int32) (J : Nat → Nat → Int64) (G : Nat → Nat → Int) (wq cq pq : Int) (tq : Nat) (hst : l.stackTraces = false) (hC : CAll n A J G) (hwq9 : -2147483648 ≤ wq ∧ wq < 2147483648) (hcq9 : -2147483648 ≤ cq ∧ cq < 2147483648) (hpq9 : -2147483648 ≤ pq ∧ pq < 2147483648) (htq : tq ≤ 1) : gMetXW l yX9_addPoint wsX9_addPoint ({ frames := 6, cells := 3, slots := 19, locals := 100 } : Room) D cy base ad n A J [.ref (ad 0), .int (zI wq), .int (zI cq), .int (zI pq), .int (nI tq)] (PX9_addPoint cy n ad A J G wq cq pq tq) (EX9_addPoint ad A J G wq cq pq tq) 3 19 := by
  refine gx_ofW (cc := cX9_addPoint) (maxL := 5) (ret := (some .int)) (by decide) rfl (Nat.le_of_ble_eq_true rfl) ?_
  intro pM eM sM mM aM bM methM cM H locs ls hx hb hr hts hown hlocks hml hout hE hG hl
  have hl : lv_has ls 5 [(0, .ref (ad 0)), (1, .int (zI wq)), (2, .int (zI cq)), (3, .int (zI pq)), (4, .int (nI tq))] := hl
  have hinX4 : ∀ w ∈ u_ws RX4 TX4 10, w ∈ wsX9_addPoint := by decide +kernel
  have hinX5 : ∀ w ∈ u_ws RX5 TX5 3, w ∈ wsX9_addPoint := by decide +kernel
  have hinX6 : ∀ w ∈ u_ws RX6 TX6 3, w ∈ wsX9_addPoint := by decide +kernel
  have hinX7 : ∀ w ∈ u_ws RX7 TX7 2, w ∈ wsX9_addPoint := by decide +kernel
  have hinX9 : ∀ w ∈ u_ws RX9 TX9 6, w ∈ wsX9_addPoint := by decide +kernel
  obtain ⟨hct, hn, hT, hFs, hpr, hz, hU, hD, hso, hse, hli, hsy, hde, hcd, hok, hdv, hdr, hsn, hol, hln⟩ := id hC
  refine lv_iload_n hx hb dX9_addPoint_0 rfl (lv_at hl 1 rfl) ?_
  refine lv_iload_n hx hb dX9_addPoint_1 rfl (lv_at hl 2 rfl) ?_
  refine lv_iload_n hx hb dX9_addPoint_2 rfl (lv_at hl 3 rfl) ?_
  refine lv_iload hx hb dX9_addPoint_3 (lv_at hl 4 rfl) ?_
  refine g_callS (As := [.int (zI wq), .int (zI cq), .int (zI pq), .int (nI tq)]) (rest := []) ⟨hx, hb, hml, hown, hts⟩ hE hG (cX9_isPointAllowedC l D cy base ad n A J wq cq pq tq (by first | assumption | omega) (by first | assumption | omega) (by first | assumption | omega) (by first | assumption | omega)) (va_cwS 4 hts gX9_addPoint_X9_isPointAllowed rfl rfl rfl (by decide +kernel) ⟨Nat.le_of_ble_eq_true rfl, Nat.le_of_ble_eq_true rfl⟩) rfl hl.1 rfl (Nat.le_of_ble_eq_true rfl) dX9_addPoint_5 ⟨(Nat.le_of_ble_eq_true rfl), (Nat.le_of_ble_eq_true rfl)⟩ (fun v_ A5 J5 H locs hp hG => ?_)
  rcases hp with ⟨rfl, rfl, rfl, hC_5⟩ | ⟨rfl, rfl, rfl, hC_5⟩
  · refine W.eq (g2 := F0 mM 8 ls [.int (nI 1)]) rfl ?_
    have hg : mGood wq cq pq tq := hC_5
    refine lv_if_ne (tgt := 19) hx hb dX9_addPoint_8 (by decide) (fun c8 => ?_) (fun c8 => ?_)
    · skip
      refine lv_aload_n hx hb dX9_addPoint_19 rfl (lv_at hl 0 rfl) ?_
      refine g_get (C := RX9) (T := TX9) (NN := 6) (ci := 9) hx hb hts hinX9 hown hE hG (k := 0) (by omega) rfl rfl 2 (by decide) (hts (.fieldLink RX9 26 "Commutator" "sender" "LCommutator$Sender;") (List.mem_of_getElem? (i := 5) rfl)) rfl (v := .ref (ad 6)) rfl dX9_addPoint_20 ?_
      refine g_getN (C := RX7) (T := TX7) (NN := 2) (ci := 7) hx hb hts hinX7 hown hE hG (k := 6) (by omega) rfl rfl 0 (by decide) 6 rfl rfl (v := .int (A 6 0)) rfl dX9_addPoint_23 ?_
      refine g_top (y := zI (G 28 9)) (hse.1) ?_
      refine lv_if_gt (tgt := 44) hx hb dX9_addPoint_26 (by decide) (fun c26 => ?_) (fun c26 => ?_)
      · skip
        have c26 : nI 0 < (zI (G 28 9)) := c26
        have c26 : ((0 : Nat) : Int) < (G 28 9) := (cmp_lt (nI_toInt (by omega)) (zI_toInt (by omega) (by omega))).mp c26
        exact gx_throw (cls := "java/lang/IllegalStateException") (ik := 65) (ic := 67) hx hb hst hown (by decide +kernel) (hts (.classLink RX9 65 "java/lang/IllegalStateException") (List.mem_of_getElem? (i := 3) rfl)) (hts (.initialized "java/lang/IllegalStateException") (List.mem_of_getElem? (i := 4) rfl)) (vxg_IS (fun w9 h9 => hts w9 (List.mem_cons_of_mem _ (List.mem_append_right _ h9)))) vxo_IS hE hG (hl.1.trans hml.symm) dX9_addPoint_44 dX9_addPoint_47 dX9_addPoint_48 dX9_addPoint_51 hout (Nat.le_of_ble_eq_true rfl) (Nat.le_of_ble_eq_true rfl) (Nat.le_of_ble_eq_true rfl) (Nat.le_of_ble_eq_true rfl) hlocks (Or.inr ⟨rfl, rfl, rfl, ⟨hC_5, (by first | exact Or.inl (by omega) | exact hfl.elim (fun h9 => Or.inr (Or.inl (by omega))) (fun h9 => Or.inr (Or.inr h9)))⟩⟩) (Nat.le_of_ble_eq_true rfl) (Nat.le_of_ble_eq_true rfl)
      · skip
        have c26 : ¬ (nI 0 < (zI (G 28 9))) := c26
        have c26 : ¬ (((0 : Nat) : Int) < (G 28 9)) := fun z9 => c26 ((cmp_lt (nI_toInt (by omega)) (zI_toInt (by omega) (by omega))).mpr z9)
        refine lv_aload_n hx hb dX9_addPoint_29 rfl (lv_at hl 0 rfl) ?_
        refine g_get (C := RX9) (T := TX9) (NN := 6) (ci := 9) hx hb hts hinX9 hown hE hG (k := 0) (by omega) rfl rfl 0 (by decide) (hts (.fieldLink RX9 10 "Commutator" "table" "LCommutator$PointTable;") (List.mem_of_getElem? (i := 6) rfl)) rfl (v := .ref (ad 1)) rfl dX9_addPoint_30 ?_
        refine lv_iload_n hx hb dX9_addPoint_33 rfl (lv_at hl 1 rfl) ?_
        refine lv_iload_n hx hb dX9_addPoint_34 rfl (lv_at hl 2 rfl) ?_
        refine lv_iload_n hx hb dX9_addPoint_35 rfl (lv_at hl 3 rfl) ?_
        refine lv_iload hx hb dX9_addPoint_36 (lv_at hl 4 rfl) ?_
        refine gR_callV (As := [.int (zI wq), .int (zI cq), .int (zI pq), .int (nI tq)]) (rest := []) (r := (RX5, TX5, 3)) ⟨hx, hb, hml, hown, hts⟩ hE hG (cX5_addC l D cy base ad n A J G wq cq pq tq hct hn hU hC_5 (by first | assumption | omega)) (cwV 4 hts gX9_addPoint_X5_add rfl rfl rfl (by decide +kernel) ⟨(Nat.le_of_ble_eq_true rfl), (Nat.le_of_ble_eq_true rfl)⟩) (by omega) rfl rfl rfl hl.1 rfl (Nat.le_of_ble_eq_true rfl) dX9_addPoint_38 ⟨(Nat.le_of_ble_eq_true rfl), (Nat.le_of_ble_eq_true rfl)⟩ (fun v_ ad1 N1 w1 H locs hp hG => ?_)
        rcases hp with ⟨rfl, rfl, rfl, rfl, hfl⟩ | ⟨pN, oN, rfl, ⟨hn12, hpN, hlN, hfN, hmN⟩, had, rfl, rfl⟩
        · refine W.eq (g2 := F0 mM 41 ls [.int (nI 0)]) rfl ?_
          refine lv_if_ne (tgt := 52) hx hb dX9_addPoint_41 (by decide) (fun c41 => ?_) (fun c41 => ?_)
          · skip
            exact absurd c41 (by decide)
          · skip
            exact gx_throw (cls := "java/lang/IllegalStateException") (ik := 65) (ic := 67) hx hb hst hown (by decide +kernel) (hts (.classLink RX9 65 "java/lang/IllegalStateException") (List.mem_of_getElem? (i := 3) rfl)) (hts (.initialized "java/lang/IllegalStateException") (List.mem_of_getElem? (i := 4) rfl)) (vxg_IS (fun w9 h9 => hts w9 (List.mem_cons_of_mem _ (List.mem_append_right _ h9)))) vxo_IS hE hG (hl.1.trans hml.symm) dX9_addPoint_44 dX9_addPoint_47 dX9_addPoint_48 dX9_addPoint_51 hout (Nat.le_of_ble_eq_true rfl) (Nat.le_of_ble_eq_true rfl) (Nat.le_of_ble_eq_true rfl) (Nat.le_of_ble_eq_true rfl) hlocks (Or.inr ⟨rfl, rfl, rfl, ⟨hC_5, (by first | exact Or.inl (by omega) | exact hfl.elim (fun h9 => Or.inr (Or.inl (by omega))) (fun h9 => Or.inr (Or.inr h9)))⟩⟩) (Nat.le_of_ble_eq_true rfl) (Nat.le_of_ble_eq_true rfl)
        · refine W.eq (g2 := F0 mM 41 ls [.int (nI 1)]) rfl ?_
          refine lv_if_ne (tgt := 52) hx hb dX9_addPoint_41 (by decide) (fun c41 => ?_) (fun c41 => absurd c41 (by decide))
          refine lv_aload_n hx hb dX9_addPoint_52 rfl (lv_at hl 0 rfl) ?_
          refine gR_get (C := RX9) (T := TX9) (NN := 6) (ci := 9) hx hb hts hinX9 hown hE hG (k := 0) (had 0 (by omega)) (by omega) rfl rfl 0 (by decide) (hts (.fieldLink RX9 10 "Commutator" "table" "LCommutator$PointTable;") (List.mem_of_getElem? (i := 6) rfl)) rfl (v := .ref (ad1 1)) rfl dX9_addPoint_53 ?_
          have hv1 : aNP A n wq cq pq tq pN oN 1 1 = nI (n + 1) := by
            unfold aNP
            rw [gr_ne _ _ (by omega), gr_ne _ _ (by omega), gu_at, if_pos ⟨rfl, rfl⟩]
          refine g_getN (C := RX5) (T := TX5) (NN := 3) (ci := 5) hx hb hts hinX5 hown hE hG (k := 1) (by omega) rfl rfl 1 (by decide) 1 rfl rfl (v := .int (aNP A n wq cq pq tq pN oN 1 1)) rfl dX9_addPoint_56 ?_
          refine g_top (y := nI (n + 1)) hv1 ?_
          refine lv_iconst (v := nI 1) hx hb dX9_addPoint_59 (by decide) ?_
          refine lv_isub hx hb dX9_addPoint_60 ?_
          refine g_top (y := nI n) (by rw [zI_sub_nn, show ((n + 1 : Nat) : Int) - ((1 : Nat) : Int) = (n : Int) from by omega]; rfl) ?_
          exact gy_iret hx hb hr hlocks hG (Nat.le_of_ble_eq_true rfl) (Nat.le_of_ble_eq_true rfl) ⟨pN, oN, rfl, ⟨hn12, by omega, by assumption, hpN, hlN, hfN, hmN⟩, had, rfl, _, _, rfl, rfl, hC.add hn12 (by omega) hg (by assumption) hpN hlN hfN, fun k a b => aNP_k (by omega) (by omega) (by omega)⟩ dX9_addPoint_61
    · skip
      exact absurd c8 (by decide)
  · refine W.eq (g2 := F0 mM 8 ls [.int (nI 0)]) rfl ?_
    refine lv_if_ne (tgt := 19) hx hb dX9_addPoint_8 (by decide) (fun c8 => ?_) (fun c8 => ?_)
    · skip
      exact absurd c8 (by decide)
    · skip
      exact gx_throw (cls := "java/lang/IllegalArgumentException") (ik := 55) (ic := 57) hx hb hst hown (by decide +kernel) (hts (.classLink RX9 55 "java/lang/IllegalArgumentException") (List.mem_of_getElem? (i := 1) rfl)) (hts (.initialized "java/lang/IllegalArgumentException") (List.mem_of_getElem? (i := 2) rfl)) (vxg_IA (fun w9 h9 => hts w9 (List.mem_cons_of_mem _ (List.mem_append_left _ (List.mem_append_right _ h9))))) vxo_IA hE hG (hl.1.trans hml.symm) dX9_addPoint_11 dX9_addPoint_14 dX9_addPoint_15 dX9_addPoint_18 hout (Nat.le_of_ble_eq_true rfl) (Nat.le_of_ble_eq_true rfl) (Nat.le_of_ble_eq_true rfl) (Nat.le_of_ble_eq_true rfl) hlocks (Or.inl ⟨rfl, rfl, rfl, hC_5⟩) (Nat.le_of_ble_eq_true rfl) (Nat.le_of_ble_eq_true rfl)

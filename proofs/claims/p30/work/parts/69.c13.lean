abbrev PX2_compute (ad : Nat → Nat) (A : Nat → Nat → Int32) (J : Nat → Nat → Int64) (G : Nat → Nat → Int) (iq : Nat) : Option Value → (Nat → Nat → Int32) → (Nat → Nat → Int64) → Prop := fun v_ A1 J1 => (v_ = some (.ref (ad (12 + 2 * iq + 1))) ∧ J = J1 ∧ (CRs A1 (mDers G)) ∧ (∀ k, k < 12 ∨ 28 ≤ k ∨ k % 2 = 0 → A1 k = A k))
set_option maxHeartbeats 4000000 in
set_option maxRecDepth 100000 in
theorem cX2_computeC (l : Launch) (D : va_G) (cy : Nat → ClassId) (base : Nat) (ad : Nat → Nat) (n : Nat) (A : Nat → Nat → Int32) (J : Nat → Nat → Int64) (G : Nat → Nat → Int) (iq : Nat) (hcd : CDv A G) (hdv : mDvOk G) (hct : A 1 1 = nI n ∧ n ≤ 12) (hn : G 28 0 = (n : Int)) (hT : TsOk G) (hFs : ∀ i : Nat, i < n → PtF A G i) (hiq : iq < 8) (hdr : mDrOk G) (h41 : ∀ i : Nat, 0 ≤ G 41 i) : gMet l yX2_compute wsX2_compute ({ frames := 4, cells := 0, slots := 0, locals := 131 } : Room) D cy base ad n A J [.ref (ad 10), .int (nI iq), .ref (ad 1)] (PX2_compute ad A J G iq) := by
  refine g_ofW (cc := cX2_compute) (maxL := 5) (ret := (some (.object "Commutator$Reading"))) (by decide) rfl (Nat.le_of_ble_eq_true rfl) ?_
  intro pM eM sM mM aM bM methM cM H locs ls hx hb hr hts hown hlocks hml hE hG hl
  have hl : lv_has ls 5 [(0, .ref (ad 10)), (1, .int (nI iq)), (2, .ref (ad 1))] := hl
  have hinX1 : ∀ w ∈ u_ws RX1 TX1 5, w ∈ wsX2_compute := by decide +kernel
  have hinX2 : ∀ w ∈ u_ws RX2 TX2 1, w ∈ wsX2_compute := by decide +kernel
  have hinX4 : ∀ w ∈ u_ws RX4 TX4 10, w ∈ wsX2_compute := by decide +kernel
  have hinX5 : ∀ w ∈ u_ws RX5 TX5 3, w ∈ wsX2_compute := by decide +kernel
  have hinX6 : ∀ w ∈ u_ws RX6 TX6 3, w ∈ wsX2_compute := by decide +kernel
  have hg0 := gSt.clr hdr
  refine lv_iconst (v := nI 0) hx hb dX2_compute_0 (by decide) ?_
  refine lv_istore_n (lv' := [(3, .int (nI 0)), (0, .ref (ad 10)), (1, .int (nI iq)), (2, .ref (ad 1))]) hx hb dX2_compute_1 rfl hl (by decide) rfl (fun ls hl => ?_)
  have LLq2 : ∀ (fuel : Nat) (kq : Nat) (Aq : Nat → Nat → Int32) (hkq : kq ≤ 8) (hz : ∀ i, i < kq → Aq (12 + 2 * i + 1) 0 = nI 0) (hO : ∀ k, k < 12 ∨ 28 ≤ k ∨ k % 2 = 0 → Aq k = A k) (_ : 8 - kq < fuel) (H : Heap) (locs : List Loc) (ls : Array Slot), gH D base sM ad (33 + 2 * n) (gw cy ad n Aq J) H locs → lv_has ls 5 [(3, .int (nI kq)), (0, .ref (ad 10)), (1, .int (nI iq)), (2, .ref (ad 1))] → W pM l eM ({ frames := 4, cells := 0, slots := 0, locals := 131 } : Room) sM mM aM bM methM cM H locs 0 0 (MQ bM (gPost D cy base ad n (PX2_compute ad A J G iq)) aM sM 0 0 (fun q => base ≤ q)) (F0 mM 2 ls []) := by
    intro fuel
    induction fuel with
    | zero => intro kq Aq hkq hz hO hms H locs ls hG hl; exact absurd hms (Nat.not_lt_zero _)
    | succ fuel ihq2 =>
      intro kq Aq hkq hz hO hms H locs ls hG hl
      refine lv_iload_n hx hb dX2_compute_2 rfl (lv_at hl 0 rfl) ?_
      refine lv_aload_n hx hb dX2_compute_3 rfl (lv_at hl 1 rfl) ?_
      refine g_get (C := RX2) (T := TX2) (NN := 1) (ci := 2) hx hb hts hinX2 hown hE hG (k := 10) (by omega) rfl rfl 0 (by decide) (hts (.fieldLink RX2 11 "Commutator$DerivedTable" "rows" "[LCommutator$Derived;") (List.mem_of_getElem? (i := 1) rfl)) rfl (v := .ref (ad 11)) rfl dX2_compute_4 ?_
      refine g_alen hx hb hE hG (k := 11) (t0 := 3) (v := nI 8) (by omega) rfl rfl rfl dX2_compute_7 ?_
      refine lv_icmp_ge (tgt := 38) hx hb dX2_compute_8 (by decide) (fun c8 => ?_) (fun c8 => ?_)
      · skip
        have c8 : 8 ≤ kq := (nI_leI (by omega) (by omega)).mp c8
        have hcr0 : CRs Aq (mDerR (mClr G 8) 0) := fun i hi => ⟨by rw [hz i (by omega)]; show nI 0 = zI (mClr G 8 46 i); unfold mClr; rw [gr_self]; show nI 0 = zI (if i < 8 then 0 else G 46 i); rw [if_pos hi]; rfl, fun z9 => by
          exfalso
          have z8 : (if i < 8 then 0 else G 46 i) = 1 := z9
          rw [if_pos hi] at z8
          exact absurd z8 (by decide)⟩
        refine lv_iconst (v := nI 0) hx hb dX2_compute_38 (by decide) ?_
        refine lv_istore_n (lv' := [(3, .int (nI 0)), (0, .ref (ad 10)), (1, .int (nI iq)), (2, .ref (ad 1))]) hx hb dX2_compute_39 rfl hl (by decide) rfl (fun ls hl => ?_)
        have LLq40 : ∀ (fuel : Nat) (rq : Nat) (Aq : Nat → Nat → Int32) (hrq : rq ≤ 8) (hcr : CRs Aq (mDerR (mClr G 8) rq)) (hO : ∀ k, k < 12 ∨ 28 ≤ k ∨ k % 2 = 0 → Aq k = A k) (_ : 8 - rq < fuel) (H : Heap) (locs : List Loc) (ls : Array Slot), gH D base sM ad (33 + 2 * n) (gw cy ad n Aq J) H locs → lv_has ls 5 [(3, .int (nI rq)), (0, .ref (ad 10)), (1, .int (nI iq)), (2, .ref (ad 1))] → W pM l eM ({ frames := 4, cells := 0, slots := 0, locals := 131 } : Room) sM mM aM bM methM cM H locs 0 0 (MQ bM (gPost D cy base ad n (PX2_compute ad A J G iq)) aM sM 0 0 (fun q => base ≤ q)) (F0 mM 40 ls []) := by
          intro fuel
          induction fuel with
          | zero => intro rq Aq hrq hcr hO hms H locs ls hG hl; exact absurd hms (Nat.not_lt_zero _)
          | succ fuel ihq40 =>
            intro rq Aq hrq hcr hO hms H locs ls hG hl
            refine lv_iload_n hx hb dX2_compute_40 rfl (lv_at hl 0 rfl) ?_
            refine lv_aload_n hx hb dX2_compute_41 rfl (lv_at hl 1 rfl) ?_
            refine g_get (C := RX2) (T := TX2) (NN := 1) (ci := 2) hx hb hts hinX2 hown hE hG (k := 10) (by omega) rfl rfl 0 (by decide) (hts (.fieldLink RX2 11 "Commutator$DerivedTable" "rows" "[LCommutator$Derived;") (List.mem_of_getElem? (i := 1) rfl)) rfl (v := .ref (ad 11)) rfl dX2_compute_42 ?_
            refine g_alen hx hb hE hG (k := 11) (t0 := 3) (v := nI 8) (by omega) rfl rfl rfl dX2_compute_45 ?_
            refine lv_icmp_ge (tgt := 86) hx hb dX2_compute_46 (by decide) (fun c46 => ?_) (fun c46 => ?_)
            · skip
              have c46 : 8 ≤ rq := (nI_leI (by omega) (by omega)).mp c46
              refine lv_aload_n hx hb dX2_compute_86 rfl (lv_at hl 1 rfl) ?_
              refine lv_iload_n hx hb dX2_compute_87 rfl (lv_at hl 2 rfl) ?_
              refine g_callV (As := [.int (nI iq)]) (rest := []) (r := (RX2, TX2, 1)) ⟨hx, hb, hml, hown, hts⟩ hE hG (cX2_atC l D cy base ad n Aq J iq (by first | assumption | omega)) (cwV 1 hts gX2_compute_X2_at rfl rfl rfl (by decide +kernel) ⟨Nat.le_of_ble_eq_true rfl, Nat.le_of_ble_eq_true rfl⟩) (by omega) rfl rfl rfl hl.1 rfl (Nat.le_of_ble_eq_true rfl) dX2_compute_88 ⟨Nat.zero_le _, Nat.zero_le _⟩ (fun v_ A88 J88 H locs hp hG => ?_)
              obtain ⟨rfl, rfl, rfl⟩ := hp
              refine W.eq (g2 := F0 mM 91 ls [.ref (ad (12 + 2 * iq))]) rfl ?_
              refine lv_astore_n (lv' := [(3, .ref (ad (12 + 2 * iq))), (0, .ref (ad 10)), (1, .int (nI iq)), (2, .ref (ad 1))]) hx hb dX2_compute_91 rfl hl (by decide) rfl (fun ls hl => ?_)
              refine lv_aload_n hx hb dX2_compute_92 rfl (lv_at hl 0 rfl) ?_
              refine lv_ifnonnull (tgt := 100) hx hb dX2_compute_93 (by decide) ?_
              refine lv_aload_n hx hb dX2_compute_100 rfl (lv_at hl 0 rfl) ?_
              refine g_getN (C := RX1) (T := TX1) (NN := 5) (ci := 1) hx hb hts hinX1 hown hE hG (k := 12 + 2 * iq) (by omega) (gw_dv cy ad n _ _ (by omega)) rfl 4 (by decide) 28 rfl rfl (v := .ref (ad (12 + 2 * iq + 1))) rfl dX2_compute_101 ?_
              exact g_aret hx hb hr hlocks (Or.inr ⟨_, rfl⟩) hG ⟨rfl, rfl, (by rw [show rq = 8 from by omega] at hcr; exact hcr), hO⟩ dX2_compute_104
            · skip
              have c46 : ¬ (8 ≤ rq) := fun z9 => c46 ((nI_leI (by omega) (by omega)).mpr z9)
              refine lv_iconst (v := nI 0) hx hb dX2_compute_49 (by decide) ?_
              refine lv_istore (lv' := [(4, .int (nI 0)), (3, .int (nI rq)), (0, .ref (ad 10)), (1, .int (nI iq)), (2, .ref (ad 1))]) hx hb dX2_compute_50 hl (by decide) rfl (fun ls hl => ?_)
              have LLq52 : ∀ (fuel : Nat) (kq : Nat) (Bq : Nat → Nat → Int32) (hkq : kq ≤ 8) (hcrb : CRs Bq (mDerK (mDerR (mClr G 8) rq) kq)) (hOb : ∀ k, k < 12 ∨ 28 ≤ k ∨ k % 2 = 0 → Bq k = A k) (_ : 8 - kq < fuel) (H : Heap) (locs : List Loc) (ls : Array Slot), gH D base sM ad (33 + 2 * n) (gw cy ad n Bq J) H locs → lv_has ls 5 [(4, .int (nI kq)), (3, .int (nI rq)), (0, .ref (ad 10)), (1, .int (nI iq)), (2, .ref (ad 1))] → W pM l eM ({ frames := 4, cells := 0, slots := 0, locals := 131 } : Room) sM mM aM bM methM cM H locs 0 0 (MQ bM (gPost D cy base ad n (PX2_compute ad A J G iq)) aM sM 0 0 (fun q => base ≤ q)) (F0 mM 52 ls []) := by
                intro fuel
                induction fuel with
                | zero => intro kq Bq hkq hcrb hOb hms H locs ls hG hl; exact absurd hms (Nat.not_lt_zero _)
                | succ fuel ihq52 =>
                  intro kq Bq hkq hcrb hOb hms H locs ls hG hl
                  refine lv_iload hx hb dX2_compute_52 (lv_at hl 0 rfl) ?_
                  refine lv_aload_n hx hb dX2_compute_54 rfl (lv_at hl 2 rfl) ?_
                  refine g_get (C := RX2) (T := TX2) (NN := 1) (ci := 2) hx hb hts hinX2 hown hE hG (k := 10) (by omega) rfl rfl 0 (by decide) (hts (.fieldLink RX2 11 "Commutator$DerivedTable" "rows" "[LCommutator$Derived;") (List.mem_of_getElem? (i := 1) rfl)) rfl (v := .ref (ad 11)) rfl dX2_compute_55 ?_
                  refine g_alen hx hb hE hG (k := 11) (t0 := 3) (v := nI 8) (by omega) rfl rfl rfl dX2_compute_58 ?_
                  refine lv_icmp_ge (tgt := 80) hx hb dX2_compute_59 (by decide) (fun c59 => ?_) (fun c59 => ?_)
                  · skip
                    have c59 : 8 ≤ kq := (nI_leI (by omega) (by omega)).mp c59
                    have hcr9 : CRs Bq (mDerR (mClr G 8) (rq + 1)) := by
                      have h9 := hcrb
                      rw [show kq = 8 from by omega] at h9
                      exact h9
                    refine lv_iinc (v := nI (rq + 1)) (lv' := [(3, .int (nI (rq + 1))), (4, .int (nI kq)), (0, .ref (ad 10)), (1, .int (nI iq)), (2, .ref (ad 1))]) hx hb dX2_compute_80 hl (k := 1) rfl (by rw [show (Int32.ofInt 1 : Int32) = nI 1 from rfl, nI_add]) (by decide) rfl (fun ls hl => ?_)
                    refine lv_goto (tgt := 40) hx hb dX2_compute_83 (by decide) ?_
                    exact ihq40 (rq + 1) Bq (by omega) hcr9 hOb (by omega) _ _ _ hG (lv_sub hl [0, 2, 3, 4] rfl)
                  · skip
                    have c59 : ¬ (8 ≤ kq) := fun z9 => c59 ((nI_leI (by omega) (by omega)).mpr z9)
                    have hg : gSt G (mDerK (mDerR (mClr G 8) rq) kq) := (hg0.derR hdv rq).derK hdv kq (by omega)
                    have hAp : ∀ k, 33 ≤ k → Bq k = A k := fun k h9 => hOb k (by omega)
                    refine lv_aload_n hx hb dX2_compute_62 rfl (lv_at hl 2 rfl) ?_
                    refine lv_aload_n hx hb dX2_compute_63 rfl (lv_at hl 2 rfl) ?_
                    refine g_get (C := RX2) (T := TX2) (NN := 1) (ci := 2) hx hb hts hinX2 hown hE hG (k := 10) (by omega) rfl rfl 0 (by decide) (hts (.fieldLink RX2 11 "Commutator$DerivedTable" "rows" "[LCommutator$Derived;") (List.mem_of_getElem? (i := 1) rfl)) rfl (v := .ref (ad 11)) rfl dX2_compute_64 ?_
                    refine lv_iload hx hb dX2_compute_67 (lv_at hl 0 rfl) ?_
                    refine g_aald hx hb hE hG (k := 11) (t0 := 3) (by omega) rfl rfl kq (rfl) (by omega) (by omega) dX2_compute_69 (v := .ref (ad (12 + 2 * kq))) (by show va_rf (if kq < 8 then some (ad (12 + 2 * kq)) else none) = _; rw [if_pos (by omega)]; rfl) ?_
                    refine lv_aload_n hx hb dX2_compute_70 rfl (lv_at hl 4 rfl) ?_
                    refine g_callV (As := [.ref (ad (12 + 2 * kq)), .ref (ad 1)]) (rest := []) (r := (RX2, TX2, 1)) ⟨hx, hb, hml, hown, hts⟩ hE hG (cX2_computeOneC l D cy base ad n Bq J (mDerK (mDerR (mClr G 8) rq) kq) kq (hg.cd (fun i hi => by rw [hOb _ (by omega)]; exact hcd i hi)) (hg.dv hdv) ⟨(congrFun (hOb 1 (by omega)) 1).trans hct.1, hct.2⟩ ((hg.1 28 0 (by decide) (by decide) (by decide)).trans hn) (hg.ts hT) (fun i hi => (hg.pt (hFs i hi)).to (hAp _ (by omega)) (hAp _ (by omega)) (fun _ _ _ _ _ _ => rfl)) (by first | assumption | omega) hcrb hg.2.1 (fun i => by rw [hg.1 41 i (by decide) (by decide) (by decide)]; exact h41 i) hg.2.2) (cwV 2 hts gX2_compute_X2_computeOne rfl rfl rfl (by decide +kernel) ⟨Nat.le_of_ble_eq_true rfl, Nat.le_of_ble_eq_true rfl⟩) (by omega) rfl rfl rfl hl.1 rfl (Nat.le_of_ble_eq_true rfl) dX2_compute_71 ⟨Nat.zero_le _, Nat.zero_le _⟩ (fun v_ A71 J71 H locs hp hG => ?_)
                    obtain ⟨rfl, rfl, hcr1_71, hO1_71⟩ := hp
                    refine W.eq (g2 := F0 mM 74 ls []) rfl ?_
                    refine lv_iinc (v := nI (kq + 1)) (lv' := [(4, .int (nI (kq + 1))), (3, .int (nI rq)), (0, .ref (ad 10)), (1, .int (nI iq)), (2, .ref (ad 1))]) hx hb dX2_compute_74 hl (k := 0) rfl (by rw [show (Int32.ofInt 1 : Int32) = nI 1 from rfl, nI_add]) (by decide) rfl (fun ls hl => ?_)
                    refine lv_goto (tgt := 52) hx hb dX2_compute_77 (by decide) ?_
                    exact ihq52 (kq + 1) A71 (by omega) hcr1_71 (fun k h9 => (hO1_71 k (by omega)).trans (hOb k h9)) (by omega) _ _ _ hG (lv_sub hl [0, 1, 2, 3, 4] rfl)
              exact LLq52 _ 0 Aq (by omega) hcr hO (Nat.lt_succ_self _) _ _ _ hG (lv_sub hl [0, 1, 2, 3, 4] rfl)
        exact LLq40 _ 0 Aq (by omega) hcr0 hO (Nat.lt_succ_self _) _ _ _ hG (lv_sub hl [0, 1, 2, 3] rfl)
      · skip
        have c8 : ¬ (8 ≤ kq) := fun z9 => c8 ((nI_leI (by omega) (by omega)).mpr z9)
        refine lv_aload_n hx hb dX2_compute_11 rfl (lv_at hl 1 rfl) ?_
        refine g_get (C := RX2) (T := TX2) (NN := 1) (ci := 2) hx hb hts hinX2 hown hE hG (k := 10) (by omega) rfl rfl 0 (by decide) (hts (.fieldLink RX2 11 "Commutator$DerivedTable" "rows" "[LCommutator$Derived;") (List.mem_of_getElem? (i := 1) rfl)) rfl (v := .ref (ad 11)) rfl dX2_compute_12 ?_
        refine lv_iload_n hx hb dX2_compute_15 rfl (lv_at hl 0 rfl) ?_
        refine g_aald hx hb hE hG (k := 11) (t0 := 3) (by omega) rfl rfl kq (rfl) (by omega) (by omega) dX2_compute_16 (v := .ref (ad (12 + 2 * kq))) (by show va_rf (if kq < 8 then some (ad (12 + 2 * kq)) else none) = _; rw [if_pos (by omega)]; rfl) ?_
        refine lv_ifnull hx hb dX2_compute_17 ?_
        refine lv_aload_n hx hb dX2_compute_20 rfl (lv_at hl 1 rfl) ?_
        refine g_get (C := RX2) (T := TX2) (NN := 1) (ci := 2) hx hb hts hinX2 hown hE hG (k := 10) (by omega) rfl rfl 0 (by decide) (hts (.fieldLink RX2 11 "Commutator$DerivedTable" "rows" "[LCommutator$Derived;") (List.mem_of_getElem? (i := 1) rfl)) rfl (v := .ref (ad 11)) rfl dX2_compute_21 ?_
        refine lv_iload_n hx hb dX2_compute_24 rfl (lv_at hl 0 rfl) ?_
        refine g_aald hx hb hE hG (k := 11) (t0 := 3) (by omega) rfl rfl kq (rfl) (by omega) (by omega) dX2_compute_25 (v := .ref (ad (12 + 2 * kq))) (by show va_rf (if kq < 8 then some (ad (12 + 2 * kq)) else none) = _; rw [if_pos (by omega)]; rfl) ?_
        refine g_getN (C := RX1) (T := TX1) (NN := 5) (ci := 1) hx hb hts hinX1 hown hE hG (k := 12 + 2 * kq) (by omega) (gw_dv cy ad n _ _ (by omega)) rfl 4 (by decide) 28 rfl rfl (v := .ref (ad (12 + 2 * kq + 1))) rfl dX2_compute_26 ?_
        refine g_callV (As := []) (rest := []) (r := (RX6, TX6, 3)) ⟨hx, hb, hml, hown, hts⟩ hE hG (cX6_forgetC l D cy base ad n Aq J (12 + 2 * kq + 1) (by unfold gIsR; omega)) (cwV 0 hts gX2_compute_X6_forget rfl rfl rfl (by decide +kernel) ⟨Nat.le_of_ble_eq_true rfl, Nat.le_of_ble_eq_true rfl⟩) (by omega) (gw_rd cy ad n _ _ (by omega)) rfl rfl hl.1 rfl (Nat.le_of_ble_eq_true rfl) dX2_compute_29 ⟨Nat.zero_le _, Nat.zero_le _⟩ (fun v_ A29 J29 H locs hp hG => ?_)
        obtain ⟨rfl, rfl, rfl⟩ := hp
        refine W.eq (g2 := F0 mM 32 ls []) rfl ?_
        have hz1 : ∀ i, i < kq + 1 → (gu Aq (12 + 2 * kq + 1) 0 (nI 0)) (12 + 2 * i + 1) 0 = nI 0 := by
          intro i h9
          by_cases h8 : i = kq
          · subst h8; rw [gu_at, if_pos ⟨rfl, rfl⟩]
          · rw [gu_ne _ _ _ (by omega)]; exact hz i (by omega)
        refine lv_iinc (v := nI (kq + 1)) (lv' := [(3, .int (nI (kq + 1))), (0, .ref (ad 10)), (1, .int (nI iq)), (2, .ref (ad 1))]) hx hb dX2_compute_32 hl (k := 0) rfl (by rw [show (Int32.ofInt 1 : Int32) = nI 1 from rfl, nI_add]) (by decide) rfl (fun ls hl => ?_)
        refine lv_goto (tgt := 2) hx hb dX2_compute_35 (by decide) ?_
        exact ihq2 (kq + 1) (gu Aq (12 + 2 * kq + 1) 0 (nI 0)) (by omega) hz1 (fun k h9 => by rw [gu_ne _ _ _ (by omega)]; exact hO k h9) (by omega) _ _ _ hG (lv_sub hl [0, 1, 2, 3] rfl)
  exact LLq2 _ 0 A (by omega) (fun i h9 => absurd h9 (Nat.not_lt_zero _)) (fun _ _ => rfl) (Nat.lt_succ_self _) _ _ _ hG (lv_sub hl [0, 1, 2, 3] rfl)

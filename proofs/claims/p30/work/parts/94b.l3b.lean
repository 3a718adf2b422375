abbrev PL_isReceived (ad : Nat → Nat) (A : Nat → Nat → Int32) (J : Nat → Nat → Int64) (G : Nat → Nat → Int) (nq : Nat) (c2 : Int) : Option Value → (Nat → Nat → Int32) → (Nat → Nat → Int64) → Prop := fun v_ A1 J1 => (v_ = some (.int (nI 1)) ∧ J = J1 ∧ (A1 = gu A 31 2 (zI (if G 28 21 = 0 then -1 else mFst G))))
set_option maxHeartbeats 4000000 in
set_option maxRecDepth 100000 in
theorem cL_isReceivedC (l : Launch) (D : va_G) (cy : Nat → ClassId) (base : Nat) (ad : Nat → Nat) (n : Nat) (A : Nat → Nat → Int32) (J : Nat → Nat → Int64) (G : Nat → Nat → Int) (nq : Nat) (c2 : Int) (hst : l.stackTraces = false) (hnq : nq = n) (hC : CAll nq A J G) (hgr : LGR A G n) (hR : mRI G) (hc2 : A 31 2 = zI c2) (hc3 : LC2 G c2) : gMetX l yL_isReceived wsL_isReceived ({ frames := 9, cells := 98, slots := 588, locals := 221 } : Room) D cy base ad n A J [.ref (ad 0), .ref (ad 28), .ref (ad 30), .ref (ad 31)] (PL_isReceived ad A J G nq c2) pxNo 98 588 := by
  refine gx_ofW (cc := cL_isReceived) (maxL := 14) (ret := (some .boolean)) (by decide) rfl (Nat.le_of_ble_eq_true rfl) ?_
  intro pM eM sM mM aM bM methM cM H locs ls hx hb hr hts hown hlocks hml hout hE hG hl
  have hl : lv_has ls 14 [(0, .ref (ad 0)), (1, .ref (ad 28)), (2, .ref (ad 30)), (3, .ref (ad 31))] := hl
  have hinX0 : ∀ w ∈ u_ws RX0 TX0 5, w ∈ wsL_isReceived := by decide +kernel
  have hinX1 : ∀ w ∈ u_ws RX1 TX1 5, w ∈ wsL_isReceived := by decide +kernel
  have hinX2 : ∀ w ∈ u_ws RX2 TX2 1, w ∈ wsL_isReceived := by decide +kernel
  have hinX4 : ∀ w ∈ u_ws RX4 TX4 10, w ∈ wsL_isReceived := by decide +kernel
  have hinX5 : ∀ w ∈ u_ws RX5 TX5 3, w ∈ wsL_isReceived := by decide +kernel
  have hinX6 : ∀ w ∈ u_ws RX6 TX6 3, w ∈ wsL_isReceived := by decide +kernel
  have hinX9 : ∀ w ∈ u_ws RX9 TX9 6, w ∈ wsL_isReceived := by decide +kernel
  have hC : CAll n A J G := by rw [← hnq]; exact hC
  obtain ⟨hT, h28, -, hpa, htk, hol, -, -, hsn, -, hok, -, hdr, hsum, hln, hn, -⟩ := hC.bd
  have hsa := hok.2.2.2.2.2
  have hnb := hok.2.2.2.2.1.2.2.2.2.2.2.1
  have hnl := hok.2.2.2.2.1.2.2.2.2.2.2.2
  have hnf := hok.2.2.2.2.1.2.2.2.2.1
  clear hok
  have hn12 := hC.1.2
  have hfe : mFst G = G 28 20 - G 28 21 - G 28 22 + 1 := rfl
  refine lv_aload_n hx hb dL_isReceived_0 rfl (lv_at hl 0 rfl) ?_
  refine lv_iconst (v := nI 2) hx hb dL_isReceived_1 (by decide) ?_
  refine lv_iconst (v := nI 0) hx hb dL_isReceived_2 (by decide) ?_
  refine gN_callT (As := [.ref (ad 0), .int (nI 2), .int (nI 0)]) (rest := []) ⟨hx, hb, hml, hown, hts⟩ hE hG (cL_asks_numberC l D cy base ad n A J G 0 (by first | assumption | omega) hC) (vx_cwSW 3 hts gL_isReceived_L_asks rfl rfl rfl (by decide +kernel) ⟨Nat.le_of_ble_eq_true rfl, Nat.le_of_ble_eq_true rfl⟩) rfl hl.1 rfl (Nat.le_of_ble_eq_true rfl) dL_isReceived_3 ⟨(by show 2 ≤ 98; omega), (by show 12 ≤ 588; omega)⟩ (fun _ _ _ hz => hz) (fun v_ A3 J3 H locs hp hG => W.widen (k := 2) (n := 12) (by omega) (by omega) ?_)
  obtain ⟨rfl, rfl, rfl⟩ := hp
  refine W.eq (g2 := F0 mM 6 ls [.int (zI (if G 28 21 = 0 then -5000000 else G 28 20))]) rfl ?_
  obtain ⟨nu, hnu⟩ : ∃ nu : Int, (if G 28 21 = 0 then -5000000 else G 28 20) = nu := ⟨_, rfl⟩
  have hnur : -5000000 ≤ nu ∧ nu ≤ 3000000 := by rw [← hnu]; split <;> omega
  refine g_top (y := zI nu) (by rw [hnu]) ?_
  refine lv_istore (lv' := [(4, .int (zI nu)), (0, .ref (ad 0)), (1, .ref (ad 28)), (2, .ref (ad 30)), (3, .ref (ad 31))]) hx hb dL_isReceived_6 hl (by decide) rfl (fun ls hl => ?_)
  have LLq146 : ∀  (noq : Nat) (fq : Int) (Aq : Nat → Nat → Int32) (hno : LNo G noq fq nu) (hAq : Aq = gu A 31 2 (zI fq)) (hno9 : noq ≤ 1) (H : Heap) (locs : List Loc) (ls : Array Slot), gH D base sM ad (33 + 2 * n) (gw cy ad n Aq J) H locs → lv_has ls 14 [(0, .ref (ad 0)), (1, .ref (ad 28)), (2, .ref (ad 30)), (3, .ref (ad 31)), (4, .int (zI nu)), (5, .int (nI noq))] → W pM l eM ({ frames := 9, cells := 98, slots := 588, locals := 221 } : Room) sM mM aM bM methM cM H locs (2) (12) (vx_MQ bM (gPost D cy base ad n (PL_isReceived ad A J G nq c2)) (gXC D cy base ad n (pxNo)) aM sM 98 588 (fun q => base ≤ q)) (F0 mM 146 ls [.int (nI 1)]) := by
    intro noq fq Aq hno hAq hno9 H locs ls hG hl
    subst hAq
    clear hnu hc2 hc3
    refine lv_istore (lv' := [(6, .int (nI 1)), (0, .ref (ad 0)), (1, .ref (ad 28)), (2, .ref (ad 30)), (3, .ref (ad 31)), (4, .int (zI nu)), (5, .int (nI noq))]) hx hb dL_isReceived_146 hl (by decide) rfl (fun ls hl => ?_)
    refine lv_iconst (v := nI 0) hx hb dL_isReceived_148 (by decide) ?_
    refine lv_istore (lv' := [(7, .int (nI 0)), (6, .int (nI 1)), (0, .ref (ad 0)), (1, .ref (ad 28)), (2, .ref (ad 30)), (3, .ref (ad 31)), (4, .int (zI nu)), (5, .int (nI noq))]) hx hb dL_isReceived_149 hl (by decide) rfl (fun ls hl => ?_)
    have LLq151 : ∀ (fuel : Nat) (pq : Nat) (hpq : pq ≤ n) (_ : (n - pq) < fuel) (H : Heap) (locs : List Loc) (ls : Array Slot), gH D base sM ad (33 + 2 * n) (gw cy ad n (gu A 31 2 (zI fq)) J) H locs → lv_has ls 14 [(0, .ref (ad 0)), (1, .ref (ad 28)), (2, .ref (ad 30)), (3, .ref (ad 31)), (4, .int (zI nu)), (5, .int (nI noq)), (6, .int (nI 1)), (7, .int (nI pq))] → W pM l eM ({ frames := 9, cells := 98, slots := 588, locals := 221 } : Room) sM mM aM bM methM cM H locs (2 + 8 * pq) (12 + 48 * pq) (vx_MQ bM (gPost D cy base ad n (PL_isReceived ad A J G nq c2)) (gXC D cy base ad n (pxNo)) aM sM 98 588 (fun q => base ≤ q)) (F0 mM 151 ls []) := by
      intro fuel
      induction fuel with
      | zero => intro pq hpq hms H locs ls hG hl; exact absurd hms (Nat.not_lt_zero _)
      | succ fuel ihq151 =>
        intro pq hpq hms H locs ls hG hl
        refine lv_iload hx hb dL_isReceived_151 (lv_at hl 7 rfl) ?_
        refine lv_aload_n hx hb dL_isReceived_153 rfl (lv_at hl 0 rfl) ?_
        refine g_callV (As := []) (rest := [.int (nI pq)]) (r := (RX9, TX9, 6)) ⟨hx, hb, hml, hown, hts⟩ hE hG (cX9_pointsC l D cy base ad n (gu A 31 2 (zI fq)) J n ⟨(by rw [gu_ne _ _ _ (by decide)]; exact hC.1.1), hC.1.2⟩ (by first | assumption | omega)) (cwV 0 hts gL_isReceived_X9_points rfl rfl rfl (by decide +kernel) ⟨Nat.le_of_ble_eq_true rfl, Nat.le_of_ble_eq_true rfl⟩) (by omega) rfl rfl rfl hl.1 rfl (Nat.le_of_ble_eq_true rfl) dL_isReceived_154 ⟨(by show 2 + 8 * pq ≤ 98; omega), (by show 12 + 48 * pq ≤ 588; omega)⟩ (fun v_ A154 J154 H locs hp hG => ?_)
        obtain ⟨rfl, rfl, rfl⟩ := hp
        refine W.eq (g2 := F0 mM 157 ls [.int (nI n), .int (nI pq)]) rfl ?_
        refine lv_icmp_ge (tgt := 473) hx hb dL_isReceived_157 (by decide) (fun c157 => ?_) (fun c157 => ?_)
        · skip
          have c157 : n ≤ pq := (nI_leI (by omega) (by omega)).mp c157
          refine lv_iload hx hb dL_isReceived_473 (lv_at hl 6 rfl) ?_
          exact gx_zret hx hb hr hlocks hG rfl (by show 2 + 8 * pq ≤ 98; omega) (by show 12 + 48 * pq ≤ 588; omega) ⟨rfl, rfl, (by rcases hno with h8 | h8; (rw [if_pos h8.2.1, h8.2.2.1]); (rw [if_neg h8.2.1, h8.2.2.1]))⟩ dL_isReceived_475
        · skip
          have c157 : ¬ (n ≤ pq) := fun z9 => c157 ((nI_leI (by omega) (by omega)).mpr z9)
          have hRp := hR.2.2 pq (by omega)
          have hTp := TOk_at (hT.2.2 pq (by omega))
          obtain ⟨t1, t2, t3, t4, t5, t6⟩ := hTp
          have hsap := hsa pq
          have hglr := gLo_range (cv := G 30 pq) t1.1 t1.2
          have hghr := gHi_range (cv := G 30 pq) t1.1 t1.2
          refine lv_iload hx hb dL_isReceived_160 (lv_at hl 6 rfl) ?_
          refine lv_if_eq (tgt := 473) hx hb dL_isReceived_162 (by decide) (fun c162 => ?_) (fun c162 => ?_)
          · skip
            exact absurd c162 (by decide)
          · skip
            refine lv_aload_n hx hb dL_isReceived_165 rfl (lv_at hl 0 rfl) ?_
            refine lv_iload hx hb dL_isReceived_166 (lv_at hl 7 rfl) ?_
            refine gN_callV (As := [.int (nI pq)]) (rest := []) (r := (RX9, TX9, 6)) ⟨hx, hb, hml, hown, hts⟩ hE hG (cX9_placeC l D cy base ad n (gu A 31 2 (zI fq)) J G n ((pq : Nat) : Int) (by first | assumption | omega) (by first | assumption | omega) (hC.of (fun k hk => gu_ne _ _ _ (by omega))) (by first | assumption | omega)) (cwV 1 hts gL_isReceived_X9_place rfl rfl rfl (by decide +kernel) ⟨Nat.le_of_ble_eq_true rfl, Nat.le_of_ble_eq_true rfl⟩) (by omega) rfl rfl rfl hl.1 rfl (Nat.le_of_ble_eq_true rfl) dL_isReceived_168 ⟨(by show 2 + 8 * pq + 1 ≤ 98; omega), (by show 12 + 48 * pq + 6 ≤ 588; omega)⟩ (fun e_ A_ J_ hz => by
              rcases hz with ⟨he_, hA_, hJ_, hf0_⟩
              · omega) (fun v_ A168 J168 H locs hp hG => W.widen (k := 2 + 8 * pq + 1) (n := 12 + 48 * pq + 6) (by omega) (by omega) ?_)
            obtain ⟨iq_168, rfl, rfl, rfl, hiq_168⟩ := hp
            refine W.eq (g2 := F0 mM 171 ls [.int (zI (100 * G 33 iq_168 + G 34 iq_168))]) rfl ?_
            obtain rfl : pq = iq_168 := (by omega)
            refine lv_istore (lv' := [(8, .int (zI (100 * G 33 pq + G 34 pq))), (0, .ref (ad 0)), (1, .ref (ad 28)), (2, .ref (ad 30)), (3, .ref (ad 31)), (4, .int (zI nu)), (5, .int (nI noq)), (6, .int (nI 1)), (7, .int (nI pq))]) hx hb dL_isReceived_171 hl (by decide) rfl (fun ls hl => ?_)
            have LLq235 : ∀  (dq : Int) (hdq : dq = G 41 pq + G 42 pq) (H : Heap) (locs : List Loc) (ls : Array Slot), gH D base sM ad (33 + 2 * n) (gw cy ad n (gu A 31 2 (zI fq)) J) H locs → lv_has ls 14 [(0, .ref (ad 0)), (1, .ref (ad 28)), (2, .ref (ad 30)), (3, .ref (ad 31)), (4, .int (zI nu)), (5, .int (nI noq)), (6, .int (nI 1)), (7, .int (nI pq)), (8, .int (zI (100 * G 33 pq + G 34 pq))), (9, .int (zI dq))] → W pM l eM ({ frames := 9, cells := 98, slots := 588, locals := 221 } : Room) sM mM aM bM methM cM H locs (2 + 8 * pq + 1) (12 + 48 * pq + 6) (vx_MQ bM (gPost D cy base ad n (PL_isReceived ad A J G nq c2)) (gXC D cy base ad n (pxNo)) aM sM 98 588 (fun q => base ≤ q)) (F0 mM 235 ls []) := by
              intro dq hdq H locs ls hG hl
              refine lv_aload_n hx hb dL_isReceived_235 rfl (lv_at hl 0 rfl) ?_
              refine lv_iload hx hb dL_isReceived_236 (lv_at hl 7 rfl) ?_
              refine gN_callV (As := [.int (nI pq)]) (rest := []) (r := (RX9, TX9, 6)) ⟨hx, hb, hml, hown, hts⟩ hE hG (cX9_samplesC l D cy base ad n (gu A 31 2 (zI fq)) J G n ((pq : Nat) : Int) (by first | assumption | omega) (by first | assumption | omega) (hC.of (fun k hk => gu_ne _ _ _ (by omega))) (by first | assumption | omega)) (cwV 1 hts gL_isReceived_X9_samples rfl rfl rfl (by decide +kernel) ⟨Nat.le_of_ble_eq_true rfl, Nat.le_of_ble_eq_true rfl⟩) (by omega) rfl rfl rfl hl.1 rfl (Nat.le_of_ble_eq_true rfl) dL_isReceived_238 ⟨(by show 2 + 8 * pq + 2 ≤ 98; omega), (by show 12 + 48 * pq + 12 ≤ 588; omega)⟩ (fun e_ A_ J_ hz => by
                rcases hz with ⟨he_, hA_, hJ_, hf0_⟩
                · omega) (fun v_ A238 J238 H locs hp hG => W.widen (k := 2 + 8 * pq + 2) (n := 12 + 48 * pq + 12) (by omega) (by omega) ?_)
              obtain ⟨iq_238, rfl, rfl, rfl, hiq_238⟩ := hp
              refine W.eq (g2 := F0 mM 241 ls [.int (zI (G 41 iq_238))]) rfl ?_
              obtain rfl : pq = iq_238 := (by omega)
              refine lv_istore (lv' := [(10, .int (zI (G 41 pq))), (0, .ref (ad 0)), (1, .ref (ad 28)), (2, .ref (ad 30)), (3, .ref (ad 31)), (4, .int (zI nu)), (5, .int (nI noq)), (6, .int (nI 1)), (7, .int (nI pq)), (8, .int (zI (100 * G 33 pq + G 34 pq))), (9, .int (zI dq))]) hx hb dL_isReceived_241 hl (by decide) rfl (fun ls hl => ?_)
              refine lv_aload_n hx hb dL_isReceived_243 rfl (lv_at hl 1 rfl) ?_
              refine lv_iconst (v := nI 1) hx hb dL_isReceived_244 (by decide) ?_
              refine lv_iload hx hb dL_isReceived_245 (lv_at hl 8 rfl) ?_
              refine gN_callT (As := [.ref (ad 0), .int (nI 1), .int (nI pq)]) (rest := []) ⟨hx, hb, hml, hown, hts⟩ hE hG (cL_asks_timeC l D cy base ad n (gu A 31 2 (zI fq)) J G pq (by first | assumption | omega) (hC.of (fun k hk => gu_ne _ _ _ (by omega))) (by first | assumption | omega)) (vx_cwSW 3 hts gL_isReceived_L_asks rfl rfl rfl (by decide +kernel) ⟨Nat.le_of_ble_eq_true rfl, Nat.le_of_ble_eq_true rfl⟩) rfl hl.1 rfl (Nat.le_of_ble_eq_true rfl) dL_isReceived_247 ⟨(by show 2 + 8 * pq + 4 ≤ 98; omega), (by show 12 + 48 * pq + 24 ≤ 588; omega)⟩ (fun _ _ _ hz => hz) (fun v_ A247 J247 H locs hp hG => W.widen (k := 2 + 8 * pq + 4) (n := 12 + 48 * pq + 24) (by omega) (by omega) ?_)
              obtain ⟨rfl, rfl, rfl⟩ := hp
              refine W.eq (g2 := F0 mM 250 ls [.int (zI (if G 41 pq = 0 then -5000000 else G 40 pq))]) rfl ?_
              have hdrp := hdr pq
              obtain ⟨tq, htq⟩ : ∃ x : Int, (if G 41 pq = 0 then -5000000 else G 40 pq) = x := ⟨_, rfl⟩
              have htqr : -5000000 ≤ tq ∧ tq ≤ 1000000000 := by rw [← htq]; split <;> omega
              refine g_top (y := zI tq) (by rw [htq]) ?_
              refine lv_istore (lv' := [(11, .int (zI tq)), (10, .int (zI (G 41 pq))), (0, .ref (ad 0)), (1, .ref (ad 28)), (2, .ref (ad 30)), (3, .ref (ad 31)), (4, .int (zI nu)), (5, .int (nI noq)), (6, .int (nI 1)), (7, .int (nI pq)), (8, .int (zI (100 * G 33 pq + G 34 pq))), (9, .int (zI dq))]) hx hb dL_isReceived_250 hl (by decide) rfl (fun ls hl => ?_)
              refine lv_aload_n hx hb dL_isReceived_252 rfl (lv_at hl 2 rfl) ?_
              refine lv_iconst (v := nI 0) hx hb dL_isReceived_253 (by decide) ?_
              refine lv_iload hx hb dL_isReceived_254 (lv_at hl 9 rfl) ?_
              refine gN_callT (As := [.ref (ad 0), .int (nI 0), .int (nI pq)]) (rest := []) ⟨hx, hb, hml, hown, hts⟩ hE hG (cL_asks_valueC l D cy base ad n (gu A 31 2 (zI fq)) J G pq (by first | assumption | omega) (hC.of (fun k hk => gu_ne _ _ _ (by omega))) (by first | assumption | omega)) (vx_cwSW 3 hts gL_isReceived_L_asks rfl rfl rfl (by decide +kernel) ⟨Nat.le_of_ble_eq_true rfl, Nat.le_of_ble_eq_true rfl⟩) rfl hl.1 rfl (Nat.le_of_ble_eq_true rfl) dL_isReceived_256 ⟨(by show 2 + 8 * pq + 6 ≤ 98; omega), (by show 12 + 48 * pq + 36 ≤ 588; omega)⟩ (fun _ _ _ hz => hz) (fun v_ A256 J256 H locs hp hG => W.widen (k := 2 + 8 * pq + 6) (n := 12 + 48 * pq + 36) (by omega) (by omega) ?_)
              obtain ⟨rfl, rfl, rfl⟩ := hp
              refine W.eq (g2 := F0 mM 259 ls [.int (zI (if G 41 pq = 0 then -5000000 else G 39 pq))]) rfl ?_
              obtain ⟨vq, hvq⟩ : ∃ x : Int, (if G 41 pq = 0 then -5000000 else G 39 pq) = x := ⟨_, rfl⟩
              have hvqr : -5000000 ≤ vq ∧ vq ≤ 1000000000 := by rw [← hvq]; split <;> omega
              refine g_top (y := zI vq) (by rw [hvq]) ?_
              refine lv_istore (lv' := [(12, .int (zI vq)), (11, .int (zI tq)), (10, .int (zI (G 41 pq))), (0, .ref (ad 0)), (1, .ref (ad 28)), (2, .ref (ad 30)), (3, .ref (ad 31)), (4, .int (zI nu)), (5, .int (nI noq)), (6, .int (nI 1)), (7, .int (nI pq)), (8, .int (zI (100 * G 33 pq + G 34 pq))), (9, .int (zI dq))]) hx hb dL_isReceived_259 hl (by decide) rfl (fun ls hl => ?_)
              refine lv_iload hx hb dL_isReceived_261 (lv_at hl 2 rfl) ?_
              refine lv_aload_n hx hb dL_isReceived_263 rfl (lv_at hl 3 rfl) ?_
              refine lv_iload hx hb dL_isReceived_264 (lv_at hl 10 rfl) ?_
              refine gN_callV (As := [.int (nI pq)]) (rest := [.int (zI (G 41 pq))]) (r := (RX9, TX9, 6)) ⟨hx, hb, hml, hown, hts⟩ hE hG (cX9_missingC l D cy base ad n (gu A 31 2 (zI fq)) J G n ((pq : Nat) : Int) (by first | assumption | omega) (by first | assumption | omega) (hC.of (fun k hk => gu_ne _ _ _ (by omega))) (by first | assumption | omega)) (cwV 1 hts gL_isReceived_X9_missing rfl rfl rfl (by decide +kernel) ⟨Nat.le_of_ble_eq_true rfl, Nat.le_of_ble_eq_true rfl⟩) (by omega) rfl rfl rfl hl.1 rfl (Nat.le_of_ble_eq_true rfl) dL_isReceived_266 ⟨(by show 2 + 8 * pq + 7 ≤ 98; omega), (by show 12 + 48 * pq + 42 ≤ 588; omega)⟩ (fun e_ A_ J_ hz => by
                rcases hz with ⟨he_, hA_, hJ_, hf0_⟩
                · omega) (fun v_ A266 J266 H locs hp hG => W.widen (k := 2 + 8 * pq + 7) (n := 12 + 48 * pq + 42) (by omega) (by omega) ?_)
              obtain ⟨iq_266, rfl, rfl, rfl, hiq_266⟩ := hp
              refine W.eq (g2 := F0 mM 269 ls [.int (zI (G 42 iq_266)), .int (zI (G 41 pq))]) rfl ?_
              obtain rfl : pq = iq_266 := (by omega)
              refine lv_iadd hx hb dL_isReceived_269 ?_
              refine g_top (y := zI ((G 41 pq) + (G 42 pq))) (zI_add _ _) ?_
              refine lv_iload hx hb dL_isReceived_270 (lv_at hl 12 rfl) ?_
              refine lv_icmp_ne (tgt := 343) hx hb dL_isReceived_272 (by decide) (fun c272 => ?_) (fun c272 => ?_)
              · skip
                have c272 : ¬ (((G 41 pq) + (G 42 pq)) = dq) := fun z9 => c272 ((cmp_eq (zI_toInt (by omega) (by omega)) (zI_toInt (by omega) (by omega))).mpr z9)
                exact absurd hdq.symm c272
              · skip
                have c272 : ((G 41 pq) + (G 42 pq)) = dq := (cmp_eq (zI_toInt (by omega) (by omega)) (zI_toInt (by omega) (by omega))).mp c272
                refine lv_iload hx hb dL_isReceived_275 (lv_at hl 2 rfl) ?_
                refine lv_if_lt (tgt := 343) hx hb dL_isReceived_277 (by decide) (fun c277 => ?_) (fun c277 => ?_)
                · skip
                  have c277 : (zI (G 41 pq)) < nI 0 := c277
                  have c277 : (G 41 pq) < ((0 : Nat) : Int) := (cmp_lt (zI_toInt (by omega) (by omega)) (nI_toInt (by omega))).mp c277
                  exfalso; omega
                · skip
                  have c277 : ¬ ((zI (G 41 pq)) < nI 0) := c277
                  have c277 : ¬ ((G 41 pq) < ((0 : Nat) : Int)) := fun z9 => c277 ((cmp_lt (zI_toInt (by omega) (by omega)) (nI_toInt (by omega))).mpr z9)
                  refine lv_aload_n hx hb dL_isReceived_280 rfl (lv_at hl 3 rfl) ?_
                  refine lv_iload hx hb dL_isReceived_281 (lv_at hl 10 rfl) ?_
                  refine gN_callV (As := [.int (nI pq)]) (rest := []) (r := (RX9, TX9, 6)) ⟨hx, hb, hml, hown, hts⟩ hE hG (cX9_missingC l D cy base ad n (gu A 31 2 (zI fq)) J G n ((pq : Nat) : Int) (by first | assumption | omega) (by first | assumption | omega) (hC.of (fun k hk => gu_ne _ _ _ (by omega))) (by first | assumption | omega)) (cwV 1 hts gL_isReceived_X9_missing rfl rfl rfl (by decide +kernel) ⟨Nat.le_of_ble_eq_true rfl, Nat.le_of_ble_eq_true rfl⟩) (by omega) rfl rfl rfl hl.1 rfl (Nat.le_of_ble_eq_true rfl) dL_isReceived_283 ⟨(by show 2 + 8 * pq + 8 ≤ 98; omega), (by show 12 + 48 * pq + 48 ≤ 588; omega)⟩ (fun e_ A_ J_ hz => by
                    rcases hz with ⟨he_, hA_, hJ_, hf0_⟩
                    · omega) (fun v_ A283 J283 H locs hp hG => W.widen (k := 2 + 8 * pq + 8) (n := 12 + 48 * pq + 48) (by omega) (by omega) ?_)
                  obtain ⟨iq_283, rfl, rfl, rfl, hiq_283⟩ := hp
                  refine W.eq (g2 := F0 mM 286 ls [.int (zI (G 42 iq_283))]) rfl ?_
                  obtain rfl : pq = iq_283 := (by omega)
                  refine lv_if_lt (tgt := 343) hx hb dL_isReceived_286 (by decide) (fun c286 => ?_) (fun c286 => ?_)
                  · skip
                    have c286 : (zI (G 42 pq)) < nI 0 := c286
                    have c286 : (G 42 pq) < ((0 : Nat) : Int) := (cmp_lt (zI_toInt (by omega) (by omega)) (nI_toInt (by omega))).mp c286
                    exfalso; omega
                  · skip
                    have c286 : ¬ ((zI (G 42 pq)) < nI 0) := c286
                    have c286 : ¬ ((G 42 pq) < ((0 : Nat) : Int)) := fun z9 => c286 ((cmp_lt (zI_toInt (by omega) (by omega)) (nI_toInt (by omega))).mpr z9)
                    refine lv_iload hx hb dL_isReceived_289 (lv_at hl 2 rfl) ?_
                    refine lv_if_ne (tgt := 298) hx hb dL_isReceived_291 (by decide) (fun c291 => ?_) (fun c291 => ?_)
                    · skip
                      have c291 : ¬ ((zI (G 41 pq)) = nI 0) := c291
                      have c291 : ¬ ((G 41 pq) = ((0 : Nat) : Int)) := fun z9 => c291 ((cmp_eq (zI_toInt (by omega) (by omega)) (nI_toInt (by omega))).mpr z9)
                      have c291 : ¬ G 41 pq = 0 := c291
                      rw [if_neg c291] at htq
                      rw [if_neg c291] at hvq
                      refine lv_iconst (v := nI 0) hx hb dL_isReceived_298 (by decide) ?_
                      refine lv_iload hx hb dL_isReceived_299 (lv_at hl 1 rfl) ?_
                      refine lv_ldc (v := -5000000) hx hb hown (hts (.constant RL 31 (-5000000)) (List.mem_of_getElem? (i := 1) rfl)) dL_isReceived_301 ?_
                      refine g_top (y := zI (-5000000)) (by decide) ?_
                      refine lv_icmp_ne (tgt := 310) hx hb dL_isReceived_303 (by decide) (fun c303 => ?_) (fun c303 => ?_)
                      · skip
                        have c303 : ¬ (tq = (-5000000)) := fun z9 => c303 ((cmp_eq (zI_toInt (by omega) (by omega)) (zI_toInt (by omega) (by omega))).mpr z9)
                        refine lv_iconst (v := nI 0) hx hb dL_isReceived_310 (by decide) ?_
                        refine lv_icmp_ne (tgt := 343) hx hb dL_isReceived_311 (by decide) (fun c311 => ?_) (fun c311 => ?_)
                        · skip
                          exact absurd c311 (by decide)
                        · skip
                          refine lv_iload hx hb dL_isReceived_314 (lv_at hl 2 rfl) ?_
                          refine lv_if_ne (tgt := 323) hx hb dL_isReceived_316 (by decide) (fun c316 => ?_) (fun c316 => ?_)
                          · skip
                            have c316 : ¬ ((zI (G 41 pq)) = nI 0) := c316
                            have c316 : ¬ ((G 41 pq) = ((0 : Nat) : Int)) := fun z9 => c316 ((cmp_eq (zI_toInt (by omega) (by omega)) (nI_toInt (by omega))).mpr z9)
                            refine lv_iconst (v := nI 0) hx hb dL_isReceived_323 (by decide) ?_
                            refine lv_iload hx hb dL_isReceived_324 (lv_at hl 0 rfl) ?_
                            refine lv_ldc (v := -5000000) hx hb hown (hts (.constant RL 31 (-5000000)) (List.mem_of_getElem? (i := 1) rfl)) dL_isReceived_326 ?_
                            refine g_top (y := zI (-5000000)) (by decide) ?_
                            refine lv_icmp_ne (tgt := 335) hx hb dL_isReceived_328 (by decide) (fun c328 => ?_) (fun c328 => ?_)
                            · skip
                              have c328 : ¬ (vq = (-5000000)) := fun z9 => c328 ((cmp_eq (zI_toInt (by omega) (by omega)) (zI_toInt (by omega) (by omega))).mpr z9)
                              refine lv_iconst (v := nI 0) hx hb dL_isReceived_335 (by decide) ?_
                              refine lv_icmp_ne (tgt := 343) hx hb dL_isReceived_336 (by decide) (fun c336 => ?_) (fun c336 => ?_)
                              · skip
                                exact absurd c336 (by decide)
                              · skip
                                refine lv_iconst (v := nI 1) hx hb dL_isReceived_339 (by decide) ?_
                                refine lv_goto (tgt := 344) hx hb dL_isReceived_340 (by decide) ?_
                                refine lv_istore (lv' := [(6, .int (nI 1)), (12, .int (zI vq)), (11, .int (zI tq)), (10, .int (zI (G 41 pq))), (0, .ref (ad 0)), (1, .ref (ad 28)), (2, .ref (ad 30)), (3, .ref (ad 31)), (4, .int (zI nu)), (5, .int (nI noq)), (7, .int (nI pq)), (8, .int (zI (100 * G 33 pq + G 34 pq))), (9, .int (zI dq))]) hx hb dL_isReceived_344 hl (by decide) rfl (fun ls hl => ?_)
                                refine lv_iload hx hb dL_isReceived_346 (lv_at hl 3 rfl) ?_
                                refine lv_if_le (tgt := 467) hx hb dL_isReceived_348 (by decide) (fun c348 => ?_) (fun c348 => ?_)
                                · skip
                                  have c348 : (zI (G 41 pq)) ≤ nI 0 := c348
                                  have c348 : (G 41 pq) ≤ ((0 : Nat) : Int) := (cmp_le (zI_toInt (by omega) (by omega)) (nI_toInt (by omega))).mp c348
                                  exfalso; omega
                                · skip
                                  have c348 : ¬ ((zI (G 41 pq)) ≤ nI 0) := c348
                                  have c348 : ¬ ((G 41 pq) ≤ ((0 : Nat) : Int)) := fun z9 => c348 ((cmp_le (zI_toInt (by omega) (by omega)) (nI_toInt (by omega))).mpr z9)
                                  obtain ⟨hlo, hhi, fI, hf1, hf2, hf3, hf4⟩ := hRp.2 c291
                                  have h21 : G 28 21 ≠ 0 := fun z9 => c291 (by have := hsa pq; omega)
                                  obtain ⟨hno1, -, hno2, hno3⟩ := hno.resolve_left (fun z9 => h21 z9.2.1)
                                  have hfst := (hR.2.1 h21).1
                                  skip
                                  refine lv_iload hx hb dL_isReceived_351 (lv_at hl 2 rfl) ?_
                                  refine lv_bipush (v := nI 64) hx hb dL_isReceived_353 (by decide) ?_
                                  refine lv_irem hx hb dL_isReceived_355 (by decide) ?_
                                  refine g_top (y := zI (16 + G 34 pq + 24 * (G 32 pq - 1))) ((by rw [← zI_n, zI_rem (by omega) (by omega) (by decide) (by decide)]; congr 1; omega)) ?_
                                  refine lv_bipush (v := nI 16) hx hb dL_isReceived_356 (by decide) ?_
                                  refine lv_isub hx hb dL_isReceived_358 ?_
                                  refine g_top (y := zI ((16 + G 34 pq + 24 * (G 32 pq - 1)) - 16)) (zI_sub_in _ _) ?_
                                  have LLq377 : ∀  (zE : Int) (hzE : zE = 24 * (G 32 pq - 1)) (H : Heap) (locs : List Loc) (ls : Array Slot), gH D base sM ad (33 + 2 * n) (gw cy ad n (gu A 31 2 (zI fq)) J) H locs → lv_has ls 14 [(6, .int (nI 1)), (12, .int (zI vq)), (11, .int (zI tq)), (10, .int (zI (G 41 pq))), (0, .ref (ad 0)), (1, .ref (ad 28)), (2, .ref (ad 30)), (3, .ref (ad 31)), (4, .int (zI nu)), (5, .int (nI noq)), (7, .int (nI pq)), (8, .int (zI (100 * G 33 pq + G 34 pq))), (9, .int (zI dq))] → W pM l eM ({ frames := 9, cells := 98, slots := 588, locals := 221 } : Room) sM mM aM bM methM cM H locs (2 + 8 * pq + 8) (12 + 48 * pq + 48) (vx_MQ bM (gPost D cy base ad n (PL_isReceived ad A J G nq c2)) (gXC D cy base ad n (pxNo)) aM sM 98 588 (fun q => base ≤ q)) (F0 mM 377 ls [.int (zI zE), .int (zI ((16 + G 34 pq + 24 * (G 32 pq - 1)) - 16))]) := by
                                    intro zE hzE H locs ls hG hl
                                    refine lv_isub hx hb dL_isReceived_377 ?_
                                    refine g_top (y := zI (G 34 pq)) ((by rw [zI_sub]; congr 1; omega)) ?_
                                    refine lv_istore (lv' := [(13, .int (zI (G 34 pq))), (6, .int (nI 1)), (12, .int (zI vq)), (11, .int (zI tq)), (10, .int (zI (G 41 pq))), (0, .ref (ad 0)), (1, .ref (ad 28)), (2, .ref (ad 30)), (3, .ref (ad 31)), (4, .int (zI nu)), (5, .int (nI noq)), (7, .int (nI pq)), (8, .int (zI (100 * G 33 pq + G 34 pq))), (9, .int (zI dq))]) hx hb dL_isReceived_378 hl (by decide) rfl (fun ls hl => ?_)
                                    refine lv_iload hx hb dL_isReceived_380 (lv_at hl 1 rfl) ?_
                                    refine lv_if_eq (tgt := 464) hx hb dL_isReceived_382 (by decide) (fun c382 => ?_) (fun c382 => ?_)
                                    · skip
                                      exact absurd c382 (by decide)
                                    · skip
                                      refine lv_iload hx hb dL_isReceived_385 (lv_at hl 3 rfl) ?_
                                      refine lv_bipush (v := nI 64) hx hb dL_isReceived_387 (by decide) ?_
                                      refine lv_idiv hx hb dL_isReceived_389 (by decide) ?_
                                      refine g_top (y := zI fI) ((by rw [← zI_n, zI_div (by omega) (by omega) (by decide) (by decide)]; congr 1; omega)) ?_
                                      refine lv_aload_n hx hb dL_isReceived_390 rfl (lv_at hl 8 rfl) ?_
                                      refine lv_iconst (v := nI 2) hx hb dL_isReceived_391 (by decide) ?_
                                      refine g_iald hx hb hE hG (k := 31) (by omega) rfl 2 (rfl) (by omega) (by omega) dL_isReceived_392 ?_
                                      refine g_top (y := zI fq) (by first | rfl | (simp [gu_at]; done) | (rw [gu_at]; simp; omega)) ?_
                                      refine lv_icmp_lt (tgt := 464) hx hb dL_isReceived_393 (by decide) (fun c393 => ?_) (fun c393 => ?_)
                                      · skip
                                        have c393 : fI < fq := (cmp_lt (zI_toInt (by omega) (by omega)) (zI_toInt (by omega) (by omega))).mp c393
                                        exfalso; omega
                                      · skip
                                        have c393 : ¬ (fI < fq) := fun z9 => c393 ((cmp_lt (zI_toInt (by omega) (by omega)) (zI_toInt (by omega) (by omega))).mpr z9)
                                        refine lv_iload hx hb dL_isReceived_396 (lv_at hl 3 rfl) ?_
                                        refine lv_bipush (v := nI 64) hx hb dL_isReceived_398 (by decide) ?_
                                        refine lv_idiv hx hb dL_isReceived_400 (by decide) ?_
                                        refine g_top (y := zI fI) ((by rw [← zI_n, zI_div (by omega) (by omega) (by decide) (by decide)]; congr 1; omega)) ?_
                                        refine lv_iload hx hb dL_isReceived_401 (lv_at hl 9 rfl) ?_
                                        refine lv_icmp_gt (tgt := 464) hx hb dL_isReceived_403 (by decide) (fun c403 => ?_) (fun c403 => ?_)
                                        · skip
                                          have c403 : nu < fI := (cmp_lt (zI_toInt (by omega) (by omega)) (zI_toInt (by omega) (by omega))).mp c403
                                          exfalso; omega
                                        · skip
                                          have c403 : ¬ (nu < fI) := fun z9 => c403 ((cmp_lt (zI_toInt (by omega) (by omega)) (zI_toInt (by omega) (by omega))).mpr z9)
                                          refine lv_iload hx hb dL_isReceived_406 (lv_at hl 3 rfl) ?_
                                          refine lv_bipush (v := nI 64) hx hb dL_isReceived_408 (by decide) ?_
                                          refine lv_idiv hx hb dL_isReceived_410 (by decide) ?_
                                          refine g_top (y := zI fI) ((by rw [← zI_n, zI_div (by omega) (by omega) (by decide) (by decide)]; congr 1; omega)) ?_
                                          refine lv_aload_n hx hb dL_isReceived_411 rfl (lv_at hl 6 rfl) ?_
                                          refine lv_iconst (v := nI 4) hx hb dL_isReceived_412 (by decide) ?_
                                          refine lv_iload hx hb dL_isReceived_413 (lv_at hl 11 rfl) ?_
                                          refine lv_imul hx hb dL_isReceived_415 ?_
                                          refine g_top (y := nI (4 * pq)) (by rw [pk_mul]) ?_
                                          refine lv_iconst (v := nI 2) hx hb dL_isReceived_416 (by decide) ?_
                                          refine lv_iadd hx hb dL_isReceived_417 ?_
                                          refine g_top (y := nI (4 * pq + 2)) (by rw [nI_add]) ?_
                                          refine g_iald hx hb hE hG (k := 28) (by omega) rfl (4 * pq + 2) (rfl) (by omega) (by omega) dL_isReceived_418 ?_
                                          refine g_top (y := A 28 (4 * pq + 2)) (by first | rfl | (simp [gu_at]; done) | (rw [gu_at]; simp; omega)) ?_
                                          refine g_top (y := zI (G 31 pq)) ((hgr pq (by omega)).2.2.1) ?_
                                          refine lv_irem hx hb dL_isReceived_419 (zI_ne0 (by omega) (by omega)) ?_
                                          refine g_top (y := zI (G 33 pq)) ((by rw [zI_rem (by omega) (by omega) (by omega) (by omega), hf3])) ?_
                                          refine lv_iload hx hb dL_isReceived_420 (lv_at hl 12 rfl) ?_
                                          refine lv_bipush (v := nI 100) hx hb dL_isReceived_422 (by decide) ?_
                                          refine lv_idiv hx hb dL_isReceived_424 (by decide) ?_
                                          refine g_top (y := zI (G 33 pq)) ((by rw [← zI_n, zI_div (by omega) (by omega) (by decide) (by decide)]; congr 1; omega)) ?_
                                          refine lv_icmp_ne (tgt := 464) hx hb dL_isReceived_425 (by decide) (fun c425 => ?_) (fun c425 => ?_)
                                          · skip
                                            have c425 : ¬ ((G 33 pq) = (G 33 pq)) := fun z9 => c425 ((cmp_eq (zI_toInt (by omega) (by omega)) (zI_toInt (by omega) (by omega))).mpr z9)
                                            exact absurd rfl c425
                                          · skip
                                            have c425 : (G 33 pq) = (G 33 pq) := (cmp_eq (zI_toInt (by omega) (by omega)) (zI_toInt (by omega) (by omega))).mp c425
                                            refine lv_iload hx hb dL_isReceived_428 (lv_at hl 0 rfl) ?_
                                            refine lv_iload hx hb dL_isReceived_430 (lv_at hl 12 rfl) ?_
                                            refine lv_bipush (v := nI 100) hx hb dL_isReceived_432 (by decide) ?_
                                            refine lv_irem hx hb dL_isReceived_434 (by decide) ?_
                                            refine g_top (y := zI (G 34 pq)) ((by rw [← zI_n, zI_rem (by omega) (by omega) (by decide) (by decide)]; congr 1; omega)) ?_
                                            refine lv_icmp_ne (tgt := 464) hx hb dL_isReceived_435 (by decide) (fun c435 => ?_) (fun c435 => ?_)
                                            · skip
                                              have c435 : ¬ ((G 34 pq) = (G 34 pq)) := fun z9 => c435 ((cmp_eq (zI_toInt (by omega) (by omega)) (zI_toInt (by omega) (by omega))).mpr z9)
                                              exact absurd rfl c435
                                            · skip
                                              have c435 : (G 34 pq) = (G 34 pq) := (cmp_eq (zI_toInt (by omega) (by omega)) (zI_toInt (by omega) (by omega))).mp c435
                                              refine lv_iload hx hb dL_isReceived_438 (lv_at hl 2 rfl) ?_
                                              refine lv_aload_n hx hb dL_isReceived_440 rfl (lv_at hl 6 rfl) ?_
                                              refine lv_iload hx hb dL_isReceived_441 (lv_at hl 11 rfl) ?_
                                              refine g_callS (As := [.ref (ad 28), .int (nI pq)]) (rest := [.int (zI vq)]) ⟨hx, hb, hml, hown, hts⟩ hE hG (cL_leastC l D cy base ad n (gu A 31 2 (zI fq)) J pq (G 29 pq) (G 30 pq) (by first | assumption | omega) (by rw [gu_ne _ _ _ (by decide)]; exact (hgr pq (by omega)).1) (by rw [gu_ne _ _ _ (by decide)]; exact (hgr pq (by omega)).2.1) (by first | assumption | omega) (by first | assumption | omega)) (va_cwS 2 hts gL_isReceived_L_least rfl rfl rfl (by decide +kernel) ⟨Nat.le_of_ble_eq_true rfl, Nat.le_of_ble_eq_true rfl⟩) rfl hl.1 rfl (Nat.le_of_ble_eq_true rfl) dL_isReceived_443 ⟨(by show 2 + 8 * pq + 8 ≤ 98; omega), (by show 12 + 48 * pq + 48 ≤ 588; omega)⟩ (fun v_ A443 J443 H locs hp hG => ?_)
                                              obtain ⟨rfl, rfl, rfl⟩ := hp
                                              refine W.eq (g2 := F0 mM 446 ls [.int (zI (gLo (G 30 pq) (G 29 pq))), .int (zI vq)]) rfl ?_
                                              refine lv_icmp_lt (tgt := 464) hx hb dL_isReceived_446 (by decide) (fun c446 => ?_) (fun c446 => ?_)
                                              · skip
                                                have c446 : vq < (gLo (G 30 pq) (G 29 pq)) := (cmp_lt (zI_toInt (by omega) (by omega)) (zI_toInt (by omega) (by omega))).mp c446
                                                exfalso; omega
                                              · skip
                                                have c446 : ¬ (vq < (gLo (G 30 pq) (G 29 pq))) := fun z9 => c446 ((cmp_lt (zI_toInt (by omega) (by omega)) (zI_toInt (by omega) (by omega))).mpr z9)
                                                refine lv_iload hx hb dL_isReceived_449 (lv_at hl 2 rfl) ?_
                                                refine lv_aload_n hx hb dL_isReceived_451 rfl (lv_at hl 6 rfl) ?_
                                                refine lv_iload hx hb dL_isReceived_452 (lv_at hl 11 rfl) ?_
                                                refine g_callS (As := [.ref (ad 28), .int (nI pq)]) (rest := [.int (zI vq)]) ⟨hx, hb, hml, hown, hts⟩ hE hG (cL_mostC l D cy base ad n (gu A 31 2 (zI fq)) J pq (G 29 pq) (G 30 pq) (by first | assumption | omega) (by rw [gu_ne _ _ _ (by decide)]; exact (hgr pq (by omega)).1) (by rw [gu_ne _ _ _ (by decide)]; exact (hgr pq (by omega)).2.1) (by first | assumption | omega) (by first | assumption | omega)) (va_cwS 2 hts gL_isReceived_L_most rfl rfl rfl (by decide +kernel) ⟨Nat.le_of_ble_eq_true rfl, Nat.le_of_ble_eq_true rfl⟩) rfl hl.1 rfl (Nat.le_of_ble_eq_true rfl) dL_isReceived_454 ⟨(by show 2 + 8 * pq + 8 ≤ 98; omega), (by show 12 + 48 * pq + 48 ≤ 588; omega)⟩ (fun v_ A454 J454 H locs hp hG => ?_)
                                                obtain ⟨rfl, rfl, rfl⟩ := hp
                                                refine W.eq (g2 := F0 mM 457 ls [.int (zI (gHi (G 30 pq) (G 29 pq))), .int (zI vq)]) rfl ?_
                                                refine lv_icmp_gt (tgt := 464) hx hb dL_isReceived_457 (by decide) (fun c457 => ?_) (fun c457 => ?_)
                                                · skip
                                                  have c457 : (gHi (G 30 pq) (G 29 pq)) < vq := (cmp_lt (zI_toInt (by omega) (by omega)) (zI_toInt (by omega) (by omega))).mp c457
                                                  exfalso; omega
                                                · skip
                                                  have c457 : ¬ ((gHi (G 30 pq) (G 29 pq)) < vq) := fun z9 => c457 ((cmp_lt (zI_toInt (by omega) (by omega)) (zI_toInt (by omega) (by omega))).mpr z9)
                                                  refine lv_iconst (v := nI 1) hx hb dL_isReceived_460 (by decide) ?_
                                                  refine lv_goto (tgt := 465) hx hb dL_isReceived_461 (by decide) ?_
                                                  refine lv_istore (lv' := [(6, .int (nI 1)), (13, .int (zI (G 34 pq))), (12, .int (zI vq)), (11, .int (zI tq)), (10, .int (zI (G 41 pq))), (0, .ref (ad 0)), (1, .ref (ad 28)), (2, .ref (ad 30)), (3, .ref (ad 31)), (4, .int (zI nu)), (5, .int (nI noq)), (7, .int (nI pq)), (8, .int (zI (100 * G 33 pq + G 34 pq))), (9, .int (zI dq))]) hx hb dL_isReceived_465 hl (by decide) rfl (fun ls hl => ?_)
                                                  refine lv_iinc (v := nI (pq + 1)) (lv' := [(7, .int (nI (pq + 1))), (6, .int (nI 1)), (13, .int (zI (G 34 pq))), (12, .int (zI vq)), (11, .int (zI tq)), (10, .int (zI (G 41 pq))), (0, .ref (ad 0)), (1, .ref (ad 28)), (2, .ref (ad 30)), (3, .ref (ad 31)), (4, .int (zI nu)), (5, .int (nI noq)), (8, .int (zI (100 * G 33 pq + G 34 pq))), (9, .int (zI dq))]) hx hb dL_isReceived_467 hl (k := 11) rfl (by rw [show (Int32.ofInt 1 : Int32) = nI 1 from rfl, nI_add]) (by decide) rfl (fun ls hl => ?_)
                                                  refine lv_goto (tgt := 151) hx hb dL_isReceived_470 (by decide) ?_
                                                  refine W.widen (k := 2 + 8 * (pq + 1)) (n := 12 + 48 * (pq + 1)) (by omega) (by omega) ?_
                                                  exact ihq151 (pq + 1) (by omega) (by omega) _ _ _ hG (lv_sub hl [6, 7, 8, 9, 10, 11, 1, 0] rfl)
                                  refine lv_aload_n hx hb dL_isReceived_359 rfl (lv_at hl 5 rfl) ?_
                                  refine lv_iconst (v := nI 4) hx hb dL_isReceived_360 (by decide) ?_
                                  refine lv_iload hx hb dL_isReceived_361 (lv_at hl 10 rfl) ?_
                                  refine lv_imul hx hb dL_isReceived_363 ?_
                                  refine g_top (y := nI (4 * pq)) (by rw [pk_mul]) ?_
                                  refine lv_iconst (v := nI 3) hx hb dL_isReceived_364 (by decide) ?_
                                  refine lv_iadd hx hb dL_isReceived_365 ?_
                                  refine g_top (y := nI (4 * pq + 3)) (by rw [nI_add]) ?_
                                  refine g_iald hx hb hE hG (k := 28) (by omega) rfl (4 * pq + 3) (rfl) (by omega) (by omega) dL_isReceived_366 ?_
                                  refine g_top (y := A 28 (4 * pq + 3)) (by first | rfl | (simp [gu_at]; done) | (rw [gu_at]; simp; omega)) ?_
                                  refine g_top (y := zI (G 32 pq)) ((hgr pq (by omega)).2.2.2) ?_
                                  refine lv_iconst (v := nI 2) hx hb dL_isReceived_367 (by decide) ?_
                                  refine lv_icmp_ne (tgt := 376) hx hb dL_isReceived_368 (by decide) (fun c368 => ?_) (fun c368 => ?_)
                                  · skip
                                    have c368 : ¬ ((G 32 pq) = ((2 : Nat) : Int)) := fun z9 => c368 ((cmp_eq (zI_toInt (by omega) (by omega)) (nI_toInt (by omega))).mpr z9)
                                    refine lv_iconst (v := nI 0) hx hb dL_isReceived_376 (by decide) ?_
                                    exact LLq377 0 (by omega) _ _ _ hG (lv_sub hl [0, 1, 2, 3, 4, 5, 6, 7, 8, 9, 10, 11, 12] rfl)
                                  · skip
                                    have c368 : (G 32 pq) = ((2 : Nat) : Int) := (cmp_eq (zI_toInt (by omega) (by omega)) (nI_toInt (by omega))).mp c368
                                    refine lv_bipush (v := nI 24) hx hb dL_isReceived_371 (by decide) ?_
                                    refine lv_goto (tgt := 377) hx hb dL_isReceived_373 (by decide) ?_
                                    exact LLq377 24 (by omega) _ _ _ hG (lv_sub hl [0, 1, 2, 3, 4, 5, 6, 7, 8, 9, 10, 11, 12] rfl)
                            · skip
                              have c328 : vq = (-5000000) := (cmp_eq (zI_toInt (by omega) (by omega)) (zI_toInt (by omega) (by omega))).mp c328
                              exfalso; omega
                          · skip
                            have c316 : (zI (G 41 pq)) = nI 0 := c316
                            have c316 : (G 41 pq) = ((0 : Nat) : Int) := (cmp_eq (zI_toInt (by omega) (by omega)) (nI_toInt (by omega))).mp c316
                            exact absurd c316 c291
                      · skip
                        have c303 : tq = (-5000000) := (cmp_eq (zI_toInt (by omega) (by omega)) (zI_toInt (by omega) (by omega))).mp c303
                        exfalso; omega
                    · skip
                      have c291 : (zI (G 41 pq)) = nI 0 := c291
                      have c291 : (G 41 pq) = ((0 : Nat) : Int) := (cmp_eq (zI_toInt (by omega) (by omega)) (nI_toInt (by omega))).mp c291
                      have c291 : G 41 pq = 0 := c291
                      rw [if_pos c291] at htq
                      rw [if_pos c291] at hvq
                      refine lv_iconst (v := nI 1) hx hb dL_isReceived_294 (by decide) ?_
                      refine lv_goto (tgt := 299) hx hb dL_isReceived_295 (by decide) ?_
                      refine lv_iload hx hb dL_isReceived_299 (lv_at hl 1 rfl) ?_
                      refine lv_ldc (v := -5000000) hx hb hown (hts (.constant RL 31 (-5000000)) (List.mem_of_getElem? (i := 1) rfl)) dL_isReceived_301 ?_
                      refine g_top (y := zI (-5000000)) (by decide) ?_
                      refine lv_icmp_ne (tgt := 310) hx hb dL_isReceived_303 (by decide) (fun c303 => ?_) (fun c303 => ?_)
                      · skip
                        have c303 : ¬ (tq = (-5000000)) := fun z9 => c303 ((cmp_eq (zI_toInt (by omega) (by omega)) (zI_toInt (by omega) (by omega))).mpr z9)
                        exact absurd htq.symm c303
                      · skip
                        have c303 : tq = (-5000000) := (cmp_eq (zI_toInt (by omega) (by omega)) (zI_toInt (by omega) (by omega))).mp c303
                        refine lv_iconst (v := nI 1) hx hb dL_isReceived_306 (by decide) ?_
                        refine lv_goto (tgt := 311) hx hb dL_isReceived_307 (by decide) ?_
                        refine lv_icmp_ne (tgt := 343) hx hb dL_isReceived_311 (by decide) (fun c311 => ?_) (fun c311 => ?_)
                        · skip
                          exact absurd c311 (by decide)
                        · skip
                          refine lv_iload hx hb dL_isReceived_314 (lv_at hl 2 rfl) ?_
                          refine lv_if_ne (tgt := 323) hx hb dL_isReceived_316 (by decide) (fun c316 => ?_) (fun c316 => ?_)
                          · skip
                            have c316 : ¬ ((zI (G 41 pq)) = nI 0) := c316
                            have c316 : ¬ ((G 41 pq) = ((0 : Nat) : Int)) := fun z9 => c316 ((cmp_eq (zI_toInt (by omega) (by omega)) (nI_toInt (by omega))).mpr z9)
                            exact absurd c291 c316
                          · skip
                            have c316 : (zI (G 41 pq)) = nI 0 := c316
                            have c316 : (G 41 pq) = ((0 : Nat) : Int) := (cmp_eq (zI_toInt (by omega) (by omega)) (nI_toInt (by omega))).mp c316
                            refine lv_iconst (v := nI 1) hx hb dL_isReceived_319 (by decide) ?_
                            refine lv_goto (tgt := 324) hx hb dL_isReceived_320 (by decide) ?_
                            refine lv_iload hx hb dL_isReceived_324 (lv_at hl 0 rfl) ?_
                            refine lv_ldc (v := -5000000) hx hb hown (hts (.constant RL 31 (-5000000)) (List.mem_of_getElem? (i := 1) rfl)) dL_isReceived_326 ?_
                            refine g_top (y := zI (-5000000)) (by decide) ?_
                            refine lv_icmp_ne (tgt := 335) hx hb dL_isReceived_328 (by decide) (fun c328 => ?_) (fun c328 => ?_)
                            · skip
                              have c328 : ¬ (vq = (-5000000)) := fun z9 => c328 ((cmp_eq (zI_toInt (by omega) (by omega)) (zI_toInt (by omega) (by omega))).mpr z9)
                              exact absurd hvq.symm c328
                            · skip
                              have c328 : vq = (-5000000) := (cmp_eq (zI_toInt (by omega) (by omega)) (zI_toInt (by omega) (by omega))).mp c328
                              refine lv_iconst (v := nI 1) hx hb dL_isReceived_331 (by decide) ?_
                              refine lv_goto (tgt := 336) hx hb dL_isReceived_332 (by decide) ?_
                              refine lv_icmp_ne (tgt := 343) hx hb dL_isReceived_336 (by decide) (fun c336 => ?_) (fun c336 => ?_)
                              · skip
                                exact absurd c336 (by decide)
                              · skip
                                refine lv_iconst (v := nI 1) hx hb dL_isReceived_339 (by decide) ?_
                                refine lv_goto (tgt := 344) hx hb dL_isReceived_340 (by decide) ?_
                                refine lv_istore (lv' := [(6, .int (nI 1)), (12, .int (zI vq)), (11, .int (zI tq)), (10, .int (zI (G 41 pq))), (0, .ref (ad 0)), (1, .ref (ad 28)), (2, .ref (ad 30)), (3, .ref (ad 31)), (4, .int (zI nu)), (5, .int (nI noq)), (7, .int (nI pq)), (8, .int (zI (100 * G 33 pq + G 34 pq))), (9, .int (zI dq))]) hx hb dL_isReceived_344 hl (by decide) rfl (fun ls hl => ?_)
                                refine lv_iload hx hb dL_isReceived_346 (lv_at hl 3 rfl) ?_
                                refine lv_if_le (tgt := 467) hx hb dL_isReceived_348 (by decide) (fun c348 => ?_) (fun c348 => ?_)
                                · skip
                                  have c348 : (zI (G 41 pq)) ≤ nI 0 := c348
                                  have c348 : (G 41 pq) ≤ ((0 : Nat) : Int) := (cmp_le (zI_toInt (by omega) (by omega)) (nI_toInt (by omega))).mp c348
                                  refine lv_iinc (v := nI (pq + 1)) (lv' := [(7, .int (nI (pq + 1))), (6, .int (nI 1)), (12, .int (zI vq)), (11, .int (zI tq)), (10, .int (zI (G 41 pq))), (0, .ref (ad 0)), (1, .ref (ad 28)), (2, .ref (ad 30)), (3, .ref (ad 31)), (4, .int (zI nu)), (5, .int (nI noq)), (8, .int (zI (100 * G 33 pq + G 34 pq))), (9, .int (zI dq))]) hx hb dL_isReceived_467 hl (k := 10) rfl (by rw [show (Int32.ofInt 1 : Int32) = nI 1 from rfl, nI_add]) (by decide) rfl (fun ls hl => ?_)
                                  refine lv_goto (tgt := 151) hx hb dL_isReceived_470 (by decide) ?_
                                  refine W.widen (k := 2 + 8 * (pq + 1)) (n := 12 + 48 * (pq + 1)) (by omega) (by omega) ?_
                                  exact ihq151 (pq + 1) (by omega) (by omega) _ _ _ hG (lv_sub hl [5, 6, 7, 8, 9, 10, 1, 0] rfl)
                                · skip
                                  have c348 : ¬ ((zI (G 41 pq)) ≤ nI 0) := c348
                                  have c348 : ¬ ((G 41 pq) ≤ ((0 : Nat) : Int)) := fun z9 => c348 ((cmp_le (zI_toInt (by omega) (by omega)) (nI_toInt (by omega))).mpr z9)
                                  exfalso; omega
            refine lv_iconst (v := nI 0) hx hb dL_isReceived_173 (by decide) ?_
            refine lv_istore (lv' := [(9, .int (nI 0)), (8, .int (zI (100 * G 33 pq + G 34 pq))), (0, .ref (ad 0)), (1, .ref (ad 28)), (2, .ref (ad 30)), (3, .ref (ad 31)), (4, .int (zI nu)), (5, .int (nI noq)), (6, .int (nI 1)), (7, .int (nI pq))]) hx hb dL_isReceived_174 hl (by decide) rfl (fun ls hl => ?_)
            refine lv_aload_n hx hb dL_isReceived_176 rfl (lv_at hl 5 rfl) ?_
            refine lv_iconst (v := nI 2) hx hb dL_isReceived_177 (by decide) ?_
            refine g_iald hx hb hE hG (k := 31) (by omega) rfl 2 (rfl) (by omega) (by omega) dL_isReceived_178 ?_
            refine g_top (y := zI fq) (by first | rfl | (simp [gu_at]; done) | (rw [gu_at]; simp; omega)) ?_
            refine lv_istore (lv' := [(10, .int (zI fq)), (9, .int (nI 0)), (8, .int (zI (100 * G 33 pq + G 34 pq))), (0, .ref (ad 0)), (1, .ref (ad 28)), (2, .ref (ad 30)), (3, .ref (ad 31)), (4, .int (zI nu)), (5, .int (nI noq)), (6, .int (nI 1)), (7, .int (nI pq))]) hx hb dL_isReceived_179 hl (by decide) rfl (fun ls hl => ?_)
            have LLq181 : ∀ (fuel : Nat) (kD dq : Int) (mN : Nat) (hk9 : kD = fq + (mN : Int)) (hd9 : dq = mDue (G 31 pq) (G 33 pq) (G 32 pq) fq mN) (hk8 : LKq noq mN kD nu) (hk7 : 0 ≤ kD ∨ noq = 1) (hk6 : -1 ≤ kD ∧ kD ≤ 3000001) (_ : (nu + 1 - kD).toNat < fuel) (H : Heap) (locs : List Loc) (ls : Array Slot), gH D base sM ad (33 + 2 * n) (gw cy ad n (gu A 31 2 (zI fq)) J) H locs → lv_has ls 14 [(0, .ref (ad 0)), (1, .ref (ad 28)), (2, .ref (ad 30)), (3, .ref (ad 31)), (4, .int (zI nu)), (5, .int (nI noq)), (6, .int (nI 1)), (7, .int (nI pq)), (8, .int (zI (100 * G 33 pq + G 34 pq))), (9, .int (zI dq)), (10, .int (zI kD))] → W pM l eM ({ frames := 9, cells := 98, slots := 588, locals := 221 } : Room) sM mM aM bM methM cM H locs (2 + 8 * pq + 1) (12 + 48 * pq + 6) (vx_MQ bM (gPost D cy base ad n (PL_isReceived ad A J G nq c2)) (gXC D cy base ad n (pxNo)) aM sM 98 588 (fun q => base ≤ q)) (F0 mM 181 ls []) := by
              intro fuel
              induction fuel with
              | zero => intro kD dq mN hk9 hd9 hk8 hk7 hk6 hms H locs ls hG hl; exact absurd hms (Nat.not_lt_zero _)
              | succ fuel ihq181 =>
                intro kD dq mN hk9 hd9 hk8 hk7 hk6 hms H locs ls hG hl
                refine lv_iload hx hb dL_isReceived_181 (lv_at hl 10 rfl) ?_
                refine lv_iload hx hb dL_isReceived_183 (lv_at hl 4 rfl) ?_
                refine lv_icmp_gt (tgt := 235) hx hb dL_isReceived_185 (by decide) (fun c185 => ?_) (fun c185 => ?_)
                · skip
                  have c185 : nu < kD := (cmp_lt (zI_toInt (by omega) (by omega)) (zI_toInt (by omega) (by omega))).mp c185
                  have hdx : dq = G 41 pq + G 42 pq := by
                    rcases hno with ⟨a, b, c, e⟩ | ⟨a, b, c, e⟩
                    · have := hk8.1 a; rw [hd9, this]; have h7 := hR.1 b; show (0 : Int) = _; omega
                    · rw [hd9, hRp.1 b, c, show mN = (G 28 20 - mFst G + 1).toNat from by have := hk8.2 a; omega]
                  exact LLq235 dq hdx _ _ _ hG (lv_sub hl [0, 1, 2, 3, 4, 5, 6, 7, 8, 9] rfl)
                · skip
                  have c185 : ¬ (nu < kD) := fun z9 => c185 ((cmp_lt (zI_toInt (by omega) (by omega)) (zI_toInt (by omega) (by omega))).mpr z9)
                  refine lv_iload hx hb dL_isReceived_188 (lv_at hl 5 rfl) ?_
                  refine lv_if_ne (tgt := 235) hx hb dL_isReceived_190 (by decide) (fun c190 => ?_) (fun c190 => ?_)
                  · skip
                    have c190 : ¬ ((nI noq) = nI 0) := c190
                    have c190 : ¬ (noq = 0) := fun z9 => c190 ((nI_eq (by omega) (by omega)).mpr z9)
                    have hdx : dq = G 41 pq + G 42 pq := by
                      rcases hno with ⟨a, b, c, e⟩ | ⟨a, b, c, e⟩
                      · rw [hd9, hk8.1 a]; have h7 := hR.1 b; show (0 : Int) = _; omega
                      · exact absurd a c190
                    exact LLq235 dq hdx _ _ _ hG (lv_sub hl [0, 1, 2, 3, 4, 5, 6, 7, 8, 9] rfl)
                  · skip
                    have c190 : (nI noq) = nI 0 := c190
                    have c190 : noq = 0 := (nI_eq (by omega) (by omega)).mp c190
                    have hkd0 : 0 ≤ kD := hk7.resolve_right (by omega)
                    refine lv_iload hx hb dL_isReceived_193 (lv_at hl 9 rfl) ?_
                    refine lv_iload hx hb dL_isReceived_195 (lv_at hl 10 rfl) ?_
                    refine lv_aload_n hx hb dL_isReceived_197 rfl (lv_at hl 1 rfl) ?_
                    refine lv_iconst (v := nI 4) hx hb dL_isReceived_198 (by decide) ?_
                    refine lv_iload hx hb dL_isReceived_199 (lv_at hl 7 rfl) ?_
                    refine lv_imul hx hb dL_isReceived_201 ?_
                    refine g_top (y := nI (4 * pq)) (by rw [pk_mul]) ?_
                    refine lv_iconst (v := nI 2) hx hb dL_isReceived_202 (by decide) ?_
                    refine lv_iadd hx hb dL_isReceived_203 ?_
                    refine g_top (y := nI (4 * pq + 2)) (by rw [nI_add]) ?_
                    refine g_iald hx hb hE hG (k := 28) (by omega) rfl (4 * pq + 2) (rfl) (by omega) (by omega) dL_isReceived_204 ?_
                    refine g_top (y := A 28 (4 * pq + 2)) (by first | rfl | (simp [gu_at]; done) | (rw [gu_at]; simp; omega)) ?_
                    refine g_top (y := zI (G 31 pq)) ((hgr pq (by omega)).2.2.1) ?_
                    refine lv_irem hx hb dL_isReceived_205 (zI_ne0 (by omega) (by omega)) ?_
                    refine g_top (y := zI (kD % (G 31 pq))) (zI_rem (by omega) (by omega) (by omega) (by omega)) ?_
                    have hrm : 0 ≤ kD % G 31 pq ∧ kD % G 31 pq < 5 := ⟨Int.emod_nonneg _ (by omega), by have := Int.emod_lt_of_pos kD (show 0 < G 31 pq by omega); omega⟩
                    refine lv_iload hx hb dL_isReceived_206 (lv_at hl 8 rfl) ?_
                    refine lv_bipush (v := nI 100) hx hb dL_isReceived_208 (by decide) ?_
                    refine lv_idiv hx hb dL_isReceived_210 (by decide) ?_
                    refine g_top (y := zI (G 33 pq)) ((by rw [← zI_n, zI_div (by omega) (by omega) (by decide) (by decide)]; congr 1; omega)) ?_
                    refine lv_icmp_ne (tgt := 225) hx hb dL_isReceived_211 (by decide) (fun c211 => ?_) (fun c211 => ?_)
                    · skip
                      have c211 : ¬ ((kD % (G 31 pq)) = (G 33 pq)) := fun z9 => c211 ((cmp_eq (zI_toInt (by omega) (by omega)) (zI_toInt (by omega) (by omega))).mpr z9)
                      refine lv_iconst (v := nI 0) hx hb dL_isReceived_225 (by decide) ?_
                      refine lv_iadd hx hb dL_isReceived_226 ?_
                      refine g_top (y := zI (dq + 0)) (zI_add_in _ _) ?_
                      refine lv_istore (lv' := [(9, .int (zI (dq + 0))), (0, .ref (ad 0)), (1, .ref (ad 28)), (2, .ref (ad 30)), (3, .ref (ad 31)), (4, .int (zI nu)), (5, .int (nI noq)), (6, .int (nI 1)), (7, .int (nI pq)), (8, .int (zI (100 * G 33 pq + G 34 pq))), (10, .int (zI kD))]) hx hb dL_isReceived_227 hl (by decide) rfl (fun ls hl => ?_)
                      refine lv_iinc (v := zI (kD + 1)) (lv' := [(10, .int (zI (kD + 1))), (9, .int (zI (dq + 0))), (0, .ref (ad 0)), (1, .ref (ad 28)), (2, .ref (ad 30)), (3, .ref (ad 31)), (4, .int (zI nu)), (5, .int (nI noq)), (6, .int (nI 1)), (7, .int (nI pq)), (8, .int (zI (100 * G 33 pq + G 34 pq)))]) hx hb dL_isReceived_229 hl (k := 10) rfl (by rw [show (Int32.ofInt 1 : Int32) = zI (1) from rfl, zI_add]) (by decide) rfl (fun ls hl => ?_)
                      refine lv_goto (tgt := 181) hx hb dL_isReceived_232 (by decide) ?_
                      exact ihq181 (kD + 1) (dq + 0) (mN + 1) (by omega) (by first | exact due_y hk9 hd9 c211 | exact due_n hk9 hd9 c211) ⟨fun z9 => absurd z9 (by omega), fun _ => by omega⟩ (Or.inl (by omega)) (by omega) (by omega) _ _ _ hG (lv_sub hl [2, 3, 4, 5, 6, 7, 8, 9, 10, 1, 0] rfl)
                    · skip
                      have c211 : (kD % (G 31 pq)) = (G 33 pq) := (cmp_eq (zI_toInt (by omega) (by omega)) (zI_toInt (by omega) (by omega))).mp c211
                      refine lv_aload_n hx hb dL_isReceived_214 rfl (lv_at hl 1 rfl) ?_
                      refine lv_iconst (v := nI 4) hx hb dL_isReceived_215 (by decide) ?_
                      refine lv_iload hx hb dL_isReceived_216 (lv_at hl 7 rfl) ?_
                      refine lv_imul hx hb dL_isReceived_218 ?_
                      refine g_top (y := nI (4 * pq)) (by rw [pk_mul]) ?_
                      refine lv_iconst (v := nI 3) hx hb dL_isReceived_219 (by decide) ?_
                      refine lv_iadd hx hb dL_isReceived_220 ?_
                      refine g_top (y := nI (4 * pq + 3)) (by rw [nI_add]) ?_
                      refine g_iald hx hb hE hG (k := 28) (by omega) rfl (4 * pq + 3) (rfl) (by omega) (by omega) dL_isReceived_221 ?_
                      refine g_top (y := A 28 (4 * pq + 3)) (by first | rfl | (simp [gu_at]; done) | (rw [gu_at]; simp; omega)) ?_
                      refine g_top (y := zI (G 32 pq)) ((hgr pq (by omega)).2.2.2) ?_
                      refine lv_goto (tgt := 226) hx hb dL_isReceived_222 (by decide) ?_
                      refine lv_iadd hx hb dL_isReceived_226 ?_
                      refine g_top (y := zI (dq + (G 32 pq))) (zI_add _ _) ?_
                      refine lv_istore (lv' := [(9, .int (zI (dq + (G 32 pq)))), (0, .ref (ad 0)), (1, .ref (ad 28)), (2, .ref (ad 30)), (3, .ref (ad 31)), (4, .int (zI nu)), (5, .int (nI noq)), (6, .int (nI 1)), (7, .int (nI pq)), (8, .int (zI (100 * G 33 pq + G 34 pq))), (10, .int (zI kD))]) hx hb dL_isReceived_227 hl (by decide) rfl (fun ls hl => ?_)
                      refine lv_iinc (v := zI (kD + 1)) (lv' := [(10, .int (zI (kD + 1))), (9, .int (zI (dq + (G 32 pq)))), (0, .ref (ad 0)), (1, .ref (ad 28)), (2, .ref (ad 30)), (3, .ref (ad 31)), (4, .int (zI nu)), (5, .int (nI noq)), (6, .int (nI 1)), (7, .int (nI pq)), (8, .int (zI (100 * G 33 pq + G 34 pq)))]) hx hb dL_isReceived_229 hl (k := 10) rfl (by rw [show (Int32.ofInt 1 : Int32) = zI (1) from rfl, zI_add]) (by decide) rfl (fun ls hl => ?_)
                      refine lv_goto (tgt := 181) hx hb dL_isReceived_232 (by decide) ?_
                      exact ihq181 (kD + 1) (dq + (G 32 pq)) (mN + 1) (by omega) (by first | exact due_y hk9 hd9 c211 | exact due_n hk9 hd9 c211) ⟨fun z9 => absurd z9 (by omega), fun _ => by omega⟩ (Or.inl (by omega)) (by omega) (by omega) _ _ _ hG (lv_sub hl [2, 3, 4, 5, 6, 7, 8, 9, 10, 1, 0] rfl)
            exact LLq181 _ fq 0 0 (by omega) rfl ⟨fun _ => rfl, fun z9 => by have h8 := hno.resolve_left (fun z8 => absurd (z8.1.symm.trans z9) (by decide)); have h7 := hR.2.1 h8.2.1; omega⟩ (hno.elim (fun h8 => Or.inr h8.1) (fun h8 => Or.inl (by have h7 := hR.2.1 h8.2.1; omega))) (hno.elim (fun h8 => by omega) (fun h8 => by have h7 := hR.2.1 h8.2.1; omega)) (Nat.lt_succ_self _) _ _ _ hG (lv_sub hl [3, 4, 5, 6, 7, 8, 9, 10, 2, 1, 0] rfl)
    refine W.widen (k := 2 + 8 * 0) (n := 12 + 48 * 0) (by omega) (by omega) ?_
    exact LLq151 _ 0 (by omega) (Nat.lt_succ_self _) _ _ _ hG (lv_sub hl [2, 3, 4, 5, 6, 7, 1, 0] rfl)
  refine lv_iload hx hb dL_isReceived_8 (lv_at hl 0 rfl) ?_
  refine lv_ldc (v := -5000000) hx hb hown (hts (.constant RL 31 (-5000000)) (List.mem_of_getElem? (i := 1) rfl)) dL_isReceived_10 ?_
  refine g_top (y := zI (-5000000)) (by decide) ?_
  refine lv_icmp_ne (tgt := 19) hx hb dL_isReceived_12 (by decide) (fun c12 => ?_) (fun c12 => ?_)
  · skip
    have c12 : ¬ (nu = (-5000000)) := fun z9 => c12 ((cmp_eq (zI_toInt (by omega) (by omega)) (zI_toInt (by omega) (by omega))).mpr z9)
    have h210 : ¬ G 28 21 = 0 := fun z9 => by rw [if_pos z9] at hnu; omega
    rw [if_neg h210] at hnu
    obtain ⟨hR1, hR2, hR3⟩ := hR.2.1 h210
    have hc2r : -1 ≤ c2 ∧ c2 ≤ 255 := hc3.elim (fun z9 => by omega) (fun z9 => by omega)
    refine lv_iconst (v := nI 0) hx hb dL_isReceived_19 (by decide) ?_
    refine lv_istore (lv' := [(5, .int (nI 0)), (4, .int (zI nu)), (0, .ref (ad 0)), (1, .ref (ad 28)), (2, .ref (ad 30)), (3, .ref (ad 31))]) hx hb dL_isReceived_20 hl (by decide) rfl (fun ls hl => ?_)
    refine lv_iload hx hb dL_isReceived_22 (lv_at hl 0 rfl) ?_
    refine lv_aload_n hx hb dL_isReceived_24 rfl (lv_at hl 2 rfl) ?_
    refine g_callV (As := []) (rest := [.int (nI 0)]) (r := (RX9, TX9, 6)) ⟨hx, hb, hml, hown, hts⟩ hE hG (cX9_framesC l D cy base ad n A J G n (by first | assumption | omega) (by first | assumption | omega)) (cwV 0 hts gL_isReceived_X9_frames rfl rfl rfl (by decide +kernel) ⟨Nat.le_of_ble_eq_true rfl, Nat.le_of_ble_eq_true rfl⟩) (by omega) rfl rfl rfl hl.1 rfl (Nat.le_of_ble_eq_true rfl) dL_isReceived_25 ⟨(by show 2 ≤ 98; omega), (by show 12 ≤ 588; omega)⟩ (fun v_ A25 J25 H locs hp hG => ?_)
    obtain ⟨rfl, rfl, rfl⟩ := hp
    refine W.eq (g2 := F0 mM 28 ls [.int (zI (G 28 21)), .int (nI 0)]) rfl ?_
    refine lv_if_ne (tgt := 35) hx hb dL_isReceived_28 (by decide) (fun c28 => ?_) (fun c28 => ?_)
    · skip
      have c28 : ¬ ((zI (G 28 21)) = nI 0) := c28
      have c28 : ¬ ((G 28 21) = ((0 : Nat) : Int)) := fun z9 => c28 ((cmp_eq (zI_toInt (by omega) (by omega)) (nI_toInt (by omega))).mpr z9)
      refine lv_iconst (v := nI 0) hx hb dL_isReceived_35 (by decide) ?_
      refine lv_icmp_eq (tgt := 41) hx hb dL_isReceived_36 (by decide) (fun c36 => ?_) (fun c36 => ?_)
      · skip
        refine lv_aload_n hx hb dL_isReceived_41 rfl (lv_at hl 5 rfl) ?_
        refine lv_iconst (v := nI 2) hx hb dL_isReceived_42 (by decide) ?_
        refine lv_iload hx hb dL_isReceived_43 (lv_at hl 0 rfl) ?_
        refine lv_if_eq (tgt := 52) hx hb dL_isReceived_45 (by decide) (fun c45 => ?_) (fun c45 => ?_)
        · skip
          have LLq78 : ∀  (fq : Int) (hfq : fq = mFst G) (H : Heap) (locs : List Loc) (ls : Array Slot), gH D base sM ad (33 + 2 * n) (gw cy ad n A J) H locs → lv_has ls 14 [(5, .int (nI 0)), (4, .int (zI nu)), (0, .ref (ad 0)), (1, .ref (ad 28)), (2, .ref (ad 30)), (3, .ref (ad 31))] → W pM l eM ({ frames := 9, cells := 98, slots := 588, locals := 221 } : Room) sM mM aM bM methM cM H locs (2) (12) (vx_MQ bM (gPost D cy base ad n (PL_isReceived ad A J G nq c2)) (gXC D cy base ad n (pxNo)) aM sM 98 588 (fun q => base ≤ q)) (F0 mM 78 ls [.int (zI fq), .int (nI 2), .ref (ad 31)]) := by
            intro fq hfq H locs ls hG hl
            refine g_iast hx hb hE hG (k := 31) (by omega) (fun _ => rfl) 2 (rfl) (by omega) (by omega) dL_isReceived_78 (fun H locs hG => ?_)
            refine lv_iload hx hb dL_isReceived_79 (lv_at hl 0 rfl) ?_
            refine lv_if_eq (tgt := 106) hx hb dL_isReceived_81 (by decide) (fun c81 => ?_) (fun c81 => ?_)
            · skip
              refine lv_aload_n hx hb dL_isReceived_106 rfl (lv_at hl 5 rfl) ?_
              refine lv_iconst (v := nI 2) hx hb dL_isReceived_107 (by decide) ?_
              refine g_iald hx hb hE hG (k := 31) (by omega) rfl 2 (rfl) (by omega) (by omega) dL_isReceived_108 ?_
              refine g_top (y := zI fq) (by first | rfl | (simp [gu_at]; done) | (rw [gu_at]; simp; omega)) ?_
              refine lv_if_lt (tgt := 145) hx hb dL_isReceived_109 (by decide) (fun c109 => ?_) (fun c109 => ?_)
              · skip
                have c109 : (zI fq) < nI 0 := c109
                have c109 : fq < ((0 : Nat) : Int) := (cmp_lt (zI_toInt (by omega) (by omega)) (nI_toInt (by omega))).mp c109
                exfalso; omega
              · skip
                have c109 : ¬ ((zI fq) < nI 0) := c109
                have c109 : ¬ (fq < ((0 : Nat) : Int)) := fun z9 => c109 ((cmp_lt (zI_toInt (by omega) (by omega)) (nI_toInt (by omega))).mpr z9)
                refine lv_aload_n hx hb dL_isReceived_112 rfl (lv_at hl 5 rfl) ?_
                refine lv_iconst (v := nI 2) hx hb dL_isReceived_113 (by decide) ?_
                refine g_iald hx hb hE hG (k := 31) (by omega) rfl 2 (rfl) (by omega) (by omega) dL_isReceived_114 ?_
                refine g_top (y := zI fq) (by first | rfl | (simp [gu_at]; done) | (rw [gu_at]; simp; omega)) ?_
                refine lv_sipush (v := nI 255) hx hb dL_isReceived_115 (by decide) ?_
                refine lv_icmp_gt (tgt := 145) hx hb dL_isReceived_118 (by decide) (fun c118 => ?_) (fun c118 => ?_)
                · skip
                  have c118 : ((255 : Nat) : Int) < fq := (cmp_lt (nI_toInt (by omega)) (zI_toInt (by omega) (by omega))).mp c118
                  exfalso; omega
                · skip
                  have c118 : ¬ (((255 : Nat) : Int) < fq) := fun z9 => c118 ((cmp_lt (nI_toInt (by omega)) (zI_toInt (by omega) (by omega))).mpr z9)
                  refine lv_iload hx hb dL_isReceived_121 (lv_at hl 1 rfl) ?_
                  refine lv_aload_n hx hb dL_isReceived_123 rfl (lv_at hl 5 rfl) ?_
                  refine lv_iconst (v := nI 2) hx hb dL_isReceived_124 (by decide) ?_
                  refine g_iald hx hb hE hG (k := 31) (by omega) rfl 2 (rfl) (by omega) (by omega) dL_isReceived_125 ?_
                  refine g_top (y := zI fq) (by first | rfl | (simp [gu_at]; done) | (rw [gu_at]; simp; omega)) ?_
                  refine lv_aload_n hx hb dL_isReceived_126 rfl (lv_at hl 2 rfl) ?_
                  refine g_callV (As := []) (rest := [.int (zI fq), .int (zI nu)]) (r := (RX9, TX9, 6)) ⟨hx, hb, hml, hown, hts⟩ hE hG (cX9_framesC l D cy base ad n (gu A 31 2 (zI fq)) J G n (by first | assumption | omega) (hC.of (fun k hk => gu_ne _ _ _ (by omega)))) (cwV 0 hts gL_isReceived_X9_frames rfl rfl rfl (by decide +kernel) ⟨Nat.le_of_ble_eq_true rfl, Nat.le_of_ble_eq_true rfl⟩) (by omega) rfl rfl rfl hl.1 rfl (Nat.le_of_ble_eq_true rfl) dL_isReceived_127 ⟨(by show 2 ≤ 98; omega), (by show 12 ≤ 588; omega)⟩ (fun v_ A127 J127 H locs hp hG => ?_)
                  obtain ⟨rfl, rfl, rfl⟩ := hp
                  refine W.eq (g2 := F0 mM 130 ls [.int (zI (G 28 21)), .int (zI fq), .int (zI nu)]) rfl ?_
                  refine lv_iadd hx hb dL_isReceived_130 ?_
                  refine g_top (y := zI (fq + (G 28 21))) (zI_add _ _) ?_
                  refine lv_aload_n hx hb dL_isReceived_131 rfl (lv_at hl 2 rfl) ?_
                  refine g_callV (As := []) (rest := [.int (zI (fq + (G 28 21))), .int (zI nu)]) (r := (RX9, TX9, 6)) ⟨hx, hb, hml, hown, hts⟩ hE hG (cX9_lostC l D cy base ad n (gu A 31 2 (zI fq)) J G n (by first | assumption | omega) (hC.of (fun k hk => gu_ne _ _ _ (by omega)))) (cwV 0 hts gL_isReceived_X9_lost rfl rfl rfl (by decide +kernel) ⟨Nat.le_of_ble_eq_true rfl, Nat.le_of_ble_eq_true rfl⟩) (by omega) rfl rfl rfl hl.1 rfl (Nat.le_of_ble_eq_true rfl) dL_isReceived_132 ⟨(by show 2 ≤ 98; omega), (by show 12 ≤ 588; omega)⟩ (fun v_ A132 J132 H locs hp hG => ?_)
                  obtain ⟨rfl, rfl, rfl⟩ := hp
                  refine W.eq (g2 := F0 mM 135 ls [.int (zI (G 28 22)), .int (zI (fq + (G 28 21))), .int (zI nu)]) rfl ?_
                  refine lv_iadd hx hb dL_isReceived_135 ?_
                  refine g_top (y := zI ((fq + (G 28 21)) + (G 28 22))) (zI_add _ _) ?_
                  refine lv_iconst (v := nI 1) hx hb dL_isReceived_136 (by decide) ?_
                  refine lv_isub hx hb dL_isReceived_137 ?_
                  refine g_top (y := zI (((fq + (G 28 21)) + (G 28 22)) - 1)) (zI_sub_in _ _) ?_
                  refine lv_icmp_ne (tgt := 145) hx hb dL_isReceived_138 (by decide) (fun c138 => ?_) (fun c138 => ?_)
                  · skip
                    have c138 : ¬ (nu = (((fq + (G 28 21)) + (G 28 22)) - 1)) := fun z9 => c138 ((cmp_eq (zI_toInt (by omega) (by omega)) (zI_toInt (by omega) (by omega))).mpr z9)
                    exfalso; omega
                  · skip
                    have c138 : nu = (((fq + (G 28 21)) + (G 28 22)) - 1) := (cmp_eq (zI_toInt (by omega) (by omega)) (zI_toInt (by omega) (by omega))).mp c138
                    refine lv_iconst (v := nI 1) hx hb dL_isReceived_141 (by decide) ?_
                    refine lv_goto (tgt := 146) hx hb dL_isReceived_142 (by decide) ?_
                    exact LLq146 0 fq (gu A 31 2 (zI fq)) (by first | exact Or.inl ⟨rfl, h210, rfl, hnu.symm⟩ | exact Or.inr ⟨rfl, h210, hfq, hnu.symm⟩) rfl (by omega) _ _ _ hG (lv_sub hl [2, 3, 4, 5, 1, 0] rfl)
            · skip
              exact absurd c81 (by decide)
          refine lv_aload_n hx hb dL_isReceived_52 rfl (lv_at hl 5 rfl) ?_
          refine lv_iconst (v := nI 2) hx hb dL_isReceived_53 (by decide) ?_
          refine g_iald hx hb hE hG (k := 31) (by omega) rfl 2 (rfl) (by omega) (by omega) dL_isReceived_54 ?_
          refine g_top (y := zI c2) (hc2) ?_
          refine lv_if_ge (tgt := 75) hx hb dL_isReceived_55 (by decide) (fun c55 => ?_) (fun c55 => ?_)
          · skip
            have c55 : nI 0 ≤ (zI c2) := c55
            have c55 : ((0 : Nat) : Int) ≤ c2 := (cmp_le (nI_toInt (by omega)) (zI_toInt (by omega) (by omega))).mp c55
            have hc22 : c2 = mFst G := hc3.elim (fun z9 => by omega) (fun z9 => z9.2)
            refine lv_aload_n hx hb dL_isReceived_75 rfl (lv_at hl 5 rfl) ?_
            refine lv_iconst (v := nI 2) hx hb dL_isReceived_76 (by decide) ?_
            refine g_iald hx hb hE hG (k := 31) (by omega) rfl 2 (rfl) (by omega) (by omega) dL_isReceived_77 ?_
            refine g_top (y := zI c2) (hc2) ?_
            exact LLq78 c2 (by first | exact hc22 | omega) _ _ _ hG (lv_sub hl [0, 1, 2, 3, 4, 5] rfl)
          · skip
            have c55 : ¬ (nI 0 ≤ (zI c2)) := c55
            have c55 : ¬ (((0 : Nat) : Int) ≤ c2) := fun z9 => c55 ((cmp_le (nI_toInt (by omega)) (zI_toInt (by omega) (by omega))).mpr z9)
            refine lv_iload hx hb dL_isReceived_58 (lv_at hl 1 rfl) ?_
            refine lv_aload_n hx hb dL_isReceived_60 rfl (lv_at hl 2 rfl) ?_
            refine g_callV (As := []) (rest := [.int (zI nu), .int (nI 2), .ref (ad 31)]) (r := (RX9, TX9, 6)) ⟨hx, hb, hml, hown, hts⟩ hE hG (cX9_framesC l D cy base ad n A J G n (by first | assumption | omega) (by first | assumption | omega)) (cwV 0 hts gL_isReceived_X9_frames rfl rfl rfl (by decide +kernel) ⟨Nat.le_of_ble_eq_true rfl, Nat.le_of_ble_eq_true rfl⟩) (by omega) rfl rfl rfl hl.1 rfl (Nat.le_of_ble_eq_true rfl) dL_isReceived_61 ⟨(by show 2 ≤ 98; omega), (by show 12 ≤ 588; omega)⟩ (fun v_ A61 J61 H locs hp hG => ?_)
            obtain ⟨rfl, rfl, rfl⟩ := hp
            refine W.eq (g2 := F0 mM 64 ls [.int (zI (G 28 21)), .int (zI nu), .int (nI 2), .ref (ad 31)]) rfl ?_
            refine lv_isub hx hb dL_isReceived_64 ?_
            refine g_top (y := zI (nu - (G 28 21))) (zI_sub _ _) ?_
            refine lv_aload_n hx hb dL_isReceived_65 rfl (lv_at hl 2 rfl) ?_
            refine g_callV (As := []) (rest := [.int (zI (nu - (G 28 21))), .int (nI 2), .ref (ad 31)]) (r := (RX9, TX9, 6)) ⟨hx, hb, hml, hown, hts⟩ hE hG (cX9_lostC l D cy base ad n A J G n (by first | assumption | omega) (by first | assumption | omega)) (cwV 0 hts gL_isReceived_X9_lost rfl rfl rfl (by decide +kernel) ⟨Nat.le_of_ble_eq_true rfl, Nat.le_of_ble_eq_true rfl⟩) (by omega) rfl rfl rfl hl.1 rfl (Nat.le_of_ble_eq_true rfl) dL_isReceived_66 ⟨(by show 2 ≤ 98; omega), (by show 12 ≤ 588; omega)⟩ (fun v_ A66 J66 H locs hp hG => ?_)
            obtain ⟨rfl, rfl, rfl⟩ := hp
            refine W.eq (g2 := F0 mM 69 ls [.int (zI (G 28 22)), .int (zI (nu - (G 28 21))), .int (nI 2), .ref (ad 31)]) rfl ?_
            refine lv_isub hx hb dL_isReceived_69 ?_
            refine g_top (y := zI ((nu - (G 28 21)) - (G 28 22))) (zI_sub _ _) ?_
            refine lv_iconst (v := nI 1) hx hb dL_isReceived_70 (by decide) ?_
            refine lv_iadd hx hb dL_isReceived_71 ?_
            refine g_top (y := zI (((nu - (G 28 21)) - (G 28 22)) + 1)) (zI_add_in _ _) ?_
            refine lv_goto (tgt := 78) hx hb dL_isReceived_72 (by decide) ?_
            exact LLq78 (((nu - (G 28 21)) - (G 28 22)) + 1) (by first | exact hc22 | omega) _ _ _ hG (lv_sub hl [0, 1, 2, 3, 4, 5] rfl)
        · skip
          exact absurd c45 (by decide)
      · skip
        exact absurd c36 (by decide)
    · skip
      have c28 : (zI (G 28 21)) = nI 0 := c28
      have c28 : (G 28 21) = ((0 : Nat) : Int) := (cmp_eq (zI_toInt (by omega) (by omega)) (nI_toInt (by omega))).mp c28
      exact absurd c28 h210
  · skip
    have c12 : nu = (-5000000) := (cmp_eq (zI_toInt (by omega) (by omega)) (zI_toInt (by omega) (by omega))).mp c12
    have h210 : G 28 21 = 0 := Classical.byContradiction (fun z9 => by rw [if_neg z9] at hnu; omega)
    rw [if_pos h210] at hnu
    refine lv_iconst (v := nI 1) hx hb dL_isReceived_15 (by decide) ?_
    refine lv_goto (tgt := 20) hx hb dL_isReceived_16 (by decide) ?_
    refine lv_istore (lv' := [(5, .int (nI 1)), (4, .int (zI nu)), (0, .ref (ad 0)), (1, .ref (ad 28)), (2, .ref (ad 30)), (3, .ref (ad 31))]) hx hb dL_isReceived_20 hl (by decide) rfl (fun ls hl => ?_)
    refine lv_iload hx hb dL_isReceived_22 (lv_at hl 0 rfl) ?_
    refine lv_aload_n hx hb dL_isReceived_24 rfl (lv_at hl 2 rfl) ?_
    refine g_callV (As := []) (rest := [.int (nI 1)]) (r := (RX9, TX9, 6)) ⟨hx, hb, hml, hown, hts⟩ hE hG (cX9_framesC l D cy base ad n A J G n (by first | assumption | omega) (by first | assumption | omega)) (cwV 0 hts gL_isReceived_X9_frames rfl rfl rfl (by decide +kernel) ⟨Nat.le_of_ble_eq_true rfl, Nat.le_of_ble_eq_true rfl⟩) (by omega) rfl rfl rfl hl.1 rfl (Nat.le_of_ble_eq_true rfl) dL_isReceived_25 ⟨(by show 2 ≤ 98; omega), (by show 12 ≤ 588; omega)⟩ (fun v_ A25 J25 H locs hp hG => ?_)
    obtain ⟨rfl, rfl, rfl⟩ := hp
    refine W.eq (g2 := F0 mM 28 ls [.int (zI (G 28 21)), .int (nI 1)]) rfl ?_
    refine lv_if_ne (tgt := 35) hx hb dL_isReceived_28 (by decide) (fun c28 => ?_) (fun c28 => ?_)
    · skip
      have c28 : ¬ ((zI (G 28 21)) = nI 0) := c28
      have c28 : ¬ ((G 28 21) = ((0 : Nat) : Int)) := fun z9 => c28 ((cmp_eq (zI_toInt (by omega) (by omega)) (nI_toInt (by omega))).mpr z9)
      exact absurd h210 c28
    · skip
      have c28 : (zI (G 28 21)) = nI 0 := c28
      have c28 : (G 28 21) = ((0 : Nat) : Int) := (cmp_eq (zI_toInt (by omega) (by omega)) (nI_toInt (by omega))).mp c28
      refine lv_iconst (v := nI 1) hx hb dL_isReceived_31 (by decide) ?_
      refine lv_goto (tgt := 36) hx hb dL_isReceived_32 (by decide) ?_
      refine lv_icmp_eq (tgt := 41) hx hb dL_isReceived_36 (by decide) (fun c36 => ?_) (fun c36 => ?_)
      · skip
        refine lv_aload_n hx hb dL_isReceived_41 rfl (lv_at hl 5 rfl) ?_
        refine lv_iconst (v := nI 2) hx hb dL_isReceived_42 (by decide) ?_
        refine lv_iload hx hb dL_isReceived_43 (lv_at hl 0 rfl) ?_
        refine lv_if_eq (tgt := 52) hx hb dL_isReceived_45 (by decide) (fun c45 => ?_) (fun c45 => ?_)
        · skip
          exact absurd c45 (by decide)
        · skip
          refine lv_iconst (v := zI (-1)) hx hb dL_isReceived_48 (by decide) ?_
          refine lv_goto (tgt := 78) hx hb dL_isReceived_49 (by decide) ?_
          refine g_iast hx hb hE hG (k := 31) (by omega) (fun _ => rfl) 2 (rfl) (by omega) (by omega) dL_isReceived_78 (fun H locs hG => ?_)
          refine lv_iload hx hb dL_isReceived_79 (lv_at hl 0 rfl) ?_
          refine lv_if_eq (tgt := 106) hx hb dL_isReceived_81 (by decide) (fun c81 => ?_) (fun c81 => ?_)
          · skip
            exact absurd c81 (by decide)
          · skip
            refine lv_aload_n hx hb dL_isReceived_84 rfl (lv_at hl 2 rfl) ?_
            refine g_callV (As := []) (rest := []) (r := (RX9, TX9, 6)) ⟨hx, hb, hml, hown, hts⟩ hE hG (cX9_lostC l D cy base ad n (gu A 31 2 (zI (-1))) J G n (by first | assumption | omega) (hC.of (fun k hk => gu_ne _ _ _ (by omega)))) (cwV 0 hts gL_isReceived_X9_lost rfl rfl rfl (by decide +kernel) ⟨Nat.le_of_ble_eq_true rfl, Nat.le_of_ble_eq_true rfl⟩) (by omega) rfl rfl rfl hl.1 rfl (Nat.le_of_ble_eq_true rfl) dL_isReceived_85 ⟨(by show 2 ≤ 98; omega), (by show 12 ≤ 588; omega)⟩ (fun v_ A85 J85 H locs hp hG => ?_)
            obtain ⟨rfl, rfl, rfl⟩ := hp
            refine W.eq (g2 := F0 mM 88 ls [.int (zI (G 28 22))]) rfl ?_
            refine lv_if_ne (tgt := 102) hx hb dL_isReceived_88 (by decide) (fun c88 => ?_) (fun c88 => ?_)
            · skip
              have c88 : ¬ ((zI (G 28 22)) = nI 0) := c88
              have c88 : ¬ ((G 28 22) = ((0 : Nat) : Int)) := fun z9 => c88 ((cmp_eq (zI_toInt (by omega) (by omega)) (nI_toInt (by omega))).mpr z9)
              exact absurd (hR.1 h210).1 c88
            · skip
              have c88 : (zI (G 28 22)) = nI 0 := c88
              have c88 : (G 28 22) = ((0 : Nat) : Int) := (cmp_eq (zI_toInt (by omega) (by omega)) (nI_toInt (by omega))).mp c88
              refine lv_aload_n hx hb dL_isReceived_91 rfl (lv_at hl 2 rfl) ?_
              refine g_callV (As := []) (rest := []) (r := (RX9, TX9, 6)) ⟨hx, hb, hml, hown, hts⟩ hE hG (cX9_repeatsC l D cy base ad n (gu A 31 2 (zI (-1))) J G n (by first | assumption | omega) (hC.of (fun k hk => gu_ne _ _ _ (by omega)))) (cwV 0 hts gL_isReceived_X9_repeats rfl rfl rfl (by decide +kernel) ⟨Nat.le_of_ble_eq_true rfl, Nat.le_of_ble_eq_true rfl⟩) (by omega) rfl rfl rfl hl.1 rfl (Nat.le_of_ble_eq_true rfl) dL_isReceived_92 ⟨(by show 2 ≤ 98; omega), (by show 12 ≤ 588; omega)⟩ (fun v_ A92 J92 H locs hp hG => ?_)
              obtain ⟨rfl, rfl, rfl⟩ := hp
              refine W.eq (g2 := F0 mM 95 ls [.int (zI (G 28 23))]) rfl ?_
              refine lv_if_ne (tgt := 102) hx hb dL_isReceived_95 (by decide) (fun c95 => ?_) (fun c95 => ?_)
              · skip
                have c95 : ¬ ((zI (G 28 23)) = nI 0) := c95
                have c95 : ¬ ((G 28 23) = ((0 : Nat) : Int)) := fun z9 => c95 ((cmp_eq (zI_toInt (by omega) (by omega)) (nI_toInt (by omega))).mpr z9)
                exact absurd (hR.1 h210).2 c95
              · skip
                have c95 : (zI (G 28 23)) = nI 0 := c95
                have c95 : (G 28 23) = ((0 : Nat) : Int) := (cmp_eq (zI_toInt (by omega) (by omega)) (nI_toInt (by omega))).mp c95
                refine lv_iconst (v := nI 1) hx hb dL_isReceived_98 (by decide) ?_
                refine lv_goto (tgt := 146) hx hb dL_isReceived_99 (by decide) ?_
                exact LLq146 1 (-1) (gu A 31 2 (zI (-1))) (by first | exact Or.inl ⟨rfl, h210, rfl, hnu.symm⟩ | exact Or.inr ⟨rfl, h210, hfq, hnu.symm⟩) rfl (by omega) _ _ _ hG (lv_sub hl [2, 3, 4, 5, 1, 0] rfl)
      · skip
        exact absurd c36 (by decide)

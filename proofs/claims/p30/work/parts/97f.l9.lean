set_option maxHeartbeats 4000000 in
set_option maxRecDepth 100000 in
theorem packer_W (l : Launch) (D : va_G) (cy : Nat → ClassId) (base : Nat) {pM : Program} {eM : Env} {sM : State} {mM : MethodId} {aM : Array Value} {bM : List Frame} {methM : Method} {cM : Code} (QQ : State → Prop) (hx : pM.tables.exec = Jvm.exec) (hb : cM.code = cL_packer) (hr : methM.sig.returnType = (some .boolean)) (hts : ∀ w ∈ wsL_packer, w.before aM sM = true) (hown : sM.vm.findClass yL_packer.cls = some mM.cls) (hlocks : methM.locks = false) (hml : cM.maxLocals = 13) (hE : gE D cy base sM) (bS LS atN : Nat) (xs : Nat → Int32) (hst : l.stackTraces = false) (hXS : gXS bS LS xs base sM) (hat : atN ≤ 400) (hKE : ∀ (H : Heap) (locs : List Loc) (ls : Array Slot), va_S (fun q => base ≤ q) sM.heap H locs → W pM l eM ({ frames := 11, cells := 12700, slots := 86000, locals := 300 } : Room) sM mM aM bM methM cM H locs (12700) (86000) QQ (F0 mM 455 ls [.int (nI 1)])) (ad : Nat → Nat) (n : Nat) (A : Nat → Nat → Int32) (J : Nat → Nat → Int64) (G : Nat → Nat → Int) (hL0 : LI n A J G) (h09 : G 28 9 = 0) (hn0 : n ≠ 0) (H : Heap) (locs : List Loc) (ls : Array Slot) (hG : gH D base sM ad (33 + 2 * n) (gw cy ad n A J) H locs) (hl : lv_has ls 13 [(0, .ref bS), (1, .int (nI atN)), (2, .int (nI 1)), (3, .ref (ad 0)), (4, .ref (ad 28)), (5, .ref (ad 29)), (6, .ref (ad 30)), (7, .ref (ad 31)), (8, .ref (ad 32)), (9, .int (nI 1)), (10, .int (nI 0))]) : W pM l eM ({ frames := 11, cells := 12700, slots := 86000, locals := 300 } : Room) sM mM aM bM methM cM H locs (120) (8900) QQ (F0 mM 156 ls []) := by
  have LLq156 : ∀ (fuel : Nat) (Aq : Nat → Nat → Int32) (Jq : Nat → Nat → Int64) (Gq : Nat → Nat → Int) (kR : Nat) (hkR : kR ≤ 36) (hL : LI n Aq Jq Gq) (hW : WI Gq kR) (_ : (36 - kR) < fuel) (H : Heap) (locs : List Loc) (ls : Array Slot), gH D base sM ad (33 + 2 * n) (gw cy ad n Aq Jq) H locs → lv_has ls 13 [(0, .ref bS), (1, .int (nI atN)), (2, .int (nI 1)), (3, .ref (ad 0)), (4, .ref (ad 28)), (5, .ref (ad 29)), (6, .ref (ad 30)), (7, .ref (ad 31)), (8, .ref (ad 32)), (9, .int (nI 1)), (10, .int (nI kR))] → W pM l eM ({ frames := 11, cells := 12700, slots := 86000, locals := 300 } : Room) sM mM aM bM methM cM H locs (120 + 346 * kR) (8900 + 2077 * kR) (QQ) (F0 mM 156 ls []) := by
    intro fuel
    induction fuel with
    | zero => intro Aq Jq Gq kR hkR hL hW hms H locs ls hG hl; exact absurd hms (Nat.not_lt_zero _)
    | succ fuel ihq156 =>
      intro Aq Jq Gq kR hkR hL hW hms H locs ls hG hl
      refine lv_iload hx hb dL_packer_156 (lv_at hl 10 rfl) ?_
      refine lv_bipush (v := nI 36) hx hb dL_packer_158 (by decide) ?_
      refine lv_icmp_ge (tgt := 453) hx hb dL_packer_160 (by decide) (fun c160 => ?_) (fun c160 => ?_)
      · skip
        have c160 : 36 ≤ kR := (nI_leI (by omega) (by omega)).mp c160
        refine lv_iload hx hb dL_packer_453 (lv_at hl 9 rfl) ?_
        exact W.widen (k := 12700) (n := 86000) (by omega) (by omega) (hKE _ _ _ hG.2.2)
      · skip
        have c160 : ¬ (36 ≤ kR) := fun z9 => c160 ((nI_leI (by omega) (by omega)).mpr z9)
        refine lv_iload hx hb dL_packer_163 (lv_at hl 9 rfl) ?_
        refine lv_if_eq (tgt := 453) hx hb dL_packer_165 (by decide) (fun c165 => ?_) (fun c165 => ?_)
        · skip
          exact absurd c165 (by decide)
        · skip
          refine lv_aload_n hx hb dL_packer_168 rfl (lv_at hl 0 rfl) ?_
          refine lv_iload_n hx hb dL_packer_169 rfl (lv_at hl 1 rfl) ?_
          refine lv_iconst (v := nI 3) hx hb dL_packer_170 (by decide) ?_
          refine lv_iload hx hb dL_packer_171 (lv_at hl 10 rfl) ?_
          refine lv_imul hx hb dL_packer_173 ?_
          refine g_top (y := nI (3 * kR)) (by rw [pk_mul]) ?_
          refine lv_iadd hx hb dL_packer_174 ?_
          refine g_top (y := nI (atN + (3 * kR))) (by rw [nI_add]) ?_
          refine lv_bipush (v := nI 19) hx hb dL_packer_175 (by decide) ?_
          refine lv_iadd hx hb dL_packer_177 ?_
          refine g_top (y := nI (atN + (3 * kR) + 19)) (by rw [nI_add]) ?_
          refine lv_ldc (v := 1073741824) hx hb hown (hts (.constant RL 139 (1073741824)) (List.mem_of_getElem? (i := 6) rfl)) dL_packer_178 ?_
          refine g_top (y := nI 1073741824) (by decide) ?_
          refine gS_callS (As := [.ref bS, .int (nI (atN + (3 * kR) + 19)), .int (nI 1073741824)]) (rest := []) ⟨hx, hb, hml, hown, hts⟩ hE hXS hG (cL_drawC l D cy base bS LS xs ad n Aq Jq (atN + (3 * kR) + 19) 1073741824 (by omega) (by omega)) (va_cwS 3 hts gL_packer_L_draw rfl rfl rfl (by decide +kernel) ⟨(Nat.le_of_ble_eq_true rfl), (Nat.le_of_ble_eq_true rfl)⟩) rfl hl.1 rfl (Nat.le_of_ble_eq_true rfl) dL_packer_180 ⟨(by show 120 + 346 * kR ≤ 12700; omega), (by show 8900 + 2077 * kR ≤ 86000; omega)⟩ (fun v_ A_ J_ H locs hp hG => ?_)
          obtain ⟨q180, rfl, hq180, rfl, rfl⟩ := hp
          refine W.eq (g2 := F0 mM 183 ls [.int (nI q180)]) rfl ?_
          refine lv_istore (lv' := [(11, .int (nI q180)), (0, .ref bS), (1, .int (nI atN)), (2, .int (nI 1)), (3, .ref (ad 0)), (4, .ref (ad 28)), (5, .ref (ad 29)), (6, .ref (ad 30)), (7, .ref (ad 31)), (8, .ref (ad 32)), (9, .int (nI 1)), (10, .int (nI kR))]) hx hb dL_packer_183 hl (by decide) rfl (fun ls hl => ?_)
          refine lv_aload_n hx hb dL_packer_185 rfl (lv_at hl 1 rfl) ?_
          refine lv_iload_n hx hb dL_packer_186 rfl (lv_at hl 2 rfl) ?_
          refine lv_iconst (v := nI 3) hx hb dL_packer_187 (by decide) ?_
          refine lv_iload hx hb dL_packer_188 (lv_at hl 11 rfl) ?_
          refine lv_imul hx hb dL_packer_190 ?_
          refine g_top (y := nI (3 * kR)) (by rw [pk_mul]) ?_
          refine lv_iadd hx hb dL_packer_191 ?_
          refine g_top (y := nI (atN + (3 * kR))) (by rw [nI_add]) ?_
          refine lv_bipush (v := nI 20) hx hb dL_packer_192 (by decide) ?_
          refine lv_iadd hx hb dL_packer_194 ?_
          refine g_top (y := nI (atN + (3 * kR) + 20)) (by rw [nI_add]) ?_
          refine lv_ldc (v := 1073741824) hx hb hown (hts (.constant RL 139 (1073741824)) (List.mem_of_getElem? (i := 6) rfl)) dL_packer_195 ?_
          refine g_top (y := nI 1073741824) (by decide) ?_
          refine gS_callS (As := [.ref bS, .int (nI (atN + (3 * kR) + 20)), .int (nI 1073741824)]) (rest := []) ⟨hx, hb, hml, hown, hts⟩ hE hXS hG (cL_drawC l D cy base bS LS xs ad n Aq Jq (atN + (3 * kR) + 20) 1073741824 (by omega) (by omega)) (va_cwS 3 hts gL_packer_L_draw rfl rfl rfl (by decide +kernel) ⟨(Nat.le_of_ble_eq_true rfl), (Nat.le_of_ble_eq_true rfl)⟩) rfl hl.1 rfl (Nat.le_of_ble_eq_true rfl) dL_packer_197 ⟨(by show 120 + 346 * kR ≤ 12700; omega), (by show 8900 + 2077 * kR ≤ 86000; omega)⟩ (fun v_ A_ J_ H locs hp hG => ?_)
          obtain ⟨q197, rfl, hq197, rfl, rfl⟩ := hp
          refine W.eq (g2 := F0 mM 200 ls [.int (nI q197)]) rfl ?_
          refine lv_istore (lv' := [(12, .int (nI q197)), (11, .int (nI q180)), (0, .ref bS), (1, .int (nI atN)), (2, .int (nI 1)), (3, .ref (ad 0)), (4, .ref (ad 28)), (5, .ref (ad 29)), (6, .ref (ad 30)), (7, .ref (ad 31)), (8, .ref (ad 32)), (9, .int (nI 1)), (10, .int (nI kR))]) hx hb dL_packer_200 hl (by decide) rfl (fun ls hl => ?_)
          refine lv_iload_n hx hb dL_packer_202 rfl (lv_at hl 4 rfl) ?_
          refine lv_if_eq (tgt := 329) hx hb dL_packer_203 (by decide) (fun c203 => ?_) (fun c203 => ?_)
          · skip
            exact absurd c203 (by decide)
          · skip
            refine lv_aload_n hx hb dL_packer_206 rfl (lv_at hl 5 rfl) ?_
            refine lv_iconst (v := nI 0) hx hb dL_packer_207 (by decide) ?_
            refine lv_iload hx hb dL_packer_208 (lv_at hl 1 rfl) ?_
            refine lv_iload hx hb dL_packer_210 (lv_at hl 0 rfl) ?_
            refine lv_aload hx hb dL_packer_212 (lv_at hl 6 rfl) ?_
            refine lv_aload hx hb dL_packer_214 (lv_at hl 8 rfl) ?_
            refine lv_aload hx hb dL_packer_216 (lv_at hl 9 rfl) ?_
            refine lv_aload hx hb dL_packer_218 (lv_at hl 10 rfl) ?_
            refine gN_callS (As := [.ref (ad 0), .int (nI 0), .int (nI q180), .int (nI q197), .ref (ad 28), .ref (ad 30), .ref (ad 31), .ref (ad 32)]) (rest := []) ⟨hx, hb, hml, hown, hts⟩ hE hG (cL_step_putC l D cy base ad n Aq Jq Gq n 0 q180 q197 (by first | assumption | omega) (by first | assumption | omega) hL (by first | assumption | omega) (by first | assumption | omega) (by first | assumption | omega) (by first | assumption | omega)) (va_cwS 8 hts gL_packer_L_step rfl rfl rfl (by decide +kernel) ⟨Nat.le_of_ble_eq_true rfl, Nat.le_of_ble_eq_true rfl⟩) rfl hl.1 rfl (Nat.le_of_ble_eq_true rfl) dL_packer_220 ⟨(by show 120 + 346 * kR + 2 ≤ 12700; omega), (by show 8900 + 2077 * kR + 12 ≤ 86000; omega)⟩ (fun _ _ _ hz => hz) (fun v_ A220 J220 H locs hp hG => W.widen (k := 120 + 346 * kR + 2) (n := 8900 + 2077 * kR + 12) (by omega) (by omega) ?_)
            obtain ⟨iP_220, vP_220, rfl, rfl, hL1_220, hAk_220⟩ := hp
            refine W.eq (g2 := F0 mM 223 ls [.int (nI 1)]) rfl ?_
            have hL := hL1_220
            have hW1 : WI (gu Gq 35 iP_220 vP_220) kR := hW.to (fun j => by rw [gu_ne _ _ _ (by decide)]) (fun j => by rw [gu_ne _ _ _ (by decide)]) (fun j => by rw [gu_ne _ _ _ (by decide)])
            refine lv_if_eq (tgt := 250) hx hb dL_packer_223 (by decide) (fun c223 => ?_) (fun c223 => ?_)
            · skip
              exact absurd c223 (by decide)
            · skip
              refine lv_aload_n hx hb dL_packer_226 rfl (lv_at hl 5 rfl) ?_
              refine lv_iconst (v := nI 1) hx hb dL_packer_227 (by decide) ?_
              refine lv_iload hx hb dL_packer_228 (lv_at hl 0 rfl) ?_
              refine lv_iload hx hb dL_packer_230 (lv_at hl 1 rfl) ?_
              refine lv_aload hx hb dL_packer_232 (lv_at hl 6 rfl) ?_
              refine lv_aload hx hb dL_packer_234 (lv_at hl 8 rfl) ?_
              refine lv_aload hx hb dL_packer_236 (lv_at hl 9 rfl) ?_
              refine lv_aload hx hb dL_packer_238 (lv_at hl 10 rfl) ?_
              refine gN_callS (As := [.ref (ad 0), .int (nI 1), .int (nI q197), .int (nI q180), .ref (ad 28), .ref (ad 30), .ref (ad 31), .ref (ad 32)]) (rest := []) ⟨hx, hb, hml, hown, hts⟩ hE hG (cL_step_putC l D cy base ad n A220 Jq (gu Gq 35 iP_220 vP_220) n 1 q197 q180 (by first | assumption | omega) (by first | assumption | omega) hL1_220 (by first | assumption | omega) (by first | assumption | omega) (by first | assumption | omega) (by first | assumption | omega)) (va_cwS 8 hts gL_packer_L_step rfl rfl rfl (by decide +kernel) ⟨Nat.le_of_ble_eq_true rfl, Nat.le_of_ble_eq_true rfl⟩) rfl hl.1 rfl (Nat.le_of_ble_eq_true rfl) dL_packer_240 ⟨(by show 120 + 346 * kR + 4 ≤ 12700; omega), (by show 8900 + 2077 * kR + 24 ≤ 86000; omega)⟩ (fun _ _ _ hz => hz) (fun v_ A240 J240 H locs hp hG => W.widen (k := 120 + 346 * kR + 4) (n := 8900 + 2077 * kR + 24) (by omega) (by omega) ?_)
              obtain ⟨iP_240, vP_240, rfl, rfl, hL1_240, hAk_240⟩ := hp
              refine W.eq (g2 := F0 mM 243 ls [.int (nI 1)]) rfl ?_
              obtain ⟨G2, hG2⟩ : ∃ G2, gu (gu Gq 35 iP_220 vP_220) 35 iP_240 vP_240 = G2 := ⟨_, rfl⟩
              have hL := hL1_240
              rw [hG2] at hL
              have hW2 : WI G2 kR := by rw [← hG2]; exact hW1.to (fun j => by rw [gu_ne _ _ _ (by decide)]) (fun j => by rw [gu_ne _ _ _ (by decide)]) (fun j => by rw [gu_ne _ _ _ (by decide)])
              obtain ⟨hC, hgr, hv9, hd9, hR, c1, c2, hA0, hA1, hA2, hc2, hc1⟩ := id hL
              obtain ⟨w9, w10, w12, w22, w23⟩ := hW2.1
              refine lv_if_eq (tgt := 250) hx hb dL_packer_243 (by decide) (fun c243 => ?_) (fun c243 => ?_)
              · skip
                exact absurd c243 (by decide)
              · skip
                refine lv_iconst (v := nI 1) hx hb dL_packer_246 (by decide) ?_
                refine lv_goto (tgt := 251) hx hb dL_packer_247 (by decide) ?_
                refine lv_istore (lv' := [(9, .int (nI 1)), (12, .int (nI q197)), (11, .int (nI q180)), (0, .ref bS), (1, .int (nI atN)), (2, .int (nI 1)), (3, .ref (ad 0)), (4, .ref (ad 28)), (5, .ref (ad 29)), (6, .ref (ad 30)), (7, .ref (ad 31)), (8, .ref (ad 32)), (10, .int (nI kR))]) hx hb dL_packer_251 hl (by decide) rfl (fun ls hl => ?_)
                refine lv_aload hx hb dL_packer_253 (lv_at hl 10 rfl) ?_
                refine lv_iconst (v := nI 0) hx hb dL_packer_255 (by decide) ?_
                refine lv_dup2_11 hx hb dL_packer_256 rfl rfl ?_
                refine g_iald hx hb hE hG (k := 31) (by omega) rfl 0 (rfl) (by omega) (by omega) dL_packer_257 ?_
                refine g_top (y := zI (G2 28 9)) (hA0) ?_
                refine lv_bipush (v := nI 8) hx hb dL_packer_258 (by decide) ?_
                refine lv_iadd hx hb dL_packer_260 ?_
                refine g_top (y := zI ((G2 28 9) + 8)) (zI_add_in _ _) ?_
                refine g_iast hx hb hE hG (k := 31) (by omega) (fun _ => rfl) 0 (rfl) (by omega) (by omega) dL_packer_261 (fun H locs hG => ?_)
                refine lv_iload hx hb dL_packer_262 (lv_at hl 0 rfl) ?_
                refine lv_if_eq (tgt := 323) hx hb dL_packer_264 (by decide) (fun c264 => ?_) (fun c264 => ?_)
                · skip
                  exact absurd c264 (by decide)
                · skip
                  refine lv_aload_n hx hb dL_packer_267 rfl (lv_at hl 6 rfl) ?_
                  refine lv_bipush (v := nI 8) hx hb dL_packer_268 (by decide) ?_
                  refine gN_callV (As := [.int (nI 8)]) (rest := []) (r := (RX9, TX9, 6)) ⟨hx, hb, hml, hown, hts⟩ hE hG (cX9_sendC l D cy base ad n (gu A240 31 0 (zI ((G2 28 9) + 8))) Jq G2 n ((8 : Nat) : Int) (by first | assumption | omega) (by first | assumption | omega) (hC.of (fun k hk => gu_ne _ _ _ (by omega))) (by first | assumption | omega)) (cwV 1 hts gL_packer_X9_send rfl rfl rfl (by decide +kernel) ⟨Nat.le_of_ble_eq_true rfl, Nat.le_of_ble_eq_true rfl⟩) (by omega) rfl rfl rfl hl.1 rfl (Nat.le_of_ble_eq_true rfl) dL_packer_270 ⟨(by show 120 + 346 * kR + 5 ≤ 12700; omega), (by show 8900 + 2077 * kR + 30 ≤ 86000; omega)⟩ (fun e_ A_ J_ hz => by
                    rcases hz with ⟨he_, hA_, hJ_, hf0_⟩ | ⟨he_, hA_, hJ_, hf0_⟩
                    · omega
                    · omega) (fun v_ A270 J270 H locs hp hG => W.widen (k := 120 + 346 * kR + 5) (n := 8900 + 2077 * kR + 30) (by omega) (by omega) ?_)
                  obtain ⟨rfl, hin_270, hC1_270, hO_270, hJ9_270⟩ := hp
                  refine W.eq (g2 := F0 mM 273 ls [.int (zI (G2 28 10 + 8 * ((8 : Nat) : Int)))]) rfl ?_
                  have hL := hL.send hC1_270 (by omega) hO_270
                  obtain ⟨G3, hG3⟩ : ∃ G3, mSend G2 ((8 : Nat) : Int).toNat = G3 := ⟨_, rfl⟩
                  have hG3b : mSend G2 8 = G3 := hG3
                  have h310 : G3 28 10 = 64 := by rw [← hG3b, mSend_10, w10]; rfl
                  rw [hG3] at hL
                  obtain ⟨-, -, hT3, -, hpr3, -, -, hD3, -, -, -, -, -, -, hok3, -⟩ := id hC
                  refine lv_bipush (v := nI 64) hx hb dL_packer_273 (by decide) ?_
                  refine lv_icmp_ne (tgt := 323) hx hb dL_packer_275 (by decide) (fun c275 => ?_) (fun c275 => ?_)
                  · skip
                    have c275 : ¬ ((G2 28 10 + 8 * ((8 : Nat) : Int)) = ((64 : Nat) : Int)) := fun z9 => c275 ((cmp_eq (zI_toInt (by omega) (by omega)) (nI_toInt (by omega))).mpr z9)
                    exfalso; omega
                  · skip
                    have c275 : (G2 28 10 + 8 * ((8 : Nat) : Int)) = ((64 : Nat) : Int) := (cmp_eq (zI_toInt (by omega) (by omega)) (nI_toInt (by omega))).mp c275
                    refine lv_aload_n hx hb dL_packer_278 rfl (lv_at hl 6 rfl) ?_
                    refine lv_bipush (v := nI 64) hx hb dL_packer_279 (by decide) ?_
                    refine lv_iload hx hb dL_packer_281 (lv_at hl 2 rfl) ?_
                    refine lv_bipush (v := nI 9) hx hb dL_packer_283 (by decide) ?_
                    refine lv_irem hx hb dL_packer_285 (by decide) ?_
                    refine g_top (y := nI (q180 % 9)) (pk_rem (by omega) (by omega) (by omega)) ?_
                    refine lv_iadd hx hb dL_packer_286 ?_
                    refine g_top (y := nI (64 + (q180 % 9))) (by rw [nI_add]) ?_
                    refine gN_callV (As := [.int (nI (64 + (q180 % 9)))]) (rest := []) (r := (RX9, TX9, 6)) ⟨hx, hb, hml, hown, hts⟩ hE hG (cX9_receiveC l D cy base ad n A270 J270 G3 n ((64 + q180 % 9 : Nat) : Int) (by first | assumption | omega) (by first | assumption | omega) hL.1 (by first | assumption | omega)) (cwV 1 hts gL_packer_X9_receive rfl rfl rfl (by decide +kernel) ⟨Nat.le_of_ble_eq_true rfl, Nat.le_of_ble_eq_true rfl⟩) (by omega) rfl rfl rfl hl.1 rfl (Nat.le_of_ble_eq_true rfl) dL_packer_287 ⟨(by show 120 + 346 * kR + 6 ≤ 12700; omega), (by show 8900 + 2077 * kR + 36 ≤ 86000; omega)⟩ (fun e_ A_ J_ hz => by
                      rcases hz with ⟨he_, hA_, hJ_, hf0_⟩
                      · omega) (fun v_ A287 J287 H locs hp hG => W.widen (k := 120 + 346 * kR + 6) (n := 8900 + 2077 * kR + 36) (by omega) (by omega) ?_)
                    obtain ⟨mq_287, rfl, hin_287, hmq2_287, hC1_287, hO_287, hJ9_287⟩ := hp
                    refine W.eq (g2 := F0 mM 290 ls [.int (zI (mRcvU G3 mq_287))]) rfl ?_
                    have hmq : mq_287 = 64 := by omega
                    subst hmq
                    have hL := hL.rcv hC1_287 (by omega) hO_287
                    obtain ⟨hW5, hWh, hU5⟩ := WI_step hW2 (by omega) hT3 hD3 hpr3 (fun i => (hok3.2.2.2.2.2 i).1.1) hok3.2.2.2.2.1.2.2.2.2.2.1 (G3 28 10 - ((64 : Nat) : Int)).toNat
                    rw [hG3b] at hW5 hWh hU5
                    obtain ⟨G5, hG5⟩ : ∃ G5, mDrop (mRcv G3 64) 0 64 (G3 28 10 - ((64 : Nat) : Int)).toNat = G5 := ⟨_, rfl⟩
                    rw [hG5] at hL hW5 hWh
                    obtain ⟨hC, hgr, hv9, hd9, hR, c1, c2, hA0, hA1, hA2, hc2, hc1⟩ := id hL
                    have hpos : 0 < G5 28 9 := by have := hW5.1.1; omega
                    refine g_top (y := zI (if kR < 2 then 0 else 1)) (by rw [hU5]) ?_
                    refine lv_iload hx hb dL_packer_290 (lv_at hl 12 rfl) ?_
                    refine lv_iconst (v := nI 2) hx hb dL_packer_292 (by decide) ?_
                    refine lv_icmp_ge (tgt := 300) hx hb dL_packer_293 (by decide) (fun c293 => ?_) (fun c293 => ?_)
                    · skip
                      have c293 : 2 ≤ kR := (nI_leI (by omega) (by omega)).mp c293
                      refine lv_iconst (v := nI 1) hx hb dL_packer_300 (by decide) ?_
                      refine lv_icmp_ne (tgt := 323) hx hb dL_packer_301 (by decide) (fun c301 => ?_) (fun c301 => ?_)
                      · skip
                        have c301 : ¬ ((if kR < 2 then 0 else 1) = ((1 : Nat) : Int)) := fun z9 => c301 ((cmp_eq (zI_toInt (by omega) (by omega)) (nI_toInt (by omega))).mpr z9)
                        exfalso; split at c301 <;> omega
                      · skip
                        have c301 : (if kR < 2 then 0 else 1) = ((1 : Nat) : Int) := (cmp_eq (zI_toInt (by omega) (by omega)) (nI_toInt (by omega))).mp c301
                        refine lv_aload_n hx hb dL_packer_304 rfl (lv_at hl 6 rfl) ?_
                        refine lv_aload hx hb dL_packer_305 (lv_at hl 7 rfl) ?_
                        refine lv_aload hx hb dL_packer_307 (lv_at hl 9 rfl) ?_
                        refine lv_aload hx hb dL_packer_309 (lv_at hl 10 rfl) ?_
                        refine lv_iload hx hb dL_packer_311 (lv_at hl 12 rfl) ?_
                        refine gN_callS (As := [.ref (ad 0), .ref (ad 28), .ref (ad 30), .ref (ad 31), .int (nI kR)]) (rest := []) ⟨hx, hb, hml, hown, hts⟩ hE hG (cL_isWholeC l D cy base ad n A287 J287 G5 n kR (by first | assumption | omega) (by first | assumption | omega) hC hgr hv9 hWh (by first | assumption | omega)) (va_cwS 5 hts gL_packer_L_isWhole rfl rfl rfl (by decide +kernel) ⟨Nat.le_of_ble_eq_true rfl, Nat.le_of_ble_eq_true rfl⟩) rfl hl.1 rfl (Nat.le_of_ble_eq_true rfl) dL_packer_313 ⟨(by show 120 + 346 * kR + 79 ≤ 12700; omega), (by show 8900 + 2077 * kR + 474 ≤ 86000; omega)⟩ (fun _ _ _ hz => hz) (fun v_ A313 J313 H locs hp hG => W.widen (k := 120 + 346 * kR + 79) (n := 8900 + 2077 * kR + 474) (by omega) (by omega) ?_)
                        obtain ⟨rfl, rfl, rfl⟩ := hp
                        refine W.eq (g2 := F0 mM 316 ls [.int (nI 1)]) rfl ?_
                        refine lv_if_eq (tgt := 323) hx hb dL_packer_316 (by decide) (fun c316 => ?_) (fun c316 => ?_)
                        · skip
                          exact absurd c316 (by decide)
                        · skip
                          refine lv_iconst (v := nI 1) hx hb dL_packer_319 (by decide) ?_
                          refine lv_goto (tgt := 324) hx hb dL_packer_320 (by decide) ?_
                          refine lv_istore (lv' := [(9, .int (nI 1)), (12, .int (nI q197)), (11, .int (nI q180)), (0, .ref bS), (1, .int (nI atN)), (2, .int (nI 1)), (3, .ref (ad 0)), (4, .ref (ad 28)), (5, .ref (ad 29)), (6, .ref (ad 30)), (7, .ref (ad 31)), (8, .ref (ad 32)), (10, .int (nI kR))]) hx hb dL_packer_324 hl (by decide) rfl (fun ls hl => ?_)
                          refine lv_goto (tgt := 372) hx hb dL_packer_326 (by decide) ?_
                          refine lv_iload hx hb dL_packer_372 (lv_at hl 0 rfl) ?_
                          refine lv_if_eq (tgt := 444) hx hb dL_packer_374 (by decide) (fun c374 => ?_) (fun c374 => ?_)
                          · skip
                            exact absurd c374 (by decide)
                          · skip
                            refine lv_aload_n hx hb dL_packer_377 rfl (lv_at hl 6 rfl) ?_
                            refine lv_aload hx hb dL_packer_378 (lv_at hl 7 rfl) ?_
                            refine lv_aload hx hb dL_packer_380 (lv_at hl 9 rfl) ?_
                            refine lv_aload hx hb dL_packer_382 (lv_at hl 10 rfl) ?_
                            refine gN_callS (As := [.ref (ad 0), .ref (ad 28), .ref (ad 30), .ref (ad 31)]) (rest := []) ⟨hx, hb, hml, hown, hts⟩ hE hG (cL_isReceivedC l D cy base ad n A287 J287 G5 n c2 (by first | assumption | omega) (by first | assumption | omega) hC hgr hR hA2 hc2) (va_cwS 4 hts gL_packer_L_isReceived rfl rfl rfl (by decide +kernel) ⟨Nat.le_of_ble_eq_true rfl, Nat.le_of_ble_eq_true rfl⟩) rfl hl.1 rfl (Nat.le_of_ble_eq_true rfl) dL_packer_384 ⟨(by show 120 + 346 * kR + 177 ≤ 12700; omega), (by show 8900 + 2077 * kR + 1062 ≤ 86000; omega)⟩ (fun _ _ _ hz => hz) (fun v_ A384 J384 H locs hp hG => W.widen (k := 120 + 346 * kR + 177) (n := 8900 + 2077 * kR + 1062) (by omega) (by omega) ?_)
                            obtain ⟨rfl, rfl, hA9_384⟩ := hp
                            refine W.eq (g2 := F0 mM 387 ls [.int (nI 1)]) rfl ?_
                            have hL := hL.recv
                            rw [← hA9_384] at hL
                            obtain ⟨hC, hgr, hv9, hd9, hR, c1, c2, hA0, hA1, hA2, hc2, hc1⟩ := id hL
                            refine lv_if_eq (tgt := 444) hx hb dL_packer_387 (by decide) (fun c387 => ?_) (fun c387 => ?_)
                            · skip
                              exact absurd c387 (by decide)
                            · skip
                              refine lv_aload_n hx hb dL_packer_390 rfl (lv_at hl 6 rfl) ?_
                              refine lv_aload hx hb dL_packer_391 (lv_at hl 10 rfl) ?_
                              refine lv_iload hx hb dL_packer_393 (lv_at hl 2 rfl) ?_
                              refine lv_bipush (v := nI 7) hx hb dL_packer_395 (by decide) ?_
                              refine lv_idiv hx hb dL_packer_397 (by decide) ?_
                              refine g_top (y := nI (q180 / 7)) (pk_div (by omega) (by omega) (by omega)) ?_
                              refine gN_callS (As := [.ref (ad 0), .ref (ad 31), .int (nI (q180 / 7))]) (rest := []) ⟨hx, hb, hml, hown, hts⟩ hE hG (cL_areBitsC l D cy base ad n A384 J287 G5 n (q180 / 7) (G5 28 9) c1 (by first | assumption | omega) (by first | assumption | omega) hC hA0 hA1 rfl hc1 (by first | assumption | omega)) (va_cwS 3 hts gL_packer_L_areBits rfl rfl rfl (by decide +kernel) ⟨Nat.le_of_ble_eq_true rfl, Nat.le_of_ble_eq_true rfl⟩) rfl hl.1 rfl (Nat.le_of_ble_eq_true rfl) dL_packer_398 ⟨(by show 120 + 346 * kR + 247 ≤ 12700; omega), (by show 8900 + 2077 * kR + 1482 ≤ 86000; omega)⟩ (fun _ _ _ hz => hz) (fun v_ A398 J398 H locs hp hG => W.widen (k := 120 + 346 * kR + 247) (n := 8900 + 2077 * kR + 1482) (by omega) (by omega) ?_)
                              obtain ⟨rfl, rfl, hC1_398, hO_398⟩ := hp
                              refine W.eq (g2 := F0 mM 401 ls [.int (nI 1)]) rfl ?_
                              have hL := hL.keep hC1_398 (fun k hk => hO_398 k (by omega))
                              obtain ⟨hC, hgr, hv9, hd9, hR, c1, c2, hA0, hA1, hA2, hc2, hc1⟩ := id hL
                              refine lv_if_eq (tgt := 444) hx hb dL_packer_401 (by decide) (fun c401 => ?_) (fun c401 => ?_)
                              · skip
                                exact absurd c401 (by decide)
                              · skip
                                refine lv_aload_n hx hb dL_packer_404 rfl (lv_at hl 6 rfl) ?_
                                refine lv_aload hx hb dL_packer_405 (lv_at hl 11 rfl) ?_
                                refine gN_callS (As := [.ref (ad 0), .ref (ad 32)]) (rest := []) ⟨hx, hb, hml, hown, hts⟩ hE hG (cL_areDerivedC l D cy base ad n A398 J287 G5 n (by first | assumption | omega) (by first | assumption | omega) hC hd9) (va_cwS 2 hts gL_packer_L_areDerived rfl rfl rfl (by decide +kernel) ⟨Nat.le_of_ble_eq_true rfl, Nat.le_of_ble_eq_true rfl⟩) rfl hl.1 rfl (Nat.le_of_ble_eq_true rfl) dL_packer_407 ⟨(by show 120 + 346 * kR + 343 ≤ 12700; omega), (by show 8900 + 2077 * kR + 2058 ≤ 86000; omega)⟩ (fun _ _ _ hz => hz) (fun v_ A407 J407 H locs hp hG => W.widen (k := 120 + 346 * kR + 343) (n := 8900 + 2077 * kR + 2058) (by omega) (by omega) ?_)
                                obtain ⟨rfl, rfl, hO_407⟩ := hp
                                refine W.eq (g2 := F0 mM 410 ls [.int (nI 1)]) rfl ?_
                                have hL := hL.keep (hC.dersG hO_407) (fun k hk => hO_407 k (by omega))
                                obtain ⟨hC, hgr, hv9, hd9, hR, c1, c2, hA0, hA1, hA2, hc2, hc1⟩ := id hL
                                refine lv_if_eq (tgt := 444) hx hb dL_packer_410 (by decide) (fun c410 => ?_) (fun c410 => ?_)
                                · skip
                                  exact absurd c410 (by decide)
                                · skip
                                  have LLq440 : ∀ (_ : Unit)   (H : Heap) (locs : List Loc) (ls : Array Slot), gH D base sM ad (33 + 2 * n) (gw cy ad n A407 J287) H locs → lv_has ls 13 [(9, .int (nI 1)), (12, .int (nI q197)), (11, .int (nI q180)), (0, .ref bS), (1, .int (nI atN)), (2, .int (nI 1)), (3, .ref (ad 0)), (4, .ref (ad 28)), (5, .ref (ad 29)), (6, .ref (ad 30)), (7, .ref (ad 31)), (8, .ref (ad 32)), (10, .int (nI kR))] → W pM l eM ({ frames := 11, cells := 12700, slots := 86000, locals := 300 } : Room) sM mM aM bM methM cM H locs (120 + 346 * kR + 346) (8900 + 2077 * kR + 2077) (QQ) (F0 mM 440 ls []) := by
                                    intro _ H locs ls hG hl
                                    refine lv_iconst (v := nI 1) hx hb dL_packer_440 (by decide) ?_
                                    refine lv_goto (tgt := 445) hx hb dL_packer_441 (by decide) ?_
                                    refine lv_istore (lv' := [(9, .int (nI 1)), (12, .int (nI q197)), (11, .int (nI q180)), (0, .ref bS), (1, .int (nI atN)), (2, .int (nI 1)), (3, .ref (ad 0)), (4, .ref (ad 28)), (5, .ref (ad 29)), (6, .ref (ad 30)), (7, .ref (ad 31)), (8, .ref (ad 32)), (10, .int (nI kR))]) hx hb dL_packer_445 hl (by decide) rfl (fun ls hl => ?_)
                                    refine lv_iinc (v := nI (kR + 1)) (lv' := [(10, .int (nI (kR + 1))), (9, .int (nI 1)), (12, .int (nI q197)), (11, .int (nI q180)), (0, .ref bS), (1, .int (nI atN)), (2, .int (nI 1)), (3, .ref (ad 0)), (4, .ref (ad 28)), (5, .ref (ad 29)), (6, .ref (ad 30)), (7, .ref (ad 31)), (8, .ref (ad 32))]) hx hb dL_packer_447 hl (k := 12) rfl (by rw [show (Int32.ofInt 1 : Int32) = nI 1 from rfl, nI_add]) (by decide) rfl (fun ls hl => ?_)
                                    refine lv_goto (tgt := 156) hx hb dL_packer_450 (by decide) ?_
                                    refine W.widen (k := 120 + 346 * (kR + 1)) (n := 8900 + 2077 * (kR + 1)) (by omega) (by omega) ?_
                                    exact ihq156 A407 J287 G5 (kR + 1) (by omega) hL hW5 (by omega) _ _ _ hG (lv_sub hl [4, 5, 6, 7, 8, 9, 10, 11, 12, 1, 0] rfl)
                                  refine lv_iload hx hb dL_packer_413 (lv_at hl 12 rfl) ?_
                                  refine lv_bipush (v := nI 9) hx hb dL_packer_415 (by decide) ?_
                                  refine lv_irem hx hb dL_packer_417 (by decide) ?_
                                  refine g_top (y := nI (kR % 9)) (pk_rem (by omega) (by omega) (by omega)) ?_
                                  refine lv_bipush (v := nI 8) hx hb dL_packer_418 (by decide) ?_
                                  refine lv_icmp_lt (tgt := 440) hx hb dL_packer_420 (by decide) (fun c420 => ?_) (fun c420 => ?_)
                                  · skip
                                    have c420 : (kR % 9) < 8 := (nI_ltI (by omega) (by omega)).mp c420
                                    refine W.widen (k := 120 + 346 * kR + 346) (n := 8900 + 2077 * kR + 2077) (by omega) (by omega) ?_
                                    exact LLq440 () _ _ _ hG (lv_sub hl [0, 1, 2, 3, 4, 5, 6, 7, 8, 9, 10, 11, 12] rfl)
                                  · skip
                                    have c420 : ¬ ((kR % 9) < 8) := fun z9 => c420 ((nI_ltI (by omega) (by omega)).mpr z9)
                                    refine lv_aload_n hx hb dL_packer_423 rfl (lv_at hl 6 rfl) ?_
                                    refine lv_iload hx hb dL_packer_424 (lv_at hl 2 rfl) ?_
                                    refine lv_iload hx hb dL_packer_426 (lv_at hl 1 rfl) ?_
                                    refine lv_aload hx hb dL_packer_428 (lv_at hl 7 rfl) ?_
                                    refine lv_aload hx hb dL_packer_430 (lv_at hl 8 rfl) ?_
                                    refine lv_aload hx hb dL_packer_432 (lv_at hl 10 rfl) ?_
                                    refine gN_callS (As := [.ref (ad 0), .int (nI q180), .int (nI q197), .ref (ad 28), .ref (ad 29), .ref (ad 31)]) (rest := []) ⟨hx, hb, hml, hown, hts⟩ hE hG (cL_points_oldC l D cy base ad n A407 J287 G5 n q180 q197 (by first | assumption | omega) (by first | assumption | omega) hL (by first | assumption | omega) (by first | assumption | omega) hpos) (va_cwS 6 hts gL_packer_L_points rfl rfl rfl (by decide +kernel) ⟨Nat.le_of_ble_eq_true rfl, Nat.le_of_ble_eq_true rfl⟩) rfl hl.1 rfl (Nat.le_of_ble_eq_true rfl) dL_packer_434 ⟨(by show 120 + 346 * kR + 346 ≤ 12700; omega), (by show 8900 + 2077 * kR + 2077 ≤ 86000; omega)⟩ (fun _ _ _ hz => hz) (fun v_ A434 J434 H locs hp hG => W.widen (k := 120 + 346 * kR + 346) (n := 8900 + 2077 * kR + 2077) (by omega) (by omega) ?_)
                                    obtain ⟨rfl, rfl, rfl⟩ := hp
                                    refine W.eq (g2 := F0 mM 437 ls [.int (nI 1)]) rfl ?_
                                    refine lv_if_eq (tgt := 444) hx hb dL_packer_437 (by decide) (fun c437 => ?_) (fun c437 => ?_)
                                    · skip
                                      exact absurd c437 (by decide)
                                    · skip
                                      exact LLq440 () _ _ _ hG (lv_sub hl [0, 1, 2, 3, 4, 5, 6, 7, 8, 9, 10, 11, 12] rfl)
                    · skip
                      have c293 : ¬ (2 ≤ kR) := fun z9 => c293 ((nI_leI (by omega) (by omega)).mpr z9)
                      refine lv_iconst (v := nI 0) hx hb dL_packer_296 (by decide) ?_
                      refine lv_goto (tgt := 301) hx hb dL_packer_297 (by decide) ?_
                      refine lv_icmp_ne (tgt := 323) hx hb dL_packer_301 (by decide) (fun c301 => ?_) (fun c301 => ?_)
                      · skip
                        have c301 : ¬ ((if kR < 2 then 0 else 1) = ((0 : Nat) : Int)) := fun z9 => c301 ((cmp_eq (zI_toInt (by omega) (by omega)) (nI_toInt (by omega))).mpr z9)
                        exfalso; split at c301 <;> omega
                      · skip
                        have c301 : (if kR < 2 then 0 else 1) = ((0 : Nat) : Int) := (cmp_eq (zI_toInt (by omega) (by omega)) (nI_toInt (by omega))).mp c301
                        refine lv_aload_n hx hb dL_packer_304 rfl (lv_at hl 6 rfl) ?_
                        refine lv_aload hx hb dL_packer_305 (lv_at hl 7 rfl) ?_
                        refine lv_aload hx hb dL_packer_307 (lv_at hl 9 rfl) ?_
                        refine lv_aload hx hb dL_packer_309 (lv_at hl 10 rfl) ?_
                        refine lv_iload hx hb dL_packer_311 (lv_at hl 12 rfl) ?_
                        refine gN_callS (As := [.ref (ad 0), .ref (ad 28), .ref (ad 30), .ref (ad 31), .int (nI kR)]) (rest := []) ⟨hx, hb, hml, hown, hts⟩ hE hG (cL_isWholeC l D cy base ad n A287 J287 G5 n kR (by first | assumption | omega) (by first | assumption | omega) hC hgr hv9 hWh (by first | assumption | omega)) (va_cwS 5 hts gL_packer_L_isWhole rfl rfl rfl (by decide +kernel) ⟨Nat.le_of_ble_eq_true rfl, Nat.le_of_ble_eq_true rfl⟩) rfl hl.1 rfl (Nat.le_of_ble_eq_true rfl) dL_packer_313 ⟨(by show 120 + 346 * kR + 79 ≤ 12700; omega), (by show 8900 + 2077 * kR + 474 ≤ 86000; omega)⟩ (fun _ _ _ hz => hz) (fun v_ A313 J313 H locs hp hG => W.widen (k := 120 + 346 * kR + 79) (n := 8900 + 2077 * kR + 474) (by omega) (by omega) ?_)
                        obtain ⟨rfl, rfl, rfl⟩ := hp
                        refine W.eq (g2 := F0 mM 316 ls [.int (nI 1)]) rfl ?_
                        refine lv_if_eq (tgt := 323) hx hb dL_packer_316 (by decide) (fun c316 => ?_) (fun c316 => ?_)
                        · skip
                          exact absurd c316 (by decide)
                        · skip
                          refine lv_iconst (v := nI 1) hx hb dL_packer_319 (by decide) ?_
                          refine lv_goto (tgt := 324) hx hb dL_packer_320 (by decide) ?_
                          refine lv_istore (lv' := [(9, .int (nI 1)), (12, .int (nI q197)), (11, .int (nI q180)), (0, .ref bS), (1, .int (nI atN)), (2, .int (nI 1)), (3, .ref (ad 0)), (4, .ref (ad 28)), (5, .ref (ad 29)), (6, .ref (ad 30)), (7, .ref (ad 31)), (8, .ref (ad 32)), (10, .int (nI kR))]) hx hb dL_packer_324 hl (by decide) rfl (fun ls hl => ?_)
                          refine lv_goto (tgt := 372) hx hb dL_packer_326 (by decide) ?_
                          refine lv_iload hx hb dL_packer_372 (lv_at hl 0 rfl) ?_
                          refine lv_if_eq (tgt := 444) hx hb dL_packer_374 (by decide) (fun c374 => ?_) (fun c374 => ?_)
                          · skip
                            exact absurd c374 (by decide)
                          · skip
                            refine lv_aload_n hx hb dL_packer_377 rfl (lv_at hl 6 rfl) ?_
                            refine lv_aload hx hb dL_packer_378 (lv_at hl 7 rfl) ?_
                            refine lv_aload hx hb dL_packer_380 (lv_at hl 9 rfl) ?_
                            refine lv_aload hx hb dL_packer_382 (lv_at hl 10 rfl) ?_
                            refine gN_callS (As := [.ref (ad 0), .ref (ad 28), .ref (ad 30), .ref (ad 31)]) (rest := []) ⟨hx, hb, hml, hown, hts⟩ hE hG (cL_isReceivedC l D cy base ad n A287 J287 G5 n c2 (by first | assumption | omega) (by first | assumption | omega) hC hgr hR hA2 hc2) (va_cwS 4 hts gL_packer_L_isReceived rfl rfl rfl (by decide +kernel) ⟨Nat.le_of_ble_eq_true rfl, Nat.le_of_ble_eq_true rfl⟩) rfl hl.1 rfl (Nat.le_of_ble_eq_true rfl) dL_packer_384 ⟨(by show 120 + 346 * kR + 177 ≤ 12700; omega), (by show 8900 + 2077 * kR + 1062 ≤ 86000; omega)⟩ (fun _ _ _ hz => hz) (fun v_ A384 J384 H locs hp hG => W.widen (k := 120 + 346 * kR + 177) (n := 8900 + 2077 * kR + 1062) (by omega) (by omega) ?_)
                            obtain ⟨rfl, rfl, hA9_384⟩ := hp
                            refine W.eq (g2 := F0 mM 387 ls [.int (nI 1)]) rfl ?_
                            have hL := hL.recv
                            rw [← hA9_384] at hL
                            obtain ⟨hC, hgr, hv9, hd9, hR, c1, c2, hA0, hA1, hA2, hc2, hc1⟩ := id hL
                            refine lv_if_eq (tgt := 444) hx hb dL_packer_387 (by decide) (fun c387 => ?_) (fun c387 => ?_)
                            · skip
                              exact absurd c387 (by decide)
                            · skip
                              refine lv_aload_n hx hb dL_packer_390 rfl (lv_at hl 6 rfl) ?_
                              refine lv_aload hx hb dL_packer_391 (lv_at hl 10 rfl) ?_
                              refine lv_iload hx hb dL_packer_393 (lv_at hl 2 rfl) ?_
                              refine lv_bipush (v := nI 7) hx hb dL_packer_395 (by decide) ?_
                              refine lv_idiv hx hb dL_packer_397 (by decide) ?_
                              refine g_top (y := nI (q180 / 7)) (pk_div (by omega) (by omega) (by omega)) ?_
                              refine gN_callS (As := [.ref (ad 0), .ref (ad 31), .int (nI (q180 / 7))]) (rest := []) ⟨hx, hb, hml, hown, hts⟩ hE hG (cL_areBitsC l D cy base ad n A384 J287 G5 n (q180 / 7) (G5 28 9) c1 (by first | assumption | omega) (by first | assumption | omega) hC hA0 hA1 rfl hc1 (by first | assumption | omega)) (va_cwS 3 hts gL_packer_L_areBits rfl rfl rfl (by decide +kernel) ⟨Nat.le_of_ble_eq_true rfl, Nat.le_of_ble_eq_true rfl⟩) rfl hl.1 rfl (Nat.le_of_ble_eq_true rfl) dL_packer_398 ⟨(by show 120 + 346 * kR + 247 ≤ 12700; omega), (by show 8900 + 2077 * kR + 1482 ≤ 86000; omega)⟩ (fun _ _ _ hz => hz) (fun v_ A398 J398 H locs hp hG => W.widen (k := 120 + 346 * kR + 247) (n := 8900 + 2077 * kR + 1482) (by omega) (by omega) ?_)
                              obtain ⟨rfl, rfl, hC1_398, hO_398⟩ := hp
                              refine W.eq (g2 := F0 mM 401 ls [.int (nI 1)]) rfl ?_
                              have hL := hL.keep hC1_398 (fun k hk => hO_398 k (by omega))
                              obtain ⟨hC, hgr, hv9, hd9, hR, c1, c2, hA0, hA1, hA2, hc2, hc1⟩ := id hL
                              refine lv_if_eq (tgt := 444) hx hb dL_packer_401 (by decide) (fun c401 => ?_) (fun c401 => ?_)
                              · skip
                                exact absurd c401 (by decide)
                              · skip
                                refine lv_aload_n hx hb dL_packer_404 rfl (lv_at hl 6 rfl) ?_
                                refine lv_aload hx hb dL_packer_405 (lv_at hl 11 rfl) ?_
                                refine gN_callS (As := [.ref (ad 0), .ref (ad 32)]) (rest := []) ⟨hx, hb, hml, hown, hts⟩ hE hG (cL_areDerivedC l D cy base ad n A398 J287 G5 n (by first | assumption | omega) (by first | assumption | omega) hC hd9) (va_cwS 2 hts gL_packer_L_areDerived rfl rfl rfl (by decide +kernel) ⟨Nat.le_of_ble_eq_true rfl, Nat.le_of_ble_eq_true rfl⟩) rfl hl.1 rfl (Nat.le_of_ble_eq_true rfl) dL_packer_407 ⟨(by show 120 + 346 * kR + 343 ≤ 12700; omega), (by show 8900 + 2077 * kR + 2058 ≤ 86000; omega)⟩ (fun _ _ _ hz => hz) (fun v_ A407 J407 H locs hp hG => W.widen (k := 120 + 346 * kR + 343) (n := 8900 + 2077 * kR + 2058) (by omega) (by omega) ?_)
                                obtain ⟨rfl, rfl, hO_407⟩ := hp
                                refine W.eq (g2 := F0 mM 410 ls [.int (nI 1)]) rfl ?_
                                have hL := hL.keep (hC.dersG hO_407) (fun k hk => hO_407 k (by omega))
                                obtain ⟨hC, hgr, hv9, hd9, hR, c1, c2, hA0, hA1, hA2, hc2, hc1⟩ := id hL
                                refine lv_if_eq (tgt := 444) hx hb dL_packer_410 (by decide) (fun c410 => ?_) (fun c410 => ?_)
                                · skip
                                  exact absurd c410 (by decide)
                                · skip
                                  have LLq440 : ∀ (_ : Unit)   (H : Heap) (locs : List Loc) (ls : Array Slot), gH D base sM ad (33 + 2 * n) (gw cy ad n A407 J287) H locs → lv_has ls 13 [(9, .int (nI 1)), (12, .int (nI q197)), (11, .int (nI q180)), (0, .ref bS), (1, .int (nI atN)), (2, .int (nI 1)), (3, .ref (ad 0)), (4, .ref (ad 28)), (5, .ref (ad 29)), (6, .ref (ad 30)), (7, .ref (ad 31)), (8, .ref (ad 32)), (10, .int (nI kR))] → W pM l eM ({ frames := 11, cells := 12700, slots := 86000, locals := 300 } : Room) sM mM aM bM methM cM H locs (120 + 346 * kR + 346) (8900 + 2077 * kR + 2077) (QQ) (F0 mM 440 ls []) := by
                                    intro _ H locs ls hG hl
                                    refine lv_iconst (v := nI 1) hx hb dL_packer_440 (by decide) ?_
                                    refine lv_goto (tgt := 445) hx hb dL_packer_441 (by decide) ?_
                                    refine lv_istore (lv' := [(9, .int (nI 1)), (12, .int (nI q197)), (11, .int (nI q180)), (0, .ref bS), (1, .int (nI atN)), (2, .int (nI 1)), (3, .ref (ad 0)), (4, .ref (ad 28)), (5, .ref (ad 29)), (6, .ref (ad 30)), (7, .ref (ad 31)), (8, .ref (ad 32)), (10, .int (nI kR))]) hx hb dL_packer_445 hl (by decide) rfl (fun ls hl => ?_)
                                    refine lv_iinc (v := nI (kR + 1)) (lv' := [(10, .int (nI (kR + 1))), (9, .int (nI 1)), (12, .int (nI q197)), (11, .int (nI q180)), (0, .ref bS), (1, .int (nI atN)), (2, .int (nI 1)), (3, .ref (ad 0)), (4, .ref (ad 28)), (5, .ref (ad 29)), (6, .ref (ad 30)), (7, .ref (ad 31)), (8, .ref (ad 32))]) hx hb dL_packer_447 hl (k := 12) rfl (by rw [show (Int32.ofInt 1 : Int32) = nI 1 from rfl, nI_add]) (by decide) rfl (fun ls hl => ?_)
                                    refine lv_goto (tgt := 156) hx hb dL_packer_450 (by decide) ?_
                                    refine W.widen (k := 120 + 346 * (kR + 1)) (n := 8900 + 2077 * (kR + 1)) (by omega) (by omega) ?_
                                    exact ihq156 A407 J287 G5 (kR + 1) (by omega) hL hW5 (by omega) _ _ _ hG (lv_sub hl [4, 5, 6, 7, 8, 9, 10, 11, 12, 1, 0] rfl)
                                  refine lv_iload hx hb dL_packer_413 (lv_at hl 12 rfl) ?_
                                  refine lv_bipush (v := nI 9) hx hb dL_packer_415 (by decide) ?_
                                  refine lv_irem hx hb dL_packer_417 (by decide) ?_
                                  refine g_top (y := nI (kR % 9)) (pk_rem (by omega) (by omega) (by omega)) ?_
                                  refine lv_bipush (v := nI 8) hx hb dL_packer_418 (by decide) ?_
                                  refine lv_icmp_lt (tgt := 440) hx hb dL_packer_420 (by decide) (fun c420 => ?_) (fun c420 => ?_)
                                  · skip
                                    have c420 : (kR % 9) < 8 := (nI_ltI (by omega) (by omega)).mp c420
                                    refine W.widen (k := 120 + 346 * kR + 346) (n := 8900 + 2077 * kR + 2077) (by omega) (by omega) ?_
                                    exact LLq440 () _ _ _ hG (lv_sub hl [0, 1, 2, 3, 4, 5, 6, 7, 8, 9, 10, 11, 12] rfl)
                                  · skip
                                    have c420 : ¬ ((kR % 9) < 8) := fun z9 => c420 ((nI_ltI (by omega) (by omega)).mpr z9)
                                    refine lv_aload_n hx hb dL_packer_423 rfl (lv_at hl 6 rfl) ?_
                                    refine lv_iload hx hb dL_packer_424 (lv_at hl 2 rfl) ?_
                                    refine lv_iload hx hb dL_packer_426 (lv_at hl 1 rfl) ?_
                                    refine lv_aload hx hb dL_packer_428 (lv_at hl 7 rfl) ?_
                                    refine lv_aload hx hb dL_packer_430 (lv_at hl 8 rfl) ?_
                                    refine lv_aload hx hb dL_packer_432 (lv_at hl 10 rfl) ?_
                                    refine gN_callS (As := [.ref (ad 0), .int (nI q180), .int (nI q197), .ref (ad 28), .ref (ad 29), .ref (ad 31)]) (rest := []) ⟨hx, hb, hml, hown, hts⟩ hE hG (cL_points_oldC l D cy base ad n A407 J287 G5 n q180 q197 (by first | assumption | omega) (by first | assumption | omega) hL (by first | assumption | omega) (by first | assumption | omega) hpos) (va_cwS 6 hts gL_packer_L_points rfl rfl rfl (by decide +kernel) ⟨Nat.le_of_ble_eq_true rfl, Nat.le_of_ble_eq_true rfl⟩) rfl hl.1 rfl (Nat.le_of_ble_eq_true rfl) dL_packer_434 ⟨(by show 120 + 346 * kR + 346 ≤ 12700; omega), (by show 8900 + 2077 * kR + 2077 ≤ 86000; omega)⟩ (fun _ _ _ hz => hz) (fun v_ A434 J434 H locs hp hG => W.widen (k := 120 + 346 * kR + 346) (n := 8900 + 2077 * kR + 2077) (by omega) (by omega) ?_)
                                    obtain ⟨rfl, rfl, rfl⟩ := hp
                                    refine W.eq (g2 := F0 mM 437 ls [.int (nI 1)]) rfl ?_
                                    refine lv_if_eq (tgt := 444) hx hb dL_packer_437 (by decide) (fun c437 => ?_) (fun c437 => ?_)
                                    · skip
                                      exact absurd c437 (by decide)
                                    · skip
                                      exact LLq440 () _ _ _ hG (lv_sub hl [0, 1, 2, 3, 4, 5, 6, 7, 8, 9, 10, 11, 12] rfl)
  refine W.widen (k := 120 + 346 * 0) (n := 8900 + 2077 * 0) (by omega) (by omega) ?_
  exact LLq156 _ A J G 0 (by omega) hL0 (WI_0 hL0.1 h09) (Nat.lt_succ_self _) _ _ _ hG (lv_sub hl [0, 1, 2, 3, 4, 5, 6, 7, 8, 9, 10] rfl)
set_option maxHeartbeats 4000000 in
set_option maxRecDepth 100000 in
theorem packer_N (l : Launch) (D : va_G) (cy : Nat → ClassId) (base : Nat) {pM : Program} {eM : Env} {sM : State} {mM : MethodId} {aM : Array Value} {bM : List Frame} {methM : Method} {cM : Code} (QQ : State → Prop) (hx : pM.tables.exec = Jvm.exec) (hb : cM.code = cL_packer) (hr : methM.sig.returnType = (some .boolean)) (hts : ∀ w ∈ wsL_packer, w.before aM sM = true) (hown : sM.vm.findClass yL_packer.cls = some mM.cls) (hlocks : methM.locks = false) (hml : cM.maxLocals = 13) (hE : gE D cy base sM) (bS LS atN : Nat) (xs : Nat → Int32) (hst : l.stackTraces = false) (hXS : gXS bS LS xs base sM) (hat : atN ≤ 400) (hKE : ∀ (H : Heap) (locs : List Loc) (ls : Array Slot), va_S (fun q => base ≤ q) sM.heap H locs → W pM l eM ({ frames := 11, cells := 12700, slots := 86000, locals := 300 } : Room) sM mM aM bM methM cM H locs (12700) (86000) QQ (F0 mM 455 ls [.int (nI 1)])) (ad : Nat → Nat) (n : Nat) (A : Nat → Nat → Int32) (J : Nat → Nat → Int64) (G : Nat → Nat → Int) (hL0 : LI n A J G) (h09 : G 28 9 = 0) (hn0 : n ≠ 0) (H : Heap) (locs : List Loc) (ls : Array Slot) (hG : gH D base sM ad (33 + 2 * n) (gw cy ad n A J) H locs) (hl : lv_has ls 13 [(0, .ref bS), (1, .int (nI atN)), (2, .int (nI 0)), (3, .ref (ad 0)), (4, .ref (ad 28)), (5, .ref (ad 29)), (6, .ref (ad 30)), (7, .ref (ad 31)), (8, .ref (ad 32)), (9, .int (nI 1)), (10, .int (nI 0))]) : W pM l eM ({ frames := 11, cells := 12700, slots := 86000, locals := 300 } : Room) sM mM aM bM methM cM H locs (120) (8900) QQ (F0 mM 156 ls []) := by
  have LLq156 : ∀ (fuel : Nat) (Aq : Nat → Nat → Int32) (Jq : Nat → Nat → Int64) (Gq : Nat → Nat → Int) (kR : Nat) (hkR : kR ≤ 36) (hL : LI n Aq Jq Gq) (hp9 : kR ≠ 0 → 0 < Gq 28 9) (_ : (36 - kR) < fuel) (H : Heap) (locs : List Loc) (ls : Array Slot), gH D base sM ad (33 + 2 * n) (gw cy ad n Aq Jq) H locs → lv_has ls 13 [(0, .ref bS), (1, .int (nI atN)), (2, .int (nI 0)), (3, .ref (ad 0)), (4, .ref (ad 28)), (5, .ref (ad 29)), (6, .ref (ad 30)), (7, .ref (ad 31)), (8, .ref (ad 32)), (9, .int (nI 1)), (10, .int (nI kR))] → W pM l eM ({ frames := 11, cells := 12700, slots := 86000, locals := 300 } : Room) sM mM aM bM methM cM H locs (120 + 270 * kR) (8900 + 1615 * kR) (QQ) (F0 mM 156 ls []) := by
    intro fuel
    induction fuel with
    | zero => intro Aq Jq Gq kR hkR hL hp9 hms H locs ls hG hl; exact absurd hms (Nat.not_lt_zero _)
    | succ fuel ihq156 =>
      intro Aq Jq Gq kR hkR hL hp9 hms H locs ls hG hl
      refine lv_iload hx hb dL_packer_156 (lv_at hl 10 rfl) ?_
      refine lv_bipush (v := nI 36) hx hb dL_packer_158 (by decide) ?_
      refine lv_icmp_ge (tgt := 453) hx hb dL_packer_160 (by decide) (fun c160 => ?_) (fun c160 => ?_)
      · skip
        have c160 : 36 ≤ kR := (nI_leI (by omega) (by omega)).mp c160
        refine lv_iload hx hb dL_packer_453 (lv_at hl 9 rfl) ?_
        exact W.widen (k := 12700) (n := 86000) (by omega) (by omega) (hKE _ _ _ hG.2.2)
      · skip
        have c160 : ¬ (36 ≤ kR) := fun z9 => c160 ((nI_leI (by omega) (by omega)).mpr z9)
        refine lv_iload hx hb dL_packer_163 (lv_at hl 9 rfl) ?_
        refine lv_if_eq (tgt := 453) hx hb dL_packer_165 (by decide) (fun c165 => ?_) (fun c165 => ?_)
        · skip
          exact absurd c165 (by decide)
        · skip
          refine lv_aload_n hx hb dL_packer_168 rfl (lv_at hl 0 rfl) ?_
          refine lv_iload_n hx hb dL_packer_169 rfl (lv_at hl 1 rfl) ?_
          refine lv_iconst (v := nI 3) hx hb dL_packer_170 (by decide) ?_
          refine lv_iload hx hb dL_packer_171 (lv_at hl 10 rfl) ?_
          refine lv_imul hx hb dL_packer_173 ?_
          refine g_top (y := nI (3 * kR)) (by rw [pk_mul]) ?_
          refine lv_iadd hx hb dL_packer_174 ?_
          refine g_top (y := nI (atN + (3 * kR))) (by rw [nI_add]) ?_
          refine lv_bipush (v := nI 19) hx hb dL_packer_175 (by decide) ?_
          refine lv_iadd hx hb dL_packer_177 ?_
          refine g_top (y := nI (atN + (3 * kR) + 19)) (by rw [nI_add]) ?_
          refine lv_ldc (v := 1073741824) hx hb hown (hts (.constant RL 139 (1073741824)) (List.mem_of_getElem? (i := 6) rfl)) dL_packer_178 ?_
          refine g_top (y := nI 1073741824) (by decide) ?_
          refine gS_callS (As := [.ref bS, .int (nI (atN + (3 * kR) + 19)), .int (nI 1073741824)]) (rest := []) ⟨hx, hb, hml, hown, hts⟩ hE hXS hG (cL_drawC l D cy base bS LS xs ad n Aq Jq (atN + (3 * kR) + 19) 1073741824 (by omega) (by omega)) (va_cwS 3 hts gL_packer_L_draw rfl rfl rfl (by decide +kernel) ⟨(Nat.le_of_ble_eq_true rfl), (Nat.le_of_ble_eq_true rfl)⟩) rfl hl.1 rfl (Nat.le_of_ble_eq_true rfl) dL_packer_180 ⟨(by show 120 + 270 * kR ≤ 12700; omega), (by show 8900 + 1615 * kR ≤ 86000; omega)⟩ (fun v_ A_ J_ H locs hp hG => ?_)
          obtain ⟨q180, rfl, hq180, rfl, rfl⟩ := hp
          refine W.eq (g2 := F0 mM 183 ls [.int (nI q180)]) rfl ?_
          refine lv_istore (lv' := [(11, .int (nI q180)), (0, .ref bS), (1, .int (nI atN)), (2, .int (nI 0)), (3, .ref (ad 0)), (4, .ref (ad 28)), (5, .ref (ad 29)), (6, .ref (ad 30)), (7, .ref (ad 31)), (8, .ref (ad 32)), (9, .int (nI 1)), (10, .int (nI kR))]) hx hb dL_packer_183 hl (by decide) rfl (fun ls hl => ?_)
          refine lv_aload_n hx hb dL_packer_185 rfl (lv_at hl 1 rfl) ?_
          refine lv_iload_n hx hb dL_packer_186 rfl (lv_at hl 2 rfl) ?_
          refine lv_iconst (v := nI 3) hx hb dL_packer_187 (by decide) ?_
          refine lv_iload hx hb dL_packer_188 (lv_at hl 11 rfl) ?_
          refine lv_imul hx hb dL_packer_190 ?_
          refine g_top (y := nI (3 * kR)) (by rw [pk_mul]) ?_
          refine lv_iadd hx hb dL_packer_191 ?_
          refine g_top (y := nI (atN + (3 * kR))) (by rw [nI_add]) ?_
          refine lv_bipush (v := nI 20) hx hb dL_packer_192 (by decide) ?_
          refine lv_iadd hx hb dL_packer_194 ?_
          refine g_top (y := nI (atN + (3 * kR) + 20)) (by rw [nI_add]) ?_
          refine lv_ldc (v := 1073741824) hx hb hown (hts (.constant RL 139 (1073741824)) (List.mem_of_getElem? (i := 6) rfl)) dL_packer_195 ?_
          refine g_top (y := nI 1073741824) (by decide) ?_
          refine gS_callS (As := [.ref bS, .int (nI (atN + (3 * kR) + 20)), .int (nI 1073741824)]) (rest := []) ⟨hx, hb, hml, hown, hts⟩ hE hXS hG (cL_drawC l D cy base bS LS xs ad n Aq Jq (atN + (3 * kR) + 20) 1073741824 (by omega) (by omega)) (va_cwS 3 hts gL_packer_L_draw rfl rfl rfl (by decide +kernel) ⟨(Nat.le_of_ble_eq_true rfl), (Nat.le_of_ble_eq_true rfl)⟩) rfl hl.1 rfl (Nat.le_of_ble_eq_true rfl) dL_packer_197 ⟨(by show 120 + 270 * kR ≤ 12700; omega), (by show 8900 + 1615 * kR ≤ 86000; omega)⟩ (fun v_ A_ J_ H locs hp hG => ?_)
          obtain ⟨q197, rfl, hq197, rfl, rfl⟩ := hp
          refine W.eq (g2 := F0 mM 200 ls [.int (nI q197)]) rfl ?_
          refine lv_istore (lv' := [(12, .int (nI q197)), (11, .int (nI q180)), (0, .ref bS), (1, .int (nI atN)), (2, .int (nI 0)), (3, .ref (ad 0)), (4, .ref (ad 28)), (5, .ref (ad 29)), (6, .ref (ad 30)), (7, .ref (ad 31)), (8, .ref (ad 32)), (9, .int (nI 1)), (10, .int (nI kR))]) hx hb dL_packer_200 hl (by decide) rfl (fun ls hl => ?_)
          refine lv_iload_n hx hb dL_packer_202 rfl (lv_at hl 4 rfl) ?_
          refine lv_if_eq (tgt := 329) hx hb dL_packer_203 (by decide) (fun c203 => ?_) (fun c203 => ?_)
          · skip
            refine lv_aload_n hx hb dL_packer_329 rfl (lv_at hl 5 rfl) ?_
            have LLq355 : ∀  (wN : Nat) (hwN : wN < 14 ∧ (kR < 3 → wN = 4)) (H : Heap) (locs : List Loc) (ls : Array Slot), gH D base sM ad (33 + 2 * n) (gw cy ad n Aq Jq) H locs → lv_has ls 13 [(12, .int (nI q197)), (11, .int (nI q180)), (0, .ref bS), (1, .int (nI atN)), (2, .int (nI 0)), (3, .ref (ad 0)), (4, .ref (ad 28)), (5, .ref (ad 29)), (6, .ref (ad 30)), (7, .ref (ad 31)), (8, .ref (ad 32)), (9, .int (nI 1)), (10, .int (nI kR))] → W pM l eM ({ frames := 11, cells := 12700, slots := 86000, locals := 300 } : Room) sM mM aM bM methM cM H locs (120 + 270 * kR) (8900 + 1615 * kR) (QQ) (F0 mM 355 ls [.int (nI wN), .ref (ad 0)]) := by
              intro wN hwN H locs ls hG hl
              refine lv_iload hx hb dL_packer_355 (lv_at hl 1 rfl) ?_
              refine lv_iload hx hb dL_packer_357 (lv_at hl 0 rfl) ?_
              refine lv_aload hx hb dL_packer_359 (lv_at hl 6 rfl) ?_
              refine lv_aload hx hb dL_packer_361 (lv_at hl 8 rfl) ?_
              refine lv_aload hx hb dL_packer_363 (lv_at hl 9 rfl) ?_
              refine lv_aload hx hb dL_packer_365 (lv_at hl 10 rfl) ?_
              refine gN_callS (As := [.ref (ad 0), .int (nI wN), .int (nI q180), .int (nI q197), .ref (ad 28), .ref (ad 30), .ref (ad 31), .ref (ad 32)]) (rest := []) ⟨hx, hb, hml, hown, hts⟩ hE hG (cL_stepC l D cy base ad n Aq Jq Gq n wN q180 q197 (by first | assumption | omega) (by first | assumption | omega) hL (by first | assumption | omega) (by first | assumption | omega) (by first | assumption | omega)) (va_cwS 8 hts gL_packer_L_step rfl rfl rfl (by decide +kernel) ⟨Nat.le_of_ble_eq_true rfl, Nat.le_of_ble_eq_true rfl⟩) rfl hl.1 rfl (Nat.le_of_ble_eq_true rfl) dL_packer_367 ⟨(by show 120 + 270 * kR + 2 ≤ 12700; omega), (by show 8900 + 1615 * kR + 12 ≤ 86000; omega)⟩ (fun _ _ _ hz => hz) (fun v_ A367 J367 H locs hp hG => W.widen (k := 120 + 270 * kR + 2) (n := 8900 + 1615 * kR + 12) (by omega) (by omega) ?_)
              obtain ⟨G1_367, rfl, hL1_367, h9_367, hJ9_367⟩ := hp
              refine W.eq (g2 := F0 mM 370 ls [.int (nI 1)]) rfl ?_
              have hL := hL1_367
              obtain ⟨hC, hgr, hv9, hd9, hR, c1, c2, hA0, hA1, hA2, hc2, hc1⟩ := id hL1_367
              have hpos : 0 < G1_367 28 9 := (by rcases Nat.eq_zero_or_pos kR with z9 | z9; (exact h9_367.2 (by omega) (by omega)); (have := hp9 (by omega); have := h9_367.1; omega))
              refine lv_istore (lv' := [(9, .int (nI 1)), (12, .int (nI q197)), (11, .int (nI q180)), (0, .ref bS), (1, .int (nI atN)), (2, .int (nI 0)), (3, .ref (ad 0)), (4, .ref (ad 28)), (5, .ref (ad 29)), (6, .ref (ad 30)), (7, .ref (ad 31)), (8, .ref (ad 32)), (10, .int (nI kR))]) hx hb dL_packer_370 hl (by decide) rfl (fun ls hl => ?_)
              refine lv_iload hx hb dL_packer_372 (lv_at hl 0 rfl) ?_
              refine lv_if_eq (tgt := 444) hx hb dL_packer_374 (by decide) (fun c374 => ?_) (fun c374 => ?_)
              · skip
                exact absurd c374 (by decide)
              · skip
                refine lv_aload_n hx hb dL_packer_377 rfl (lv_at hl 6 rfl) ?_
                refine lv_aload hx hb dL_packer_378 (lv_at hl 7 rfl) ?_
                refine lv_aload hx hb dL_packer_380 (lv_at hl 9 rfl) ?_
                refine lv_aload hx hb dL_packer_382 (lv_at hl 10 rfl) ?_
                refine gN_callS (As := [.ref (ad 0), .ref (ad 28), .ref (ad 30), .ref (ad 31)]) (rest := []) ⟨hx, hb, hml, hown, hts⟩ hE hG (cL_isReceivedC l D cy base ad n A367 J367 G1_367 n c2 (by first | assumption | omega) (by first | assumption | omega) hC hgr hR hA2 hc2) (va_cwS 4 hts gL_packer_L_isReceived rfl rfl rfl (by decide +kernel) ⟨Nat.le_of_ble_eq_true rfl, Nat.le_of_ble_eq_true rfl⟩) rfl hl.1 rfl (Nat.le_of_ble_eq_true rfl) dL_packer_384 ⟨(by show 120 + 270 * kR + 100 ≤ 12700; omega), (by show 8900 + 1615 * kR + 600 ≤ 86000; omega)⟩ (fun _ _ _ hz => hz) (fun v_ A384 J384 H locs hp hG => W.widen (k := 120 + 270 * kR + 100) (n := 8900 + 1615 * kR + 600) (by omega) (by omega) ?_)
                obtain ⟨rfl, rfl, hA9_384⟩ := hp
                refine W.eq (g2 := F0 mM 387 ls [.int (nI 1)]) rfl ?_
                have hL := hL.recv
                rw [← hA9_384] at hL
                obtain ⟨hC, hgr, hv9, hd9, hR, c1, c2, hA0, hA1, hA2, hc2, hc1⟩ := id hL
                refine lv_if_eq (tgt := 444) hx hb dL_packer_387 (by decide) (fun c387 => ?_) (fun c387 => ?_)
                · skip
                  exact absurd c387 (by decide)
                · skip
                  refine lv_aload_n hx hb dL_packer_390 rfl (lv_at hl 6 rfl) ?_
                  refine lv_aload hx hb dL_packer_391 (lv_at hl 10 rfl) ?_
                  refine lv_iload hx hb dL_packer_393 (lv_at hl 2 rfl) ?_
                  refine lv_bipush (v := nI 7) hx hb dL_packer_395 (by decide) ?_
                  refine lv_idiv hx hb dL_packer_397 (by decide) ?_
                  refine g_top (y := nI (q180 / 7)) (pk_div (by omega) (by omega) (by omega)) ?_
                  refine gN_callS (As := [.ref (ad 0), .ref (ad 31), .int (nI (q180 / 7))]) (rest := []) ⟨hx, hb, hml, hown, hts⟩ hE hG (cL_areBitsC l D cy base ad n A384 J367 G1_367 n (q180 / 7) (G1_367 28 9) c1 (by first | assumption | omega) (by first | assumption | omega) hC hA0 hA1 rfl hc1 (by first | assumption | omega)) (va_cwS 3 hts gL_packer_L_areBits rfl rfl rfl (by decide +kernel) ⟨Nat.le_of_ble_eq_true rfl, Nat.le_of_ble_eq_true rfl⟩) rfl hl.1 rfl (Nat.le_of_ble_eq_true rfl) dL_packer_398 ⟨(by show 120 + 270 * kR + 170 ≤ 12700; omega), (by show 8900 + 1615 * kR + 1020 ≤ 86000; omega)⟩ (fun _ _ _ hz => hz) (fun v_ A398 J398 H locs hp hG => W.widen (k := 120 + 270 * kR + 170) (n := 8900 + 1615 * kR + 1020) (by omega) (by omega) ?_)
                  obtain ⟨rfl, rfl, hC1_398, hO_398⟩ := hp
                  refine W.eq (g2 := F0 mM 401 ls [.int (nI 1)]) rfl ?_
                  have hL := hL.keep hC1_398 (fun k hk => hO_398 k (by omega))
                  obtain ⟨hC, hgr, hv9, hd9, hR, c1, c2, hA0, hA1, hA2, hc2, hc1⟩ := id hL
                  refine lv_if_eq (tgt := 444) hx hb dL_packer_401 (by decide) (fun c401 => ?_) (fun c401 => ?_)
                  · skip
                    exact absurd c401 (by decide)
                  · skip
                    refine lv_aload_n hx hb dL_packer_404 rfl (lv_at hl 6 rfl) ?_
                    refine lv_aload hx hb dL_packer_405 (lv_at hl 11 rfl) ?_
                    refine gN_callS (As := [.ref (ad 0), .ref (ad 32)]) (rest := []) ⟨hx, hb, hml, hown, hts⟩ hE hG (cL_areDerivedC l D cy base ad n A398 J367 G1_367 n (by first | assumption | omega) (by first | assumption | omega) hC hd9) (va_cwS 2 hts gL_packer_L_areDerived rfl rfl rfl (by decide +kernel) ⟨Nat.le_of_ble_eq_true rfl, Nat.le_of_ble_eq_true rfl⟩) rfl hl.1 rfl (Nat.le_of_ble_eq_true rfl) dL_packer_407 ⟨(by show 120 + 270 * kR + 266 ≤ 12700; omega), (by show 8900 + 1615 * kR + 1596 ≤ 86000; omega)⟩ (fun _ _ _ hz => hz) (fun v_ A407 J407 H locs hp hG => W.widen (k := 120 + 270 * kR + 266) (n := 8900 + 1615 * kR + 1596) (by omega) (by omega) ?_)
                    obtain ⟨rfl, rfl, hO_407⟩ := hp
                    refine W.eq (g2 := F0 mM 410 ls [.int (nI 1)]) rfl ?_
                    have hL := hL.keep (hC.dersG hO_407) (fun k hk => hO_407 k (by omega))
                    obtain ⟨hC, hgr, hv9, hd9, hR, c1, c2, hA0, hA1, hA2, hc2, hc1⟩ := id hL
                    refine lv_if_eq (tgt := 444) hx hb dL_packer_410 (by decide) (fun c410 => ?_) (fun c410 => ?_)
                    · skip
                      exact absurd c410 (by decide)
                    · skip
                      have LLq440 : ∀ (_ : Unit)   (H : Heap) (locs : List Loc) (ls : Array Slot), gH D base sM ad (33 + 2 * n) (gw cy ad n A407 J367) H locs → lv_has ls 13 [(9, .int (nI 1)), (12, .int (nI q197)), (11, .int (nI q180)), (0, .ref bS), (1, .int (nI atN)), (2, .int (nI 0)), (3, .ref (ad 0)), (4, .ref (ad 28)), (5, .ref (ad 29)), (6, .ref (ad 30)), (7, .ref (ad 31)), (8, .ref (ad 32)), (10, .int (nI kR))] → W pM l eM ({ frames := 11, cells := 12700, slots := 86000, locals := 300 } : Room) sM mM aM bM methM cM H locs (120 + 270 * kR + 269) (8900 + 1615 * kR + 1615) (QQ) (F0 mM 440 ls []) := by
                        intro _ H locs ls hG hl
                        refine lv_iconst (v := nI 1) hx hb dL_packer_440 (by decide) ?_
                        refine lv_goto (tgt := 445) hx hb dL_packer_441 (by decide) ?_
                        refine lv_istore (lv' := [(9, .int (nI 1)), (12, .int (nI q197)), (11, .int (nI q180)), (0, .ref bS), (1, .int (nI atN)), (2, .int (nI 0)), (3, .ref (ad 0)), (4, .ref (ad 28)), (5, .ref (ad 29)), (6, .ref (ad 30)), (7, .ref (ad 31)), (8, .ref (ad 32)), (10, .int (nI kR))]) hx hb dL_packer_445 hl (by decide) rfl (fun ls hl => ?_)
                        refine lv_iinc (v := nI (kR + 1)) (lv' := [(10, .int (nI (kR + 1))), (9, .int (nI 1)), (12, .int (nI q197)), (11, .int (nI q180)), (0, .ref bS), (1, .int (nI atN)), (2, .int (nI 0)), (3, .ref (ad 0)), (4, .ref (ad 28)), (5, .ref (ad 29)), (6, .ref (ad 30)), (7, .ref (ad 31)), (8, .ref (ad 32))]) hx hb dL_packer_447 hl (k := 12) rfl (by rw [show (Int32.ofInt 1 : Int32) = nI 1 from rfl, nI_add]) (by decide) rfl (fun ls hl => ?_)
                        refine lv_goto (tgt := 156) hx hb dL_packer_450 (by decide) ?_
                        refine W.widen (k := 120 + 270 * (kR + 1)) (n := 8900 + 1615 * (kR + 1)) (by omega) (by omega) ?_
                        exact ihq156 A407 J367 G1_367 (kR + 1) (by omega) hL (fun _ => hpos) (by omega) _ _ _ hG (lv_sub hl [4, 5, 6, 7, 8, 9, 10, 11, 12, 1, 0] rfl)
                      refine lv_iload hx hb dL_packer_413 (lv_at hl 12 rfl) ?_
                      refine lv_bipush (v := nI 9) hx hb dL_packer_415 (by decide) ?_
                      refine lv_irem hx hb dL_packer_417 (by decide) ?_
                      refine g_top (y := nI (kR % 9)) (pk_rem (by omega) (by omega) (by omega)) ?_
                      refine lv_bipush (v := nI 8) hx hb dL_packer_418 (by decide) ?_
                      refine lv_icmp_lt (tgt := 440) hx hb dL_packer_420 (by decide) (fun c420 => ?_) (fun c420 => ?_)
                      · skip
                        have c420 : (kR % 9) < 8 := (nI_ltI (by omega) (by omega)).mp c420
                        refine W.widen (k := 120 + 270 * kR + 269) (n := 8900 + 1615 * kR + 1615) (by omega) (by omega) ?_
                        exact LLq440 () _ _ _ hG (lv_sub hl [0, 1, 2, 3, 4, 5, 6, 7, 8, 9, 10, 11, 12] rfl)
                      · skip
                        have c420 : ¬ ((kR % 9) < 8) := fun z9 => c420 ((nI_ltI (by omega) (by omega)).mpr z9)
                        refine lv_aload_n hx hb dL_packer_423 rfl (lv_at hl 6 rfl) ?_
                        refine lv_iload hx hb dL_packer_424 (lv_at hl 2 rfl) ?_
                        refine lv_iload hx hb dL_packer_426 (lv_at hl 1 rfl) ?_
                        refine lv_aload hx hb dL_packer_428 (lv_at hl 7 rfl) ?_
                        refine lv_aload hx hb dL_packer_430 (lv_at hl 8 rfl) ?_
                        refine lv_aload hx hb dL_packer_432 (lv_at hl 10 rfl) ?_
                        refine gN_callS (As := [.ref (ad 0), .int (nI q180), .int (nI q197), .ref (ad 28), .ref (ad 29), .ref (ad 31)]) (rest := []) ⟨hx, hb, hml, hown, hts⟩ hE hG (cL_points_oldC l D cy base ad n A407 J367 G1_367 n q180 q197 (by first | assumption | omega) (by first | assumption | omega) hL (by first | assumption | omega) (by first | assumption | omega) hpos) (va_cwS 6 hts gL_packer_L_points rfl rfl rfl (by decide +kernel) ⟨Nat.le_of_ble_eq_true rfl, Nat.le_of_ble_eq_true rfl⟩) rfl hl.1 rfl (Nat.le_of_ble_eq_true rfl) dL_packer_434 ⟨(by show 120 + 270 * kR + 269 ≤ 12700; omega), (by show 8900 + 1615 * kR + 1615 ≤ 86000; omega)⟩ (fun _ _ _ hz => hz) (fun v_ A434 J434 H locs hp hG => W.widen (k := 120 + 270 * kR + 269) (n := 8900 + 1615 * kR + 1615) (by omega) (by omega) ?_)
                        obtain ⟨rfl, rfl, rfl⟩ := hp
                        refine W.eq (g2 := F0 mM 437 ls [.int (nI 1)]) rfl ?_
                        refine lv_if_eq (tgt := 444) hx hb dL_packer_437 (by decide) (fun c437 => ?_) (fun c437 => ?_)
                        · skip
                          exact absurd c437 (by decide)
                        · skip
                          exact LLq440 () _ _ _ hG (lv_sub hl [0, 1, 2, 3, 4, 5, 6, 7, 8, 9, 10, 11, 12] rfl)
            refine lv_iload hx hb dL_packer_330 (lv_at hl 12 rfl) ?_
            refine lv_iconst (v := nI 3) hx hb dL_packer_332 (by decide) ?_
            refine lv_icmp_ge (tgt := 340) hx hb dL_packer_333 (by decide) (fun c333 => ?_) (fun c333 => ?_)
            · skip
              have c333 : 3 ≤ kR := (nI_leI (by omega) (by omega)).mp c333
              refine lv_aload_n hx hb dL_packer_340 rfl (lv_at hl 2 rfl) ?_
              refine lv_iload_n hx hb dL_packer_341 rfl (lv_at hl 3 rfl) ?_
              refine lv_iconst (v := nI 3) hx hb dL_packer_342 (by decide) ?_
              refine lv_iload hx hb dL_packer_343 (lv_at hl 12 rfl) ?_
              refine lv_imul hx hb dL_packer_345 ?_
              refine g_top (y := nI (3 * kR)) (by rw [pk_mul]) ?_
              refine lv_iadd hx hb dL_packer_346 ?_
              refine g_top (y := nI (atN + (3 * kR))) (by rw [nI_add]) ?_
              refine lv_bipush (v := nI 18) hx hb dL_packer_347 (by decide) ?_
              refine lv_iadd hx hb dL_packer_349 ?_
              refine g_top (y := nI (atN + (3 * kR) + 18)) (by rw [nI_add]) ?_
              refine lv_bipush (v := nI 14) hx hb dL_packer_350 (by decide) ?_
              refine gS_callS (As := [.ref bS, .int (nI (atN + (3 * kR) + 18)), .int (nI 14)]) (rest := [.ref (ad 0)]) ⟨hx, hb, hml, hown, hts⟩ hE hXS hG (cL_drawC l D cy base bS LS xs ad n Aq Jq (atN + (3 * kR) + 18) 14 (by omega) (by omega)) (va_cwS 3 hts gL_packer_L_draw rfl rfl rfl (by decide +kernel) ⟨(Nat.le_of_ble_eq_true rfl), (Nat.le_of_ble_eq_true rfl)⟩) rfl hl.1 rfl (Nat.le_of_ble_eq_true rfl) dL_packer_352 ⟨(by show 120 + 270 * kR ≤ 12700; omega), (by show 8900 + 1615 * kR ≤ 86000; omega)⟩ (fun v_ A_ J_ H locs hp hG => ?_)
              obtain ⟨q352, rfl, hq352, rfl, rfl⟩ := hp
              refine W.eq (g2 := F0 mM 355 ls [.int (nI q352), .ref (ad 0)]) rfl ?_
              exact LLq355 q352 (by omega) _ _ _ hG (lv_sub hl [0, 1, 2, 3, 4, 5, 6, 7, 8, 9, 10, 11, 12] rfl)
            · skip
              have c333 : ¬ (3 ≤ kR) := fun z9 => c333 ((nI_leI (by omega) (by omega)).mpr z9)
              refine lv_iconst (v := nI 4) hx hb dL_packer_336 (by decide) ?_
              refine lv_goto (tgt := 355) hx hb dL_packer_337 (by decide) ?_
              exact LLq355 4 (by omega) _ _ _ hG (lv_sub hl [0, 1, 2, 3, 4, 5, 6, 7, 8, 9, 10, 11, 12] rfl)
          · skip
            exact absurd c203 (by decide)
  refine W.widen (k := 120 + 270 * 0) (n := 8900 + 1615 * 0) (by omega) (by omega) ?_
  exact LLq156 _ A J G 0 (by omega) hL0 (fun z9 => absurd rfl z9) (Nat.lt_succ_self _) _ _ _ hG (lv_sub hl [0, 1, 2, 3, 4, 5, 6, 7, 8, 9, 10] rfl)

set_option maxHeartbeats 4000000 in
set_option maxRecDepth 100000 in
theorem points_tail (l : Launch) (D : va_G) (cy : Nat → ClassId) (base : Nat) (ad : Nat → Nat) (n : Nat) (A : Nat → Nat → Int32) (J : Nat → Nat → Int64) (G : Nat → Nat → Int) (xN yN mN wN cN pN eN phN frN : Nat) (hst : l.stackTraces = false) (hn1 : n = mN + 1) (hC : CAll n A J G) (hP9 : G 33 mN = (phN : Int) ∧ G 34 mN = (frN : Int)) (hpf : phN < pN ∧ frN + wN ≤ 48) (hwN : 1 ≤ wN ∧ wN ≤ 12) (hpN : pN = 1 ∨ pN = 2 ∨ pN = 4) (heN : eN = 1 ∨ (eN = 2 ∧ pN = 1)) (PP : Option Value → (Nat → Nat) → Nat → (Nat → va_E) → Prop) (XC : String → State → State → Prop) (hend : ∀ J2 : Nat → Nat → Int64, (∀ k, k ≠ 29 → J2 k = J k) → (∀ r : Nat, J2 29 r = if r < 4 ∧ (r : Int) % (pN : Int) = (phN : Int) then J 29 r ||| gBt frN wN (eN - 1) else J 29 r) → PP (some (.int (nI 1))) ad (33 + 2 * n) (gw cy ad n (gu (gu (gu (gu A 28 (4 * mN) (nI wN)) 28 (4 * mN + 1) (nI cN)) 28 (4 * mN + 2) (nI pN)) 28 (4 * mN + 3) (nI eN)) J2)) {pM : Program} {eM : Env} {sM : State} {mM : MethodId} {aM : Array Value} {bM : List Frame} {methM : Method} {cM : Code} {H : Heap} {locs : List Loc} {ls : Array Slot} (hx : pM.tables.exec = Jvm.exec) (hb : cM.code = cL_points) (hr : methM.sig.returnType = (some .boolean)) (hts : ∀ w ∈ wsL_points, w.before aM sM = true) (hown : sM.vm.findClass yL_points.cls = some mM.cls) (hlocks : methM.locks = false) (hml : cM.maxLocals = 16) (hE : gE D cy base sM) (hG : gH D base sM ad (33 + 2 * n) (gw cy ad n A J) H locs) (hl : lv_has ls 16 [(0, .ref (ad 0)), (1, .int (nI xN)), (2, .int (nI yN)), (3, .ref (ad 28)), (4, .ref (ad 29)), (5, .ref (ad 31)), (6, .int (nI mN)), (7, .int (nI cN)), (8, .int (nI wN)), (9, .int (nI pN)), (10, .int (nI eN)), (11, .int (nI (100 * phN + frN)))]) : W pM l eM ({ frames := 8, cells := 7, slots := 40, locals := 149 } : Room) sM mM aM bM methM cM H locs (4) (25) (vx_MQ bM (gPostW D base (PP)) (XC) aM sM 7 40 (fun q => base ≤ q)) (F0 mM 137 ls [.int (nI mN)]) := by
  have hn12 := hC.1.2
  refine lv_istore (lv' := [(12, .int (nI mN)), (0, .ref (ad 0)), (1, .int (nI xN)), (2, .int (nI yN)), (3, .ref (ad 28)), (4, .ref (ad 29)), (5, .ref (ad 31)), (6, .int (nI mN)), (7, .int (nI cN)), (8, .int (nI wN)), (9, .int (nI pN)), (10, .int (nI eN)), (11, .int (nI (100 * phN + frN)))]) hx hb dL_points_137 hl (by decide) rfl (fun ls hl => ?_)
  refine lv_iload hx hb dL_points_139 (lv_at hl 12 rfl) ?_
  refine lv_if_ge (tgt := 165) hx hb dL_points_141 (by decide) (fun c141 => ?_) (fun c141 => ?_)
  · skip
    have c141 : nI 0 ≤ (nI (100 * phN + frN)) := c141
    have c141 : 0 ≤ (100 * phN + frN) := (nI_leI (by omega) (by omega)).mp c141
    refine lv_aload_n hx hb dL_points_165 rfl (lv_at hl 4 rfl) ?_
    refine lv_iconst (v := nI 4) hx hb dL_points_166 (by decide) ?_
    refine lv_iload hx hb dL_points_167 (lv_at hl 7 rfl) ?_
    refine lv_imul hx hb dL_points_169 ?_
    refine g_top (y := nI (4 * mN)) (by rw [pk_mul]) ?_
    refine lv_iload hx hb dL_points_170 (lv_at hl 9 rfl) ?_
    refine g_iast hx hb hE hG (k := 28) (by omega) (fun _ => rfl) (4 * mN) (rfl) (by omega) (by omega) dL_points_172 (fun H locs hG => ?_)
    refine lv_aload_n hx hb dL_points_173 rfl (lv_at hl 4 rfl) ?_
    refine lv_iconst (v := nI 4) hx hb dL_points_174 (by decide) ?_
    refine lv_iload hx hb dL_points_175 (lv_at hl 7 rfl) ?_
    refine lv_imul hx hb dL_points_177 ?_
    refine g_top (y := nI (4 * mN)) (by rw [pk_mul]) ?_
    refine lv_iconst (v := nI 1) hx hb dL_points_178 (by decide) ?_
    refine lv_iadd hx hb dL_points_179 ?_
    refine g_top (y := nI (4 * mN + 1)) (by rw [nI_add]) ?_
    refine lv_iload hx hb dL_points_180 (lv_at hl 8 rfl) ?_
    refine g_iast hx hb hE hG (k := 28) (by omega) (fun _ => rfl) (4 * mN + 1) (rfl) (by omega) (by omega) dL_points_182 (fun H locs hG => ?_)
    refine lv_aload_n hx hb dL_points_183 rfl (lv_at hl 4 rfl) ?_
    refine lv_iconst (v := nI 4) hx hb dL_points_184 (by decide) ?_
    refine lv_iload hx hb dL_points_185 (lv_at hl 7 rfl) ?_
    refine lv_imul hx hb dL_points_187 ?_
    refine g_top (y := nI (4 * mN)) (by rw [pk_mul]) ?_
    refine lv_iconst (v := nI 2) hx hb dL_points_188 (by decide) ?_
    refine lv_iadd hx hb dL_points_189 ?_
    refine g_top (y := nI (4 * mN + 2)) (by rw [nI_add]) ?_
    refine lv_iload hx hb dL_points_190 (lv_at hl 10 rfl) ?_
    refine g_iast hx hb hE hG (k := 28) (by omega) (fun _ => rfl) (4 * mN + 2) (rfl) (by omega) (by omega) dL_points_192 (fun H locs hG => ?_)
    refine lv_aload_n hx hb dL_points_193 rfl (lv_at hl 4 rfl) ?_
    refine lv_iconst (v := nI 4) hx hb dL_points_194 (by decide) ?_
    refine lv_iload hx hb dL_points_195 (lv_at hl 7 rfl) ?_
    refine lv_imul hx hb dL_points_197 ?_
    refine g_top (y := nI (4 * mN)) (by rw [pk_mul]) ?_
    refine lv_iconst (v := nI 3) hx hb dL_points_198 (by decide) ?_
    refine lv_iadd hx hb dL_points_199 ?_
    refine g_top (y := nI (4 * mN + 3)) (by rw [nI_add]) ?_
    refine lv_iload hx hb dL_points_200 (lv_at hl 11 rfl) ?_
    refine g_iast hx hb hE hG (k := 28) (by omega) (fun _ => rfl) (4 * mN + 3) (rfl) (by omega) (by omega) dL_points_202 (fun H locs hG => ?_)
    refine lv_lconst (v := 1) hx hb dL_points_203 (by decide) ?_
    refine lv_iload hx hb dL_points_204 (lv_at hl 9 rfl) ?_
    refine lv_lshl (v := gshl 1 (nI wN)) hx hb dL_points_206 rfl ?_
    refine lv_lconst (v := 1) hx hb dL_points_207 (by decide) ?_
    refine lv_lsub hx hb dL_points_208 ?_
    refine lv_iload hx hb dL_points_209 (lv_at hl 12 rfl) ?_
    refine lv_bipush (v := nI 100) hx hb dL_points_211 (by decide) ?_
    refine lv_irem hx hb dL_points_213 (by decide) ?_
    refine g_top (y := nI frN) ((by rw [pk_rem (by omega) (by decide) (by decide)]; congr 1; omega)) ?_
    refine lv_lshl (v := gshl ((gshl 1 (nI wN)) - 1) (nI frN)) hx hb dL_points_214 rfl ?_
    refine g_topl (y := gBt1 frN wN) (rfl) ?_
    refine lv_lstore (lv' := [(13, .long (gBt1 frN wN)), (12, .int (nI mN)), (0, .ref (ad 0)), (1, .int (nI xN)), (2, .int (nI yN)), (3, .ref (ad 28)), (4, .ref (ad 29)), (5, .ref (ad 31)), (6, .int (nI mN)), (7, .int (nI cN)), (8, .int (nI wN)), (9, .int (nI pN)), (10, .int (nI eN)), (11, .int (nI (100 * phN + frN)))]) hx hb dL_points_215 hl (by decide) rfl (fun ls hl => ?_)
    refine lv_lload hx hb dL_points_217 (lv_at hl 0 rfl) ?_
    have LLq234 : ∀  (zq : Int64) (hz : gBt1 frN wN ||| zq = gBt frN wN (eN - 1)) (H : Heap) (locs : List Loc) (ls : Array Slot), gH D base sM ad (33 + 2 * n) (gw cy ad n (gu (gu (gu (gu A 28 (4 * mN) (nI wN)) 28 (4 * mN + 1) (nI cN)) 28 (4 * mN + 2) (nI pN)) 28 (4 * mN + 3) (nI eN)) J) H locs → lv_has ls 16 [(13, .long (gBt1 frN wN)), (12, .int (nI mN)), (0, .ref (ad 0)), (1, .int (nI xN)), (2, .int (nI yN)), (3, .ref (ad 28)), (4, .ref (ad 29)), (5, .ref (ad 31)), (6, .int (nI mN)), (7, .int (nI cN)), (8, .int (nI wN)), (9, .int (nI pN)), (10, .int (nI eN)), (11, .int (nI (100 * phN + frN)))] → W pM l eM ({ frames := 8, cells := 7, slots := 40, locals := 149 } : Room) sM mM aM bM methM cM H locs (4) (25) (vx_MQ bM (gPostW D base (PP)) (XC) aM sM 7 40 (fun q => base ≤ q)) (F0 mM 234 ls [.long zq, .long (gBt1 frN wN)]) := by
      intro zq hz H locs ls hG hl
      refine lv_lor hx hb dL_points_234 ?_
      refine g_topl (y := gBt frN wN (eN - 1)) (hz) ?_
      refine lv_lstore (lv' := [(13, .long (gBt frN wN (eN - 1))), (12, .int (nI mN)), (0, .ref (ad 0)), (1, .int (nI xN)), (2, .int (nI yN)), (3, .ref (ad 28)), (4, .ref (ad 29)), (5, .ref (ad 31)), (6, .int (nI mN)), (7, .int (nI cN)), (8, .int (nI wN)), (9, .int (nI pN)), (10, .int (nI eN)), (11, .int (nI (100 * phN + frN)))]) hx hb dL_points_235 hl (by decide) rfl (fun ls hl => ?_)
      refine lv_iload hx hb dL_points_237 (lv_at hl 13 rfl) ?_
      refine lv_bipush (v := nI 100) hx hb dL_points_239 (by decide) ?_
      refine lv_idiv hx hb dL_points_241 (by decide) ?_
      refine g_top (y := nI phN) ((by rw [pk_div (by omega) (by decide) (by decide)]; congr 1; omega)) ?_
      refine lv_istore (lv' := [(15, .int (nI phN)), (13, .long (gBt frN wN (eN - 1))), (12, .int (nI mN)), (0, .ref (ad 0)), (1, .int (nI xN)), (2, .int (nI yN)), (3, .ref (ad 28)), (4, .ref (ad 29)), (5, .ref (ad 31)), (6, .int (nI mN)), (7, .int (nI cN)), (8, .int (nI wN)), (9, .int (nI pN)), (10, .int (nI eN)), (11, .int (nI (100 * phN + frN)))]) hx hb dL_points_242 hl (by decide) rfl (fun ls hl => ?_)
      have LLq244 : ∀ (fuel : Nat) (cI : Nat) (Jq : Nat → Nat → Int64) (hc1 : cI ≤ 3 + pN ∧ phN ≤ cI ∧ ((cI : Int) - (phN : Int)) % (pN : Int) = 0) (hJk : ∀ k, k ≠ 29 → Jq k = J k) (hJr : ∀ r : Nat, Jq 29 r = if r < cI ∧ (r : Int) % (pN : Int) = (phN : Int) then J 29 r ||| gBt frN wN (eN - 1) else J 29 r) (_ : (8 - cI) < fuel) (H : Heap) (locs : List Loc) (ls : Array Slot), gH D base sM ad (33 + 2 * n) (gw cy ad n (gu (gu (gu (gu A 28 (4 * mN) (nI wN)) 28 (4 * mN + 1) (nI cN)) 28 (4 * mN + 2) (nI pN)) 28 (4 * mN + 3) (nI eN)) Jq) H locs → lv_has ls 16 [(0, .ref (ad 0)), (1, .int (nI xN)), (2, .int (nI yN)), (3, .ref (ad 28)), (4, .ref (ad 29)), (5, .ref (ad 31)), (6, .int (nI mN)), (7, .int (nI cN)), (8, .int (nI wN)), (9, .int (nI pN)), (10, .int (nI eN)), (11, .int (nI (100 * phN + frN))), (12, .int (nI mN)), (13, .long (gBt frN wN (eN - 1))), (15, .int (nI cI))] → W pM l eM ({ frames := 8, cells := 7, slots := 40, locals := 149 } : Room) sM mM aM bM methM cM H locs (4) (25) (vx_MQ bM (gPostW D base (PP)) (XC) aM sM 7 40 (fun q => base ≤ q)) (F0 mM 244 ls []) := by
        intro fuel
        induction fuel with
        | zero => intro cI Jq hc1 hJk hJr hms H locs ls hG hl; exact absurd hms (Nat.not_lt_zero _)
        | succ fuel ihq244 =>
          intro cI Jq hc1 hJk hJr hms H locs ls hG hl
          refine lv_iload hx hb dL_points_244 (lv_at hl 14 rfl) ?_
          refine lv_iconst (v := nI 4) hx hb dL_points_246 (by decide) ?_
          refine lv_icmp_ge (tgt := 270) hx hb dL_points_247 (by decide) (fun c247 => ?_) (fun c247 => ?_)
          · skip
            have c247 : 4 ≤ cI := (nI_leI (by omega) (by omega)).mp c247
            have hC9 : CAll n (gu (gu (gu (gu A 28 (4 * mN) (nI wN)) 28 (4 * mN + 1) (nI cN)) 28 (4 * mN + 2) (nI pN)) 28 (4 * mN + 3) (nI eN)) Jq G := (hC.of (fun k hk => by rw [gu_ne _ _ _ (by omega), gu_ne _ _ _ (by omega), gu_ne _ _ _ (by omega), gu_ne _ _ _ (by omega)])).ofJ (fun k hk => hJk k (by omega))
            have hJ4 : ∀ r : Nat, Jq 29 r = if r < 4 ∧ (r : Int) % (pN : Int) = (phN : Int) then J 29 r ||| gBt frN wN (eN - 1) else J 29 r := pu_end hpN hc1 (by omega) (by omega) hJr
            refine lv_iload hx hb dL_points_270 (lv_at hl 12 rfl) ?_
            refine lv_iload hx hb dL_points_272 (lv_at hl 6 rfl) ?_
            refine lv_icmp_ne (tgt := 303) hx hb dL_points_274 (by decide) (fun c274 => ?_) (fun c274 => ?_)
            · skip
              have c274 : ¬ (mN = mN) := fun z9 => c274 ((nI_eq (by omega) (by omega)).mpr z9)
              exact absurd rfl c274
            · skip
              have c274 : mN = mN := (nI_eq (by omega) (by omega)).mp c274
              refine lv_aload_n hx hb dL_points_277 rfl (lv_at hl 0 rfl) ?_
              refine g_callV (As := []) (rest := []) (r := (RX9, TX9, 6)) ⟨hx, hb, hml, hown, hts⟩ hE hG (cX9_pointsC l D cy base ad n (gu (gu (gu (gu A 28 (4 * mN) (nI wN)) 28 (4 * mN + 1) (nI cN)) 28 (4 * mN + 2) (nI pN)) 28 (4 * mN + 3) (nI eN)) Jq n (by rw [gu_ne _ _ _ (by decide), gu_ne _ _ _ (by decide), gu_ne _ _ _ (by decide), gu_ne _ _ _ (by decide)]; exact hC.1) (by first | assumption | omega)) (cwV 0 hts gL_points_X9_points rfl rfl rfl (by decide +kernel) ⟨Nat.le_of_ble_eq_true rfl, Nat.le_of_ble_eq_true rfl⟩) (by omega) rfl rfl rfl hl.1 rfl (Nat.le_of_ble_eq_true rfl) dL_points_278 ⟨(by show 4 ≤ 7; omega), (by show 25 ≤ 40; omega)⟩ (fun v_ A278 J278 H locs hp hG => ?_)
              obtain ⟨rfl, rfl, rfl⟩ := hp
              refine W.eq (g2 := F0 mM 281 ls [.int (nI n)]) rfl ?_
              refine lv_iload hx hb dL_points_281 (lv_at hl 6 rfl) ?_
              refine lv_iconst (v := nI 1) hx hb dL_points_283 (by decide) ?_
              refine lv_iadd hx hb dL_points_284 ?_
              refine g_top (y := nI (mN + 1)) (by rw [nI_add]) ?_
              refine lv_icmp_ne (tgt := 303) hx hb dL_points_285 (by decide) (fun c285 => ?_) (fun c285 => ?_)
              · skip
                have c285 : ¬ (n = (mN + 1)) := fun z9 => c285 ((nI_eq (by omega) (by omega)).mpr z9)
                exfalso; omega
              · skip
                have c285 : n = (mN + 1) := (nI_eq (by omega) (by omega)).mp c285
                refine lv_aload_n hx hb dL_points_288 rfl (lv_at hl 0 rfl) ?_
                refine lv_iload hx hb dL_points_289 (lv_at hl 6 rfl) ?_
                refine gN_callV (As := [.int (nI mN)]) (rest := []) (r := (RX9, TX9, 6)) ⟨hx, hb, hml, hown, hts⟩ hE hG (cX9_placeC l D cy base ad n (gu (gu (gu (gu A 28 (4 * mN) (nI wN)) 28 (4 * mN + 1) (nI cN)) 28 (4 * mN + 2) (nI pN)) 28 (4 * mN + 3) (nI eN)) Jq G n ((mN : Nat) : Int) (by first | assumption | omega) (by first | assumption | omega) hC9 (by first | assumption | omega)) (cwV 1 hts gL_points_X9_place rfl rfl rfl (by decide +kernel) ⟨Nat.le_of_ble_eq_true rfl, Nat.le_of_ble_eq_true rfl⟩) (by omega) rfl rfl rfl hl.1 rfl (Nat.le_of_ble_eq_true rfl) dL_points_291 ⟨(by show 5 ≤ 7; omega), (by show 31 ≤ 40; omega)⟩ (fun e_ A_ J_ hz => by
                  rcases hz with ⟨he_, hA_, hJ_, hf0_⟩
                  · omega) (fun v_ A291 J291 H locs hp hG => W.widen (k := 5) (n := 31) (by omega) (by omega) ?_)
                obtain ⟨iq_291, rfl, rfl, rfl, hiq_291⟩ := hp
                refine W.eq (g2 := F0 mM 294 ls [.int (zI (100 * G 33 iq_291 + G 34 iq_291))]) rfl ?_
                obtain rfl : mN = iq_291 := (by omega)
                refine lv_iload hx hb dL_points_294 (lv_at hl 11 rfl) ?_
                refine lv_icmp_ne (tgt := 303) hx hb dL_points_296 (by decide) (fun c296 => ?_) (fun c296 => ?_)
                · skip
                  have c296 : ¬ ((100 * G 33 mN + G 34 mN) = ((100 * phN + frN : Nat) : Int)) := fun z9 => c296 ((cmp_eq (zI_toInt (by omega) (by omega)) (nI_toInt (by omega))).mpr z9)
                  exfalso; omega
                · skip
                  have c296 : (100 * G 33 mN + G 34 mN) = ((100 * phN + frN : Nat) : Int) := (cmp_eq (zI_toInt (by omega) (by omega)) (nI_toInt (by omega))).mp c296
                  refine lv_iconst (v := nI 1) hx hb dL_points_299 (by decide) ?_
                  refine lv_goto (tgt := 304) hx hb dL_points_300 (by decide) ?_
                  exact gy_zret hx hb hr hlocks hG rfl (by show 5 ≤ 7; omega) (by show 31 ≤ 40; omega) (hend Jq hJk hJ4) dL_points_304
          · skip
            have c247 : ¬ (4 ≤ cI) := fun z9 => c247 ((nI_leI (by omega) (by omega)).mpr z9)
            refine lv_aload hx hb dL_points_250 (lv_at hl 4 rfl) ?_
            refine lv_iload hx hb dL_points_252 (lv_at hl 14 rfl) ?_
            refine lv_dup2_11 hx hb dL_points_254 rfl rfl ?_
            refine g_lald hx hb hE hG (k := 29) (by omega) rfl cI (rfl) (by omega) (by omega) dL_points_255 ?_
            refine lv_lload hx hb dL_points_256 (lv_at hl 13 rfl) ?_
            refine lv_lor hx hb dL_points_258 ?_
            refine g_last hx hb hE hG (k := 29) (by omega) (fun _ => rfl) cI (rfl) (by omega) (by omega) dL_points_259 (fun H locs hG => ?_)
            refine lv_iload hx hb dL_points_260 (lv_at hl 14 rfl) ?_
            refine lv_iload hx hb dL_points_262 (lv_at hl 9 rfl) ?_
            refine lv_iadd hx hb dL_points_264 ?_
            refine g_top (y := nI (cI + pN)) (by rw [nI_add]) ?_
            refine lv_istore (lv' := [(15, .int (nI (cI + pN))), (0, .ref (ad 0)), (1, .int (nI xN)), (2, .int (nI yN)), (3, .ref (ad 28)), (4, .ref (ad 29)), (5, .ref (ad 31)), (6, .int (nI mN)), (7, .int (nI cN)), (8, .int (nI wN)), (9, .int (nI pN)), (10, .int (nI eN)), (11, .int (nI (100 * phN + frN))), (12, .int (nI mN)), (13, .long (gBt frN wN (eN - 1)))]) hx hb dL_points_265 hl (by decide) rfl (fun ls hl => ?_)
            refine lv_goto (tgt := 244) hx hb dL_points_267 (by decide) ?_
            exact ihq244 (cI + pN) (gu Jq 29 cI ((Jq 29 cI) ||| (gBt frN wN (eN - 1)))) (by rcases hpN with h9 | h9 | h9 <;> subst h9 <;> omega) (fun k hk => by rw [gu_ne _ _ _ hk]; exact hJk k hk) (pu_step hpN hc1 (by omega) hJr) (by omega) _ _ _ hG (lv_sub hl [1, 2, 3, 4, 5, 6, 7, 8, 9, 10, 11, 12, 13, 14, 0] rfl)
      exact LLq244 _ phN J (by refine ⟨by omega, by omega, ?_⟩; simp) (fun _ _ => rfl) (fun r => by rw [if_neg (fun z9 => pl_0 hpN (by omega) z9.1 z9.2)]) (Nat.lt_succ_self _) _ _ _ hG (lv_sub hl [3, 4, 5, 6, 7, 8, 9, 10, 11, 12, 13, 14, 2, 1, 0] rfl)
    refine lv_iload hx hb dL_points_219 (lv_at hl 12 rfl) ?_
    refine lv_iconst (v := nI 2) hx hb dL_points_221 (by decide) ?_
    refine lv_icmp_ne (tgt := 233) hx hb dL_points_222 (by decide) (fun c222 => ?_) (fun c222 => ?_)
    · skip
      have c222 : ¬ (eN = 2) := fun z9 => c222 ((nI_eq (by omega) (by omega)).mpr z9)
      refine lv_lconst (v := 0) hx hb dL_points_233 (by decide) ?_
      exact LLq234 0 (by first | (unfold gBt; rw [if_neg (by omega)]; done) | (unfold gBt; rw [if_pos (by omega)]; exact Int64.or_zero)) _ _ _ hG (lv_sub hl [0, 1, 2, 3, 4, 5, 6, 7, 8, 9, 10, 11, 12, 13] rfl)
    · skip
      have c222 : eN = 2 := (nI_eq (by omega) (by omega)).mp c222
      refine lv_lload hx hb dL_points_225 (lv_at hl 0 rfl) ?_
      refine lv_bipush (v := nI 24) hx hb dL_points_227 (by decide) ?_
      refine lv_lshl (v := gshl (gBt1 frN wN) (nI 24)) hx hb dL_points_229 rfl ?_
      refine lv_goto (tgt := 234) hx hb dL_points_230 (by decide) ?_
      exact LLq234 (gshl (gBt1 frN wN) (nI 24)) (by first | (unfold gBt; rw [if_neg (by omega)]; done) | (unfold gBt; rw [if_pos (by omega)]; exact Int64.or_zero)) _ _ _ hG (lv_sub hl [0, 1, 2, 3, 4, 5, 6, 7, 8, 9, 10, 11, 12, 13] rfl)
  · skip
    have c141 : ¬ (nI 0 ≤ (nI (100 * phN + frN))) := c141
    have c141 : ¬ (0 ≤ (100 * phN + frN)) := fun z9 => c141 ((nI_leI (by omega) (by omega)).mpr z9)
    exfalso; omega

set_option maxHeartbeats 4000000 in
set_option maxRecDepth 100000 in
theorem cL_pointsC (l : Launch) (D : va_G) (cy : Nat → ClassId) (base : Nat) (ad : Nat → Nat) (n : Nat) (A : Nat → Nat → Int32) (J : Nat → Nat → Int64) (G : Nat → Nat → Int) (nq xN yN : Nat) (hst : l.stackTraces = false) (hnq : nq = n) (hL : LI n A J G) (hxN : xN < 1073741824) (hyN : yN < 1073741824) (h09 : G 28 9 = 0) (hJ9 : J 29 = J 3) : vx_Met l yL_points wsL_points ({ frames := 8, cells := 7, slots := 40, locals := 149 } : Room) (gPre D cy base ad (33 + 2 * n) (gw cy ad n A J) [.ref (ad 0), .int (nI xN), .int (nI yN), .ref (ad 28), .ref (ad 29), .ref (ad 31)]) (gPostW D base (PL_points cy n ad A J)) (gXC D cy base ad n pxNo) 7 40 (fun q => base ≤ q) := by
  refine gx_ofW (cc := cL_points) (maxL := 16) (ret := (some .boolean)) (by decide) rfl (Nat.le_of_ble_eq_true rfl) ?_
  intro pM eM sM mM aM bM methM cM H locs ls hx hb hr hts hown hlocks hml hout hE hG hl
  have hl : lv_has ls 16 [(0, .ref (ad 0)), (1, .int (nI xN)), (2, .int (nI yN)), (3, .ref (ad 28)), (4, .ref (ad 29)), (5, .ref (ad 31))] := hl
  obtain ⟨hC, hgr, hv9, hd9, hR, c1, c2, hA0, hA1, hA2, hc2, hc1⟩ := id hL
  have hsn := hC.bd.2.2.2.2.2.2.2.2.1
  have hn12 := hC.1.2
  have hU : UsR J G := hC.2.2.2.2.2.2.1
  have hn28 := hC.2.1
  refine lv_aload_n hx hb dL_points_0 rfl (lv_at hl 0 rfl) ?_
  refine g_callV (As := []) (rest := []) (r := (RX9, TX9, 6)) ⟨hx, hb, hml, hown, hts⟩ hE hG (cX9_pointsC l D cy base ad n A J n hC.1 (by first | assumption | omega)) (cwV 0 hts gL_points_X9_points rfl rfl rfl (by decide +kernel) ⟨Nat.le_of_ble_eq_true rfl, Nat.le_of_ble_eq_true rfl⟩) (by omega) rfl rfl rfl hl.1 rfl (Nat.le_of_ble_eq_true rfl) dL_points_1 ⟨(by show 0 ≤ 7; omega), (by show 0 ≤ 40; omega)⟩ (fun v_ A1 J1 H locs hp hG => ?_)
  obtain ⟨rfl, rfl, rfl⟩ := hp
  refine W.eq (g2 := F0 mM 4 ls [.int (nI n)]) rfl ?_
  refine lv_istore (lv' := [(6, .int (nI n)), (0, .ref (ad 0)), (1, .int (nI xN)), (2, .int (nI yN)), (3, .ref (ad 28)), (4, .ref (ad 29)), (5, .ref (ad 31))]) hx hb dL_points_4 hl (by decide) rfl (fun ls hl => ?_)
  refine lv_iload_n hx hb dL_points_6 rfl (lv_at hl 2 rfl) ?_
  refine lv_iconst (v := nI 4) hx hb dL_points_7 (by decide) ?_
  refine lv_irem hx hb dL_points_8 (by decide) ?_
  refine g_top (y := nI (xN % 4)) (pk_rem (by omega) (by omega) (by omega)) ?_
  obtain ⟨cN, hcN⟩ : ∃ k : Nat, xN % 4 = k := ⟨_, rfl⟩
  have hcN2 : cN < 4 := by omega
  refine g_top (y := nI cN) (by rw [hcN]) ?_
  refine lv_istore (lv' := [(7, .int (nI cN)), (6, .int (nI n)), (0, .ref (ad 0)), (1, .int (nI xN)), (2, .int (nI yN)), (3, .ref (ad 28)), (4, .ref (ad 29)), (5, .ref (ad 31))]) hx hb dL_points_9 hl (by decide) rfl (fun ls hl => ?_)
  have LLq38 : ∀  (wN : Nat) (hwN : wN ≤ 12 ∧ ((cN = 0 ∧ 1 ≤ wN) ∨ (cN ≠ 0 ∧ 2 ≤ wN))) (H : Heap) (locs : List Loc) (ls : Array Slot), gH D base sM ad (33 + 2 * n) (gw cy ad n A J) H locs → lv_has ls 16 [(0, .ref (ad 0)), (1, .int (nI xN)), (2, .int (nI yN)), (3, .ref (ad 28)), (4, .ref (ad 29)), (5, .ref (ad 31)), (6, .int (nI n)), (7, .int (nI cN))] → W pM l eM ({ frames := 8, cells := 7, slots := 40, locals := 149 } : Room) sM mM aM bM methM cM H locs (0) (0) (vx_MQ bM (gPostW D base (PL_points cy n ad A J)) (gXC D cy base ad n pxNo) aM sM 7 40 (fun q => base ≤ q)) (F0 mM 38 ls [.int (nI wN)]) := by
    intro wN hwN H locs ls hG hl
    refine lv_istore (lv' := [(8, .int (nI wN)), (0, .ref (ad 0)), (1, .int (nI xN)), (2, .int (nI yN)), (3, .ref (ad 28)), (4, .ref (ad 29)), (5, .ref (ad 31)), (6, .int (nI n)), (7, .int (nI cN))]) hx hb dL_points_38 hl (by decide) rfl (fun ls hl => ?_)
    have LLq62 : ∀  (pN : Nat) (hpN : pN = 1 ∨ pN = 2 ∨ pN = 4) (H : Heap) (locs : List Loc) (ls : Array Slot), gH D base sM ad (33 + 2 * n) (gw cy ad n A J) H locs → lv_has ls 16 [(0, .ref (ad 0)), (1, .int (nI xN)), (2, .int (nI yN)), (3, .ref (ad 28)), (4, .ref (ad 29)), (5, .ref (ad 31)), (6, .int (nI n)), (7, .int (nI cN)), (8, .int (nI wN))] → W pM l eM ({ frames := 8, cells := 7, slots := 40, locals := 149 } : Room) sM mM aM bM methM cM H locs (0) (0) (vx_MQ bM (gPostW D base (PL_points cy n ad A J)) (gXC D cy base ad n pxNo) aM sM 7 40 (fun q => base ≤ q)) (F0 mM 62 ls [.int (nI pN)]) := by
      intro pN hpN H locs ls hG hl
      refine lv_istore (lv' := [(9, .int (nI pN)), (0, .ref (ad 0)), (1, .int (nI xN)), (2, .int (nI yN)), (3, .ref (ad 28)), (4, .ref (ad 29)), (5, .ref (ad 31)), (6, .int (nI n)), (7, .int (nI cN)), (8, .int (nI wN))]) hx hb dL_points_62 hl (by decide) rfl (fun ls hl => ?_)
      have LLq83 : ∀  (eN : Nat) (heN : eN = 1 ∨ (eN = 2 ∧ pN = 1)) (H : Heap) (locs : List Loc) (ls : Array Slot), gH D base sM ad (33 + 2 * n) (gw cy ad n A J) H locs → lv_has ls 16 [(0, .ref (ad 0)), (1, .int (nI xN)), (2, .int (nI yN)), (3, .ref (ad 28)), (4, .ref (ad 29)), (5, .ref (ad 31)), (6, .int (nI n)), (7, .int (nI cN)), (8, .int (nI wN)), (9, .int (nI pN))] → W pM l eM ({ frames := 8, cells := 7, slots := 40, locals := 149 } : Room) sM mM aM bM methM cM H locs (0) (0) (vx_MQ bM (gPostW D base (PL_points cy n ad A J)) (gXC D cy base ad n pxNo) aM sM 7 40 (fun q => base ≤ q)) (F0 mM 83 ls [.int (nI eN)]) := by
        intro eN heN H locs ls hG hl
        refine lv_istore (lv' := [(10, .int (nI eN)), (0, .ref (ad 0)), (1, .int (nI xN)), (2, .int (nI yN)), (3, .ref (ad 28)), (4, .ref (ad 29)), (5, .ref (ad 31)), (6, .int (nI n)), (7, .int (nI cN)), (8, .int (nI wN)), (9, .int (nI pN))]) hx hb dL_points_83 hl (by decide) rfl (fun ls hl => ?_)
        have LLq116 : ∀  (aI : Int) (hat : LPl G n wN pN eN aI) (har : -1 ≤ aI ∧ aI ≤ 347) (H : Heap) (locs : List Loc) (ls : Array Slot), gH D base sM ad (33 + 2 * n) (gw cy ad n A J) H locs → lv_has ls 16 [(0, .ref (ad 0)), (1, .int (nI xN)), (2, .int (nI yN)), (3, .ref (ad 28)), (4, .ref (ad 29)), (5, .ref (ad 31)), (6, .int (nI n)), (7, .int (nI cN)), (8, .int (nI wN)), (9, .int (nI pN)), (10, .int (nI eN)), (11, .int (zI aI))] → W pM l eM ({ frames := 8, cells := 7, slots := 40, locals := 149 } : Room) sM mM aM bM methM cM H locs (0) (0) (vx_MQ bM (gPostW D base (PL_points cy n ad A J)) (gXC D cy base ad n pxNo) aM sM 7 40 (fun q => base ≤ q)) (F0 mM 116 ls []) := by
          intro aI hat har H locs ls hG hl
          refine lv_aload_n hx hb dL_points_116 rfl (lv_at hl 0 rfl) ?_
          refine lv_iload hx hb dL_points_117 (lv_at hl 8 rfl) ?_
          refine lv_iload hx hb dL_points_119 (lv_at hl 7 rfl) ?_
          refine lv_iload hx hb dL_points_121 (lv_at hl 9 rfl) ?_
          have LLq134 : ∀  (tN : Nat) (htN : tN + 1 = eN) (H : Heap) (locs : List Loc) (ls : Array Slot), gH D base sM ad (33 + 2 * n) (gw cy ad n A J) H locs → lv_has ls 16 [(0, .ref (ad 0)), (1, .int (nI xN)), (2, .int (nI yN)), (3, .ref (ad 28)), (4, .ref (ad 29)), (5, .ref (ad 31)), (6, .int (nI n)), (7, .int (nI cN)), (8, .int (nI wN)), (9, .int (nI pN)), (10, .int (nI eN)), (11, .int (zI aI))] → W pM l eM ({ frames := 8, cells := 7, slots := 40, locals := 149 } : Room) sM mM aM bM methM cM H locs (0) (0) (vx_MQ bM (gPostW D base (PL_points cy n ad A J)) (gXC D cy base ad n pxNo) aM sM 7 40 (fun q => base ≤ q)) (F0 mM 134 ls [.int (nI tN), .int (nI pN), .int (nI cN), .int (nI wN), .ref (ad 0)]) := by
            intro tN htN H locs ls hG hl
            refine gR_callT (As := [.ref (ad 0), .int (nI wN), .int (nI cN), .int (nI pN), .int (nI tN)]) (rest := []) ⟨hx, hb, hml, hown, hts⟩ hE hG (cL_addsC l D cy base ad n A J G ((wN : Nat) : Int) ((cN : Nat) : Int) ((pN : Nat) : Int) tN hst hC ⟨by omega, by omega, by omega, by omega⟩ (by omega) (by omega) (by omega) (by omega)) (vx_cwSW 5 hts gL_points_L_adds rfl rfl rfl (by decide +kernel) ⟨(Nat.le_of_ble_eq_true rfl), (Nat.le_of_ble_eq_true rfl)⟩) rfl hl.1 rfl (Nat.le_of_ble_eq_true rfl) dL_points_134 ⟨(by show 3 ≤ 7; omega), (by show 19 ≤ 40; omega)⟩ (fun v_ ad1 N1 w1 H locs hp hG => W.widen (k := 4) (n := 25) (by omega) (by omega) ?_)
            rcases hp with ⟨pZ, oZ, rfl, ⟨hn12b, h09b, hgb, hpZ, hlZ, hfZ, hmZ⟩, had, rfl, A1, J1, rfl, hJ1, hC1, hO1⟩ | ⟨rfl, had9, rfl, rfl, hwhy⟩
            · have haI : aI = ((100 * pZ + oZ : Nat) : Int) := by
                have h8 := mFirst_uniq (hat.first (by omega) (by omega)) (Or.inr ⟨(pZ : Int), (oZ : Int), rfl, by omega, hpZ, by omega, hlZ, hfZ, hmZ⟩)
                omega
              have hlm : mLim ((tN : Int) + 1) ≤ 48 := by unfold mLim; split <;> omega
              refine W.eq (g2 := F0 mM 137 ls [.int (nI n)]) rfl ?_
              refine points_tail l D cy base ad1 (n + 1) A1 J1 (gNG G n ((wN : Nat) : Int) ((cN : Nat) : Int) ((pN : Nat) : Int) tN pZ oZ) xN yN n wN cN pN eN pZ oZ hst rfl hC1 ⟨(gNG_n _ _ _ _ _ _ _ _).2.2.2.2.1, (gNG_n _ _ _ _ _ _ _ _).2.2.2.2.2.1⟩ ⟨by omega, by omega⟩ (by omega) hpN heN _ _ ?_ hx hb hr hts hown hlocks hml hE hG ?_
              · intro J2 hJk hJr
                refine ⟨rfl, Or.inr ⟨had, rfl, _, J2, gNG G n ((wN : Nat) : Int) ((cN : Nat) : Int) ((pN : Nat) : Int) tN pZ oZ, rfl, ?_, ?_, ?_⟩⟩
                · exact LI_new hL h09 hC1 hO1 (by omega) ⟨by omega, by omega⟩ (fun k hk => hJk k (by omega))
                · exact new_row hJ1 hJ9 (by rw [show tN = eN - 1 from by omega, Int.toNat_natCast]) hJk hJr
                · rw [gNG_k (by omega) (by omega)]; exact h09
              · rw [had 0 (by omega), had 28 (by omega), had 29 (by omega), had 31 (by omega)]
                rw [haI] at hl
                exact lv_sub hl [0, 1, 2, 3, 4, 5, 6, 7, 8, 9, 10, 11] rfl
            · obtain rfl : ad = ad1 := had9.symm
              have haI : aI = -1 := by
                rcases hwhy with h8 | h8 | h8
                · omega
                · exact hat.full (by omega)
                · exact hat.none (by omega) h8
              refine W.eq (g2 := F0 mM 137 ls [.int (zI (-1))]) rfl ?_
              refine lv_istore (lv' := [(12, .int (zI (-1))), (0, .ref (ad 0)), (1, .int (nI xN)), (2, .int (nI yN)), (3, .ref (ad 28)), (4, .ref (ad 29)), (5, .ref (ad 31)), (6, .int (nI n)), (7, .int (nI cN)), (8, .int (nI wN)), (9, .int (nI pN)), (10, .int (nI eN)), (11, .int (zI aI))]) hx hb dL_points_137 hl (by decide) rfl (fun ls hl => ?_)
              refine lv_iload hx hb dL_points_139 (lv_at hl 12 rfl) ?_
              refine lv_if_ge (tgt := 165) hx hb dL_points_141 (by decide) (fun c141 => ?_) (fun c141 => ?_)
              · skip
                have c141 : nI 0 ≤ (zI aI) := c141
                have c141 : ((0 : Nat) : Int) ≤ aI := (cmp_le (nI_toInt (by omega)) (zI_toInt (by omega) (by omega))).mp c141
                exfalso; omega
              · skip
                have c141 : ¬ (nI 0 ≤ (zI aI)) := c141
                have c141 : ¬ (((0 : Nat) : Int) ≤ aI) := fun z9 => c141 ((cmp_le (nI_toInt (by omega)) (zI_toInt (by omega) (by omega))).mpr z9)
                refine lv_iload hx hb dL_points_144 (lv_at hl 0 rfl) ?_
                refine lv_iconst (v := zI (-1)) hx hb dL_points_146 (by decide) ?_
                refine lv_icmp_ne (tgt := 163) hx hb dL_points_147 (by decide) (fun c147 => ?_) (fun c147 => ?_)
                · skip
                  have c147 : ¬ ((-1) = (-1)) := fun z9 => c147 ((cmp_eq (zI_toInt (by omega) (by omega)) (zI_toInt (by omega) (by omega))).mpr z9)
                  exact absurd rfl c147
                · skip
                  have c147 : (-1) = (-1) := (cmp_eq (zI_toInt (by omega) (by omega)) (zI_toInt (by omega) (by omega))).mp c147
                  refine lv_aload_n hx hb dL_points_150 rfl (lv_at hl 1 rfl) ?_
                  refine g_callV (As := []) (rest := []) (r := (RX9, TX9, 6)) ⟨hx, hb, hml, hown, hts⟩ hE hG (cX9_pointsC l D cy base ad n A J n hC.1 (by first | assumption | omega)) (cwV 0 hts gL_points_X9_points rfl rfl rfl (by decide +kernel) ⟨Nat.le_of_ble_eq_true rfl, Nat.le_of_ble_eq_true rfl⟩) (by omega) rfl rfl rfl hl.1 rfl (Nat.le_of_ble_eq_true rfl) dL_points_151 ⟨(by show 4 ≤ 7; omega), (by show 25 ≤ 40; omega)⟩ (fun v_ A151 J151 H locs hp hG => ?_)
                  obtain ⟨rfl, rfl, rfl⟩ := hp
                  refine W.eq (g2 := F0 mM 154 ls [.int (nI n)]) rfl ?_
                  refine lv_iload hx hb dL_points_154 (lv_at hl 7 rfl) ?_
                  refine lv_icmp_ne (tgt := 163) hx hb dL_points_156 (by decide) (fun c156 => ?_) (fun c156 => ?_)
                  · skip
                    have c156 : ¬ (n = n) := fun z9 => c156 ((nI_eq (by omega) (by omega)).mpr z9)
                    exact absurd rfl c156
                  · skip
                    have c156 : n = n := (nI_eq (by omega) (by omega)).mp c156
                    refine lv_iconst (v := nI 1) hx hb dL_points_159 (by decide) ?_
                    refine lv_goto (tgt := 164) hx hb dL_points_160 (by decide) ?_
                    exact gy_zret hx hb hr hlocks hG rfl (by show 4 ≤ 7; omega) (by show 25 ≤ 40; omega) ⟨rfl, Or.inl ⟨(by rintro rfl; exact hat.zero hL (by omega) haI), rfl, rfl, rfl⟩⟩ dL_points_164
          refine lv_iload hx hb dL_points_123 (lv_at hl 10 rfl) ?_
          refine lv_iconst (v := nI 2) hx hb dL_points_125 (by decide) ?_
          refine lv_icmp_ne (tgt := 133) hx hb dL_points_126 (by decide) (fun c126 => ?_) (fun c126 => ?_)
          · skip
            have c126 : ¬ (eN = 2) := fun z9 => c126 ((nI_eq (by omega) (by omega)).mpr z9)
            refine lv_iconst (v := nI 0) hx hb dL_points_133 (by decide) ?_
            exact LLq134 0 (by omega) _ _ _ hG (lv_sub hl [0, 1, 2, 3, 4, 5, 6, 7, 8, 9, 10, 11] rfl)
          · skip
            have c126 : eN = 2 := (nI_eq (by omega) (by omega)).mp c126
            refine lv_iconst (v := nI 1) hx hb dL_points_129 (by decide) ?_
            refine lv_goto (tgt := 134) hx hb dL_points_130 (by decide) ?_
            exact LLq134 1 (by omega) _ _ _ hG (lv_sub hl [0, 1, 2, 3, 4, 5, 6, 7, 8, 9, 10, 11] rfl)
        refine lv_iload hx hb dL_points_85 (lv_at hl 7 rfl) ?_
        refine lv_bipush (v := nI 12) hx hb dL_points_87 (by decide) ?_
        refine lv_icmp_eq (tgt := 99) hx hb dL_points_89 (by decide) (fun c89 => ?_) (fun c89 => ?_)
        · skip
          have c89 : n = 12 := (nI_eq (by omega) (by omega)).mp c89
          refine lv_iconst (v := zI (-1)) hx hb dL_points_99 (by decide) ?_
          refine lv_goto (tgt := 114) hx hb dL_points_100 (by decide) ?_
          refine lv_istore (lv' := [(11, .int (zI (-1))), (10, .int (nI eN)), (0, .ref (ad 0)), (1, .int (nI xN)), (2, .int (nI yN)), (3, .ref (ad 28)), (4, .ref (ad 29)), (5, .ref (ad 31)), (6, .int (nI n)), (7, .int (nI cN)), (8, .int (nI wN)), (9, .int (nI pN))]) hx hb dL_points_114 hl (by decide) rfl (fun ls hl => ?_)
          exact LLq116 (-1) (by first | exact LPl_full (by omega) | exact LPl_none hno_111 | exact LPl_some (by omega) hpf_111 hfr_111 hno_111) (by omega) _ _ _ hG (lv_sub hl [2, 3, 4, 5, 6, 7, 8, 9, 10, 11, 1, 0] rfl)
        · skip
          have c89 : ¬ (n = 12) := fun z9 => c89 ((nI_eq (by omega) (by omega)).mpr z9)
          refine lv_aload hx hb dL_points_92 (lv_at hl 6 rfl) ?_
          refine lv_iconst (v := nI 0) hx hb dL_points_94 (by decide) ?_
          refine g_iald hx hb hE hG (k := 31) (by omega) rfl 0 (rfl) (by omega) (by omega) dL_points_95 ?_
          refine g_top (y := zI (G 28 9)) (hA0) ?_
          refine lv_if_le (tgt := 103) hx hb dL_points_96 (by decide) (fun c96 => ?_) (fun c96 => ?_)
          · skip
            have c96 : (zI (G 28 9)) ≤ nI 0 := c96
            have c96 : (G 28 9) ≤ ((0 : Nat) : Int) := (cmp_le (zI_toInt (by omega) (by omega)) (nI_toInt (by omega))).mp c96
            refine lv_aload hx hb dL_points_103 (lv_at hl 5 rfl) ?_
            refine lv_iload hx hb dL_points_105 (lv_at hl 9 rfl) ?_
            refine lv_iload hx hb dL_points_107 (lv_at hl 10 rfl) ?_
            refine lv_iload hx hb dL_points_109 (lv_at hl 0 rfl) ?_
            refine g_callS (As := [.ref (ad 29), .int (nI wN), .int (nI pN), .int (nI eN)]) (rest := []) ⟨hx, hb, hml, hown, hts⟩ hE hG (cL_placeC l D cy base ad n A J G wN pN eN (by first | assumption | omega) (by first | assumption | omega) (by first | assumption | omega) (by first | assumption | omega) (by first | assumption | omega)) (va_cwS 4 hts gL_points_L_place rfl rfl rfl (by decide +kernel) ⟨Nat.le_of_ble_eq_true rfl, Nat.le_of_ble_eq_true rfl⟩) rfl hl.1 rfl (Nat.le_of_ble_eq_true rfl) dL_points_111 ⟨(by show 0 ≤ 7; omega), (by show 0 ≤ 40; omega)⟩ (fun v_ A111 J111 H locs hp hG => ?_)
            rcases hp with ⟨rfl, rfl, rfl, hno_111⟩ | ⟨ph_111, fr_111, rfl, rfl, rfl, hpf_111, hfr_111, hno_111⟩
            · refine W.eq (g2 := F0 mM 114 ls [.int (zI (-1))]) rfl ?_
              refine lv_istore (lv' := [(11, .int (zI (-1))), (10, .int (nI eN)), (0, .ref (ad 0)), (1, .int (nI xN)), (2, .int (nI yN)), (3, .ref (ad 28)), (4, .ref (ad 29)), (5, .ref (ad 31)), (6, .int (nI n)), (7, .int (nI cN)), (8, .int (nI wN)), (9, .int (nI pN))]) hx hb dL_points_114 hl (by decide) rfl (fun ls hl => ?_)
              exact LLq116 (-1) (by first | exact LPl_full (by omega) | exact LPl_none hno_111 | exact LPl_some (by omega) hpf_111 hfr_111 hno_111) (by omega) _ _ _ hG (lv_sub hl [2, 3, 4, 5, 6, 7, 8, 9, 10, 11, 1, 0] rfl)
            · refine W.eq (g2 := F0 mM 114 ls [.int (nI (100 * ph_111 + fr_111))]) rfl ?_
              refine lv_istore (lv' := [(11, .int (nI (100 * ph_111 + fr_111))), (10, .int (nI eN)), (0, .ref (ad 0)), (1, .int (nI xN)), (2, .int (nI yN)), (3, .ref (ad 28)), (4, .ref (ad 29)), (5, .ref (ad 31)), (6, .int (nI n)), (7, .int (nI cN)), (8, .int (nI wN)), (9, .int (nI pN))]) hx hb dL_points_114 hl (by decide) rfl (fun ls hl => ?_)
              exact LLq116 ((100 * ph_111 + fr_111 : Nat) : Int) (by first | exact LPl_full (by omega) | exact LPl_none hno_111 | exact LPl_some (by omega) hpf_111 hfr_111 hno_111) (by omega) _ _ _ hG (lv_sub hl [2, 3, 4, 5, 6, 7, 8, 9, 10, 11, 1, 0] rfl)
          · skip
            have c96 : ¬ ((zI (G 28 9)) ≤ nI 0) := c96
            have c96 : ¬ ((G 28 9) ≤ ((0 : Nat) : Int)) := fun z9 => c96 ((cmp_le (zI_toInt (by omega) (by omega)) (nI_toInt (by omega))).mpr z9)
            refine lv_iconst (v := zI (-1)) hx hb dL_points_99 (by decide) ?_
            refine lv_goto (tgt := 114) hx hb dL_points_100 (by decide) ?_
            refine lv_istore (lv' := [(11, .int (zI (-1))), (10, .int (nI eN)), (0, .ref (ad 0)), (1, .int (nI xN)), (2, .int (nI yN)), (3, .ref (ad 28)), (4, .ref (ad 29)), (5, .ref (ad 31)), (6, .int (nI n)), (7, .int (nI cN)), (8, .int (nI wN)), (9, .int (nI pN))]) hx hb dL_points_114 hl (by decide) rfl (fun ls hl => ?_)
            exact LLq116 (-1) (by first | exact LPl_full (by omega) | exact LPl_none hno_111 | exact LPl_some (by omega) hpf_111 hfr_111 hno_111) (by omega) _ _ _ hG (lv_sub hl [2, 3, 4, 5, 6, 7, 8, 9, 10, 11, 1, 0] rfl)
      refine lv_iload hx hb dL_points_64 (lv_at hl 0 rfl) ?_
      refine lv_iconst (v := nI 1) hx hb dL_points_66 (by decide) ?_
      refine lv_icmp_ne (tgt := 82) hx hb dL_points_67 (by decide) (fun c67 => ?_) (fun c67 => ?_)
      · skip
        have c67 : ¬ (pN = 1) := fun z9 => c67 ((nI_eq (by omega) (by omega)).mpr z9)
        refine lv_iconst (v := nI 1) hx hb dL_points_82 (by decide) ?_
        exact LLq83 1 (by omega) _ _ _ hG (lv_sub hl [1, 2, 3, 4, 5, 6, 7, 8, 9, 0] rfl)
      · skip
        have c67 : pN = 1 := (nI_eq (by omega) (by omega)).mp c67
        refine lv_iload_n hx hb dL_points_70 rfl (lv_at hl 3 rfl) ?_
        refine lv_iconst (v := nI 3) hx hb dL_points_71 (by decide) ?_
        refine lv_idiv hx hb dL_points_72 (by decide) ?_
        refine g_top (y := nI (yN / 3)) (pk_div (by omega) (by omega) (by omega)) ?_
        refine lv_iconst (v := nI 2) hx hb dL_points_73 (by decide) ?_
        refine lv_irem hx hb dL_points_74 (by decide) ?_
        refine g_top (y := nI ((yN / 3) % 2)) (pk_rem (by omega) (by omega) (by omega)) ?_
        refine lv_if_ne (tgt := 82) hx hb dL_points_75 (by decide) (fun c75 => ?_) (fun c75 => ?_)
        · skip
          have c75 : ¬ ((nI ((yN / 3) % 2)) = nI 0) := c75
          have c75 : ¬ (((yN / 3) % 2) = 0) := fun z9 => c75 ((nI_eq (by omega) (by omega)).mpr z9)
          refine lv_iconst (v := nI 1) hx hb dL_points_82 (by decide) ?_
          exact LLq83 1 (by omega) _ _ _ hG (lv_sub hl [1, 2, 3, 4, 5, 6, 7, 8, 9, 0] rfl)
        · skip
          have c75 : (nI ((yN / 3) % 2)) = nI 0 := c75
          have c75 : ((yN / 3) % 2) = 0 := (nI_eq (by omega) (by omega)).mp c75
          refine lv_iconst (v := nI 2) hx hb dL_points_78 (by decide) ?_
          refine lv_goto (tgt := 83) hx hb dL_points_79 (by decide) ?_
          exact LLq83 2 (by omega) _ _ _ hG (lv_sub hl [1, 2, 3, 4, 5, 6, 7, 8, 9, 0] rfl)
    refine lv_iload_n hx hb dL_points_40 rfl (lv_at hl 3 rfl) ?_
    refine lv_iconst (v := nI 3) hx hb dL_points_41 (by decide) ?_
    refine lv_irem hx hb dL_points_42 (by decide) ?_
    refine g_top (y := nI (yN % 3)) (pk_rem (by omega) (by omega) (by omega)) ?_
    refine lv_if_ne (tgt := 50) hx hb dL_points_43 (by decide) (fun c43 => ?_) (fun c43 => ?_)
    · skip
      have c43 : ¬ ((nI (yN % 3)) = nI 0) := c43
      have c43 : ¬ ((yN % 3) = 0) := fun z9 => c43 ((nI_eq (by omega) (by omega)).mpr z9)
      refine lv_iload_n hx hb dL_points_50 rfl (lv_at hl 3 rfl) ?_
      refine lv_iconst (v := nI 3) hx hb dL_points_51 (by decide) ?_
      refine lv_irem hx hb dL_points_52 (by decide) ?_
      refine g_top (y := nI (yN % 3)) (pk_rem (by omega) (by omega) (by omega)) ?_
      refine lv_iconst (v := nI 1) hx hb dL_points_53 (by decide) ?_
      refine lv_icmp_ne (tgt := 61) hx hb dL_points_54 (by decide) (fun c54 => ?_) (fun c54 => ?_)
      · skip
        have c54 : ¬ ((yN % 3) = 1) := fun z9 => c54 ((nI_eq (by omega) (by omega)).mpr z9)
        refine lv_iconst (v := nI 4) hx hb dL_points_61 (by decide) ?_
        exact LLq62 4 (by omega) _ _ _ hG (lv_sub hl [1, 2, 3, 4, 5, 6, 7, 8, 0] rfl)
      · skip
        have c54 : (yN % 3) = 1 := (nI_eq (by omega) (by omega)).mp c54
        refine lv_iconst (v := nI 2) hx hb dL_points_57 (by decide) ?_
        refine lv_goto (tgt := 62) hx hb dL_points_58 (by decide) ?_
        exact LLq62 2 (by omega) _ _ _ hG (lv_sub hl [1, 2, 3, 4, 5, 6, 7, 8, 0] rfl)
    · skip
      have c43 : (nI (yN % 3)) = nI 0 := c43
      have c43 : (yN % 3) = 0 := (nI_eq (by omega) (by omega)).mp c43
      refine lv_iconst (v := nI 1) hx hb dL_points_46 (by decide) ?_
      refine lv_goto (tgt := 62) hx hb dL_points_47 (by decide) ?_
      exact LLq62 1 (by omega) _ _ _ hG (lv_sub hl [1, 2, 3, 4, 5, 6, 7, 8, 0] rfl)
  refine lv_iload hx hb dL_points_11 (lv_at hl 0 rfl) ?_
  refine lv_if_ne (tgt := 20) hx hb dL_points_13 (by decide) (fun c13 => ?_) (fun c13 => ?_)
  · skip
    have c13 : ¬ ((nI cN) = nI 0) := c13
    have c13 : ¬ (cN = 0) := fun z9 => c13 ((nI_eq (by omega) (by omega)).mpr z9)
    refine lv_iconst (v := nI 2) hx hb dL_points_20 (by decide) ?_
    refine lv_iload_n hx hb dL_points_21 rfl (lv_at hl 3 rfl) ?_
    refine lv_iconst (v := nI 4) hx hb dL_points_22 (by decide) ?_
    refine lv_idiv hx hb dL_points_23 (by decide) ?_
    refine g_top (y := nI (xN / 4)) (pk_div (by omega) (by omega) (by omega)) ?_
    refine lv_iload hx hb dL_points_24 (lv_at hl 0 rfl) ?_
    refine lv_if_ne (tgt := 34) hx hb dL_points_26 (by decide) (fun c26 => ?_) (fun c26 => ?_)
    · skip
      have c26 : ¬ ((nI cN) = nI 0) := c26
      have c26 : ¬ (cN = 0) := fun z9 => c26 ((nI_eq (by omega) (by omega)).mpr z9)
      refine lv_bipush (v := nI 11) hx hb dL_points_34 (by decide) ?_
      refine lv_irem hx hb dL_points_36 (by decide) ?_
      refine g_top (y := nI ((xN / 4) % 11)) (pk_rem (by omega) (by omega) (by omega)) ?_
      refine lv_iadd hx hb dL_points_37 ?_
      refine g_top (y := nI (2 + ((xN / 4) % 11))) (by rw [nI_add]) ?_
      exact LLq38 (2 + ((xN / 4) % 11)) (by omega) _ _ _ hG (lv_sub hl [2, 3, 4, 5, 6, 7, 1, 0] rfl)
    · skip
      have c26 : (nI cN) = nI 0 := c26
      have c26 : cN = 0 := (nI_eq (by omega) (by omega)).mp c26
      refine lv_bipush (v := nI 12) hx hb dL_points_29 (by decide) ?_
      refine lv_goto (tgt := 36) hx hb dL_points_31 (by decide) ?_
      refine lv_irem hx hb dL_points_36 (by decide) ?_
      refine g_top (y := nI ((xN / 4) % 12)) (pk_rem (by omega) (by omega) (by omega)) ?_
      refine lv_iadd hx hb dL_points_37 ?_
      refine g_top (y := nI (2 + ((xN / 4) % 12))) (by rw [nI_add]) ?_
      exact LLq38 (2 + ((xN / 4) % 12)) (by omega) _ _ _ hG (lv_sub hl [2, 3, 4, 5, 6, 7, 1, 0] rfl)
  · skip
    have c13 : (nI cN) = nI 0 := c13
    have c13 : cN = 0 := (nI_eq (by omega) (by omega)).mp c13
    refine lv_iconst (v := nI 1) hx hb dL_points_16 (by decide) ?_
    refine lv_goto (tgt := 21) hx hb dL_points_17 (by decide) ?_
    refine lv_iload_n hx hb dL_points_21 rfl (lv_at hl 3 rfl) ?_
    refine lv_iconst (v := nI 4) hx hb dL_points_22 (by decide) ?_
    refine lv_idiv hx hb dL_points_23 (by decide) ?_
    refine g_top (y := nI (xN / 4)) (pk_div (by omega) (by omega) (by omega)) ?_
    refine lv_iload hx hb dL_points_24 (lv_at hl 0 rfl) ?_
    refine lv_if_ne (tgt := 34) hx hb dL_points_26 (by decide) (fun c26 => ?_) (fun c26 => ?_)
    · skip
      have c26 : ¬ ((nI cN) = nI 0) := c26
      have c26 : ¬ (cN = 0) := fun z9 => c26 ((nI_eq (by omega) (by omega)).mpr z9)
      refine lv_bipush (v := nI 11) hx hb dL_points_34 (by decide) ?_
      refine lv_irem hx hb dL_points_36 (by decide) ?_
      refine g_top (y := nI ((xN / 4) % 11)) (pk_rem (by omega) (by omega) (by omega)) ?_
      refine lv_iadd hx hb dL_points_37 ?_
      refine g_top (y := nI (1 + ((xN / 4) % 11))) (by rw [nI_add]) ?_
      exact LLq38 (1 + ((xN / 4) % 11)) (by omega) _ _ _ hG (lv_sub hl [2, 3, 4, 5, 6, 7, 1, 0] rfl)
    · skip
      have c26 : (nI cN) = nI 0 := c26
      have c26 : cN = 0 := (nI_eq (by omega) (by omega)).mp c26
      refine lv_bipush (v := nI 12) hx hb dL_points_29 (by decide) ?_
      refine lv_goto (tgt := 36) hx hb dL_points_31 (by decide) ?_
      refine lv_irem hx hb dL_points_36 (by decide) ?_
      refine g_top (y := nI ((xN / 4) % 12)) (pk_rem (by omega) (by omega) (by omega)) ?_
      refine lv_iadd hx hb dL_points_37 ?_
      refine g_top (y := nI (1 + ((xN / 4) % 12))) (by rw [nI_add]) ?_
      exact LLq38 (1 + ((xN / 4) % 12)) (by omega) _ _ _ hG (lv_sub hl [2, 3, 4, 5, 6, 7, 1, 0] rfl)

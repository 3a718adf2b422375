/-! ===== the law, case by case ===== -/
def LCtx (p : Program) (s : State) (m : MethodId) (c : Code) (l : Launch) (b L : Nat) (xs : Nat → Int32) (D : va_G) (cy : Nat → ClassId) : Prop := p.tables.exec = Jvm.exec ∧ c.code = code ∧ c.maxLocals = 7 ∧ s.vm.findClass RL = some m.cls ∧ (∀ w ∈ wsL_law, w.before #[Value.ref b] s = true) ∧ va_X b L xs s s.heap ∧ b < s.heap.size ∧ gEL D cy s.heap.size s ∧ l.stackTraces = false ∧ L ≤ 2560
theorem qL1_k {P : Option Value → (Nat → Nat → Int32) → (Nat → Nat → Int64) → Prop} {E : String → (Nat → Nat → Int32) → (Nat → Nat → Int64) → Prop} {e1 : String} {v : Option Value} {A : Nat → Nat → Int32} {J : Nat → Nat → Int64} (h : qL1 P E e1 v A J) : ∃ k : Nat, k ≤ 2 ∧ v = some (.int (nI k)) := by
  rcases h with ⟨r, J2, -, rfl, -⟩ | ⟨rfl, -⟩
  · exact ⟨0, by decide, rfl⟩
  · exact ⟨1, by decide, rfl⟩
theorem qL2_k {P : Option Value → (Nat → Nat → Int32) → (Nat → Nat → Int64) → Prop} {E : String → (Nat → Nat → Int32) → (Nat → Nat → Int64) → Prop} {e1 e2 : String} {v : Option Value} {A : Nat → Nat → Int32} {J : Nat → Nat → Int64} (h : qL2 P E e1 e2 v A J) : ∃ k : Nat, k ≤ 2 ∧ v = some (.int (nI k)) := by
  rcases h with ⟨r, J2, -, rfl, -⟩ | ⟨rfl, -⟩ | ⟨rfl, -⟩
  · exact ⟨0, by decide, rfl⟩
  · exact ⟨1, by decide, rfl⟩
  · exact ⟨2, by decide, rfl⟩
set_option maxHeartbeats 4000000 in
set_option maxRecDepth 100000 in
theorem law_k0 {p : Program} {e : Env} {s : State} {m : MethodId} {below : List Frame} {meth : Method} {c : Code} {l : Launch} {b L : Nat} {xs : Nat → Int32} {D : va_G} {cy : Nat → ClassId} {a0 a28 a49 : Nat} {Q : State → Prop} (X : LCtx p s m c l b L xs D cy) {i n : Nat} {ad : Nat → Nat} {A : Nat → Nat → Int32} {J : Nat → Nat → Int64} {G : Nat → Nat → Int} {H : Heap} {locs : List Loc} {cells slots : Nat} {ls : Array Slot} (hi : i + 5 ≤ L) (hI : LInv D cy s a0 a28 a49 n ad A J G H locs) (hc : cells + 3 ≤ 601024) (hs : slots + 19 ≤ 7293034) (hl : lv_has ls 7 (lLoc b a0 a28 a49 i)) (KK : ∀ (n1 : Nat) (ad1 : Nat → Nat) (A1 : Nat → Nat → Int32) (J1 : Nat → Nat → Int64) (G1 : Nat → Nat → Int) (H1 : Heap) (locs1 : List Loc) (ls1 : Array Slot) (cells1 slots1 : Nat), LInv D cy s a0 a28 a49 n1 ad1 A1 J1 G1 H1 locs1 → cells1 ≤ cells + 3 → slots1 ≤ slots + 19 → lv_has ls1 7 (lLoc b a0 a28 a49 i) → W p l e room_1 s m #[Value.ref b] below meth c H1 locs1 cells1 slots1 Q (F0 m 1322 ls1 [])) : W p l e room_1 s m #[Value.ref b] below meth c H locs cells slots Q (F0 m 160 ls []) := by
  obtain ⟨hx, hb, hml, hown, hts, hX, hbl, hEL, hst, hL⟩ := X
  obtain ⟨hC, hM, hG, rfl, rfl, rfl⟩ := hI
  obtain ⟨bT, bn, b41, bpa, bta, bol, bpr, bso, bse, bln, brc, bdv, bdr, btl, b37, bnn, b21⟩ := hC.bd
  have hl : lv_has ls 7 [(4, .int (nI i)), (3, .ref (ad 49)), (2, .ref (ad 28)), (1, .ref (ad 0)), (0, .ref b)] := hl
  obtain ⟨tq, htq, hx4⟩ : ∃ tq : Nat, tq ≤ 1 ∧ ((xs (i + 4) = 0 ∧ tq = 0) ∨ (xs (i + 4) ≠ 0 ∧ tq = 1)) := by
    by_cases h9 : xs (i + 4) = 0
    · exact ⟨0, by decide, Or.inl ⟨h9, rfl⟩⟩
    · exact ⟨1, by decide, Or.inr ⟨h9, rfl⟩⟩
  refine lv_aload_n hx hb dL_law_160 rfl (lv_at hl 3 rfl) ?_
  refine lv_aload_n hx hb dL_law_161 rfl (lv_at hl 4 rfl) ?_
  refine lv_iload hx hb dL_law_162 (lv_at hl 0 rfl) ?_
  refine lv_iconst (v := nI 1) hx hb dL_law_164 (by decide) ?_
  refine lv_iadd hx hb dL_law_165 ?_
  refine g_top (y := nI (i + 1)) (nI_add i 1) ?_
  refine gS_ld hx hb hX hbl hG.2.2 (i := i + 1) rfl (by omega) hL dL_law_166 ?_
  refine lv_aload_n hx hb dL_law_167 rfl (lv_at hl 4 rfl) ?_
  refine lv_iload hx hb dL_law_168 (lv_at hl 0 rfl) ?_
  refine lv_iconst (v := nI 2) hx hb dL_law_170 (by decide) ?_
  refine lv_iadd hx hb dL_law_171 ?_
  refine g_top (y := nI (i + 2)) (nI_add i 2) ?_
  refine gS_ld hx hb hX hbl hG.2.2 (i := i + 2) rfl (by omega) hL dL_law_172 ?_
  refine lv_aload_n hx hb dL_law_173 rfl (lv_at hl 4 rfl) ?_
  refine lv_iload hx hb dL_law_174 (lv_at hl 0 rfl) ?_
  refine lv_iconst (v := nI 3) hx hb dL_law_176 (by decide) ?_
  refine lv_iadd hx hb dL_law_177 ?_
  refine g_top (y := nI (i + 3)) (nI_add i 3) ?_
  refine gS_ld hx hb hX hbl hG.2.2 (i := i + 3) rfl (by omega) hL dL_law_178 ?_
  refine lv_aload_n hx hb dL_law_179 rfl (lv_at hl 4 rfl) ?_
  refine lv_iload hx hb dL_law_180 (lv_at hl 0 rfl) ?_
  refine lv_iconst (v := nI 4) hx hb dL_law_182 (by decide) ?_
  refine lv_iadd hx hb dL_law_183 ?_
  refine g_top (y := nI (i + 4)) (nI_add i 4) ?_
  refine gS_ld hx hb hX hbl hG.2.2 (i := i + 4) rfl (by omega) hL dL_law_184 ?_
  refine gS_bool (p1 := 192) (p2 := 193) (p3 := 0) (p4 := 0) hx hb hx4 dL_law_185 (by decide) dL_law_188 dL_law_189 (by decide) dL_law_192 rfl ?_
  refine lv_aload_n hx hb dL_law_193 rfl (lv_at hl 1 rfl) ?_
  refine gL_callSW (As := [.ref (ad 0), .int (xs (i + 1)), .int (xs (i + 2)), .int (xs (i + 3)), .int (nI tq), .ref (ad 49)]) (rest := []) ⟨hx, hb, hml, hown, hts⟩ hEL hG (by have h9 := cL_addPointC l D cy s.heap.size ad n A J G (xs (i + 1)).toInt (xs (i + 2)).toInt (xs (i + 3)).toInt tq hst hC (z_bound _) (z_bound _) (z_bound _) htq; simp only [zI_of] at h9; exact h9) (vx_cwSW 6 hts gL_law_L_addPoint rfl rfl rfl (by decide +kernel) ⟨(Nat.le_of_ble_eq_true rfl), (Nat.le_of_ble_eq_true rfl)⟩) rfl hl.1 rfl (Nat.le_of_ble_eq_true rfl) dL_law_194 ⟨(by show cells + 3 ≤ 601024; omega), (by show slots + 19 ≤ 7293034; omega)⟩ (fun v9 ad1 N1 w1 H locs hq hG => ?_)
  obtain ⟨k, hk2, rfl⟩ : ∃ k : Nat, k ≤ 2 ∧ v9 = some (.int (nI k)) := by
    rcases hq with ⟨_, _, rfl, -⟩ | ⟨-, -, _, _, -, ⟨rfl, -⟩ | ⟨rfl, -⟩⟩
    · exact ⟨0, by decide, rfl⟩
    · exact ⟨1, by decide, rfl⟩
    · exact ⟨2, by decide, rfl⟩
  obtain ⟨n1, A1, J1, rfl, rfl, had, hM1, hbr⟩ := br_addPoint hC hM htq hq
  have h0 := had 0 (by omega)
  have h28 := had 28 (by omega)
  have h49 := had 49 (by omega)
  rw [← h28, ← h49, ← h0] at hl
  refine W.eq (g2 := F0 m 197 ls [.int (nI k)]) rfl ?_
  refine lv_istore (lv' := [(5, .int (nI k)), (4, .int (nI i)), (3, .ref (ad1 49)), (2, .ref (ad1 28)), (1, .ref (ad1 0)), (0, .ref b)]) hx hb dL_law_197 hl (by decide) rfl (fun ls hl => ?_)
  refine lv_aload_n hx hb dL_law_199 rfl (lv_at hl 3 rfl) ?_
  refine lv_aload_n hx hb dL_law_200 rfl (lv_at hl 5 rfl) ?_
  refine lv_iload hx hb dL_law_201 (lv_at hl 1 rfl) ?_
  refine lv_iconst (v := nI 1) hx hb dL_law_203 (by decide) ?_
  refine lv_iadd hx hb dL_law_204 ?_
  refine g_top (y := nI (i + 1)) (nI_add i 1) ?_
  refine gS_ld hx hb hX hbl hG.2.2 (i := i + 1) rfl (by omega) hL dL_law_205 ?_
  refine lv_aload_n hx hb dL_law_206 rfl (lv_at hl 5 rfl) ?_
  refine lv_iload hx hb dL_law_207 (lv_at hl 1 rfl) ?_
  refine lv_iconst (v := nI 2) hx hb dL_law_209 (by decide) ?_
  refine lv_iadd hx hb dL_law_210 ?_
  refine g_top (y := nI (i + 2)) (nI_add i 2) ?_
  refine gS_ld hx hb hX hbl hG.2.2 (i := i + 2) rfl (by omega) hL dL_law_211 ?_
  refine lv_aload_n hx hb dL_law_212 rfl (lv_at hl 5 rfl) ?_
  refine lv_iload hx hb dL_law_213 (lv_at hl 1 rfl) ?_
  refine lv_iconst (v := nI 3) hx hb dL_law_215 (by decide) ?_
  refine lv_iadd hx hb dL_law_216 ?_
  refine g_top (y := nI (i + 3)) (nI_add i 3) ?_
  refine gS_ld hx hb hX hbl hG.2.2 (i := i + 3) rfl (by omega) hL dL_law_217 ?_
  refine lv_aload_n hx hb dL_law_218 rfl (lv_at hl 5 rfl) ?_
  refine lv_iload hx hb dL_law_219 (lv_at hl 1 rfl) ?_
  refine lv_iconst (v := nI 4) hx hb dL_law_221 (by decide) ?_
  refine lv_iadd hx hb dL_law_222 ?_
  refine g_top (y := nI (i + 4)) (nI_add i 4) ?_
  refine gS_ld hx hb hX hbl hG.2.2 (i := i + 4) rfl (by omega) hL dL_law_223 ?_
  refine gS_bool (p1 := 231) (p2 := 232) (p3 := 0) (p4 := 0) hx hb hx4 dL_law_224 (by decide) dL_law_227 dL_law_228 (by decide) dL_law_231 rfl ?_
  refine g_callV (As := [.int (xs (i + 1)), .int (xs (i + 2)), .int (xs (i + 3)), .int (nI tq)]) (rest := []) (r := (RX10, TX10, 35)) (k := 28) ⟨hx, hb, hml, hown, hts⟩ hEL.1 hG (by have h9 := cX10_addPointC l D cy s.heap.size ad1 n1 A1 J1 G ((xs (i + 1)).toInt) ((xs (i + 2)).toInt) ((xs (i + 3)).toInt) tq hM1 bT (z_bound _) (z_bound _) (z_bound _) htq (by omega); simp only [zI_of] at h9; exact h9) (cwV 4 hts gL_law_X10_addPoint rfl rfl rfl (by decide +kernel) ⟨(Nat.le_of_ble_eq_true rfl), (Nat.le_of_ble_eq_true rfl)⟩) (by omega) rfl rfl rfl hl.1 rfl (Nat.le_of_ble_eq_true rfl) dL_law_232 ⟨(by show cells + 3 ≤ 601024; omega), (by show slots + 19 ≤ 7293034; omega)⟩ (fun v_ A2 J2 H locs hp hG => ?_)
  have hJ2 : J1 = J2 := by
    rcases hp with ⟨-, -, h9, -⟩ | ⟨-, -, h9, -⟩ | ⟨_, -, -, h9, -⟩
    · exact h9
    · exact h9
    · exact h9
  obtain ⟨k9, r2, G1, hv, rfl, hth, hk9, hr9, hC1, hM2⟩ := hbr _ _ _ hp
  obtain rfl : k = k9 := nI_inj (by omega) (by omega) (Value.int.inj (Option.some.inj hv))
  subst hJ2
  refine W.eq (g2 := F0 m 235 ls [.int r2]) rfl ?_
  refine lv_istore (lv' := [(6, .int r2), (5, .int (nI k)), (4, .int (nI i)), (3, .ref (ad1 49)), (2, .ref (ad1 28)), (1, .ref (ad1 0)), (0, .ref b)]) hx hb dL_law_235 hl (by decide) rfl (fun ls hl => ?_)
  refine lv_aload_n hx hb dL_law_237 rfl (lv_at hl 4 rfl) ?_
  refine g_callV (As := []) (rest := []) (r := (RX10, TX10, 35)) (k := 28) ⟨hx, hb, hml, hown, hts⟩ hEL.1 hG (cX10_thrownC l D cy s.heap.size ad1 n1 A2 J1 (k : Int) hth) (cwV 0 hts gL_law_X10_thrown rfl rfl rfl (by decide +kernel) ⟨(Nat.le_of_ble_eq_true rfl), (Nat.le_of_ble_eq_true rfl)⟩) (by omega) rfl rfl rfl hl.1 rfl (Nat.le_of_ble_eq_true rfl) dL_law_238 ⟨(by show cells + 3 ≤ 601024; omega), (by show slots + 19 ≤ 7293034; omega)⟩ (fun v_ A3 J3 H locs hp hG => ?_)
  obtain ⟨rfl, rfl, rfl⟩ := hp
  refine W.eq (g2 := F0 m 241 ls [.int (zI (k : Int))]) rfl ?_
  refine lv_iload hx hb dL_law_241 (lv_at hl 1 rfl) ?_
  refine lv_icmp_eq (tgt := 248) hx hb dL_law_243 (by decide) (fun _ => ?_) (fun c9 => absurd rfl c9)
  refine lv_iload hx hb dL_law_248 (lv_at hl 1 rfl) ?_
  refine lv_if_ne (tgt := 265) hx hb dL_law_250 (by decide) (fun c9 => ?_) (fun c9 => ?_)
  · skip
    refine lv_goto (tgt := 1322) hx hb dL_law_265 (by decide) ?_
    rw [h28, h49, h0] at hl
    exact KK n1 ad1 A2 J1 G1 H locs ls _ _ ⟨hC1, hM2, hG, h0, h28, h49⟩ (by show cells + 3 ≤ cells + 3; omega) (by show slots + 19 ≤ slots + 19; omega) (lv_sub hl [2, 3, 4, 5, 6] rfl)
  · have hk0 : k = 0 := nI_inj (by omega) (by decide) c9
    refine lv_aload_n hx hb dL_law_253 rfl (lv_at hl 3 rfl) ?_
    refine lv_iconst (v := nI 0) hx hb dL_law_254 (by decide) ?_
    refine g_lald hx hb hEL.1 hG (k := 49) (by omega) rfl 0 rfl (by decide) (by decide) dL_law_255 ?_
    refine lv_iload hx hb dL_law_256 (lv_at hl 0 rfl) ?_
    refine lv_i2l (v := r2.toInt64) hx hb dL_law_258 rfl ?_
    refine W.lcmp hx hb dL_law_259 ?_
    refine lv_if_eq (tgt := 265) hx hb dL_law_260 (by decide) (fun _ => ?_) (fun c8 => absurd ((lg_cmp_eq _ _).mpr (hr9 hk0)) c8)
    refine lv_goto (tgt := 1322) hx hb dL_law_265 (by decide) ?_
    rw [h28, h49, h0] at hl
    exact KK n1 ad1 A2 J1 G1 H locs ls _ _ ⟨hC1, hM2, hG, h0, h28, h49⟩ (by show cells + 3 ≤ cells + 3; omega) (by show slots + 19 ≤ slots + 19; omega) (lv_sub hl [2, 3, 4, 5, 6] rfl)
set_option maxHeartbeats 4000000 in
set_option maxRecDepth 100000 in
theorem law_k1 {p : Program} {e : Env} {s : State} {m : MethodId} {below : List Frame} {meth : Method} {c : Code} {l : Launch} {b L : Nat} {xs : Nat → Int32} {D : va_G} {cy : Nat → ClassId} {a0 a28 a49 : Nat} {Q : State → Prop} (X : LCtx p s m c l b L xs D cy) {i n : Nat} {ad : Nat → Nat} {A : Nat → Nat → Int32} {J : Nat → Nat → Int64} {G : Nat → Nat → Int} {H : Heap} {locs : List Loc} {cells slots : Nat} {ls : Array Slot} (hi : i + 5 ≤ L) (hI : LInv D cy s a0 a28 a49 n ad A J G H locs) (hc : cells + 3 ≤ 601024) (hs : slots + 19 ≤ 7293034) (hl : lv_has ls 7 (lLoc b a0 a28 a49 i)) (KK : ∀ (n1 : Nat) (ad1 : Nat → Nat) (A1 : Nat → Nat → Int32) (J1 : Nat → Nat → Int64) (G1 : Nat → Nat → Int) (H1 : Heap) (locs1 : List Loc) (ls1 : Array Slot) (cells1 slots1 : Nat), LInv D cy s a0 a28 a49 n1 ad1 A1 J1 G1 H1 locs1 → cells1 ≤ cells + 3 → slots1 ≤ slots + 19 → lv_has ls1 7 (lLoc b a0 a28 a49 i) → W p l e room_1 s m #[Value.ref b] below meth c H1 locs1 cells1 slots1 Q (F0 m 1322 ls1 [])) : W p l e room_1 s m #[Value.ref b] below meth c H locs cells slots Q (F0 m 268 ls []) := by
  obtain ⟨hx, hb, hml, hown, hts, hX, hbl, hEL, hst, hL⟩ := X
  obtain ⟨hC, hM, hG, rfl, rfl, rfl⟩ := hI
  obtain ⟨bT, bn, b41, bpa, bta, bol, bpr, bso, bse, bln, brc, bdv, bdr, btl, b37, bnn, b21⟩ := hC.bd
  have hl : lv_has ls 7 [(4, .int (nI i)), (3, .ref (ad 49)), (2, .ref (ad 28)), (1, .ref (ad 0)), (0, .ref b)] := hl
  refine lv_aload_n hx hb dL_law_268 rfl (lv_at hl 3 rfl) ?_
  refine g_callV (As := []) (rest := []) (r := (RX9, TX9, 6)) (k := 0) ⟨hx, hb, hml, hown, hts⟩ hEL.1 hG (cX9_pointsC l D cy s.heap.size ad n A J n hC.1 rfl) (cwV 0 hts gL_law_X9_points rfl rfl rfl (by decide +kernel) ⟨(Nat.le_of_ble_eq_true rfl), (Nat.le_of_ble_eq_true rfl)⟩) (by omega) rfl rfl rfl hl.1 rfl (Nat.le_of_ble_eq_true rfl) dL_law_269 ⟨(by show cells ≤ 601024; omega), (by show slots ≤ 7293034; omega)⟩ (fun v_ A1 J1 H locs hp hG => ?_)
  obtain ⟨rfl, rfl, rfl⟩ := hp
  refine W.eq (g2 := F0 m 272 ls [.int (nI n)]) rfl ?_
  refine lv_aload_n hx hb dL_law_272 rfl (lv_at hl 2 rfl) ?_
  refine g_callV (As := []) (rest := [.int (nI n)]) (r := (RX10, TX10, 35)) (k := 28) ⟨hx, hb, hml, hown, hts⟩ hEL.1 hG (cX10_pointsC l D cy s.heap.size ad n A J G hM) (cwV 0 hts gL_law_X10_points rfl rfl rfl (by decide +kernel) ⟨(Nat.le_of_ble_eq_true rfl), (Nat.le_of_ble_eq_true rfl)⟩) (by omega) rfl rfl rfl hl.1 rfl (Nat.le_of_ble_eq_true rfl) dL_law_273 ⟨(by show cells ≤ 601024; omega), (by show slots ≤ 7293034; omega)⟩ (fun v_ A2 J2 H locs hp hG => ?_)
  obtain ⟨rfl, rfl, rfl⟩ := hp
  refine W.eq (g2 := F0 m 276 ls [.int (zI (G 28 0)), .int (nI n)]) rfl ?_
  refine lv_icmp_eq (tgt := 1322) hx hb dL_law_276 (by decide) (fun _ => ?_) (fun c9 => absurd (by rw [bnn]; rfl) c9)
  exact KK n ad _ J G H locs ls _ _ ⟨(hC.th _), (hM.th _), hG, rfl, rfl, rfl⟩ (by show cells ≤ cells + 3; omega) (by show slots ≤ slots + 19; omega) (lv_sub hl [0, 1, 2, 3, 4] rfl)
set_option maxHeartbeats 4000000 in
set_option maxRecDepth 100000 in
theorem law_k2 {p : Program} {e : Env} {s : State} {m : MethodId} {below : List Frame} {meth : Method} {c : Code} {l : Launch} {b L : Nat} {xs : Nat → Int32} {D : va_G} {cy : Nat → ClassId} {a0 a28 a49 : Nat} {Q : State → Prop} (X : LCtx p s m c l b L xs D cy) {i n : Nat} {ad : Nat → Nat} {A : Nat → Nat → Int32} {J : Nat → Nat → Int64} {G : Nat → Nat → Int} {H : Heap} {locs : List Loc} {cells slots : Nat} {ls : Array Slot} (hi : i + 5 ≤ L) (hI : LInv D cy s a0 a28 a49 n ad A J G H locs) (hc : cells + 3 ≤ 601024) (hs : slots + 19 ≤ 7293034) (hl : lv_has ls 7 (lLoc b a0 a28 a49 i)) (KK : ∀ (n1 : Nat) (ad1 : Nat → Nat) (A1 : Nat → Nat → Int32) (J1 : Nat → Nat → Int64) (G1 : Nat → Nat → Int) (H1 : Heap) (locs1 : List Loc) (ls1 : Array Slot) (cells1 slots1 : Nat), LInv D cy s a0 a28 a49 n1 ad1 A1 J1 G1 H1 locs1 → cells1 ≤ cells + 3 → slots1 ≤ slots + 19 → lv_has ls1 7 (lLoc b a0 a28 a49 i) → W p l e room_1 s m #[Value.ref b] below meth c H1 locs1 cells1 slots1 Q (F0 m 1322 ls1 [])) : W p l e room_1 s m #[Value.ref b] below meth c H locs cells slots Q (F0 m 281 ls []) := by
  obtain ⟨hx, hb, hml, hown, hts, hX, hbl, hEL, hst, hL⟩ := X
  obtain ⟨hC, hM, hG, rfl, rfl, rfl⟩ := hI
  obtain ⟨bT, bn, b41, bpa, bta, bol, bpr, bso, bse, bln, brc, bdv, bdr, btl, b37, bnn, b21⟩ := hC.bd
  have hl : lv_has ls 7 [(4, .int (nI i)), (3, .ref (ad 49)), (2, .ref (ad 28)), (1, .ref (ad 0)), (0, .ref b)] := hl
  refine lv_aload_n hx hb dL_law_281 rfl (lv_at hl 3 rfl) ?_
  refine lv_aload_n hx hb dL_law_282 rfl (lv_at hl 4 rfl) ?_
  refine lv_iload hx hb dL_law_283 (lv_at hl 0 rfl) ?_
  refine lv_iconst (v := nI 1) hx hb dL_law_285 (by decide) ?_
  refine lv_iadd hx hb dL_law_286 ?_
  refine g_top (y := nI (i + 1)) (nI_add i 1) ?_
  refine gS_ld hx hb hX hbl hG.2.2 (i := i + 1) rfl (by omega) hL dL_law_287 ?_
  refine lv_aload_n hx hb dL_law_288 rfl (lv_at hl 1 rfl) ?_
  refine gL_callS (As := [.ref (ad 0), .int (xs (i + 1)), .ref (ad 49)]) (rest := []) ⟨hx, hb, hml, hown, hts⟩ hEL hG (cL_placeC l D cy s.heap.size ad n A J (xs (i + 1)) (PX9_place ad A J G n (xs (i + 1)).toInt) (EX9_place ad A J G n (xs (i + 1)).toInt) (by have h9 := cX9_placeC l D cy s.heap.size ad n A J G n (xs (i + 1)).toInt hst rfl hC (z_bound _); simp only [zI_of] at h9; exact h9) (fun v9 A9 J9 h9 => by obtain ⟨_, rfl, -⟩ := h9; exact ⟨_, rfl⟩) (fun e9 A9 J9 h9 => h9.1)) (vx_cwSW 3 hts gL_law_L_place rfl rfl rfl (by decide +kernel) ⟨(Nat.le_of_ble_eq_true rfl), (Nat.le_of_ble_eq_true rfl)⟩) rfl hl.1 rfl (Nat.le_of_ble_eq_true rfl) dL_law_289 ⟨(by show cells + 1 ≤ 601024; omega), (by show slots + 6 ≤ 7293034; omega)⟩ (fun v9 A1 J1 H locs hq hG => ?_)
  obtain ⟨k, hk2, rfl⟩ := qL1_k hq
  obtain ⟨hM1, hbr⟩ := br_place hC hM hq
  refine W.eq (g2 := F0 m 292 ls [.int (nI k)]) rfl ?_
  refine lv_istore (lv' := [(5, .int (nI k)), (4, .int (nI i)), (3, .ref (ad 49)), (2, .ref (ad 28)), (1, .ref (ad 0)), (0, .ref b)]) hx hb dL_law_292 hl (by decide) rfl (fun ls hl => ?_)
  refine lv_aload_n hx hb dL_law_294 rfl (lv_at hl 3 rfl) ?_
  refine lv_aload_n hx hb dL_law_295 rfl (lv_at hl 5 rfl) ?_
  refine lv_iload hx hb dL_law_296 (lv_at hl 1 rfl) ?_
  refine lv_iconst (v := nI 1) hx hb dL_law_298 (by decide) ?_
  refine lv_iadd hx hb dL_law_299 ?_
  refine g_top (y := nI (i + 1)) (nI_add i 1) ?_
  refine gS_ld hx hb hX hbl hG.2.2 (i := i + 1) rfl (by omega) hL dL_law_300 ?_
  refine g_callV (As := [.int (xs (i + 1))]) (rest := []) (r := (RX10, TX10, 35)) (k := 28) ⟨hx, hb, hml, hown, hts⟩ hEL.1 hG (cX10_placeC l D cy s.heap.size ad n A1 J1 G (xs (i + 1)) hM1 bn) (cwV 1 hts gL_law_X10_place rfl rfl rfl (by decide +kernel) ⟨(Nat.le_of_ble_eq_true rfl), (Nat.le_of_ble_eq_true rfl)⟩) (by omega) rfl rfl rfl hl.1 rfl (Nat.le_of_ble_eq_true rfl) dL_law_301 ⟨(by show cells + 1 ≤ 601024; omega), (by show slots + 6 ≤ 7293034; omega)⟩ (fun v_ A2 J2 H locs hp hG => ?_)
  have hJ2 : J1 = J2 := by
    rcases hp with ⟨_, -, -, h9, -⟩ | ⟨-, -, h9, -⟩
    · exact h9
    · exact h9
  obtain ⟨k9, r2, G1, hv, rfl, hth, hk9, hr9, hC1, hM2⟩ := hbr _ _ _ hp
  obtain rfl : k = k9 := nI_inj (by omega) (by omega) (Value.int.inj (Option.some.inj hv))
  subst hJ2
  refine W.eq (g2 := F0 m 304 ls [.int r2]) rfl ?_
  refine lv_istore (lv' := [(6, .int r2), (5, .int (nI k)), (4, .int (nI i)), (3, .ref (ad 49)), (2, .ref (ad 28)), (1, .ref (ad 0)), (0, .ref b)]) hx hb dL_law_304 hl (by decide) rfl (fun ls hl => ?_)
  refine lv_aload_n hx hb dL_law_306 rfl (lv_at hl 4 rfl) ?_
  refine g_callV (As := []) (rest := []) (r := (RX10, TX10, 35)) (k := 28) ⟨hx, hb, hml, hown, hts⟩ hEL.1 hG (cX10_thrownC l D cy s.heap.size ad n A2 J1 (k : Int) hth) (cwV 0 hts gL_law_X10_thrown rfl rfl rfl (by decide +kernel) ⟨(Nat.le_of_ble_eq_true rfl), (Nat.le_of_ble_eq_true rfl)⟩) (by omega) rfl rfl rfl hl.1 rfl (Nat.le_of_ble_eq_true rfl) dL_law_307 ⟨(by show cells + 1 ≤ 601024; omega), (by show slots + 6 ≤ 7293034; omega)⟩ (fun v_ A3 J3 H locs hp hG => ?_)
  obtain ⟨rfl, rfl, rfl⟩ := hp
  refine W.eq (g2 := F0 m 310 ls [.int (zI (k : Int))]) rfl ?_
  refine lv_iload hx hb dL_law_310 (lv_at hl 1 rfl) ?_
  refine lv_icmp_eq (tgt := 317) hx hb dL_law_312 (by decide) (fun _ => ?_) (fun c9 => absurd rfl c9)
  refine lv_iload hx hb dL_law_317 (lv_at hl 1 rfl) ?_
  refine lv_if_ne (tgt := 334) hx hb dL_law_319 (by decide) (fun c9 => ?_) (fun c9 => ?_)
  · skip
    refine lv_goto (tgt := 1322) hx hb dL_law_334 (by decide) ?_
    exact KK n ad A2 J1 G1 H locs ls _ _ ⟨hC1, hM2, hG, rfl, rfl, rfl⟩ (by show cells + 1 ≤ cells + 3; omega) (by show slots + 6 ≤ slots + 19; omega) (lv_sub hl [2, 3, 4, 5, 6] rfl)
  · have hk0 : k = 0 := nI_inj (by omega) (by decide) c9
    refine lv_aload_n hx hb dL_law_322 rfl (lv_at hl 3 rfl) ?_
    refine lv_iconst (v := nI 0) hx hb dL_law_323 (by decide) ?_
    refine g_lald hx hb hEL.1 hG (k := 49) (by omega) rfl 0 rfl (by decide) (by decide) dL_law_324 ?_
    refine lv_iload hx hb dL_law_325 (lv_at hl 0 rfl) ?_
    refine lv_i2l (v := r2.toInt64) hx hb dL_law_327 rfl ?_
    refine W.lcmp hx hb dL_law_328 ?_
    refine lv_if_eq (tgt := 334) hx hb dL_law_329 (by decide) (fun _ => ?_) (fun c8 => absurd ((lg_cmp_eq _ _).mpr (hr9 hk0)) c8)
    refine lv_goto (tgt := 1322) hx hb dL_law_334 (by decide) ?_
    exact KK n ad A2 J1 G1 H locs ls _ _ ⟨hC1, hM2, hG, rfl, rfl, rfl⟩ (by show cells + 1 ≤ cells + 3; omega) (by show slots + 6 ≤ slots + 19; omega) (lv_sub hl [2, 3, 4, 5, 6] rfl)
set_option maxHeartbeats 4000000 in
set_option maxRecDepth 100000 in
theorem law_k3 {p : Program} {e : Env} {s : State} {m : MethodId} {below : List Frame} {meth : Method} {c : Code} {l : Launch} {b L : Nat} {xs : Nat → Int32} {D : va_G} {cy : Nat → ClassId} {a0 a28 a49 : Nat} {Q : State → Prop} (X : LCtx p s m c l b L xs D cy) {i n : Nat} {ad : Nat → Nat} {A : Nat → Nat → Int32} {J : Nat → Nat → Int64} {G : Nat → Nat → Int} {H : Heap} {locs : List Loc} {cells slots : Nat} {ls : Array Slot} (hi : i + 5 ≤ L) (hI : LInv D cy s a0 a28 a49 n ad A J G H locs) (hc : cells + 3 ≤ 601024) (hs : slots + 19 ≤ 7293034) (hl : lv_has ls 7 (lLoc b a0 a28 a49 i)) (KK : ∀ (n1 : Nat) (ad1 : Nat → Nat) (A1 : Nat → Nat → Int32) (J1 : Nat → Nat → Int64) (G1 : Nat → Nat → Int) (H1 : Heap) (locs1 : List Loc) (ls1 : Array Slot) (cells1 slots1 : Nat), LInv D cy s a0 a28 a49 n1 ad1 A1 J1 G1 H1 locs1 → cells1 ≤ cells + 3 → slots1 ≤ slots + 19 → lv_has ls1 7 (lLoc b a0 a28 a49 i) → W p l e room_1 s m #[Value.ref b] below meth c H1 locs1 cells1 slots1 Q (F0 m 1322 ls1 [])) : W p l e room_1 s m #[Value.ref b] below meth c H locs cells slots Q (F0 m 337 ls []) := by
  obtain ⟨hx, hb, hml, hown, hts, hX, hbl, hEL, hst, hL⟩ := X
  obtain ⟨hC, hM, hG, rfl, rfl, rfl⟩ := hI
  obtain ⟨bT, bn, b41, bpa, bta, bol, bpr, bso, bse, bln, brc, bdv, bdr, btl, b37, bnn, b21⟩ := hC.bd
  have hl : lv_has ls 7 [(4, .int (nI i)), (3, .ref (ad 49)), (2, .ref (ad 28)), (1, .ref (ad 0)), (0, .ref b)] := hl
  refine lv_aload_n hx hb dL_law_337 rfl (lv_at hl 3 rfl) ?_
  refine g_callV (As := []) (rest := []) (r := (RX9, TX9, 6)) (k := 0) ⟨hx, hb, hml, hown, hts⟩ hEL.1 hG (cX9_spareC l D cy s.heap.size ad n A J G n rfl hC) (cwV 0 hts gL_law_X9_spare rfl rfl rfl (by decide +kernel) ⟨(Nat.le_of_ble_eq_true rfl), (Nat.le_of_ble_eq_true rfl)⟩) (by omega) rfl rfl rfl hl.1 rfl (Nat.le_of_ble_eq_true rfl) dL_law_338 ⟨(by show cells ≤ 601024; omega), (by show slots ≤ 7293034; omega)⟩ (fun v_ A1 J1 H locs hp hG => ?_)
  obtain ⟨rfl, rfl, rfl⟩ := hp
  refine W.eq (g2 := F0 m 341 ls [.int (zI (mSpare G 192))]) rfl ?_
  refine lv_aload_n hx hb dL_law_341 rfl (lv_at hl 2 rfl) ?_
  refine g_callV (As := []) (rest := [.int (zI (mSpare G 192))]) (r := (RX10, TX10, 35)) (k := 28) ⟨hx, hb, hml, hown, hts⟩ hEL.1 hG (cX10_spareC l D cy s.heap.size ad n A J G hM bT) (cwV 0 hts gL_law_X10_spare rfl rfl rfl (by decide +kernel) ⟨(Nat.le_of_ble_eq_true rfl), (Nat.le_of_ble_eq_true rfl)⟩) (by omega) rfl rfl rfl hl.1 rfl (Nat.le_of_ble_eq_true rfl) dL_law_342 ⟨(by show cells ≤ 601024; omega), (by show slots ≤ 7293034; omega)⟩ (fun v_ A2 J2 H locs hp hG => ?_)
  obtain ⟨rfl, rfl, rfl⟩ := hp
  refine W.eq (g2 := F0 m 345 ls [.int (zI (mSpare G 192)), .int (zI (mSpare G 192))]) rfl ?_
  refine lv_icmp_eq (tgt := 1322) hx hb dL_law_345 (by decide) (fun _ => ?_) (fun c9 => absurd rfl c9)
  exact KK n ad _ J G H locs ls _ _ ⟨(hC.th _), (hM.th _), hG, rfl, rfl, rfl⟩ (by show cells ≤ cells + 3; omega) (by show slots ≤ slots + 19; omega) (lv_sub hl [0, 1, 2, 3, 4] rfl)
set_option maxHeartbeats 4000000 in
set_option maxRecDepth 100000 in
theorem law_k4 {p : Program} {e : Env} {s : State} {m : MethodId} {below : List Frame} {meth : Method} {c : Code} {l : Launch} {b L : Nat} {xs : Nat → Int32} {D : va_G} {cy : Nat → ClassId} {a0 a28 a49 : Nat} {Q : State → Prop} (X : LCtx p s m c l b L xs D cy) {i n : Nat} {ad : Nat → Nat} {A : Nat → Nat → Int32} {J : Nat → Nat → Int64} {G : Nat → Nat → Int} {H : Heap} {locs : List Loc} {cells slots : Nat} {ls : Array Slot} (hi : i + 5 ≤ L) (hI : LInv D cy s a0 a28 a49 n ad A J G H locs) (hc : cells + 3 ≤ 601024) (hs : slots + 19 ≤ 7293034) (hl : lv_has ls 7 (lLoc b a0 a28 a49 i)) (KK : ∀ (n1 : Nat) (ad1 : Nat → Nat) (A1 : Nat → Nat → Int32) (J1 : Nat → Nat → Int64) (G1 : Nat → Nat → Int) (H1 : Heap) (locs1 : List Loc) (ls1 : Array Slot) (cells1 slots1 : Nat), LInv D cy s a0 a28 a49 n1 ad1 A1 J1 G1 H1 locs1 → cells1 ≤ cells + 3 → slots1 ≤ slots + 19 → lv_has ls1 7 (lLoc b a0 a28 a49 i) → W p l e room_1 s m #[Value.ref b] below meth c H1 locs1 cells1 slots1 Q (F0 m 1322 ls1 [])) : W p l e room_1 s m #[Value.ref b] below meth c H locs cells slots Q (F0 m 350 ls []) := by
  obtain ⟨hx, hb, hml, hown, hts, hX, hbl, hEL, hst, hL⟩ := X
  obtain ⟨hC, hM, hG, rfl, rfl, rfl⟩ := hI
  obtain ⟨bT, bn, b41, bpa, bta, bol, bpr, bso, bse, bln, brc, bdv, bdr, btl, b37, bnn, b21⟩ := hC.bd
  have hl : lv_has ls 7 [(4, .int (nI i)), (3, .ref (ad 49)), (2, .ref (ad 28)), (1, .ref (ad 0)), (0, .ref b)] := hl
  refine lv_aload_n hx hb dL_law_350 rfl (lv_at hl 3 rfl) ?_
  refine lv_aload_n hx hb dL_law_351 rfl (lv_at hl 4 rfl) ?_
  refine lv_iload hx hb dL_law_352 (lv_at hl 0 rfl) ?_
  refine lv_iconst (v := nI 1) hx hb dL_law_354 (by decide) ?_
  refine lv_iadd hx hb dL_law_355 ?_
  refine g_top (y := nI (i + 1)) (nI_add i 1) ?_
  refine gS_ld hx hb hX hbl hG.2.2 (i := i + 1) rfl (by omega) hL dL_law_356 ?_
  refine lv_aload_n hx hb dL_law_357 rfl (lv_at hl 4 rfl) ?_
  refine lv_iload hx hb dL_law_358 (lv_at hl 0 rfl) ?_
  refine lv_iconst (v := nI 2) hx hb dL_law_360 (by decide) ?_
  refine lv_iadd hx hb dL_law_361 ?_
  refine g_top (y := nI (i + 2)) (nI_add i 2) ?_
  refine gS_ld hx hb hX hbl hG.2.2 (i := i + 2) rfl (by omega) hL dL_law_362 ?_
  refine lv_aload_n hx hb dL_law_363 rfl (lv_at hl 1 rfl) ?_
  refine gL_callS (As := [.ref (ad 0), .int (xs (i + 1)), .int (xs (i + 2)), .ref (ad 49)]) (rest := []) ⟨hx, hb, hml, hown, hts⟩ hEL hG (cL_putC l D cy s.heap.size ad n A J (xs (i + 1)) (xs (i + 2)) (PX9_put ad A J G n (xs (i + 1)).toInt (xs (i + 2)).toInt) (EX9_put ad A J G n (xs (i + 1)).toInt (xs (i + 2)).toInt) (by have h9 := cX9_putC l D cy s.heap.size ad n A J G n (xs (i + 1)).toInt (xs (i + 2)).toInt hst rfl hC (z_bound _) (z_bound _); simp only [zI_of] at h9; exact h9) (fun v9 A9 J9 h9 => by obtain ⟨_, rfl, -⟩ := h9; exact ⟨_, rfl⟩) (fun e9 A9 J9 h9 => h9.elim (fun h8 => Or.inl h8.1) (fun h8 => Or.inr h8.1))) (vx_cwSW 4 hts gL_law_L_put rfl rfl rfl (by decide +kernel) ⟨(Nat.le_of_ble_eq_true rfl), (Nat.le_of_ble_eq_true rfl)⟩) rfl hl.1 rfl (Nat.le_of_ble_eq_true rfl) dL_law_364 ⟨(by show cells + 2 ≤ 601024; omega), (by show slots + 12 ≤ 7293034; omega)⟩ (fun v9 A1 J1 H locs hq hG => ?_)
  obtain ⟨k, hk2, rfl⟩ := qL2_k hq
  obtain ⟨hM1, hbr⟩ := br_put hC hM hq
  refine W.eq (g2 := F0 m 367 ls [.int (nI k)]) rfl ?_
  refine lv_istore (lv' := [(5, .int (nI k)), (4, .int (nI i)), (3, .ref (ad 49)), (2, .ref (ad 28)), (1, .ref (ad 0)), (0, .ref b)]) hx hb dL_law_367 hl (by decide) rfl (fun ls hl => ?_)
  refine lv_aload_n hx hb dL_law_369 rfl (lv_at hl 3 rfl) ?_
  refine lv_aload_n hx hb dL_law_370 rfl (lv_at hl 5 rfl) ?_
  refine lv_iload hx hb dL_law_371 (lv_at hl 1 rfl) ?_
  refine lv_iconst (v := nI 1) hx hb dL_law_373 (by decide) ?_
  refine lv_iadd hx hb dL_law_374 ?_
  refine g_top (y := nI (i + 1)) (nI_add i 1) ?_
  refine gS_ld hx hb hX hbl hG.2.2 (i := i + 1) rfl (by omega) hL dL_law_375 ?_
  refine lv_aload_n hx hb dL_law_376 rfl (lv_at hl 5 rfl) ?_
  refine lv_iload hx hb dL_law_377 (lv_at hl 1 rfl) ?_
  refine lv_iconst (v := nI 2) hx hb dL_law_379 (by decide) ?_
  refine lv_iadd hx hb dL_law_380 ?_
  refine g_top (y := nI (i + 2)) (nI_add i 2) ?_
  refine gS_ld hx hb hX hbl hG.2.2 (i := i + 2) rfl (by omega) hL dL_law_381 ?_
  refine g_callV (As := [.int (xs (i + 1)), .int (xs (i + 2))]) (rest := []) (r := (RX10, TX10, 35)) (k := 28) ⟨hx, hb, hml, hown, hts⟩ hEL.1 hG (cX10_putC l D cy s.heap.size ad n A1 J1 G (xs (i + 1)) (xs (i + 2)) hM1 bT) (cwV 2 hts gL_law_X10_put rfl rfl rfl (by decide +kernel) ⟨(Nat.le_of_ble_eq_true rfl), (Nat.le_of_ble_eq_true rfl)⟩) (by omega) rfl rfl rfl hl.1 rfl (Nat.le_of_ble_eq_true rfl) dL_law_382 ⟨(by show cells + 2 ≤ 601024; omega), (by show slots + 12 ≤ 7293034; omega)⟩ (fun v_ A2 J2 H locs hp hG => ?_)
  have hJ2 : J1 = J2 := by
    rcases hp with ⟨-, -, h9, -⟩ | ⟨_, -, -, h9, -⟩ | ⟨_, -, -, h9, -⟩
    · exact h9
    · exact h9
    · exact h9
  obtain ⟨k9, r2, G1, hv, rfl, hth, hk9, hr9, hC1, hM2⟩ := hbr _ _ _ hp
  obtain rfl : k = k9 := nI_inj (by omega) (by omega) (Value.int.inj (Option.some.inj hv))
  subst hJ2
  refine W.eq (g2 := F0 m 385 ls [.int r2]) rfl ?_
  refine lv_istore (lv' := [(6, .int r2), (5, .int (nI k)), (4, .int (nI i)), (3, .ref (ad 49)), (2, .ref (ad 28)), (1, .ref (ad 0)), (0, .ref b)]) hx hb dL_law_385 hl (by decide) rfl (fun ls hl => ?_)
  refine lv_aload_n hx hb dL_law_387 rfl (lv_at hl 4 rfl) ?_
  refine g_callV (As := []) (rest := []) (r := (RX10, TX10, 35)) (k := 28) ⟨hx, hb, hml, hown, hts⟩ hEL.1 hG (cX10_thrownC l D cy s.heap.size ad n A2 J1 (k : Int) hth) (cwV 0 hts gL_law_X10_thrown rfl rfl rfl (by decide +kernel) ⟨(Nat.le_of_ble_eq_true rfl), (Nat.le_of_ble_eq_true rfl)⟩) (by omega) rfl rfl rfl hl.1 rfl (Nat.le_of_ble_eq_true rfl) dL_law_388 ⟨(by show cells + 2 ≤ 601024; omega), (by show slots + 12 ≤ 7293034; omega)⟩ (fun v_ A3 J3 H locs hp hG => ?_)
  obtain ⟨rfl, rfl, rfl⟩ := hp
  refine W.eq (g2 := F0 m 391 ls [.int (zI (k : Int))]) rfl ?_
  refine lv_iload hx hb dL_law_391 (lv_at hl 1 rfl) ?_
  refine lv_icmp_eq (tgt := 398) hx hb dL_law_393 (by decide) (fun _ => ?_) (fun c9 => absurd rfl c9)
  refine lv_iload hx hb dL_law_398 (lv_at hl 1 rfl) ?_
  refine lv_if_ne (tgt := 415) hx hb dL_law_400 (by decide) (fun c9 => ?_) (fun c9 => ?_)
  · skip
    refine lv_goto (tgt := 1322) hx hb dL_law_415 (by decide) ?_
    exact KK n ad A2 J1 G1 H locs ls _ _ ⟨hC1, hM2, hG, rfl, rfl, rfl⟩ (by show cells + 2 ≤ cells + 3; omega) (by show slots + 12 ≤ slots + 19; omega) (lv_sub hl [2, 3, 4, 5, 6] rfl)
  · have hk0 : k = 0 := nI_inj (by omega) (by decide) c9
    refine lv_aload_n hx hb dL_law_403 rfl (lv_at hl 3 rfl) ?_
    refine lv_iconst (v := nI 0) hx hb dL_law_404 (by decide) ?_
    refine g_lald hx hb hEL.1 hG (k := 49) (by omega) rfl 0 rfl (by decide) (by decide) dL_law_405 ?_
    refine lv_iload hx hb dL_law_406 (lv_at hl 0 rfl) ?_
    refine lv_i2l (v := r2.toInt64) hx hb dL_law_408 rfl ?_
    refine W.lcmp hx hb dL_law_409 ?_
    refine lv_if_eq (tgt := 415) hx hb dL_law_410 (by decide) (fun _ => ?_) (fun c8 => absurd ((lg_cmp_eq _ _).mpr (hr9 hk0)) c8)
    refine lv_goto (tgt := 1322) hx hb dL_law_415 (by decide) ?_
    exact KK n ad A2 J1 G1 H locs ls _ _ ⟨hC1, hM2, hG, rfl, rfl, rfl⟩ (by show cells + 2 ≤ cells + 3; omega) (by show slots + 12 ≤ slots + 19; omega) (lv_sub hl [2, 3, 4, 5, 6] rfl)
set_option maxHeartbeats 4000000 in
set_option maxRecDepth 100000 in
theorem law_k5 {p : Program} {e : Env} {s : State} {m : MethodId} {below : List Frame} {meth : Method} {c : Code} {l : Launch} {b L : Nat} {xs : Nat → Int32} {D : va_G} {cy : Nat → ClassId} {a0 a28 a49 : Nat} {Q : State → Prop} (X : LCtx p s m c l b L xs D cy) {i n : Nat} {ad : Nat → Nat} {A : Nat → Nat → Int32} {J : Nat → Nat → Int64} {G : Nat → Nat → Int} {H : Heap} {locs : List Loc} {cells slots : Nat} {ls : Array Slot} (hi : i + 5 ≤ L) (hI : LInv D cy s a0 a28 a49 n ad A J G H locs) (hc : cells + 3 ≤ 601024) (hs : slots + 19 ≤ 7293034) (hl : lv_has ls 7 (lLoc b a0 a28 a49 i)) (KK : ∀ (n1 : Nat) (ad1 : Nat → Nat) (A1 : Nat → Nat → Int32) (J1 : Nat → Nat → Int64) (G1 : Nat → Nat → Int) (H1 : Heap) (locs1 : List Loc) (ls1 : Array Slot) (cells1 slots1 : Nat), LInv D cy s a0 a28 a49 n1 ad1 A1 J1 G1 H1 locs1 → cells1 ≤ cells + 3 → slots1 ≤ slots + 19 → lv_has ls1 7 (lLoc b a0 a28 a49 i) → W p l e room_1 s m #[Value.ref b] below meth c H1 locs1 cells1 slots1 Q (F0 m 1322 ls1 [])) : W p l e room_1 s m #[Value.ref b] below meth c H locs cells slots Q (F0 m 418 ls []) := by
  obtain ⟨hx, hb, hml, hown, hts, hX, hbl, hEL, hst, hL⟩ := X
  obtain ⟨hC, hM, hG, rfl, rfl, rfl⟩ := hI
  obtain ⟨bT, bn, b41, bpa, bta, bol, bpr, bso, bse, bln, brc, bdv, bdr, btl, b37, bnn, b21⟩ := hC.bd
  have hl : lv_has ls 7 [(4, .int (nI i)), (3, .ref (ad 49)), (2, .ref (ad 28)), (1, .ref (ad 0)), (0, .ref b)] := hl
  refine lv_aload_n hx hb dL_law_418 rfl (lv_at hl 3 rfl) ?_
  refine lv_aload_n hx hb dL_law_419 rfl (lv_at hl 4 rfl) ?_
  refine lv_iload hx hb dL_law_420 (lv_at hl 0 rfl) ?_
  refine lv_iconst (v := nI 1) hx hb dL_law_422 (by decide) ?_
  refine lv_iadd hx hb dL_law_423 ?_
  refine g_top (y := nI (i + 1)) (nI_add i 1) ?_
  refine gS_ld hx hb hX hbl hG.2.2 (i := i + 1) rfl (by omega) hL dL_law_424 ?_
  refine lv_aload_n hx hb dL_law_425 rfl (lv_at hl 1 rfl) ?_
  refine gL_callS (As := [.ref (ad 0), .int (xs (i + 1)), .ref (ad 49)]) (rest := []) ⟨hx, hb, hml, hown, hts⟩ hEL hG (cL_sendC l D cy s.heap.size ad n A J (xs (i + 1)) (PX9_send ad A J G n (xs (i + 1)).toInt) (EX9_send ad A J G n (xs (i + 1)).toInt) (by have h9 := cX9_sendC l D cy s.heap.size ad n A J G n (xs (i + 1)).toInt hst rfl hC (z_bound _); simp only [zI_of] at h9; exact h9) (fun v9 A9 J9 h9 => by obtain ⟨rfl, -⟩ := h9; exact ⟨_, rfl⟩) (fun e9 A9 J9 h9 => h9.elim (fun h8 => Or.inl h8.1) (fun h8 => Or.inr h8.1))) (vx_cwSW 3 hts gL_law_L_send rfl rfl rfl (by decide +kernel) ⟨(Nat.le_of_ble_eq_true rfl), (Nat.le_of_ble_eq_true rfl)⟩) rfl hl.1 rfl (Nat.le_of_ble_eq_true rfl) dL_law_426 ⟨(by show cells + 1 ≤ 601024; omega), (by show slots + 6 ≤ 7293034; omega)⟩ (fun v9 A1 J1 H locs hq hG => ?_)
  obtain ⟨k, hk2, rfl⟩ := qL2_k hq
  obtain ⟨hM1, hbr⟩ := br_send hC hM hq
  refine W.eq (g2 := F0 m 429 ls [.int (nI k)]) rfl ?_
  refine lv_istore (lv' := [(5, .int (nI k)), (4, .int (nI i)), (3, .ref (ad 49)), (2, .ref (ad 28)), (1, .ref (ad 0)), (0, .ref b)]) hx hb dL_law_429 hl (by decide) rfl (fun ls hl => ?_)
  refine lv_aload_n hx hb dL_law_431 rfl (lv_at hl 3 rfl) ?_
  refine lv_aload_n hx hb dL_law_432 rfl (lv_at hl 5 rfl) ?_
  refine lv_iload hx hb dL_law_433 (lv_at hl 1 rfl) ?_
  refine lv_iconst (v := nI 1) hx hb dL_law_435 (by decide) ?_
  refine lv_iadd hx hb dL_law_436 ?_
  refine g_top (y := nI (i + 1)) (nI_add i 1) ?_
  refine gS_ld hx hb hX hbl hG.2.2 (i := i + 1) rfl (by omega) hL dL_law_437 ?_
  refine g_callV (As := [.int (xs (i + 1))]) (rest := []) (r := (RX10, TX10, 35)) (k := 28) ⟨hx, hb, hml, hown, hts⟩ hEL.1 hG (cX10_sendC l D cy s.heap.size ad n A1 J1 G (xs (i + 1)) hM1 bT bse ⟨bol.1, bln⟩ bpr bso) (cwV 1 hts gL_law_X10_send rfl rfl rfl (by decide +kernel) ⟨(Nat.le_of_ble_eq_true rfl), (Nat.le_of_ble_eq_true rfl)⟩) (by omega) rfl rfl rfl hl.1 rfl (Nat.le_of_ble_eq_true rfl) dL_law_438 ⟨(by show cells + 1 ≤ 601024; omega), (by show slots + 6 ≤ 7293034; omega)⟩ (fun v_ A2 J2 H locs hp hG => ?_)
  have hJ2 : J1 = J2 := by
    rcases hp with ⟨-, -, h9, -⟩ | ⟨-, -, h9, -⟩ | ⟨_, -, h9, -⟩
    · exact h9
    · exact h9
    · exact h9
  obtain ⟨k9, r2, G1, hv, rfl, hth, hk9, hr9, hC1, hM2⟩ := hbr _ _ _ hp
  obtain rfl : k = k9 := nI_inj (by omega) (by omega) (Value.int.inj (Option.some.inj hv))
  subst hJ2
  refine W.eq (g2 := F0 m 441 ls [.int r2]) rfl ?_
  refine lv_istore (lv' := [(6, .int r2), (5, .int (nI k)), (4, .int (nI i)), (3, .ref (ad 49)), (2, .ref (ad 28)), (1, .ref (ad 0)), (0, .ref b)]) hx hb dL_law_441 hl (by decide) rfl (fun ls hl => ?_)
  refine lv_aload_n hx hb dL_law_443 rfl (lv_at hl 4 rfl) ?_
  refine g_callV (As := []) (rest := []) (r := (RX10, TX10, 35)) (k := 28) ⟨hx, hb, hml, hown, hts⟩ hEL.1 hG (cX10_thrownC l D cy s.heap.size ad n A2 J1 (k : Int) hth) (cwV 0 hts gL_law_X10_thrown rfl rfl rfl (by decide +kernel) ⟨(Nat.le_of_ble_eq_true rfl), (Nat.le_of_ble_eq_true rfl)⟩) (by omega) rfl rfl rfl hl.1 rfl (Nat.le_of_ble_eq_true rfl) dL_law_444 ⟨(by show cells + 1 ≤ 601024; omega), (by show slots + 6 ≤ 7293034; omega)⟩ (fun v_ A3 J3 H locs hp hG => ?_)
  obtain ⟨rfl, rfl, rfl⟩ := hp
  refine W.eq (g2 := F0 m 447 ls [.int (zI (k : Int))]) rfl ?_
  refine lv_iload hx hb dL_law_447 (lv_at hl 1 rfl) ?_
  refine lv_icmp_eq (tgt := 454) hx hb dL_law_449 (by decide) (fun _ => ?_) (fun c9 => absurd rfl c9)
  refine lv_iload hx hb dL_law_454 (lv_at hl 1 rfl) ?_
  refine lv_if_ne (tgt := 471) hx hb dL_law_456 (by decide) (fun c9 => ?_) (fun c9 => ?_)
  · skip
    refine lv_goto (tgt := 1322) hx hb dL_law_471 (by decide) ?_
    exact KK n ad A2 J1 G1 H locs ls _ _ ⟨hC1, hM2, hG, rfl, rfl, rfl⟩ (by show cells + 1 ≤ cells + 3; omega) (by show slots + 6 ≤ slots + 19; omega) (lv_sub hl [2, 3, 4, 5, 6] rfl)
  · have hk0 : k = 0 := nI_inj (by omega) (by decide) c9
    refine lv_aload_n hx hb dL_law_459 rfl (lv_at hl 3 rfl) ?_
    refine lv_iconst (v := nI 0) hx hb dL_law_460 (by decide) ?_
    refine g_lald hx hb hEL.1 hG (k := 49) (by omega) rfl 0 rfl (by decide) (by decide) dL_law_461 ?_
    refine lv_iload hx hb dL_law_462 (lv_at hl 0 rfl) ?_
    refine lv_i2l (v := r2.toInt64) hx hb dL_law_464 rfl ?_
    refine W.lcmp hx hb dL_law_465 ?_
    refine lv_if_eq (tgt := 471) hx hb dL_law_466 (by decide) (fun _ => ?_) (fun c8 => absurd ((lg_cmp_eq _ _).mpr (hr9 hk0)) c8)
    refine lv_goto (tgt := 1322) hx hb dL_law_471 (by decide) ?_
    exact KK n ad A2 J1 G1 H locs ls _ _ ⟨hC1, hM2, hG, rfl, rfl, rfl⟩ (by show cells + 1 ≤ cells + 3; omega) (by show slots + 6 ≤ slots + 19; omega) (lv_sub hl [2, 3, 4, 5, 6] rfl)
set_option maxHeartbeats 4000000 in
set_option maxRecDepth 100000 in
theorem law_k6 {p : Program} {e : Env} {s : State} {m : MethodId} {below : List Frame} {meth : Method} {c : Code} {l : Launch} {b L : Nat} {xs : Nat → Int32} {D : va_G} {cy : Nat → ClassId} {a0 a28 a49 : Nat} {Q : State → Prop} (X : LCtx p s m c l b L xs D cy) {i n : Nat} {ad : Nat → Nat} {A : Nat → Nat → Int32} {J : Nat → Nat → Int64} {G : Nat → Nat → Int} {H : Heap} {locs : List Loc} {cells slots : Nat} {ls : Array Slot} (hi : i + 5 ≤ L) (hI : LInv D cy s a0 a28 a49 n ad A J G H locs) (hc : cells + 3 ≤ 601024) (hs : slots + 19 ≤ 7293034) (hl : lv_has ls 7 (lLoc b a0 a28 a49 i)) (KK : ∀ (n1 : Nat) (ad1 : Nat → Nat) (A1 : Nat → Nat → Int32) (J1 : Nat → Nat → Int64) (G1 : Nat → Nat → Int) (H1 : Heap) (locs1 : List Loc) (ls1 : Array Slot) (cells1 slots1 : Nat), LInv D cy s a0 a28 a49 n1 ad1 A1 J1 G1 H1 locs1 → cells1 ≤ cells + 3 → slots1 ≤ slots + 19 → lv_has ls1 7 (lLoc b a0 a28 a49 i) → W p l e room_1 s m #[Value.ref b] below meth c H1 locs1 cells1 slots1 Q (F0 m 1322 ls1 [])) : W p l e room_1 s m #[Value.ref b] below meth c H locs cells slots Q (F0 m 474 ls []) := by
  obtain ⟨hx, hb, hml, hown, hts, hX, hbl, hEL, hst, hL⟩ := X
  obtain ⟨hC, hM, hG, rfl, rfl, rfl⟩ := hI
  obtain ⟨bT, bn, b41, bpa, bta, bol, bpr, bso, bse, bln, brc, bdv, bdr, btl, b37, bnn, b21⟩ := hC.bd
  have hl : lv_has ls 7 [(4, .int (nI i)), (3, .ref (ad 49)), (2, .ref (ad 28)), (1, .ref (ad 0)), (0, .ref b)] := hl
  refine lv_aload_n hx hb dL_law_474 rfl (lv_at hl 3 rfl) ?_
  refine g_callV (As := []) (rest := []) (r := (RX9, TX9, 6)) (k := 0) ⟨hx, hb, hml, hown, hts⟩ hEL.1 hG (cX9_sentC l D cy s.heap.size ad n A J G n rfl hC) (cwV 0 hts gL_law_X9_sent rfl rfl rfl (by decide +kernel) ⟨(Nat.le_of_ble_eq_true rfl), (Nat.le_of_ble_eq_true rfl)⟩) (by omega) rfl rfl rfl hl.1 rfl (Nat.le_of_ble_eq_true rfl) dL_law_475 ⟨(by show cells ≤ 601024; omega), (by show slots ≤ 7293034; omega)⟩ (fun v_ A1 J1 H locs hp hG => ?_)
  obtain ⟨rfl, rfl, rfl⟩ := hp
  refine W.eq (g2 := F0 m 478 ls [.int (zI (G 28 9))]) rfl ?_
  refine lv_aload_n hx hb dL_law_478 rfl (lv_at hl 2 rfl) ?_
  refine g_callV (As := []) (rest := [.int (zI (G 28 9))]) (r := (RX10, TX10, 35)) (k := 28) ⟨hx, hb, hml, hown, hts⟩ hEL.1 hG (cX10_sentC l D cy s.heap.size ad n A J G hM) (cwV 0 hts gL_law_X10_sent rfl rfl rfl (by decide +kernel) ⟨(Nat.le_of_ble_eq_true rfl), (Nat.le_of_ble_eq_true rfl)⟩) (by omega) rfl rfl rfl hl.1 rfl (Nat.le_of_ble_eq_true rfl) dL_law_479 ⟨(by show cells ≤ 601024; omega), (by show slots ≤ 7293034; omega)⟩ (fun v_ A2 J2 H locs hp hG => ?_)
  obtain ⟨rfl, rfl, rfl⟩ := hp
  refine W.eq (g2 := F0 m 482 ls [.int (zI (G 28 9)), .int (zI (G 28 9))]) rfl ?_
  refine lv_icmp_eq (tgt := 1322) hx hb dL_law_482 (by decide) (fun _ => ?_) (fun c9 => absurd rfl c9)
  exact KK n ad _ J G H locs ls _ _ ⟨(hC.th _), (hM.th _), hG, rfl, rfl, rfl⟩ (by show cells ≤ cells + 3; omega) (by show slots ≤ slots + 19; omega) (lv_sub hl [0, 1, 2, 3, 4] rfl)
set_option maxHeartbeats 4000000 in
set_option maxRecDepth 100000 in
theorem law_k7 {p : Program} {e : Env} {s : State} {m : MethodId} {below : List Frame} {meth : Method} {c : Code} {l : Launch} {b L : Nat} {xs : Nat → Int32} {D : va_G} {cy : Nat → ClassId} {a0 a28 a49 : Nat} {Q : State → Prop} (X : LCtx p s m c l b L xs D cy) {i n : Nat} {ad : Nat → Nat} {A : Nat → Nat → Int32} {J : Nat → Nat → Int64} {G : Nat → Nat → Int} {H : Heap} {locs : List Loc} {cells slots : Nat} {ls : Array Slot} (hi : i + 5 ≤ L) (hI : LInv D cy s a0 a28 a49 n ad A J G H locs) (hc : cells + 3 ≤ 601024) (hs : slots + 19 ≤ 7293034) (hl : lv_has ls 7 (lLoc b a0 a28 a49 i)) (KK : ∀ (n1 : Nat) (ad1 : Nat → Nat) (A1 : Nat → Nat → Int32) (J1 : Nat → Nat → Int64) (G1 : Nat → Nat → Int) (H1 : Heap) (locs1 : List Loc) (ls1 : Array Slot) (cells1 slots1 : Nat), LInv D cy s a0 a28 a49 n1 ad1 A1 J1 G1 H1 locs1 → cells1 ≤ cells + 3 → slots1 ≤ slots + 19 → lv_has ls1 7 (lLoc b a0 a28 a49 i) → W p l e room_1 s m #[Value.ref b] below meth c H1 locs1 cells1 slots1 Q (F0 m 1322 ls1 [])) : W p l e room_1 s m #[Value.ref b] below meth c H locs cells slots Q (F0 m 487 ls []) := by
  obtain ⟨hx, hb, hml, hown, hts, hX, hbl, hEL, hst, hL⟩ := X
  obtain ⟨hC, hM, hG, rfl, rfl, rfl⟩ := hI
  obtain ⟨bT, bn, b41, bpa, bta, bol, bpr, bso, bse, bln, brc, bdv, bdr, btl, b37, bnn, b21⟩ := hC.bd
  have hl : lv_has ls 7 [(4, .int (nI i)), (3, .ref (ad 49)), (2, .ref (ad 28)), (1, .ref (ad 0)), (0, .ref b)] := hl
  refine lv_aload_n hx hb dL_law_487 rfl (lv_at hl 3 rfl) ?_
  refine g_callV (As := []) (rest := []) (r := (RX9, TX9, 6)) (k := 0) ⟨hx, hb, hml, hown, hts⟩ hEL.1 hG (cX9_onLineC l D cy s.heap.size ad n A J G n rfl hC) (cwV 0 hts gL_law_X9_onLine rfl rfl rfl (by decide +kernel) ⟨(Nat.le_of_ble_eq_true rfl), (Nat.le_of_ble_eq_true rfl)⟩) (by omega) rfl rfl rfl hl.1 rfl (Nat.le_of_ble_eq_true rfl) dL_law_488 ⟨(by show cells ≤ 601024; omega), (by show slots ≤ 7293034; omega)⟩ (fun v_ A1 J1 H locs hp hG => ?_)
  obtain ⟨rfl, rfl, rfl⟩ := hp
  refine W.eq (g2 := F0 m 491 ls [.int (zI (G 28 10))]) rfl ?_
  refine lv_aload_n hx hb dL_law_491 rfl (lv_at hl 2 rfl) ?_
  refine g_callV (As := []) (rest := [.int (zI (G 28 10))]) (r := (RX10, TX10, 35)) (k := 28) ⟨hx, hb, hml, hown, hts⟩ hEL.1 hG (cX10_onLineC l D cy s.heap.size ad n A J G hM) (cwV 0 hts gL_law_X10_onLine rfl rfl rfl (by decide +kernel) ⟨(Nat.le_of_ble_eq_true rfl), (Nat.le_of_ble_eq_true rfl)⟩) (by omega) rfl rfl rfl hl.1 rfl (Nat.le_of_ble_eq_true rfl) dL_law_492 ⟨(by show cells ≤ 601024; omega), (by show slots ≤ 7293034; omega)⟩ (fun v_ A2 J2 H locs hp hG => ?_)
  obtain ⟨rfl, rfl, rfl⟩ := hp
  refine W.eq (g2 := F0 m 495 ls [.int (zI (G 28 10)), .int (zI (G 28 10))]) rfl ?_
  refine lv_icmp_eq (tgt := 1322) hx hb dL_law_495 (by decide) (fun _ => ?_) (fun c9 => absurd rfl c9)
  exact KK n ad _ J G H locs ls _ _ ⟨(hC.th _), (hM.th _), hG, rfl, rfl, rfl⟩ (by show cells ≤ cells + 3; omega) (by show slots ≤ slots + 19; omega) (lv_sub hl [0, 1, 2, 3, 4] rfl)
set_option maxHeartbeats 4000000 in
set_option maxRecDepth 100000 in
theorem law_k8 {p : Program} {e : Env} {s : State} {m : MethodId} {below : List Frame} {meth : Method} {c : Code} {l : Launch} {b L : Nat} {xs : Nat → Int32} {D : va_G} {cy : Nat → ClassId} {a0 a28 a49 : Nat} {Q : State → Prop} (X : LCtx p s m c l b L xs D cy) {i n : Nat} {ad : Nat → Nat} {A : Nat → Nat → Int32} {J : Nat → Nat → Int64} {G : Nat → Nat → Int} {H : Heap} {locs : List Loc} {cells slots : Nat} {ls : Array Slot} (hi : i + 5 ≤ L) (hI : LInv D cy s a0 a28 a49 n ad A J G H locs) (hc : cells + 3 ≤ 601024) (hs : slots + 19 ≤ 7293034) (hl : lv_has ls 7 (lLoc b a0 a28 a49 i)) (KK : ∀ (n1 : Nat) (ad1 : Nat → Nat) (A1 : Nat → Nat → Int32) (J1 : Nat → Nat → Int64) (G1 : Nat → Nat → Int) (H1 : Heap) (locs1 : List Loc) (ls1 : Array Slot) (cells1 slots1 : Nat), LInv D cy s a0 a28 a49 n1 ad1 A1 J1 G1 H1 locs1 → cells1 ≤ cells + 3 → slots1 ≤ slots + 19 → lv_has ls1 7 (lLoc b a0 a28 a49 i) → W p l e room_1 s m #[Value.ref b] below meth c H1 locs1 cells1 slots1 Q (F0 m 1322 ls1 [])) : W p l e room_1 s m #[Value.ref b] below meth c H locs cells slots Q (F0 m 500 ls []) := by
  obtain ⟨hx, hb, hml, hown, hts, hX, hbl, hEL, hst, hL⟩ := X
  obtain ⟨hC, hM, hG, rfl, rfl, rfl⟩ := hI
  obtain ⟨bT, bn, b41, bpa, bta, bol, bpr, bso, bse, bln, brc, bdv, bdr, btl, b37, bnn, b21⟩ := hC.bd
  have hl : lv_has ls 7 [(4, .int (nI i)), (3, .ref (ad 49)), (2, .ref (ad 28)), (1, .ref (ad 0)), (0, .ref b)] := hl
  refine lv_aload_n hx hb dL_law_500 rfl (lv_at hl 3 rfl) ?_
  refine lv_aload_n hx hb dL_law_501 rfl (lv_at hl 4 rfl) ?_
  refine lv_iload hx hb dL_law_502 (lv_at hl 0 rfl) ?_
  refine lv_iconst (v := nI 1) hx hb dL_law_504 (by decide) ?_
  refine lv_iadd hx hb dL_law_505 ?_
  refine g_top (y := nI (i + 1)) (nI_add i 1) ?_
  refine gS_ld hx hb hX hbl hG.2.2 (i := i + 1) rfl (by omega) hL dL_law_506 ?_
  refine lv_aload_n hx hb dL_law_507 rfl (lv_at hl 1 rfl) ?_
  refine gL_callS (As := [.ref (ad 0), .int (xs (i + 1)), .ref (ad 49)]) (rest := []) ⟨hx, hb, hml, hown, hts⟩ hEL hG (cL_bitC l D cy s.heap.size ad n A J (xs (i + 1)) (PX9_bit ad A J G n (xs (i + 1)).toInt) (EX9_bit ad A J G n (xs (i + 1)).toInt) (by have h9 := cX9_bitC l D cy s.heap.size ad n A J G n (xs (i + 1)).toInt hst rfl hC (z_bound _); simp only [zI_of] at h9; exact h9) (fun v9 A9 J9 h9 => by obtain ⟨rfl, -⟩ := h9; exact ⟨_, rfl⟩) (fun e9 A9 J9 h9 => h9.1)) (vx_cwSW 3 hts gL_law_L_bit rfl rfl rfl (by decide +kernel) ⟨(Nat.le_of_ble_eq_true rfl), (Nat.le_of_ble_eq_true rfl)⟩) rfl hl.1 rfl (Nat.le_of_ble_eq_true rfl) dL_law_508 ⟨(by show cells + 1 ≤ 601024; omega), (by show slots + 6 ≤ 7293034; omega)⟩ (fun v9 A1 J1 H locs hq hG => ?_)
  obtain ⟨k, hk2, rfl⟩ := qL1_k hq
  obtain ⟨hM1, hbr⟩ := br_bit hC hM hq
  refine W.eq (g2 := F0 m 511 ls [.int (nI k)]) rfl ?_
  refine lv_istore (lv' := [(5, .int (nI k)), (4, .int (nI i)), (3, .ref (ad 49)), (2, .ref (ad 28)), (1, .ref (ad 0)), (0, .ref b)]) hx hb dL_law_511 hl (by decide) rfl (fun ls hl => ?_)
  refine lv_aload_n hx hb dL_law_513 rfl (lv_at hl 3 rfl) ?_
  refine lv_aload_n hx hb dL_law_514 rfl (lv_at hl 5 rfl) ?_
  refine lv_iload hx hb dL_law_515 (lv_at hl 1 rfl) ?_
  refine lv_iconst (v := nI 1) hx hb dL_law_517 (by decide) ?_
  refine lv_iadd hx hb dL_law_518 ?_
  refine g_top (y := nI (i + 1)) (nI_add i 1) ?_
  refine gS_ld hx hb hX hbl hG.2.2 (i := i + 1) rfl (by omega) hL dL_law_519 ?_
  refine g_callV (As := [.int (xs (i + 1))]) (rest := []) (r := (RX10, TX10, 35)) (k := 28) ⟨hx, hb, hml, hown, hts⟩ hEL.1 hG (cX10_bitC l D cy s.heap.size ad n A1 J1 G (xs (i + 1)) hM1 bol) (cwV 1 hts gL_law_X10_bit rfl rfl rfl (by decide +kernel) ⟨(Nat.le_of_ble_eq_true rfl), (Nat.le_of_ble_eq_true rfl)⟩) (by omega) rfl rfl rfl hl.1 rfl (Nat.le_of_ble_eq_true rfl) dL_law_520 ⟨(by show cells + 1 ≤ 601024; omega), (by show slots + 6 ≤ 7293034; omega)⟩ (fun v_ A2 J2 H locs hp hG => ?_)
  have hJ2 : J1 = J2 := by
    rcases hp with ⟨_, -, -, h9, -⟩ | ⟨-, -, h9, -⟩
    · exact h9
    · exact h9
  obtain ⟨k9, r2, G1, hv, rfl, hth, hk9, hr9, hC1, hM2⟩ := hbr _ _ _ hp
  obtain rfl : k = k9 := nI_inj (by omega) (by omega) (Value.int.inj (Option.some.inj hv))
  subst hJ2
  refine W.eq (g2 := F0 m 523 ls [.int r2]) rfl ?_
  refine lv_istore (lv' := [(6, .int r2), (5, .int (nI k)), (4, .int (nI i)), (3, .ref (ad 49)), (2, .ref (ad 28)), (1, .ref (ad 0)), (0, .ref b)]) hx hb dL_law_523 hl (by decide) rfl (fun ls hl => ?_)
  refine lv_aload_n hx hb dL_law_525 rfl (lv_at hl 4 rfl) ?_
  refine g_callV (As := []) (rest := []) (r := (RX10, TX10, 35)) (k := 28) ⟨hx, hb, hml, hown, hts⟩ hEL.1 hG (cX10_thrownC l D cy s.heap.size ad n A2 J1 (k : Int) hth) (cwV 0 hts gL_law_X10_thrown rfl rfl rfl (by decide +kernel) ⟨(Nat.le_of_ble_eq_true rfl), (Nat.le_of_ble_eq_true rfl)⟩) (by omega) rfl rfl rfl hl.1 rfl (Nat.le_of_ble_eq_true rfl) dL_law_526 ⟨(by show cells + 1 ≤ 601024; omega), (by show slots + 6 ≤ 7293034; omega)⟩ (fun v_ A3 J3 H locs hp hG => ?_)
  obtain ⟨rfl, rfl, rfl⟩ := hp
  refine W.eq (g2 := F0 m 529 ls [.int (zI (k : Int))]) rfl ?_
  refine lv_iload hx hb dL_law_529 (lv_at hl 1 rfl) ?_
  refine lv_icmp_eq (tgt := 536) hx hb dL_law_531 (by decide) (fun _ => ?_) (fun c9 => absurd rfl c9)
  refine lv_iload hx hb dL_law_536 (lv_at hl 1 rfl) ?_
  refine lv_if_ne (tgt := 553) hx hb dL_law_538 (by decide) (fun c9 => ?_) (fun c9 => ?_)
  · skip
    refine lv_goto (tgt := 1322) hx hb dL_law_553 (by decide) ?_
    exact KK n ad A2 J1 G1 H locs ls _ _ ⟨hC1, hM2, hG, rfl, rfl, rfl⟩ (by show cells + 1 ≤ cells + 3; omega) (by show slots + 6 ≤ slots + 19; omega) (lv_sub hl [2, 3, 4, 5, 6] rfl)
  · have hk0 : k = 0 := nI_inj (by omega) (by decide) c9
    refine lv_aload_n hx hb dL_law_541 rfl (lv_at hl 3 rfl) ?_
    refine lv_iconst (v := nI 0) hx hb dL_law_542 (by decide) ?_
    refine g_lald hx hb hEL.1 hG (k := 49) (by omega) rfl 0 rfl (by decide) (by decide) dL_law_543 ?_
    refine lv_iload hx hb dL_law_544 (lv_at hl 0 rfl) ?_
    refine lv_i2l (v := r2.toInt64) hx hb dL_law_546 rfl ?_
    refine W.lcmp hx hb dL_law_547 ?_
    refine lv_if_eq (tgt := 553) hx hb dL_law_548 (by decide) (fun _ => ?_) (fun c8 => absurd ((lg_cmp_eq _ _).mpr (hr9 hk0)) c8)
    refine lv_goto (tgt := 1322) hx hb dL_law_553 (by decide) ?_
    exact KK n ad A2 J1 G1 H locs ls _ _ ⟨hC1, hM2, hG, rfl, rfl, rfl⟩ (by show cells + 1 ≤ cells + 3; omega) (by show slots + 6 ≤ slots + 19; omega) (lv_sub hl [2, 3, 4, 5, 6] rfl)
set_option maxHeartbeats 4000000 in
set_option maxRecDepth 100000 in
theorem law_k9 {p : Program} {e : Env} {s : State} {m : MethodId} {below : List Frame} {meth : Method} {c : Code} {l : Launch} {b L : Nat} {xs : Nat → Int32} {D : va_G} {cy : Nat → ClassId} {a0 a28 a49 : Nat} {Q : State → Prop} (X : LCtx p s m c l b L xs D cy) {i n : Nat} {ad : Nat → Nat} {A : Nat → Nat → Int32} {J : Nat → Nat → Int64} {G : Nat → Nat → Int} {H : Heap} {locs : List Loc} {cells slots : Nat} {ls : Array Slot} (hi : i + 5 ≤ L) (hI : LInv D cy s a0 a28 a49 n ad A J G H locs) (hc : cells + 3 ≤ 601024) (hs : slots + 19 ≤ 7293034) (hl : lv_has ls 7 (lLoc b a0 a28 a49 i)) (KK : ∀ (n1 : Nat) (ad1 : Nat → Nat) (A1 : Nat → Nat → Int32) (J1 : Nat → Nat → Int64) (G1 : Nat → Nat → Int) (H1 : Heap) (locs1 : List Loc) (ls1 : Array Slot) (cells1 slots1 : Nat), LInv D cy s a0 a28 a49 n1 ad1 A1 J1 G1 H1 locs1 → cells1 ≤ cells + 3 → slots1 ≤ slots + 19 → lv_has ls1 7 (lLoc b a0 a28 a49 i) → W p l e room_1 s m #[Value.ref b] below meth c H1 locs1 cells1 slots1 Q (F0 m 1322 ls1 [])) : W p l e room_1 s m #[Value.ref b] below meth c H locs cells slots Q (F0 m 556 ls []) := by
  obtain ⟨hx, hb, hml, hown, hts, hX, hbl, hEL, hst, hL⟩ := X
  obtain ⟨hC, hM, hG, rfl, rfl, rfl⟩ := hI
  obtain ⟨bT, bn, b41, bpa, bta, bol, bpr, bso, bse, bln, brc, bdv, bdr, btl, b37, bnn, b21⟩ := hC.bd
  have hl : lv_has ls 7 [(4, .int (nI i)), (3, .ref (ad 49)), (2, .ref (ad 28)), (1, .ref (ad 0)), (0, .ref b)] := hl
  refine lv_aload_n hx hb dL_law_556 rfl (lv_at hl 3 rfl) ?_
  refine lv_aload_n hx hb dL_law_557 rfl (lv_at hl 4 rfl) ?_
  refine lv_iload hx hb dL_law_558 (lv_at hl 0 rfl) ?_
  refine lv_iconst (v := nI 1) hx hb dL_law_560 (by decide) ?_
  refine lv_iadd hx hb dL_law_561 ?_
  refine g_top (y := nI (i + 1)) (nI_add i 1) ?_
  refine gS_ld hx hb hX hbl hG.2.2 (i := i + 1) rfl (by omega) hL dL_law_562 ?_
  refine lv_aload_n hx hb dL_law_563 rfl (lv_at hl 1 rfl) ?_
  refine gL_callS (As := [.ref (ad 0), .int (xs (i + 1)), .ref (ad 49)]) (rest := []) ⟨hx, hb, hml, hown, hts⟩ hEL hG (cL_flipC l D cy s.heap.size ad n A J (xs (i + 1)) (PX9_flip ad A J G n (xs (i + 1)).toInt) (EX9_flip ad A J G n (xs (i + 1)).toInt) (by have h9 := cX9_flipC l D cy s.heap.size ad n A J G n (xs (i + 1)).toInt hst rfl hC (z_bound _); simp only [zI_of] at h9; exact h9) (fun v9 A9 J9 h9 => by obtain ⟨rfl, -⟩ := h9; exact ⟨_, rfl⟩) (fun e9 A9 J9 h9 => h9.1)) (vx_cwSW 3 hts gL_law_L_flip rfl rfl rfl (by decide +kernel) ⟨(Nat.le_of_ble_eq_true rfl), (Nat.le_of_ble_eq_true rfl)⟩) rfl hl.1 rfl (Nat.le_of_ble_eq_true rfl) dL_law_564 ⟨(by show cells + 1 ≤ 601024; omega), (by show slots + 6 ≤ 7293034; omega)⟩ (fun v9 A1 J1 H locs hq hG => ?_)
  obtain ⟨k, hk2, rfl⟩ := qL1_k hq
  obtain ⟨hM1, hbr⟩ := br_flip hC hM hq
  refine W.eq (g2 := F0 m 567 ls [.int (nI k)]) rfl ?_
  refine lv_istore (lv' := [(5, .int (nI k)), (4, .int (nI i)), (3, .ref (ad 49)), (2, .ref (ad 28)), (1, .ref (ad 0)), (0, .ref b)]) hx hb dL_law_567 hl (by decide) rfl (fun ls hl => ?_)
  refine lv_aload_n hx hb dL_law_569 rfl (lv_at hl 3 rfl) ?_
  refine lv_aload_n hx hb dL_law_570 rfl (lv_at hl 5 rfl) ?_
  refine lv_iload hx hb dL_law_571 (lv_at hl 1 rfl) ?_
  refine lv_iconst (v := nI 1) hx hb dL_law_573 (by decide) ?_
  refine lv_iadd hx hb dL_law_574 ?_
  refine g_top (y := nI (i + 1)) (nI_add i 1) ?_
  refine gS_ld hx hb hX hbl hG.2.2 (i := i + 1) rfl (by omega) hL dL_law_575 ?_
  refine g_callV (As := [.int (xs (i + 1))]) (rest := []) (r := (RX10, TX10, 35)) (k := 28) ⟨hx, hb, hml, hown, hts⟩ hEL.1 hG (cX10_flipC l D cy s.heap.size ad n A1 J1 G (xs (i + 1)) hM1 bol) (cwV 1 hts gL_law_X10_flip rfl rfl rfl (by decide +kernel) ⟨(Nat.le_of_ble_eq_true rfl), (Nat.le_of_ble_eq_true rfl)⟩) (by omega) rfl rfl rfl hl.1 rfl (Nat.le_of_ble_eq_true rfl) dL_law_576 ⟨(by show cells + 1 ≤ 601024; omega), (by show slots + 6 ≤ 7293034; omega)⟩ (fun v_ A2 J2 H locs hp hG => ?_)
  have hJ2 : J1 = J2 := by
    rcases hp with ⟨_, -, -, h9, -⟩ | ⟨-, -, h9, -⟩
    · exact h9
    · exact h9
  obtain ⟨k9, r2, G1, hv, rfl, hth, hk9, hr9, hC1, hM2⟩ := hbr _ _ _ hp
  obtain rfl : k = k9 := nI_inj (by omega) (by omega) (Value.int.inj (Option.some.inj hv))
  subst hJ2
  refine W.eq (g2 := F0 m 579 ls [.int r2]) rfl ?_
  refine lv_istore (lv' := [(6, .int r2), (5, .int (nI k)), (4, .int (nI i)), (3, .ref (ad 49)), (2, .ref (ad 28)), (1, .ref (ad 0)), (0, .ref b)]) hx hb dL_law_579 hl (by decide) rfl (fun ls hl => ?_)
  refine lv_aload_n hx hb dL_law_581 rfl (lv_at hl 4 rfl) ?_
  refine g_callV (As := []) (rest := []) (r := (RX10, TX10, 35)) (k := 28) ⟨hx, hb, hml, hown, hts⟩ hEL.1 hG (cX10_thrownC l D cy s.heap.size ad n A2 J1 (k : Int) hth) (cwV 0 hts gL_law_X10_thrown rfl rfl rfl (by decide +kernel) ⟨(Nat.le_of_ble_eq_true rfl), (Nat.le_of_ble_eq_true rfl)⟩) (by omega) rfl rfl rfl hl.1 rfl (Nat.le_of_ble_eq_true rfl) dL_law_582 ⟨(by show cells + 1 ≤ 601024; omega), (by show slots + 6 ≤ 7293034; omega)⟩ (fun v_ A3 J3 H locs hp hG => ?_)
  obtain ⟨rfl, rfl, rfl⟩ := hp
  refine W.eq (g2 := F0 m 585 ls [.int (zI (k : Int))]) rfl ?_
  refine lv_iload hx hb dL_law_585 (lv_at hl 1 rfl) ?_
  refine lv_icmp_eq (tgt := 592) hx hb dL_law_587 (by decide) (fun _ => ?_) (fun c9 => absurd rfl c9)
  refine lv_iload hx hb dL_law_592 (lv_at hl 1 rfl) ?_
  refine lv_if_ne (tgt := 609) hx hb dL_law_594 (by decide) (fun c9 => ?_) (fun c9 => ?_)
  · skip
    refine lv_goto (tgt := 1322) hx hb dL_law_609 (by decide) ?_
    exact KK n ad A2 J1 G1 H locs ls _ _ ⟨hC1, hM2, hG, rfl, rfl, rfl⟩ (by show cells + 1 ≤ cells + 3; omega) (by show slots + 6 ≤ slots + 19; omega) (lv_sub hl [2, 3, 4, 5, 6] rfl)
  · have hk0 : k = 0 := nI_inj (by omega) (by decide) c9
    refine lv_aload_n hx hb dL_law_597 rfl (lv_at hl 3 rfl) ?_
    refine lv_iconst (v := nI 0) hx hb dL_law_598 (by decide) ?_
    refine g_lald hx hb hEL.1 hG (k := 49) (by omega) rfl 0 rfl (by decide) (by decide) dL_law_599 ?_
    refine lv_iload hx hb dL_law_600 (lv_at hl 0 rfl) ?_
    refine lv_i2l (v := r2.toInt64) hx hb dL_law_602 rfl ?_
    refine W.lcmp hx hb dL_law_603 ?_
    refine lv_if_eq (tgt := 609) hx hb dL_law_604 (by decide) (fun _ => ?_) (fun c8 => absurd ((lg_cmp_eq _ _).mpr (hr9 hk0)) c8)
    refine lv_goto (tgt := 1322) hx hb dL_law_609 (by decide) ?_
    exact KK n ad A2 J1 G1 H locs ls _ _ ⟨hC1, hM2, hG, rfl, rfl, rfl⟩ (by show cells + 1 ≤ cells + 3; omega) (by show slots + 6 ≤ slots + 19; omega) (lv_sub hl [2, 3, 4, 5, 6] rfl)
set_option maxHeartbeats 4000000 in
set_option maxRecDepth 100000 in
theorem law_k10 {p : Program} {e : Env} {s : State} {m : MethodId} {below : List Frame} {meth : Method} {c : Code} {l : Launch} {b L : Nat} {xs : Nat → Int32} {D : va_G} {cy : Nat → ClassId} {a0 a28 a49 : Nat} {Q : State → Prop} (X : LCtx p s m c l b L xs D cy) {i n : Nat} {ad : Nat → Nat} {A : Nat → Nat → Int32} {J : Nat → Nat → Int64} {G : Nat → Nat → Int} {H : Heap} {locs : List Loc} {cells slots : Nat} {ls : Array Slot} (hi : i + 5 ≤ L) (hI : LInv D cy s a0 a28 a49 n ad A J G H locs) (hc : cells + 3 ≤ 601024) (hs : slots + 19 ≤ 7293034) (hl : lv_has ls 7 (lLoc b a0 a28 a49 i)) (KK : ∀ (n1 : Nat) (ad1 : Nat → Nat) (A1 : Nat → Nat → Int32) (J1 : Nat → Nat → Int64) (G1 : Nat → Nat → Int) (H1 : Heap) (locs1 : List Loc) (ls1 : Array Slot) (cells1 slots1 : Nat), LInv D cy s a0 a28 a49 n1 ad1 A1 J1 G1 H1 locs1 → cells1 ≤ cells + 3 → slots1 ≤ slots + 19 → lv_has ls1 7 (lLoc b a0 a28 a49 i) → W p l e room_1 s m #[Value.ref b] below meth c H1 locs1 cells1 slots1 Q (F0 m 1322 ls1 [])) : W p l e room_1 s m #[Value.ref b] below meth c H locs cells slots Q (F0 m 612 ls []) := by
  obtain ⟨hx, hb, hml, hown, hts, hX, hbl, hEL, hst, hL⟩ := X
  obtain ⟨hC, hM, hG, rfl, rfl, rfl⟩ := hI
  obtain ⟨bT, bn, b41, bpa, bta, bol, bpr, bso, bse, bln, brc, bdv, bdr, btl, b37, bnn, b21⟩ := hC.bd
  have hl : lv_has ls 7 [(4, .int (nI i)), (3, .ref (ad 49)), (2, .ref (ad 28)), (1, .ref (ad 0)), (0, .ref b)] := hl
  refine lv_aload_n hx hb dL_law_612 rfl (lv_at hl 3 rfl) ?_
  refine lv_aload_n hx hb dL_law_613 rfl (lv_at hl 4 rfl) ?_
  refine lv_iload hx hb dL_law_614 (lv_at hl 0 rfl) ?_
  refine lv_iconst (v := nI 1) hx hb dL_law_616 (by decide) ?_
  refine lv_iadd hx hb dL_law_617 ?_
  refine g_top (y := nI (i + 1)) (nI_add i 1) ?_
  refine gS_ld hx hb hX hbl hG.2.2 (i := i + 1) rfl (by omega) hL dL_law_618 ?_
  refine lv_aload_n hx hb dL_law_619 rfl (lv_at hl 4 rfl) ?_
  refine lv_iload hx hb dL_law_620 (lv_at hl 0 rfl) ?_
  refine lv_iconst (v := nI 2) hx hb dL_law_622 (by decide) ?_
  refine lv_iadd hx hb dL_law_623 ?_
  refine g_top (y := nI (i + 2)) (nI_add i 2) ?_
  refine gS_ld hx hb hX hbl hG.2.2 (i := i + 2) rfl (by omega) hL dL_law_624 ?_
  refine lv_aload_n hx hb dL_law_625 rfl (lv_at hl 1 rfl) ?_
  refine gL_callS (As := [.ref (ad 0), .int (xs (i + 1)), .int (xs (i + 2)), .ref (ad 49)]) (rest := []) ⟨hx, hb, hml, hown, hts⟩ hEL hG (cL_cutC l D cy s.heap.size ad n A J (xs (i + 1)) (xs (i + 2)) (PX9_cut ad A J G n (xs (i + 1)).toInt (xs (i + 2)).toInt) (EX9_cut ad A J G n (xs (i + 1)).toInt (xs (i + 2)).toInt) (by have h9 := cX9_cutC l D cy s.heap.size ad n A J G n (xs (i + 1)).toInt (xs (i + 2)).toInt hst rfl hC (z_bound _) (z_bound _); simp only [zI_of] at h9; exact h9) (fun v9 A9 J9 h9 => by obtain ⟨rfl, -⟩ := h9; exact ⟨_, rfl⟩) (fun e9 A9 J9 h9 => h9.elim (fun h8 => Or.inl h8.1) (fun h8 => Or.inr h8.1))) (vx_cwSW 4 hts gL_law_L_cut rfl rfl rfl (by decide +kernel) ⟨(Nat.le_of_ble_eq_true rfl), (Nat.le_of_ble_eq_true rfl)⟩) rfl hl.1 rfl (Nat.le_of_ble_eq_true rfl) dL_law_626 ⟨(by show cells + 1 ≤ 601024; omega), (by show slots + 6 ≤ 7293034; omega)⟩ (fun v9 A1 J1 H locs hq hG => ?_)
  obtain ⟨k, hk2, rfl⟩ := qL2_k hq
  obtain ⟨hM1, hbr⟩ := br_cut hC hM hq
  refine W.eq (g2 := F0 m 629 ls [.int (nI k)]) rfl ?_
  refine lv_istore (lv' := [(5, .int (nI k)), (4, .int (nI i)), (3, .ref (ad 49)), (2, .ref (ad 28)), (1, .ref (ad 0)), (0, .ref b)]) hx hb dL_law_629 hl (by decide) rfl (fun ls hl => ?_)
  refine lv_aload_n hx hb dL_law_631 rfl (lv_at hl 3 rfl) ?_
  refine lv_aload_n hx hb dL_law_632 rfl (lv_at hl 5 rfl) ?_
  refine lv_iload hx hb dL_law_633 (lv_at hl 1 rfl) ?_
  refine lv_iconst (v := nI 1) hx hb dL_law_635 (by decide) ?_
  refine lv_iadd hx hb dL_law_636 ?_
  refine g_top (y := nI (i + 1)) (nI_add i 1) ?_
  refine gS_ld hx hb hX hbl hG.2.2 (i := i + 1) rfl (by omega) hL dL_law_637 ?_
  refine lv_aload_n hx hb dL_law_638 rfl (lv_at hl 5 rfl) ?_
  refine lv_iload hx hb dL_law_639 (lv_at hl 1 rfl) ?_
  refine lv_iconst (v := nI 2) hx hb dL_law_641 (by decide) ?_
  refine lv_iadd hx hb dL_law_642 ?_
  refine g_top (y := nI (i + 2)) (nI_add i 2) ?_
  refine gS_ld hx hb hX hbl hG.2.2 (i := i + 2) rfl (by omega) hL dL_law_643 ?_
  refine g_callV (As := [.int (xs (i + 1)), .int (xs (i + 2))]) (rest := []) (r := (RX10, TX10, 35)) (k := 28) ⟨hx, hb, hml, hown, hts⟩ hEL.1 hG (cX10_cutC l D cy s.heap.size ad n A1 J1 G (xs (i + 1)) (xs (i + 2)) hM1 bol) (cwV 2 hts gL_law_X10_cut rfl rfl rfl (by decide +kernel) ⟨(Nat.le_of_ble_eq_true rfl), (Nat.le_of_ble_eq_true rfl)⟩) (by omega) rfl rfl rfl hl.1 rfl (Nat.le_of_ble_eq_true rfl) dL_law_644 ⟨(by show cells + 1 ≤ 601024; omega), (by show slots + 6 ≤ 7293034; omega)⟩ (fun v_ A2 J2 H locs hp hG => ?_)
  have hJ2 : J1 = J2 := by
    rcases hp with ⟨-, -, h9, -⟩ | ⟨-, -, h9, -⟩ | ⟨_, _, -, h9, -⟩
    · exact h9
    · exact h9
    · exact h9
  obtain ⟨k9, r2, G1, hv, rfl, hth, hk9, hr9, hC1, hM2⟩ := hbr _ _ _ hp
  obtain rfl : k = k9 := nI_inj (by omega) (by omega) (Value.int.inj (Option.some.inj hv))
  subst hJ2
  refine W.eq (g2 := F0 m 647 ls [.int r2]) rfl ?_
  refine lv_istore (lv' := [(6, .int r2), (5, .int (nI k)), (4, .int (nI i)), (3, .ref (ad 49)), (2, .ref (ad 28)), (1, .ref (ad 0)), (0, .ref b)]) hx hb dL_law_647 hl (by decide) rfl (fun ls hl => ?_)
  refine lv_aload_n hx hb dL_law_649 rfl (lv_at hl 4 rfl) ?_
  refine g_callV (As := []) (rest := []) (r := (RX10, TX10, 35)) (k := 28) ⟨hx, hb, hml, hown, hts⟩ hEL.1 hG (cX10_thrownC l D cy s.heap.size ad n A2 J1 (k : Int) hth) (cwV 0 hts gL_law_X10_thrown rfl rfl rfl (by decide +kernel) ⟨(Nat.le_of_ble_eq_true rfl), (Nat.le_of_ble_eq_true rfl)⟩) (by omega) rfl rfl rfl hl.1 rfl (Nat.le_of_ble_eq_true rfl) dL_law_650 ⟨(by show cells + 1 ≤ 601024; omega), (by show slots + 6 ≤ 7293034; omega)⟩ (fun v_ A3 J3 H locs hp hG => ?_)
  obtain ⟨rfl, rfl, rfl⟩ := hp
  refine W.eq (g2 := F0 m 653 ls [.int (zI (k : Int))]) rfl ?_
  refine lv_iload hx hb dL_law_653 (lv_at hl 1 rfl) ?_
  refine lv_icmp_eq (tgt := 660) hx hb dL_law_655 (by decide) (fun _ => ?_) (fun c9 => absurd rfl c9)
  refine lv_iload hx hb dL_law_660 (lv_at hl 1 rfl) ?_
  refine lv_if_ne (tgt := 677) hx hb dL_law_662 (by decide) (fun c9 => ?_) (fun c9 => ?_)
  · skip
    refine lv_goto (tgt := 1322) hx hb dL_law_677 (by decide) ?_
    exact KK n ad A2 J1 G1 H locs ls _ _ ⟨hC1, hM2, hG, rfl, rfl, rfl⟩ (by show cells + 1 ≤ cells + 3; omega) (by show slots + 6 ≤ slots + 19; omega) (lv_sub hl [2, 3, 4, 5, 6] rfl)
  · have hk0 : k = 0 := nI_inj (by omega) (by decide) c9
    refine lv_aload_n hx hb dL_law_665 rfl (lv_at hl 3 rfl) ?_
    refine lv_iconst (v := nI 0) hx hb dL_law_666 (by decide) ?_
    refine g_lald hx hb hEL.1 hG (k := 49) (by omega) rfl 0 rfl (by decide) (by decide) dL_law_667 ?_
    refine lv_iload hx hb dL_law_668 (lv_at hl 0 rfl) ?_
    refine lv_i2l (v := r2.toInt64) hx hb dL_law_670 rfl ?_
    refine W.lcmp hx hb dL_law_671 ?_
    refine lv_if_eq (tgt := 677) hx hb dL_law_672 (by decide) (fun _ => ?_) (fun c8 => absurd ((lg_cmp_eq _ _).mpr (hr9 hk0)) c8)
    refine lv_goto (tgt := 1322) hx hb dL_law_677 (by decide) ?_
    exact KK n ad A2 J1 G1 H locs ls _ _ ⟨hC1, hM2, hG, rfl, rfl, rfl⟩ (by show cells + 1 ≤ cells + 3; omega) (by show slots + 6 ≤ slots + 19; omega) (lv_sub hl [2, 3, 4, 5, 6] rfl)
set_option maxHeartbeats 4000000 in
set_option maxRecDepth 100000 in
theorem law_k11 {p : Program} {e : Env} {s : State} {m : MethodId} {below : List Frame} {meth : Method} {c : Code} {l : Launch} {b L : Nat} {xs : Nat → Int32} {D : va_G} {cy : Nat → ClassId} {a0 a28 a49 : Nat} {Q : State → Prop} (X : LCtx p s m c l b L xs D cy) {i n : Nat} {ad : Nat → Nat} {A : Nat → Nat → Int32} {J : Nat → Nat → Int64} {G : Nat → Nat → Int} {H : Heap} {locs : List Loc} {cells slots : Nat} {ls : Array Slot} (hi : i + 5 ≤ L) (hI : LInv D cy s a0 a28 a49 n ad A J G H locs) (hc : cells + 3 ≤ 601024) (hs : slots + 19 ≤ 7293034) (hl : lv_has ls 7 (lLoc b a0 a28 a49 i)) (KK : ∀ (n1 : Nat) (ad1 : Nat → Nat) (A1 : Nat → Nat → Int32) (J1 : Nat → Nat → Int64) (G1 : Nat → Nat → Int) (H1 : Heap) (locs1 : List Loc) (ls1 : Array Slot) (cells1 slots1 : Nat), LInv D cy s a0 a28 a49 n1 ad1 A1 J1 G1 H1 locs1 → cells1 ≤ cells + 3 → slots1 ≤ slots + 19 → lv_has ls1 7 (lLoc b a0 a28 a49 i) → W p l e room_1 s m #[Value.ref b] below meth c H1 locs1 cells1 slots1 Q (F0 m 1322 ls1 [])) : W p l e room_1 s m #[Value.ref b] below meth c H locs cells slots Q (F0 m 680 ls []) := by
  obtain ⟨hx, hb, hml, hown, hts, hX, hbl, hEL, hst, hL⟩ := X
  obtain ⟨hC, hM, hG, rfl, rfl, rfl⟩ := hI
  obtain ⟨bT, bn, b41, bpa, bta, bol, bpr, bso, bse, bln, brc, bdv, bdr, btl, b37, bnn, b21⟩ := hC.bd
  have hl : lv_has ls 7 [(4, .int (nI i)), (3, .ref (ad 49)), (2, .ref (ad 28)), (1, .ref (ad 0)), (0, .ref b)] := hl
  refine lv_aload_n hx hb dL_law_680 rfl (lv_at hl 3 rfl) ?_
  refine lv_aload_n hx hb dL_law_681 rfl (lv_at hl 4 rfl) ?_
  refine lv_iload hx hb dL_law_682 (lv_at hl 0 rfl) ?_
  refine lv_iconst (v := nI 1) hx hb dL_law_684 (by decide) ?_
  refine lv_iadd hx hb dL_law_685 ?_
  refine g_top (y := nI (i + 1)) (nI_add i 1) ?_
  refine gS_ld hx hb hX hbl hG.2.2 (i := i + 1) rfl (by omega) hL dL_law_686 ?_
  refine lv_aload_n hx hb dL_law_687 rfl (lv_at hl 1 rfl) ?_
  refine gL_callS (As := [.ref (ad 0), .int (xs (i + 1)), .ref (ad 49)]) (rest := []) ⟨hx, hb, hml, hown, hts⟩ hEL hG (cL_receiveC l D cy s.heap.size ad n A J (xs (i + 1)) (PX9_receive ad A J G n (xs (i + 1)).toInt) (EX9_receive ad A J G n (xs (i + 1)).toInt) (by have h9 := cX9_receiveC l D cy s.heap.size ad n A J G n (xs (i + 1)).toInt hst rfl hC (z_bound _); simp only [zI_of] at h9; exact h9) (fun v9 A9 J9 h9 => by obtain ⟨_, rfl, -⟩ := h9; exact ⟨_, rfl⟩) (fun e9 A9 J9 h9 => h9.1)) (vx_cwSW 3 hts gL_law_L_receive rfl rfl rfl (by decide +kernel) ⟨(Nat.le_of_ble_eq_true rfl), (Nat.le_of_ble_eq_true rfl)⟩) rfl hl.1 rfl (Nat.le_of_ble_eq_true rfl) dL_law_688 ⟨(by show cells + 1 ≤ 601024; omega), (by show slots + 6 ≤ 7293034; omega)⟩ (fun v9 A1 J1 H locs hq hG => ?_)
  obtain ⟨k, hk2, rfl⟩ := qL1_k hq
  obtain ⟨hM1, hbr⟩ := br_receive hC hM hq
  refine W.eq (g2 := F0 m 691 ls [.int (nI k)]) rfl ?_
  refine lv_istore (lv' := [(5, .int (nI k)), (4, .int (nI i)), (3, .ref (ad 49)), (2, .ref (ad 28)), (1, .ref (ad 0)), (0, .ref b)]) hx hb dL_law_691 hl (by decide) rfl (fun ls hl => ?_)
  refine lv_aload_n hx hb dL_law_693 rfl (lv_at hl 3 rfl) ?_
  refine lv_aload_n hx hb dL_law_694 rfl (lv_at hl 5 rfl) ?_
  refine lv_iload hx hb dL_law_695 (lv_at hl 1 rfl) ?_
  refine lv_iconst (v := nI 1) hx hb dL_law_697 (by decide) ?_
  refine lv_iadd hx hb dL_law_698 ?_
  refine g_top (y := nI (i + 1)) (nI_add i 1) ?_
  refine gS_ld hx hb hX hbl hG.2.2 (i := i + 1) rfl (by omega) hL dL_law_699 ?_
  refine g_callV (As := [.int (xs (i + 1))]) (rest := []) (r := (RX10, TX10, 35)) (k := 28) ⟨hx, hb, hml, hown, hts⟩ hEL.1 hG (cX10_receiveC l D cy s.heap.size ad n A1 J1 G (xs (i + 1)) hM1 brc bol btl b37) (cwV 1 hts gL_law_X10_receive rfl rfl rfl (by decide +kernel) ⟨(Nat.le_of_ble_eq_true rfl), (Nat.le_of_ble_eq_true rfl)⟩) (by omega) rfl rfl rfl hl.1 rfl (Nat.le_of_ble_eq_true rfl) dL_law_700 ⟨(by show cells + 1 ≤ 601024; omega), (by show slots + 6 ≤ 7293034; omega)⟩ (fun v_ A2 J2 H locs hp hG => ?_)
  have hJ2 : J1 = J2 := by
    rcases hp with ⟨-, -, h9, -⟩ | ⟨_, _, -, h9, -⟩
    · exact h9
    · exact h9
  obtain ⟨k9, r2, G1, hv, rfl, hth, hk9, hr9, hC1, hM2⟩ := hbr _ _ _ hp
  obtain rfl : k = k9 := nI_inj (by omega) (by omega) (Value.int.inj (Option.some.inj hv))
  subst hJ2
  refine W.eq (g2 := F0 m 703 ls [.int r2]) rfl ?_
  refine lv_istore (lv' := [(6, .int r2), (5, .int (nI k)), (4, .int (nI i)), (3, .ref (ad 49)), (2, .ref (ad 28)), (1, .ref (ad 0)), (0, .ref b)]) hx hb dL_law_703 hl (by decide) rfl (fun ls hl => ?_)
  refine lv_aload_n hx hb dL_law_705 rfl (lv_at hl 4 rfl) ?_
  refine g_callV (As := []) (rest := []) (r := (RX10, TX10, 35)) (k := 28) ⟨hx, hb, hml, hown, hts⟩ hEL.1 hG (cX10_thrownC l D cy s.heap.size ad n A2 J1 (k : Int) hth) (cwV 0 hts gL_law_X10_thrown rfl rfl rfl (by decide +kernel) ⟨(Nat.le_of_ble_eq_true rfl), (Nat.le_of_ble_eq_true rfl)⟩) (by omega) rfl rfl rfl hl.1 rfl (Nat.le_of_ble_eq_true rfl) dL_law_706 ⟨(by show cells + 1 ≤ 601024; omega), (by show slots + 6 ≤ 7293034; omega)⟩ (fun v_ A3 J3 H locs hp hG => ?_)
  obtain ⟨rfl, rfl, rfl⟩ := hp
  refine W.eq (g2 := F0 m 709 ls [.int (zI (k : Int))]) rfl ?_
  refine lv_iload hx hb dL_law_709 (lv_at hl 1 rfl) ?_
  refine lv_icmp_eq (tgt := 716) hx hb dL_law_711 (by decide) (fun _ => ?_) (fun c9 => absurd rfl c9)
  refine lv_iload hx hb dL_law_716 (lv_at hl 1 rfl) ?_
  refine lv_if_ne (tgt := 733) hx hb dL_law_718 (by decide) (fun c9 => ?_) (fun c9 => ?_)
  · skip
    refine lv_goto (tgt := 1322) hx hb dL_law_733 (by decide) ?_
    exact KK n ad A2 J1 G1 H locs ls _ _ ⟨hC1, hM2, hG, rfl, rfl, rfl⟩ (by show cells + 1 ≤ cells + 3; omega) (by show slots + 6 ≤ slots + 19; omega) (lv_sub hl [2, 3, 4, 5, 6] rfl)
  · have hk0 : k = 0 := nI_inj (by omega) (by decide) c9
    refine lv_aload_n hx hb dL_law_721 rfl (lv_at hl 3 rfl) ?_
    refine lv_iconst (v := nI 0) hx hb dL_law_722 (by decide) ?_
    refine g_lald hx hb hEL.1 hG (k := 49) (by omega) rfl 0 rfl (by decide) (by decide) dL_law_723 ?_
    refine lv_iload hx hb dL_law_724 (lv_at hl 0 rfl) ?_
    refine lv_i2l (v := r2.toInt64) hx hb dL_law_726 rfl ?_
    refine W.lcmp hx hb dL_law_727 ?_
    refine lv_if_eq (tgt := 733) hx hb dL_law_728 (by decide) (fun _ => ?_) (fun c8 => absurd ((lg_cmp_eq _ _).mpr (hr9 hk0)) c8)
    refine lv_goto (tgt := 1322) hx hb dL_law_733 (by decide) ?_
    exact KK n ad A2 J1 G1 H locs ls _ _ ⟨hC1, hM2, hG, rfl, rfl, rfl⟩ (by show cells + 1 ≤ cells + 3; omega) (by show slots + 6 ≤ slots + 19; omega) (lv_sub hl [2, 3, 4, 5, 6] rfl)
set_option maxHeartbeats 4000000 in
set_option maxRecDepth 100000 in
theorem law_k12 {p : Program} {e : Env} {s : State} {m : MethodId} {below : List Frame} {meth : Method} {c : Code} {l : Launch} {b L : Nat} {xs : Nat → Int32} {D : va_G} {cy : Nat → ClassId} {a0 a28 a49 : Nat} {Q : State → Prop} (X : LCtx p s m c l b L xs D cy) {i n : Nat} {ad : Nat → Nat} {A : Nat → Nat → Int32} {J : Nat → Nat → Int64} {G : Nat → Nat → Int} {H : Heap} {locs : List Loc} {cells slots : Nat} {ls : Array Slot} (hi : i + 5 ≤ L) (hI : LInv D cy s a0 a28 a49 n ad A J G H locs) (hc : cells + 3 ≤ 601024) (hs : slots + 19 ≤ 7293034) (hl : lv_has ls 7 (lLoc b a0 a28 a49 i)) (KK : ∀ (n1 : Nat) (ad1 : Nat → Nat) (A1 : Nat → Nat → Int32) (J1 : Nat → Nat → Int64) (G1 : Nat → Nat → Int) (H1 : Heap) (locs1 : List Loc) (ls1 : Array Slot) (cells1 slots1 : Nat), LInv D cy s a0 a28 a49 n1 ad1 A1 J1 G1 H1 locs1 → cells1 ≤ cells + 3 → slots1 ≤ slots + 19 → lv_has ls1 7 (lLoc b a0 a28 a49 i) → W p l e room_1 s m #[Value.ref b] below meth c H1 locs1 cells1 slots1 Q (F0 m 1322 ls1 [])) : W p l e room_1 s m #[Value.ref b] below meth c H locs cells slots Q (F0 m 736 ls []) := by
  obtain ⟨hx, hb, hml, hown, hts, hX, hbl, hEL, hst, hL⟩ := X
  obtain ⟨hC, hM, hG, rfl, rfl, rfl⟩ := hI
  obtain ⟨bT, bn, b41, bpa, bta, bol, bpr, bso, bse, bln, brc, bdv, bdr, btl, b37, bnn, b21⟩ := hC.bd
  have hl : lv_has ls 7 [(4, .int (nI i)), (3, .ref (ad 49)), (2, .ref (ad 28)), (1, .ref (ad 0)), (0, .ref b)] := hl
  refine lv_aload_n hx hb dL_law_736 rfl (lv_at hl 3 rfl) ?_
  refine g_callV (As := []) (rest := []) (r := (RX9, TX9, 6)) (k := 0) ⟨hx, hb, hml, hown, hts⟩ hEL.1 hG (cX9_stateC l D cy s.heap.size ad n A J G n rfl hC) (cwV 0 hts gL_law_X9_state rfl rfl rfl (by decide +kernel) ⟨(Nat.le_of_ble_eq_true rfl), (Nat.le_of_ble_eq_true rfl)⟩) (by omega) rfl rfl rfl hl.1 rfl (Nat.le_of_ble_eq_true rfl) dL_law_737 ⟨(by show cells ≤ 601024; omega), (by show slots ≤ 7293034; omega)⟩ (fun v_ A1 J1 H locs hp hG => ?_)
  obtain ⟨rfl, rfl, rfl⟩ := hp
  refine W.eq (g2 := F0 m 740 ls [.int (zI (G 28 14))]) rfl ?_
  refine lv_aload_n hx hb dL_law_740 rfl (lv_at hl 2 rfl) ?_
  refine g_callV (As := []) (rest := [.int (zI (G 28 14))]) (r := (RX10, TX10, 35)) (k := 28) ⟨hx, hb, hml, hown, hts⟩ hEL.1 hG (cX10_stateC l D cy s.heap.size ad n A J G hM) (cwV 0 hts gL_law_X10_state rfl rfl rfl (by decide +kernel) ⟨(Nat.le_of_ble_eq_true rfl), (Nat.le_of_ble_eq_true rfl)⟩) (by omega) rfl rfl rfl hl.1 rfl (Nat.le_of_ble_eq_true rfl) dL_law_741 ⟨(by show cells ≤ 601024; omega), (by show slots ≤ 7293034; omega)⟩ (fun v_ A2 J2 H locs hp hG => ?_)
  obtain ⟨rfl, rfl, rfl⟩ := hp
  refine W.eq (g2 := F0 m 744 ls [.int (zI (G 28 14)), .int (zI (G 28 14))]) rfl ?_
  refine lv_icmp_eq (tgt := 1322) hx hb dL_law_744 (by decide) (fun _ => ?_) (fun c9 => absurd rfl c9)
  exact KK n ad _ J G H locs ls _ _ ⟨(hC.th _), (hM.th _), hG, rfl, rfl, rfl⟩ (by show cells ≤ cells + 3; omega) (by show slots ≤ slots + 19; omega) (lv_sub hl [0, 1, 2, 3, 4] rfl)
set_option maxHeartbeats 4000000 in
set_option maxRecDepth 100000 in
theorem law_k13 {p : Program} {e : Env} {s : State} {m : MethodId} {below : List Frame} {meth : Method} {c : Code} {l : Launch} {b L : Nat} {xs : Nat → Int32} {D : va_G} {cy : Nat → ClassId} {a0 a28 a49 : Nat} {Q : State → Prop} (X : LCtx p s m c l b L xs D cy) {i n : Nat} {ad : Nat → Nat} {A : Nat → Nat → Int32} {J : Nat → Nat → Int64} {G : Nat → Nat → Int} {H : Heap} {locs : List Loc} {cells slots : Nat} {ls : Array Slot} (hi : i + 5 ≤ L) (hI : LInv D cy s a0 a28 a49 n ad A J G H locs) (hc : cells + 3 ≤ 601024) (hs : slots + 19 ≤ 7293034) (hl : lv_has ls 7 (lLoc b a0 a28 a49 i)) (KK : ∀ (n1 : Nat) (ad1 : Nat → Nat) (A1 : Nat → Nat → Int32) (J1 : Nat → Nat → Int64) (G1 : Nat → Nat → Int) (H1 : Heap) (locs1 : List Loc) (ls1 : Array Slot) (cells1 slots1 : Nat), LInv D cy s a0 a28 a49 n1 ad1 A1 J1 G1 H1 locs1 → cells1 ≤ cells + 3 → slots1 ≤ slots + 19 → lv_has ls1 7 (lLoc b a0 a28 a49 i) → W p l e room_1 s m #[Value.ref b] below meth c H1 locs1 cells1 slots1 Q (F0 m 1322 ls1 [])) : W p l e room_1 s m #[Value.ref b] below meth c H locs cells slots Q (F0 m 749 ls []) := by
  obtain ⟨hx, hb, hml, hown, hts, hX, hbl, hEL, hst, hL⟩ := X
  obtain ⟨hC, hM, hG, rfl, rfl, rfl⟩ := hI
  obtain ⟨bT, bn, b41, bpa, bta, bol, bpr, bso, bse, bln, brc, bdv, bdr, btl, b37, bnn, b21⟩ := hC.bd
  have hl : lv_has ls 7 [(4, .int (nI i)), (3, .ref (ad 49)), (2, .ref (ad 28)), (1, .ref (ad 0)), (0, .ref b)] := hl
  refine lv_aload_n hx hb dL_law_749 rfl (lv_at hl 3 rfl) ?_
  refine g_callV (As := []) (rest := []) (r := (RX9, TX9, 6)) (k := 0) ⟨hx, hb, hml, hown, hts⟩ hEL.1 hG (cX9_takenC l D cy s.heap.size ad n A J G n rfl hC) (cwV 0 hts gL_law_X9_taken rfl rfl rfl (by decide +kernel) ⟨(Nat.le_of_ble_eq_true rfl), (Nat.le_of_ble_eq_true rfl)⟩) (by omega) rfl rfl rfl hl.1 rfl (Nat.le_of_ble_eq_true rfl) dL_law_750 ⟨(by show cells ≤ 601024; omega), (by show slots ≤ 7293034; omega)⟩ (fun v_ A1 J1 H locs hp hG => ?_)
  obtain ⟨rfl, rfl, rfl⟩ := hp
  refine W.eq (g2 := F0 m 753 ls [.int (zI (G 28 12))]) rfl ?_
  refine lv_aload_n hx hb dL_law_753 rfl (lv_at hl 2 rfl) ?_
  refine g_callV (As := []) (rest := [.int (zI (G 28 12))]) (r := (RX10, TX10, 35)) (k := 28) ⟨hx, hb, hml, hown, hts⟩ hEL.1 hG (cX10_takenC l D cy s.heap.size ad n A J G hM) (cwV 0 hts gL_law_X10_taken rfl rfl rfl (by decide +kernel) ⟨(Nat.le_of_ble_eq_true rfl), (Nat.le_of_ble_eq_true rfl)⟩) (by omega) rfl rfl rfl hl.1 rfl (Nat.le_of_ble_eq_true rfl) dL_law_754 ⟨(by show cells ≤ 601024; omega), (by show slots ≤ 7293034; omega)⟩ (fun v_ A2 J2 H locs hp hG => ?_)
  obtain ⟨rfl, rfl, rfl⟩ := hp
  refine W.eq (g2 := F0 m 757 ls [.int (zI (G 28 12)), .int (zI (G 28 12))]) rfl ?_
  refine lv_icmp_eq (tgt := 1322) hx hb dL_law_757 (by decide) (fun _ => ?_) (fun c9 => absurd rfl c9)
  exact KK n ad _ J G H locs ls _ _ ⟨(hC.th _), (hM.th _), hG, rfl, rfl, rfl⟩ (by show cells ≤ cells + 3; omega) (by show slots ≤ slots + 19; omega) (lv_sub hl [0, 1, 2, 3, 4] rfl)
set_option maxHeartbeats 4000000 in
set_option maxRecDepth 100000 in
theorem law_k14 {p : Program} {e : Env} {s : State} {m : MethodId} {below : List Frame} {meth : Method} {c : Code} {l : Launch} {b L : Nat} {xs : Nat → Int32} {D : va_G} {cy : Nat → ClassId} {a0 a28 a49 : Nat} {Q : State → Prop} (X : LCtx p s m c l b L xs D cy) {i n : Nat} {ad : Nat → Nat} {A : Nat → Nat → Int32} {J : Nat → Nat → Int64} {G : Nat → Nat → Int} {H : Heap} {locs : List Loc} {cells slots : Nat} {ls : Array Slot} (hi : i + 5 ≤ L) (hI : LInv D cy s a0 a28 a49 n ad A J G H locs) (hc : cells + 3 ≤ 601024) (hs : slots + 19 ≤ 7293034) (hl : lv_has ls 7 (lLoc b a0 a28 a49 i)) (KK : ∀ (n1 : Nat) (ad1 : Nat → Nat) (A1 : Nat → Nat → Int32) (J1 : Nat → Nat → Int64) (G1 : Nat → Nat → Int) (H1 : Heap) (locs1 : List Loc) (ls1 : Array Slot) (cells1 slots1 : Nat), LInv D cy s a0 a28 a49 n1 ad1 A1 J1 G1 H1 locs1 → cells1 ≤ cells + 3 → slots1 ≤ slots + 19 → lv_has ls1 7 (lLoc b a0 a28 a49 i) → W p l e room_1 s m #[Value.ref b] below meth c H1 locs1 cells1 slots1 Q (F0 m 1322 ls1 [])) : W p l e room_1 s m #[Value.ref b] below meth c H locs cells slots Q (F0 m 762 ls []) := by
  obtain ⟨hx, hb, hml, hown, hts, hX, hbl, hEL, hst, hL⟩ := X
  obtain ⟨hC, hM, hG, rfl, rfl, rfl⟩ := hI
  obtain ⟨bT, bn, b41, bpa, bta, bol, bpr, bso, bse, bln, brc, bdv, bdr, btl, b37, bnn, b21⟩ := hC.bd
  have hl : lv_has ls 7 [(4, .int (nI i)), (3, .ref (ad 49)), (2, .ref (ad 28)), (1, .ref (ad 0)), (0, .ref b)] := hl
  refine lv_aload_n hx hb dL_law_762 rfl (lv_at hl 3 rfl) ?_
  refine g_callV (As := []) (rest := []) (r := (RX9, TX9, 6)) (k := 0) ⟨hx, hb, hml, hown, hts⟩ hEL.1 hG (cX9_framesC l D cy s.heap.size ad n A J G n rfl hC) (cwV 0 hts gL_law_X9_frames rfl rfl rfl (by decide +kernel) ⟨(Nat.le_of_ble_eq_true rfl), (Nat.le_of_ble_eq_true rfl)⟩) (by omega) rfl rfl rfl hl.1 rfl (Nat.le_of_ble_eq_true rfl) dL_law_763 ⟨(by show cells ≤ 601024; omega), (by show slots ≤ 7293034; omega)⟩ (fun v_ A1 J1 H locs hp hG => ?_)
  obtain ⟨rfl, rfl, rfl⟩ := hp
  refine W.eq (g2 := F0 m 766 ls [.int (zI (G 28 21))]) rfl ?_
  refine lv_aload_n hx hb dL_law_766 rfl (lv_at hl 2 rfl) ?_
  refine g_callV (As := []) (rest := [.int (zI (G 28 21))]) (r := (RX10, TX10, 35)) (k := 28) ⟨hx, hb, hml, hown, hts⟩ hEL.1 hG (cX10_framesC l D cy s.heap.size ad n A J G hM) (cwV 0 hts gL_law_X10_frames rfl rfl rfl (by decide +kernel) ⟨(Nat.le_of_ble_eq_true rfl), (Nat.le_of_ble_eq_true rfl)⟩) (by omega) rfl rfl rfl hl.1 rfl (Nat.le_of_ble_eq_true rfl) dL_law_767 ⟨(by show cells ≤ 601024; omega), (by show slots ≤ 7293034; omega)⟩ (fun v_ A2 J2 H locs hp hG => ?_)
  obtain ⟨rfl, rfl, rfl⟩ := hp
  refine W.eq (g2 := F0 m 770 ls [.int (zI (G 28 21)), .int (zI (G 28 21))]) rfl ?_
  refine lv_icmp_eq (tgt := 1322) hx hb dL_law_770 (by decide) (fun _ => ?_) (fun c9 => absurd rfl c9)
  exact KK n ad _ J G H locs ls _ _ ⟨(hC.th _), (hM.th _), hG, rfl, rfl, rfl⟩ (by show cells ≤ cells + 3; omega) (by show slots ≤ slots + 19; omega) (lv_sub hl [0, 1, 2, 3, 4] rfl)
set_option maxHeartbeats 4000000 in
set_option maxRecDepth 100000 in
theorem law_k15 {p : Program} {e : Env} {s : State} {m : MethodId} {below : List Frame} {meth : Method} {c : Code} {l : Launch} {b L : Nat} {xs : Nat → Int32} {D : va_G} {cy : Nat → ClassId} {a0 a28 a49 : Nat} {Q : State → Prop} (X : LCtx p s m c l b L xs D cy) {i n : Nat} {ad : Nat → Nat} {A : Nat → Nat → Int32} {J : Nat → Nat → Int64} {G : Nat → Nat → Int} {H : Heap} {locs : List Loc} {cells slots : Nat} {ls : Array Slot} (hi : i + 5 ≤ L) (hI : LInv D cy s a0 a28 a49 n ad A J G H locs) (hc : cells + 3 ≤ 601024) (hs : slots + 19 ≤ 7293034) (hl : lv_has ls 7 (lLoc b a0 a28 a49 i)) (KK : ∀ (n1 : Nat) (ad1 : Nat → Nat) (A1 : Nat → Nat → Int32) (J1 : Nat → Nat → Int64) (G1 : Nat → Nat → Int) (H1 : Heap) (locs1 : List Loc) (ls1 : Array Slot) (cells1 slots1 : Nat), LInv D cy s a0 a28 a49 n1 ad1 A1 J1 G1 H1 locs1 → cells1 ≤ cells + 3 → slots1 ≤ slots + 19 → lv_has ls1 7 (lLoc b a0 a28 a49 i) → W p l e room_1 s m #[Value.ref b] below meth c H1 locs1 cells1 slots1 Q (F0 m 1322 ls1 [])) : W p l e room_1 s m #[Value.ref b] below meth c H locs cells slots Q (F0 m 775 ls []) := by
  obtain ⟨hx, hb, hml, hown, hts, hX, hbl, hEL, hst, hL⟩ := X
  obtain ⟨hC, hM, hG, rfl, rfl, rfl⟩ := hI
  obtain ⟨bT, bn, b41, bpa, bta, bol, bpr, bso, bse, bln, brc, bdv, bdr, btl, b37, bnn, b21⟩ := hC.bd
  have hl : lv_has ls 7 [(4, .int (nI i)), (3, .ref (ad 49)), (2, .ref (ad 28)), (1, .ref (ad 0)), (0, .ref b)] := hl
  refine lv_aload_n hx hb dL_law_775 rfl (lv_at hl 3 rfl) ?_
  refine g_callV (As := []) (rest := []) (r := (RX9, TX9, 6)) (k := 0) ⟨hx, hb, hml, hown, hts⟩ hEL.1 hG (cX9_lostC l D cy s.heap.size ad n A J G n rfl hC) (cwV 0 hts gL_law_X9_lost rfl rfl rfl (by decide +kernel) ⟨(Nat.le_of_ble_eq_true rfl), (Nat.le_of_ble_eq_true rfl)⟩) (by omega) rfl rfl rfl hl.1 rfl (Nat.le_of_ble_eq_true rfl) dL_law_776 ⟨(by show cells ≤ 601024; omega), (by show slots ≤ 7293034; omega)⟩ (fun v_ A1 J1 H locs hp hG => ?_)
  obtain ⟨rfl, rfl, rfl⟩ := hp
  refine W.eq (g2 := F0 m 779 ls [.int (zI (G 28 22))]) rfl ?_
  refine lv_aload_n hx hb dL_law_779 rfl (lv_at hl 2 rfl) ?_
  refine g_callV (As := []) (rest := [.int (zI (G 28 22))]) (r := (RX10, TX10, 35)) (k := 28) ⟨hx, hb, hml, hown, hts⟩ hEL.1 hG (cX10_lostC l D cy s.heap.size ad n A J G hM) (cwV 0 hts gL_law_X10_lost rfl rfl rfl (by decide +kernel) ⟨(Nat.le_of_ble_eq_true rfl), (Nat.le_of_ble_eq_true rfl)⟩) (by omega) rfl rfl rfl hl.1 rfl (Nat.le_of_ble_eq_true rfl) dL_law_780 ⟨(by show cells ≤ 601024; omega), (by show slots ≤ 7293034; omega)⟩ (fun v_ A2 J2 H locs hp hG => ?_)
  obtain ⟨rfl, rfl, rfl⟩ := hp
  refine W.eq (g2 := F0 m 783 ls [.int (zI (G 28 22)), .int (zI (G 28 22))]) rfl ?_
  refine lv_icmp_eq (tgt := 1322) hx hb dL_law_783 (by decide) (fun _ => ?_) (fun c9 => absurd rfl c9)
  exact KK n ad _ J G H locs ls _ _ ⟨(hC.th _), (hM.th _), hG, rfl, rfl, rfl⟩ (by show cells ≤ cells + 3; omega) (by show slots ≤ slots + 19; omega) (lv_sub hl [0, 1, 2, 3, 4] rfl)
set_option maxHeartbeats 4000000 in
set_option maxRecDepth 100000 in
theorem law_k16 {p : Program} {e : Env} {s : State} {m : MethodId} {below : List Frame} {meth : Method} {c : Code} {l : Launch} {b L : Nat} {xs : Nat → Int32} {D : va_G} {cy : Nat → ClassId} {a0 a28 a49 : Nat} {Q : State → Prop} (X : LCtx p s m c l b L xs D cy) {i n : Nat} {ad : Nat → Nat} {A : Nat → Nat → Int32} {J : Nat → Nat → Int64} {G : Nat → Nat → Int} {H : Heap} {locs : List Loc} {cells slots : Nat} {ls : Array Slot} (hi : i + 5 ≤ L) (hI : LInv D cy s a0 a28 a49 n ad A J G H locs) (hc : cells + 3 ≤ 601024) (hs : slots + 19 ≤ 7293034) (hl : lv_has ls 7 (lLoc b a0 a28 a49 i)) (KK : ∀ (n1 : Nat) (ad1 : Nat → Nat) (A1 : Nat → Nat → Int32) (J1 : Nat → Nat → Int64) (G1 : Nat → Nat → Int) (H1 : Heap) (locs1 : List Loc) (ls1 : Array Slot) (cells1 slots1 : Nat), LInv D cy s a0 a28 a49 n1 ad1 A1 J1 G1 H1 locs1 → cells1 ≤ cells + 3 → slots1 ≤ slots + 19 → lv_has ls1 7 (lLoc b a0 a28 a49 i) → W p l e room_1 s m #[Value.ref b] below meth c H1 locs1 cells1 slots1 Q (F0 m 1322 ls1 [])) : W p l e room_1 s m #[Value.ref b] below meth c H locs cells slots Q (F0 m 788 ls []) := by
  obtain ⟨hx, hb, hml, hown, hts, hX, hbl, hEL, hst, hL⟩ := X
  obtain ⟨hC, hM, hG, rfl, rfl, rfl⟩ := hI
  obtain ⟨bT, bn, b41, bpa, bta, bol, bpr, bso, bse, bln, brc, bdv, bdr, btl, b37, bnn, b21⟩ := hC.bd
  have hl : lv_has ls 7 [(4, .int (nI i)), (3, .ref (ad 49)), (2, .ref (ad 28)), (1, .ref (ad 0)), (0, .ref b)] := hl
  refine lv_aload_n hx hb dL_law_788 rfl (lv_at hl 3 rfl) ?_
  refine g_callV (As := []) (rest := []) (r := (RX9, TX9, 6)) (k := 0) ⟨hx, hb, hml, hown, hts⟩ hEL.1 hG (cX9_repeatsC l D cy s.heap.size ad n A J G n rfl hC) (cwV 0 hts gL_law_X9_repeats rfl rfl rfl (by decide +kernel) ⟨(Nat.le_of_ble_eq_true rfl), (Nat.le_of_ble_eq_true rfl)⟩) (by omega) rfl rfl rfl hl.1 rfl (Nat.le_of_ble_eq_true rfl) dL_law_789 ⟨(by show cells ≤ 601024; omega), (by show slots ≤ 7293034; omega)⟩ (fun v_ A1 J1 H locs hp hG => ?_)
  obtain ⟨rfl, rfl, rfl⟩ := hp
  refine W.eq (g2 := F0 m 792 ls [.int (zI (G 28 23))]) rfl ?_
  refine lv_aload_n hx hb dL_law_792 rfl (lv_at hl 2 rfl) ?_
  refine g_callV (As := []) (rest := [.int (zI (G 28 23))]) (r := (RX10, TX10, 35)) (k := 28) ⟨hx, hb, hml, hown, hts⟩ hEL.1 hG (cX10_repeatsC l D cy s.heap.size ad n A J G hM) (cwV 0 hts gL_law_X10_repeats rfl rfl rfl (by decide +kernel) ⟨(Nat.le_of_ble_eq_true rfl), (Nat.le_of_ble_eq_true rfl)⟩) (by omega) rfl rfl rfl hl.1 rfl (Nat.le_of_ble_eq_true rfl) dL_law_793 ⟨(by show cells ≤ 601024; omega), (by show slots ≤ 7293034; omega)⟩ (fun v_ A2 J2 H locs hp hG => ?_)
  obtain ⟨rfl, rfl, rfl⟩ := hp
  refine W.eq (g2 := F0 m 796 ls [.int (zI (G 28 23)), .int (zI (G 28 23))]) rfl ?_
  refine lv_icmp_eq (tgt := 1322) hx hb dL_law_796 (by decide) (fun _ => ?_) (fun c9 => absurd rfl c9)
  exact KK n ad _ J G H locs ls _ _ ⟨(hC.th _), (hM.th _), hG, rfl, rfl, rfl⟩ (by show cells ≤ cells + 3; omega) (by show slots ≤ slots + 19; omega) (lv_sub hl [0, 1, 2, 3, 4] rfl)
set_option maxHeartbeats 4000000 in
set_option maxRecDepth 100000 in
theorem law_k17 {p : Program} {e : Env} {s : State} {m : MethodId} {below : List Frame} {meth : Method} {c : Code} {l : Launch} {b L : Nat} {xs : Nat → Int32} {D : va_G} {cy : Nat → ClassId} {a0 a28 a49 : Nat} {Q : State → Prop} (X : LCtx p s m c l b L xs D cy) {i n : Nat} {ad : Nat → Nat} {A : Nat → Nat → Int32} {J : Nat → Nat → Int64} {G : Nat → Nat → Int} {H : Heap} {locs : List Loc} {cells slots : Nat} {ls : Array Slot} (hi : i + 5 ≤ L) (hI : LInv D cy s a0 a28 a49 n ad A J G H locs) (hc : cells + 3 ≤ 601024) (hs : slots + 19 ≤ 7293034) (hl : lv_has ls 7 (lLoc b a0 a28 a49 i)) (KK : ∀ (n1 : Nat) (ad1 : Nat → Nat) (A1 : Nat → Nat → Int32) (J1 : Nat → Nat → Int64) (G1 : Nat → Nat → Int) (H1 : Heap) (locs1 : List Loc) (ls1 : Array Slot) (cells1 slots1 : Nat), LInv D cy s a0 a28 a49 n1 ad1 A1 J1 G1 H1 locs1 → cells1 ≤ cells + 3 → slots1 ≤ slots + 19 → lv_has ls1 7 (lLoc b a0 a28 a49 i) → W p l e room_1 s m #[Value.ref b] below meth c H1 locs1 cells1 slots1 Q (F0 m 1322 ls1 [])) : W p l e room_1 s m #[Value.ref b] below meth c H locs cells slots Q (F0 m 801 ls []) := by
  obtain ⟨hx, hb, hml, hown, hts, hX, hbl, hEL, hst, hL⟩ := X
  obtain ⟨hC, hM, hG, rfl, rfl, rfl⟩ := hI
  obtain ⟨bT, bn, b41, bpa, bta, bol, bpr, bso, bse, bln, brc, bdv, bdr, btl, b37, bnn, b21⟩ := hC.bd
  have hl : lv_has ls 7 [(4, .int (nI i)), (3, .ref (ad 49)), (2, .ref (ad 28)), (1, .ref (ad 0)), (0, .ref b)] := hl
  refine lv_aload_n hx hb dL_law_801 rfl (lv_at hl 3 rfl) ?_
  refine lv_aload_n hx hb dL_law_802 rfl (lv_at hl 1 rfl) ?_
  refine gL_callS (As := [.ref (ad 0), .ref (ad 49)]) (rest := []) ⟨hx, hb, hml, hown, hts⟩ hEL hG (cL_numberC l D cy s.heap.size ad n A J  (PX9_number ad A J G n) (EX9_number ad A J G n) (cX9_numberC l D cy s.heap.size ad n A J G n hst rfl hC) (fun v9 A9 J9 h9 => by obtain ⟨rfl, -⟩ := h9; exact ⟨_, rfl⟩) (fun e9 A9 J9 h9 => h9.1)) (vx_cwSW 2 hts gL_law_L_number rfl rfl rfl (by decide +kernel) ⟨(Nat.le_of_ble_eq_true rfl), (Nat.le_of_ble_eq_true rfl)⟩) rfl hl.1 rfl (Nat.le_of_ble_eq_true rfl) dL_law_803 ⟨(by show cells + 1 ≤ 601024; omega), (by show slots + 6 ≤ 7293034; omega)⟩ (fun v9 A1 J1 H locs hq hG => ?_)
  obtain ⟨k, hk2, rfl⟩ := qL1_k hq
  obtain ⟨hM1, hbr⟩ := br_number hC hM hq
  refine W.eq (g2 := F0 m 806 ls [.int (nI k)]) rfl ?_
  refine lv_istore (lv' := [(5, .int (nI k)), (4, .int (nI i)), (3, .ref (ad 49)), (2, .ref (ad 28)), (1, .ref (ad 0)), (0, .ref b)]) hx hb dL_law_806 hl (by decide) rfl (fun ls hl => ?_)
  refine lv_aload_n hx hb dL_law_808 rfl (lv_at hl 3 rfl) ?_
  refine g_callV (As := []) (rest := []) (r := (RX10, TX10, 35)) (k := 28) ⟨hx, hb, hml, hown, hts⟩ hEL.1 hG (cX10_numberC l D cy s.heap.size ad n A1 J1 G hM1 b21) (cwV 0 hts gL_law_X10_number rfl rfl rfl (by decide +kernel) ⟨(Nat.le_of_ble_eq_true rfl), (Nat.le_of_ble_eq_true rfl)⟩) (by omega) rfl rfl rfl hl.1 rfl (Nat.le_of_ble_eq_true rfl) dL_law_809 ⟨(by show cells + 1 ≤ 601024; omega), (by show slots + 6 ≤ 7293034; omega)⟩ (fun v_ A2 J2 H locs hp hG => ?_)
  have hJ2 : J1 = J2 := by
    rcases hp with ⟨-, -, h9, -⟩ | ⟨-, -, h9, -⟩
    · exact h9
    · exact h9
  obtain ⟨k9, r2, G1, hv, rfl, hth, hk9, hr9, hC1, hM2⟩ := hbr _ _ _ hp
  obtain rfl : k = k9 := nI_inj (by omega) (by omega) (Value.int.inj (Option.some.inj hv))
  subst hJ2
  refine W.eq (g2 := F0 m 812 ls [.int r2]) rfl ?_
  refine lv_istore (lv' := [(6, .int r2), (5, .int (nI k)), (4, .int (nI i)), (3, .ref (ad 49)), (2, .ref (ad 28)), (1, .ref (ad 0)), (0, .ref b)]) hx hb dL_law_812 hl (by decide) rfl (fun ls hl => ?_)
  refine lv_aload_n hx hb dL_law_814 rfl (lv_at hl 4 rfl) ?_
  refine g_callV (As := []) (rest := []) (r := (RX10, TX10, 35)) (k := 28) ⟨hx, hb, hml, hown, hts⟩ hEL.1 hG (cX10_thrownC l D cy s.heap.size ad n A2 J1 (k : Int) hth) (cwV 0 hts gL_law_X10_thrown rfl rfl rfl (by decide +kernel) ⟨(Nat.le_of_ble_eq_true rfl), (Nat.le_of_ble_eq_true rfl)⟩) (by omega) rfl rfl rfl hl.1 rfl (Nat.le_of_ble_eq_true rfl) dL_law_815 ⟨(by show cells + 1 ≤ 601024; omega), (by show slots + 6 ≤ 7293034; omega)⟩ (fun v_ A3 J3 H locs hp hG => ?_)
  obtain ⟨rfl, rfl, rfl⟩ := hp
  refine W.eq (g2 := F0 m 818 ls [.int (zI (k : Int))]) rfl ?_
  refine lv_iload hx hb dL_law_818 (lv_at hl 1 rfl) ?_
  refine lv_icmp_eq (tgt := 825) hx hb dL_law_820 (by decide) (fun _ => ?_) (fun c9 => absurd rfl c9)
  refine lv_iload hx hb dL_law_825 (lv_at hl 1 rfl) ?_
  refine lv_if_ne (tgt := 842) hx hb dL_law_827 (by decide) (fun c9 => ?_) (fun c9 => ?_)
  · skip
    refine lv_goto (tgt := 1322) hx hb dL_law_842 (by decide) ?_
    exact KK n ad A2 J1 G1 H locs ls _ _ ⟨hC1, hM2, hG, rfl, rfl, rfl⟩ (by show cells + 1 ≤ cells + 3; omega) (by show slots + 6 ≤ slots + 19; omega) (lv_sub hl [2, 3, 4, 5, 6] rfl)
  · have hk0 : k = 0 := nI_inj (by omega) (by decide) c9
    refine lv_aload_n hx hb dL_law_830 rfl (lv_at hl 3 rfl) ?_
    refine lv_iconst (v := nI 0) hx hb dL_law_831 (by decide) ?_
    refine g_lald hx hb hEL.1 hG (k := 49) (by omega) rfl 0 rfl (by decide) (by decide) dL_law_832 ?_
    refine lv_iload hx hb dL_law_833 (lv_at hl 0 rfl) ?_
    refine lv_i2l (v := r2.toInt64) hx hb dL_law_835 rfl ?_
    refine W.lcmp hx hb dL_law_836 ?_
    refine lv_if_eq (tgt := 842) hx hb dL_law_837 (by decide) (fun _ => ?_) (fun c8 => absurd ((lg_cmp_eq _ _).mpr (hr9 hk0)) c8)
    refine lv_goto (tgt := 1322) hx hb dL_law_842 (by decide) ?_
    exact KK n ad A2 J1 G1 H locs ls _ _ ⟨hC1, hM2, hG, rfl, rfl, rfl⟩ (by show cells + 1 ≤ cells + 3; omega) (by show slots + 6 ≤ slots + 19; omega) (lv_sub hl [2, 3, 4, 5, 6] rfl)
set_option maxHeartbeats 4000000 in
set_option maxRecDepth 100000 in
theorem law_k18 {p : Program} {e : Env} {s : State} {m : MethodId} {below : List Frame} {meth : Method} {c : Code} {l : Launch} {b L : Nat} {xs : Nat → Int32} {D : va_G} {cy : Nat → ClassId} {a0 a28 a49 : Nat} {Q : State → Prop} (X : LCtx p s m c l b L xs D cy) {i n : Nat} {ad : Nat → Nat} {A : Nat → Nat → Int32} {J : Nat → Nat → Int64} {G : Nat → Nat → Int} {H : Heap} {locs : List Loc} {cells slots : Nat} {ls : Array Slot} (hi : i + 5 ≤ L) (hI : LInv D cy s a0 a28 a49 n ad A J G H locs) (hc : cells + 3 ≤ 601024) (hs : slots + 19 ≤ 7293034) (hl : lv_has ls 7 (lLoc b a0 a28 a49 i)) (KK : ∀ (n1 : Nat) (ad1 : Nat → Nat) (A1 : Nat → Nat → Int32) (J1 : Nat → Nat → Int64) (G1 : Nat → Nat → Int) (H1 : Heap) (locs1 : List Loc) (ls1 : Array Slot) (cells1 slots1 : Nat), LInv D cy s a0 a28 a49 n1 ad1 A1 J1 G1 H1 locs1 → cells1 ≤ cells + 3 → slots1 ≤ slots + 19 → lv_has ls1 7 (lLoc b a0 a28 a49 i) → W p l e room_1 s m #[Value.ref b] below meth c H1 locs1 cells1 slots1 Q (F0 m 1322 ls1 [])) : W p l e room_1 s m #[Value.ref b] below meth c H locs cells slots Q (F0 m 845 ls []) := by
  obtain ⟨hx, hb, hml, hown, hts, hX, hbl, hEL, hst, hL⟩ := X
  obtain ⟨hC, hM, hG, rfl, rfl, rfl⟩ := hI
  obtain ⟨bT, bn, b41, bpa, bta, bol, bpr, bso, bse, bln, brc, bdv, bdr, btl, b37, bnn, b21⟩ := hC.bd
  have hl : lv_has ls 7 [(4, .int (nI i)), (3, .ref (ad 49)), (2, .ref (ad 28)), (1, .ref (ad 0)), (0, .ref b)] := hl
  refine lv_aload_n hx hb dL_law_845 rfl (lv_at hl 3 rfl) ?_
  refine lv_aload_n hx hb dL_law_846 rfl (lv_at hl 4 rfl) ?_
  refine lv_iload hx hb dL_law_847 (lv_at hl 0 rfl) ?_
  refine lv_iconst (v := nI 1) hx hb dL_law_849 (by decide) ?_
  refine lv_iadd hx hb dL_law_850 ?_
  refine g_top (y := nI (i + 1)) (nI_add i 1) ?_
  refine gS_ld hx hb hX hbl hG.2.2 (i := i + 1) rfl (by omega) hL dL_law_851 ?_
  refine lv_aload_n hx hb dL_law_852 rfl (lv_at hl 1 rfl) ?_
  refine gL_callS (As := [.ref (ad 0), .int (xs (i + 1)), .ref (ad 49)]) (rest := []) ⟨hx, hb, hml, hown, hts⟩ hEL hG (cL_valueC l D cy s.heap.size ad n A J (xs (i + 1)) (PX9_value ad A J G n (xs (i + 1)).toInt) (EX9_value ad A J G n (xs (i + 1)).toInt) (by have h9 := cX9_valueC l D cy s.heap.size ad n A J G n (xs (i + 1)).toInt hst rfl hC (z_bound _); simp only [zI_of] at h9; exact h9) (fun v9 A9 J9 h9 => by obtain ⟨_, rfl, -⟩ := h9; exact ⟨_, rfl⟩) (fun e9 A9 J9 h9 => h9.elim (fun h8 => Or.inl h8.1) (fun h8 => Or.inr h8.1))) (vx_cwSW 3 hts gL_law_L_value rfl rfl rfl (by decide +kernel) ⟨(Nat.le_of_ble_eq_true rfl), (Nat.le_of_ble_eq_true rfl)⟩) rfl hl.1 rfl (Nat.le_of_ble_eq_true rfl) dL_law_853 ⟨(by show cells + 2 ≤ 601024; omega), (by show slots + 12 ≤ 7293034; omega)⟩ (fun v9 A1 J1 H locs hq hG => ?_)
  obtain ⟨k, hk2, rfl⟩ := qL2_k hq
  obtain ⟨hM1, hbr⟩ := br_value hC hM hq
  refine W.eq (g2 := F0 m 856 ls [.int (nI k)]) rfl ?_
  refine lv_istore (lv' := [(5, .int (nI k)), (4, .int (nI i)), (3, .ref (ad 49)), (2, .ref (ad 28)), (1, .ref (ad 0)), (0, .ref b)]) hx hb dL_law_856 hl (by decide) rfl (fun ls hl => ?_)
  refine lv_aload_n hx hb dL_law_858 rfl (lv_at hl 3 rfl) ?_
  refine lv_aload_n hx hb dL_law_859 rfl (lv_at hl 5 rfl) ?_
  refine lv_iload hx hb dL_law_860 (lv_at hl 1 rfl) ?_
  refine lv_iconst (v := nI 1) hx hb dL_law_862 (by decide) ?_
  refine lv_iadd hx hb dL_law_863 ?_
  refine g_top (y := nI (i + 1)) (nI_add i 1) ?_
  refine gS_ld hx hb hX hbl hG.2.2 (i := i + 1) rfl (by omega) hL dL_law_864 ?_
  refine g_callV (As := [.int (xs (i + 1))]) (rest := []) (r := (RX10, TX10, 35)) (k := 28) ⟨hx, hb, hml, hown, hts⟩ hEL.1 hG (cX10_valueC l D cy s.heap.size ad n A1 J1 G (xs (i + 1)) hM1 bn b41) (cwV 1 hts gL_law_X10_value rfl rfl rfl (by decide +kernel) ⟨(Nat.le_of_ble_eq_true rfl), (Nat.le_of_ble_eq_true rfl)⟩) (by omega) rfl rfl rfl hl.1 rfl (Nat.le_of_ble_eq_true rfl) dL_law_865 ⟨(by show cells + 2 ≤ 601024; omega), (by show slots + 12 ≤ 7293034; omega)⟩ (fun v_ A2 J2 H locs hp hG => ?_)
  have hJ2 : J1 = J2 := by
    rcases hp with ⟨_, -, -, h9, -⟩ | ⟨-, -, h9, -⟩ | ⟨_, -, -, h9, -⟩
    · exact h9
    · exact h9
    · exact h9
  obtain ⟨k9, r2, G1, hv, rfl, hth, hk9, hr9, hC1, hM2⟩ := hbr _ _ _ hp
  obtain rfl : k = k9 := nI_inj (by omega) (by omega) (Value.int.inj (Option.some.inj hv))
  subst hJ2
  refine W.eq (g2 := F0 m 868 ls [.int r2]) rfl ?_
  refine lv_istore (lv' := [(6, .int r2), (5, .int (nI k)), (4, .int (nI i)), (3, .ref (ad 49)), (2, .ref (ad 28)), (1, .ref (ad 0)), (0, .ref b)]) hx hb dL_law_868 hl (by decide) rfl (fun ls hl => ?_)
  refine lv_aload_n hx hb dL_law_870 rfl (lv_at hl 4 rfl) ?_
  refine g_callV (As := []) (rest := []) (r := (RX10, TX10, 35)) (k := 28) ⟨hx, hb, hml, hown, hts⟩ hEL.1 hG (cX10_thrownC l D cy s.heap.size ad n A2 J1 (k : Int) hth) (cwV 0 hts gL_law_X10_thrown rfl rfl rfl (by decide +kernel) ⟨(Nat.le_of_ble_eq_true rfl), (Nat.le_of_ble_eq_true rfl)⟩) (by omega) rfl rfl rfl hl.1 rfl (Nat.le_of_ble_eq_true rfl) dL_law_871 ⟨(by show cells + 2 ≤ 601024; omega), (by show slots + 12 ≤ 7293034; omega)⟩ (fun v_ A3 J3 H locs hp hG => ?_)
  obtain ⟨rfl, rfl, rfl⟩ := hp
  refine W.eq (g2 := F0 m 874 ls [.int (zI (k : Int))]) rfl ?_
  refine lv_iload hx hb dL_law_874 (lv_at hl 1 rfl) ?_
  refine lv_icmp_eq (tgt := 881) hx hb dL_law_876 (by decide) (fun _ => ?_) (fun c9 => absurd rfl c9)
  refine lv_iload hx hb dL_law_881 (lv_at hl 1 rfl) ?_
  refine lv_if_ne (tgt := 898) hx hb dL_law_883 (by decide) (fun c9 => ?_) (fun c9 => ?_)
  · skip
    refine lv_goto (tgt := 1322) hx hb dL_law_898 (by decide) ?_
    exact KK n ad A2 J1 G1 H locs ls _ _ ⟨hC1, hM2, hG, rfl, rfl, rfl⟩ (by show cells + 2 ≤ cells + 3; omega) (by show slots + 12 ≤ slots + 19; omega) (lv_sub hl [2, 3, 4, 5, 6] rfl)
  · have hk0 : k = 0 := nI_inj (by omega) (by decide) c9
    refine lv_aload_n hx hb dL_law_886 rfl (lv_at hl 3 rfl) ?_
    refine lv_iconst (v := nI 0) hx hb dL_law_887 (by decide) ?_
    refine g_lald hx hb hEL.1 hG (k := 49) (by omega) rfl 0 rfl (by decide) (by decide) dL_law_888 ?_
    refine lv_iload hx hb dL_law_889 (lv_at hl 0 rfl) ?_
    refine lv_i2l (v := r2.toInt64) hx hb dL_law_891 rfl ?_
    refine W.lcmp hx hb dL_law_892 ?_
    refine lv_if_eq (tgt := 898) hx hb dL_law_893 (by decide) (fun _ => ?_) (fun c8 => absurd ((lg_cmp_eq _ _).mpr (hr9 hk0)) c8)
    refine lv_goto (tgt := 1322) hx hb dL_law_898 (by decide) ?_
    exact KK n ad A2 J1 G1 H locs ls _ _ ⟨hC1, hM2, hG, rfl, rfl, rfl⟩ (by show cells + 2 ≤ cells + 3; omega) (by show slots + 12 ≤ slots + 19; omega) (lv_sub hl [2, 3, 4, 5, 6] rfl)
set_option maxHeartbeats 4000000 in
set_option maxRecDepth 100000 in
theorem law_k19 {p : Program} {e : Env} {s : State} {m : MethodId} {below : List Frame} {meth : Method} {c : Code} {l : Launch} {b L : Nat} {xs : Nat → Int32} {D : va_G} {cy : Nat → ClassId} {a0 a28 a49 : Nat} {Q : State → Prop} (X : LCtx p s m c l b L xs D cy) {i n : Nat} {ad : Nat → Nat} {A : Nat → Nat → Int32} {J : Nat → Nat → Int64} {G : Nat → Nat → Int} {H : Heap} {locs : List Loc} {cells slots : Nat} {ls : Array Slot} (hi : i + 5 ≤ L) (hI : LInv D cy s a0 a28 a49 n ad A J G H locs) (hc : cells + 3 ≤ 601024) (hs : slots + 19 ≤ 7293034) (hl : lv_has ls 7 (lLoc b a0 a28 a49 i)) (KK : ∀ (n1 : Nat) (ad1 : Nat → Nat) (A1 : Nat → Nat → Int32) (J1 : Nat → Nat → Int64) (G1 : Nat → Nat → Int) (H1 : Heap) (locs1 : List Loc) (ls1 : Array Slot) (cells1 slots1 : Nat), LInv D cy s a0 a28 a49 n1 ad1 A1 J1 G1 H1 locs1 → cells1 ≤ cells + 3 → slots1 ≤ slots + 19 → lv_has ls1 7 (lLoc b a0 a28 a49 i) → W p l e room_1 s m #[Value.ref b] below meth c H1 locs1 cells1 slots1 Q (F0 m 1322 ls1 [])) : W p l e room_1 s m #[Value.ref b] below meth c H locs cells slots Q (F0 m 901 ls []) := by
  obtain ⟨hx, hb, hml, hown, hts, hX, hbl, hEL, hst, hL⟩ := X
  obtain ⟨hC, hM, hG, rfl, rfl, rfl⟩ := hI
  obtain ⟨bT, bn, b41, bpa, bta, bol, bpr, bso, bse, bln, brc, bdv, bdr, btl, b37, bnn, b21⟩ := hC.bd
  have hl : lv_has ls 7 [(4, .int (nI i)), (3, .ref (ad 49)), (2, .ref (ad 28)), (1, .ref (ad 0)), (0, .ref b)] := hl
  refine lv_aload_n hx hb dL_law_901 rfl (lv_at hl 3 rfl) ?_
  refine lv_aload_n hx hb dL_law_902 rfl (lv_at hl 4 rfl) ?_
  refine lv_iload hx hb dL_law_903 (lv_at hl 0 rfl) ?_
  refine lv_iconst (v := nI 1) hx hb dL_law_905 (by decide) ?_
  refine lv_iadd hx hb dL_law_906 ?_
  refine g_top (y := nI (i + 1)) (nI_add i 1) ?_
  refine gS_ld hx hb hX hbl hG.2.2 (i := i + 1) rfl (by omega) hL dL_law_907 ?_
  refine lv_aload_n hx hb dL_law_908 rfl (lv_at hl 1 rfl) ?_
  refine gL_callS (As := [.ref (ad 0), .int (xs (i + 1)), .ref (ad 49)]) (rest := []) ⟨hx, hb, hml, hown, hts⟩ hEL hG (cL_timeC l D cy s.heap.size ad n A J (xs (i + 1)) (PX9_time ad A J G n (xs (i + 1)).toInt) (EX9_time ad A J G n (xs (i + 1)).toInt) (by have h9 := cX9_timeC l D cy s.heap.size ad n A J G n (xs (i + 1)).toInt hst rfl hC (z_bound _); simp only [zI_of] at h9; exact h9) (fun v9 A9 J9 h9 => by obtain ⟨_, rfl, -⟩ := h9; exact ⟨_, rfl⟩) (fun e9 A9 J9 h9 => h9.elim (fun h8 => Or.inl h8.1) (fun h8 => Or.inr h8.1))) (vx_cwSW 3 hts gL_law_L_time rfl rfl rfl (by decide +kernel) ⟨(Nat.le_of_ble_eq_true rfl), (Nat.le_of_ble_eq_true rfl)⟩) rfl hl.1 rfl (Nat.le_of_ble_eq_true rfl) dL_law_909 ⟨(by show cells + 2 ≤ 601024; omega), (by show slots + 12 ≤ 7293034; omega)⟩ (fun v9 A1 J1 H locs hq hG => ?_)
  obtain ⟨k, hk2, rfl⟩ := qL2_k hq
  obtain ⟨hM1, hbr⟩ := br_time hC hM hq
  refine W.eq (g2 := F0 m 912 ls [.int (nI k)]) rfl ?_
  refine lv_istore (lv' := [(5, .int (nI k)), (4, .int (nI i)), (3, .ref (ad 49)), (2, .ref (ad 28)), (1, .ref (ad 0)), (0, .ref b)]) hx hb dL_law_912 hl (by decide) rfl (fun ls hl => ?_)
  refine lv_aload_n hx hb dL_law_914 rfl (lv_at hl 3 rfl) ?_
  refine lv_aload_n hx hb dL_law_915 rfl (lv_at hl 5 rfl) ?_
  refine lv_iload hx hb dL_law_916 (lv_at hl 1 rfl) ?_
  refine lv_iconst (v := nI 1) hx hb dL_law_918 (by decide) ?_
  refine lv_iadd hx hb dL_law_919 ?_
  refine g_top (y := nI (i + 1)) (nI_add i 1) ?_
  refine gS_ld hx hb hX hbl hG.2.2 (i := i + 1) rfl (by omega) hL dL_law_920 ?_
  refine g_callV (As := [.int (xs (i + 1))]) (rest := []) (r := (RX10, TX10, 35)) (k := 28) ⟨hx, hb, hml, hown, hts⟩ hEL.1 hG (cX10_timeC l D cy s.heap.size ad n A1 J1 G (xs (i + 1)) hM1 bn b41) (cwV 1 hts gL_law_X10_time rfl rfl rfl (by decide +kernel) ⟨(Nat.le_of_ble_eq_true rfl), (Nat.le_of_ble_eq_true rfl)⟩) (by omega) rfl rfl rfl hl.1 rfl (Nat.le_of_ble_eq_true rfl) dL_law_921 ⟨(by show cells + 2 ≤ 601024; omega), (by show slots + 12 ≤ 7293034; omega)⟩ (fun v_ A2 J2 H locs hp hG => ?_)
  have hJ2 : J1 = J2 := by
    rcases hp with ⟨_, -, -, h9, -⟩ | ⟨-, -, h9, -⟩ | ⟨_, -, -, h9, -⟩
    · exact h9
    · exact h9
    · exact h9
  obtain ⟨k9, r2, G1, hv, rfl, hth, hk9, hr9, hC1, hM2⟩ := hbr _ _ _ hp
  obtain rfl : k = k9 := nI_inj (by omega) (by omega) (Value.int.inj (Option.some.inj hv))
  subst hJ2
  refine W.eq (g2 := F0 m 924 ls [.int r2]) rfl ?_
  refine lv_istore (lv' := [(6, .int r2), (5, .int (nI k)), (4, .int (nI i)), (3, .ref (ad 49)), (2, .ref (ad 28)), (1, .ref (ad 0)), (0, .ref b)]) hx hb dL_law_924 hl (by decide) rfl (fun ls hl => ?_)
  refine lv_aload_n hx hb dL_law_926 rfl (lv_at hl 4 rfl) ?_
  refine g_callV (As := []) (rest := []) (r := (RX10, TX10, 35)) (k := 28) ⟨hx, hb, hml, hown, hts⟩ hEL.1 hG (cX10_thrownC l D cy s.heap.size ad n A2 J1 (k : Int) hth) (cwV 0 hts gL_law_X10_thrown rfl rfl rfl (by decide +kernel) ⟨(Nat.le_of_ble_eq_true rfl), (Nat.le_of_ble_eq_true rfl)⟩) (by omega) rfl rfl rfl hl.1 rfl (Nat.le_of_ble_eq_true rfl) dL_law_927 ⟨(by show cells + 2 ≤ 601024; omega), (by show slots + 12 ≤ 7293034; omega)⟩ (fun v_ A3 J3 H locs hp hG => ?_)
  obtain ⟨rfl, rfl, rfl⟩ := hp
  refine W.eq (g2 := F0 m 930 ls [.int (zI (k : Int))]) rfl ?_
  refine lv_iload hx hb dL_law_930 (lv_at hl 1 rfl) ?_
  refine lv_icmp_eq (tgt := 937) hx hb dL_law_932 (by decide) (fun _ => ?_) (fun c9 => absurd rfl c9)
  refine lv_iload hx hb dL_law_937 (lv_at hl 1 rfl) ?_
  refine lv_if_ne (tgt := 954) hx hb dL_law_939 (by decide) (fun c9 => ?_) (fun c9 => ?_)
  · skip
    refine lv_goto (tgt := 1322) hx hb dL_law_954 (by decide) ?_
    exact KK n ad A2 J1 G1 H locs ls _ _ ⟨hC1, hM2, hG, rfl, rfl, rfl⟩ (by show cells + 2 ≤ cells + 3; omega) (by show slots + 12 ≤ slots + 19; omega) (lv_sub hl [2, 3, 4, 5, 6] rfl)
  · have hk0 : k = 0 := nI_inj (by omega) (by decide) c9
    refine lv_aload_n hx hb dL_law_942 rfl (lv_at hl 3 rfl) ?_
    refine lv_iconst (v := nI 0) hx hb dL_law_943 (by decide) ?_
    refine g_lald hx hb hEL.1 hG (k := 49) (by omega) rfl 0 rfl (by decide) (by decide) dL_law_944 ?_
    refine lv_iload hx hb dL_law_945 (lv_at hl 0 rfl) ?_
    refine lv_i2l (v := r2.toInt64) hx hb dL_law_947 rfl ?_
    refine W.lcmp hx hb dL_law_948 ?_
    refine lv_if_eq (tgt := 954) hx hb dL_law_949 (by decide) (fun _ => ?_) (fun c8 => absurd ((lg_cmp_eq _ _).mpr (hr9 hk0)) c8)
    refine lv_goto (tgt := 1322) hx hb dL_law_954 (by decide) ?_
    exact KK n ad A2 J1 G1 H locs ls _ _ ⟨hC1, hM2, hG, rfl, rfl, rfl⟩ (by show cells + 2 ≤ cells + 3; omega) (by show slots + 12 ≤ slots + 19; omega) (lv_sub hl [2, 3, 4, 5, 6] rfl)
set_option maxHeartbeats 4000000 in
set_option maxRecDepth 100000 in
theorem law_k20 {p : Program} {e : Env} {s : State} {m : MethodId} {below : List Frame} {meth : Method} {c : Code} {l : Launch} {b L : Nat} {xs : Nat → Int32} {D : va_G} {cy : Nat → ClassId} {a0 a28 a49 : Nat} {Q : State → Prop} (X : LCtx p s m c l b L xs D cy) {i n : Nat} {ad : Nat → Nat} {A : Nat → Nat → Int32} {J : Nat → Nat → Int64} {G : Nat → Nat → Int} {H : Heap} {locs : List Loc} {cells slots : Nat} {ls : Array Slot} (hi : i + 5 ≤ L) (hI : LInv D cy s a0 a28 a49 n ad A J G H locs) (hc : cells + 3 ≤ 601024) (hs : slots + 19 ≤ 7293034) (hl : lv_has ls 7 (lLoc b a0 a28 a49 i)) (KK : ∀ (n1 : Nat) (ad1 : Nat → Nat) (A1 : Nat → Nat → Int32) (J1 : Nat → Nat → Int64) (G1 : Nat → Nat → Int) (H1 : Heap) (locs1 : List Loc) (ls1 : Array Slot) (cells1 slots1 : Nat), LInv D cy s a0 a28 a49 n1 ad1 A1 J1 G1 H1 locs1 → cells1 ≤ cells + 3 → slots1 ≤ slots + 19 → lv_has ls1 7 (lLoc b a0 a28 a49 i) → W p l e room_1 s m #[Value.ref b] below meth c H1 locs1 cells1 slots1 Q (F0 m 1322 ls1 [])) : W p l e room_1 s m #[Value.ref b] below meth c H locs cells slots Q (F0 m 957 ls []) := by
  obtain ⟨hx, hb, hml, hown, hts, hX, hbl, hEL, hst, hL⟩ := X
  obtain ⟨hC, hM, hG, rfl, rfl, rfl⟩ := hI
  obtain ⟨bT, bn, b41, bpa, bta, bol, bpr, bso, bse, bln, brc, bdv, bdr, btl, b37, bnn, b21⟩ := hC.bd
  have hl : lv_has ls 7 [(4, .int (nI i)), (3, .ref (ad 49)), (2, .ref (ad 28)), (1, .ref (ad 0)), (0, .ref b)] := hl
  refine lv_aload_n hx hb dL_law_957 rfl (lv_at hl 3 rfl) ?_
  refine lv_aload_n hx hb dL_law_958 rfl (lv_at hl 4 rfl) ?_
  refine lv_iload hx hb dL_law_959 (lv_at hl 0 rfl) ?_
  refine lv_iconst (v := nI 1) hx hb dL_law_961 (by decide) ?_
  refine lv_iadd hx hb dL_law_962 ?_
  refine g_top (y := nI (i + 1)) (nI_add i 1) ?_
  refine gS_ld hx hb hX hbl hG.2.2 (i := i + 1) rfl (by omega) hL dL_law_963 ?_
  refine lv_aload_n hx hb dL_law_964 rfl (lv_at hl 1 rfl) ?_
  refine gL_callS (As := [.ref (ad 0), .int (xs (i + 1)), .ref (ad 49)]) (rest := []) ⟨hx, hb, hml, hown, hts⟩ hEL hG (cL_samplesC l D cy s.heap.size ad n A J (xs (i + 1)) (PX9_samples ad A J G n (xs (i + 1)).toInt) (EX9_samples ad A J G n (xs (i + 1)).toInt) (by have h9 := cX9_samplesC l D cy s.heap.size ad n A J G n (xs (i + 1)).toInt hst rfl hC (z_bound _); simp only [zI_of] at h9; exact h9) (fun v9 A9 J9 h9 => by obtain ⟨_, rfl, -⟩ := h9; exact ⟨_, rfl⟩) (fun e9 A9 J9 h9 => h9.1)) (vx_cwSW 3 hts gL_law_L_samples rfl rfl rfl (by decide +kernel) ⟨(Nat.le_of_ble_eq_true rfl), (Nat.le_of_ble_eq_true rfl)⟩) rfl hl.1 rfl (Nat.le_of_ble_eq_true rfl) dL_law_965 ⟨(by show cells + 1 ≤ 601024; omega), (by show slots + 6 ≤ 7293034; omega)⟩ (fun v9 A1 J1 H locs hq hG => ?_)
  obtain ⟨k, hk2, rfl⟩ := qL1_k hq
  obtain ⟨hM1, hbr⟩ := br_samples hC hM hq
  refine W.eq (g2 := F0 m 968 ls [.int (nI k)]) rfl ?_
  refine lv_istore (lv' := [(5, .int (nI k)), (4, .int (nI i)), (3, .ref (ad 49)), (2, .ref (ad 28)), (1, .ref (ad 0)), (0, .ref b)]) hx hb dL_law_968 hl (by decide) rfl (fun ls hl => ?_)
  refine lv_aload_n hx hb dL_law_970 rfl (lv_at hl 3 rfl) ?_
  refine lv_aload_n hx hb dL_law_971 rfl (lv_at hl 5 rfl) ?_
  refine lv_iload hx hb dL_law_972 (lv_at hl 1 rfl) ?_
  refine lv_iconst (v := nI 1) hx hb dL_law_974 (by decide) ?_
  refine lv_iadd hx hb dL_law_975 ?_
  refine g_top (y := nI (i + 1)) (nI_add i 1) ?_
  refine gS_ld hx hb hX hbl hG.2.2 (i := i + 1) rfl (by omega) hL dL_law_976 ?_
  refine g_callV (As := [.int (xs (i + 1))]) (rest := []) (r := (RX10, TX10, 35)) (k := 28) ⟨hx, hb, hml, hown, hts⟩ hEL.1 hG (cX10_samplesC l D cy s.heap.size ad n A1 J1 G (xs (i + 1)) hM1 bn) (cwV 1 hts gL_law_X10_samples rfl rfl rfl (by decide +kernel) ⟨(Nat.le_of_ble_eq_true rfl), (Nat.le_of_ble_eq_true rfl)⟩) (by omega) rfl rfl rfl hl.1 rfl (Nat.le_of_ble_eq_true rfl) dL_law_977 ⟨(by show cells + 1 ≤ 601024; omega), (by show slots + 6 ≤ 7293034; omega)⟩ (fun v_ A2 J2 H locs hp hG => ?_)
  have hJ2 : J1 = J2 := by
    rcases hp with ⟨_, -, -, h9, -⟩ | ⟨-, -, h9, -⟩
    · exact h9
    · exact h9
  obtain ⟨k9, r2, G1, hv, rfl, hth, hk9, hr9, hC1, hM2⟩ := hbr _ _ _ hp
  obtain rfl : k = k9 := nI_inj (by omega) (by omega) (Value.int.inj (Option.some.inj hv))
  subst hJ2
  refine W.eq (g2 := F0 m 980 ls [.int r2]) rfl ?_
  refine lv_istore (lv' := [(6, .int r2), (5, .int (nI k)), (4, .int (nI i)), (3, .ref (ad 49)), (2, .ref (ad 28)), (1, .ref (ad 0)), (0, .ref b)]) hx hb dL_law_980 hl (by decide) rfl (fun ls hl => ?_)
  refine lv_aload_n hx hb dL_law_982 rfl (lv_at hl 4 rfl) ?_
  refine g_callV (As := []) (rest := []) (r := (RX10, TX10, 35)) (k := 28) ⟨hx, hb, hml, hown, hts⟩ hEL.1 hG (cX10_thrownC l D cy s.heap.size ad n A2 J1 (k : Int) hth) (cwV 0 hts gL_law_X10_thrown rfl rfl rfl (by decide +kernel) ⟨(Nat.le_of_ble_eq_true rfl), (Nat.le_of_ble_eq_true rfl)⟩) (by omega) rfl rfl rfl hl.1 rfl (Nat.le_of_ble_eq_true rfl) dL_law_983 ⟨(by show cells + 1 ≤ 601024; omega), (by show slots + 6 ≤ 7293034; omega)⟩ (fun v_ A3 J3 H locs hp hG => ?_)
  obtain ⟨rfl, rfl, rfl⟩ := hp
  refine W.eq (g2 := F0 m 986 ls [.int (zI (k : Int))]) rfl ?_
  refine lv_iload hx hb dL_law_986 (lv_at hl 1 rfl) ?_
  refine lv_icmp_eq (tgt := 993) hx hb dL_law_988 (by decide) (fun _ => ?_) (fun c9 => absurd rfl c9)
  refine lv_iload hx hb dL_law_993 (lv_at hl 1 rfl) ?_
  refine lv_if_ne (tgt := 1010) hx hb dL_law_995 (by decide) (fun c9 => ?_) (fun c9 => ?_)
  · skip
    refine lv_goto (tgt := 1322) hx hb dL_law_1010 (by decide) ?_
    exact KK n ad A2 J1 G1 H locs ls _ _ ⟨hC1, hM2, hG, rfl, rfl, rfl⟩ (by show cells + 1 ≤ cells + 3; omega) (by show slots + 6 ≤ slots + 19; omega) (lv_sub hl [2, 3, 4, 5, 6] rfl)
  · have hk0 : k = 0 := nI_inj (by omega) (by decide) c9
    refine lv_aload_n hx hb dL_law_998 rfl (lv_at hl 3 rfl) ?_
    refine lv_iconst (v := nI 0) hx hb dL_law_999 (by decide) ?_
    refine g_lald hx hb hEL.1 hG (k := 49) (by omega) rfl 0 rfl (by decide) (by decide) dL_law_1000 ?_
    refine lv_iload hx hb dL_law_1001 (lv_at hl 0 rfl) ?_
    refine lv_i2l (v := r2.toInt64) hx hb dL_law_1003 rfl ?_
    refine W.lcmp hx hb dL_law_1004 ?_
    refine lv_if_eq (tgt := 1010) hx hb dL_law_1005 (by decide) (fun _ => ?_) (fun c8 => absurd ((lg_cmp_eq _ _).mpr (hr9 hk0)) c8)
    refine lv_goto (tgt := 1322) hx hb dL_law_1010 (by decide) ?_
    exact KK n ad A2 J1 G1 H locs ls _ _ ⟨hC1, hM2, hG, rfl, rfl, rfl⟩ (by show cells + 1 ≤ cells + 3; omega) (by show slots + 6 ≤ slots + 19; omega) (lv_sub hl [2, 3, 4, 5, 6] rfl)
set_option maxHeartbeats 4000000 in
set_option maxRecDepth 100000 in
theorem law_k21 {p : Program} {e : Env} {s : State} {m : MethodId} {below : List Frame} {meth : Method} {c : Code} {l : Launch} {b L : Nat} {xs : Nat → Int32} {D : va_G} {cy : Nat → ClassId} {a0 a28 a49 : Nat} {Q : State → Prop} (X : LCtx p s m c l b L xs D cy) {i n : Nat} {ad : Nat → Nat} {A : Nat → Nat → Int32} {J : Nat → Nat → Int64} {G : Nat → Nat → Int} {H : Heap} {locs : List Loc} {cells slots : Nat} {ls : Array Slot} (hi : i + 5 ≤ L) (hI : LInv D cy s a0 a28 a49 n ad A J G H locs) (hc : cells + 3 ≤ 601024) (hs : slots + 19 ≤ 7293034) (hl : lv_has ls 7 (lLoc b a0 a28 a49 i)) (KK : ∀ (n1 : Nat) (ad1 : Nat → Nat) (A1 : Nat → Nat → Int32) (J1 : Nat → Nat → Int64) (G1 : Nat → Nat → Int) (H1 : Heap) (locs1 : List Loc) (ls1 : Array Slot) (cells1 slots1 : Nat), LInv D cy s a0 a28 a49 n1 ad1 A1 J1 G1 H1 locs1 → cells1 ≤ cells + 3 → slots1 ≤ slots + 19 → lv_has ls1 7 (lLoc b a0 a28 a49 i) → W p l e room_1 s m #[Value.ref b] below meth c H1 locs1 cells1 slots1 Q (F0 m 1322 ls1 [])) : W p l e room_1 s m #[Value.ref b] below meth c H locs cells slots Q (F0 m 1013 ls []) := by
  obtain ⟨hx, hb, hml, hown, hts, hX, hbl, hEL, hst, hL⟩ := X
  obtain ⟨hC, hM, hG, rfl, rfl, rfl⟩ := hI
  obtain ⟨bT, bn, b41, bpa, bta, bol, bpr, bso, bse, bln, brc, bdv, bdr, btl, b37, bnn, b21⟩ := hC.bd
  have hl : lv_has ls 7 [(4, .int (nI i)), (3, .ref (ad 49)), (2, .ref (ad 28)), (1, .ref (ad 0)), (0, .ref b)] := hl
  refine lv_aload_n hx hb dL_law_1013 rfl (lv_at hl 3 rfl) ?_
  refine lv_aload_n hx hb dL_law_1014 rfl (lv_at hl 4 rfl) ?_
  refine lv_iload hx hb dL_law_1015 (lv_at hl 0 rfl) ?_
  refine lv_iconst (v := nI 1) hx hb dL_law_1017 (by decide) ?_
  refine lv_iadd hx hb dL_law_1018 ?_
  refine g_top (y := nI (i + 1)) (nI_add i 1) ?_
  refine gS_ld hx hb hX hbl hG.2.2 (i := i + 1) rfl (by omega) hL dL_law_1019 ?_
  refine lv_aload_n hx hb dL_law_1020 rfl (lv_at hl 1 rfl) ?_
  refine gL_callS (As := [.ref (ad 0), .int (xs (i + 1)), .ref (ad 49)]) (rest := []) ⟨hx, hb, hml, hown, hts⟩ hEL hG (cL_missingC l D cy s.heap.size ad n A J (xs (i + 1)) (PX9_missing ad A J G n (xs (i + 1)).toInt) (EX9_missing ad A J G n (xs (i + 1)).toInt) (by have h9 := cX9_missingC l D cy s.heap.size ad n A J G n (xs (i + 1)).toInt hst rfl hC (z_bound _); simp only [zI_of] at h9; exact h9) (fun v9 A9 J9 h9 => by obtain ⟨_, rfl, -⟩ := h9; exact ⟨_, rfl⟩) (fun e9 A9 J9 h9 => h9.1)) (vx_cwSW 3 hts gL_law_L_missing rfl rfl rfl (by decide +kernel) ⟨(Nat.le_of_ble_eq_true rfl), (Nat.le_of_ble_eq_true rfl)⟩) rfl hl.1 rfl (Nat.le_of_ble_eq_true rfl) dL_law_1021 ⟨(by show cells + 1 ≤ 601024; omega), (by show slots + 6 ≤ 7293034; omega)⟩ (fun v9 A1 J1 H locs hq hG => ?_)
  obtain ⟨k, hk2, rfl⟩ := qL1_k hq
  obtain ⟨hM1, hbr⟩ := br_missing hC hM hq
  refine W.eq (g2 := F0 m 1024 ls [.int (nI k)]) rfl ?_
  refine lv_istore (lv' := [(5, .int (nI k)), (4, .int (nI i)), (3, .ref (ad 49)), (2, .ref (ad 28)), (1, .ref (ad 0)), (0, .ref b)]) hx hb dL_law_1024 hl (by decide) rfl (fun ls hl => ?_)
  refine lv_aload_n hx hb dL_law_1026 rfl (lv_at hl 3 rfl) ?_
  refine lv_aload_n hx hb dL_law_1027 rfl (lv_at hl 5 rfl) ?_
  refine lv_iload hx hb dL_law_1028 (lv_at hl 1 rfl) ?_
  refine lv_iconst (v := nI 1) hx hb dL_law_1030 (by decide) ?_
  refine lv_iadd hx hb dL_law_1031 ?_
  refine g_top (y := nI (i + 1)) (nI_add i 1) ?_
  refine gS_ld hx hb hX hbl hG.2.2 (i := i + 1) rfl (by omega) hL dL_law_1032 ?_
  refine g_callV (As := [.int (xs (i + 1))]) (rest := []) (r := (RX10, TX10, 35)) (k := 28) ⟨hx, hb, hml, hown, hts⟩ hEL.1 hG (cX10_missingC l D cy s.heap.size ad n A1 J1 G (xs (i + 1)) hM1 bn) (cwV 1 hts gL_law_X10_missing rfl rfl rfl (by decide +kernel) ⟨(Nat.le_of_ble_eq_true rfl), (Nat.le_of_ble_eq_true rfl)⟩) (by omega) rfl rfl rfl hl.1 rfl (Nat.le_of_ble_eq_true rfl) dL_law_1033 ⟨(by show cells + 1 ≤ 601024; omega), (by show slots + 6 ≤ 7293034; omega)⟩ (fun v_ A2 J2 H locs hp hG => ?_)
  have hJ2 : J1 = J2 := by
    rcases hp with ⟨_, -, -, h9, -⟩ | ⟨-, -, h9, -⟩
    · exact h9
    · exact h9
  obtain ⟨k9, r2, G1, hv, rfl, hth, hk9, hr9, hC1, hM2⟩ := hbr _ _ _ hp
  obtain rfl : k = k9 := nI_inj (by omega) (by omega) (Value.int.inj (Option.some.inj hv))
  subst hJ2
  refine W.eq (g2 := F0 m 1036 ls [.int r2]) rfl ?_
  refine lv_istore (lv' := [(6, .int r2), (5, .int (nI k)), (4, .int (nI i)), (3, .ref (ad 49)), (2, .ref (ad 28)), (1, .ref (ad 0)), (0, .ref b)]) hx hb dL_law_1036 hl (by decide) rfl (fun ls hl => ?_)
  refine lv_aload_n hx hb dL_law_1038 rfl (lv_at hl 4 rfl) ?_
  refine g_callV (As := []) (rest := []) (r := (RX10, TX10, 35)) (k := 28) ⟨hx, hb, hml, hown, hts⟩ hEL.1 hG (cX10_thrownC l D cy s.heap.size ad n A2 J1 (k : Int) hth) (cwV 0 hts gL_law_X10_thrown rfl rfl rfl (by decide +kernel) ⟨(Nat.le_of_ble_eq_true rfl), (Nat.le_of_ble_eq_true rfl)⟩) (by omega) rfl rfl rfl hl.1 rfl (Nat.le_of_ble_eq_true rfl) dL_law_1039 ⟨(by show cells + 1 ≤ 601024; omega), (by show slots + 6 ≤ 7293034; omega)⟩ (fun v_ A3 J3 H locs hp hG => ?_)
  obtain ⟨rfl, rfl, rfl⟩ := hp
  refine W.eq (g2 := F0 m 1042 ls [.int (zI (k : Int))]) rfl ?_
  refine lv_iload hx hb dL_law_1042 (lv_at hl 1 rfl) ?_
  refine lv_icmp_eq (tgt := 1049) hx hb dL_law_1044 (by decide) (fun _ => ?_) (fun c9 => absurd rfl c9)
  refine lv_iload hx hb dL_law_1049 (lv_at hl 1 rfl) ?_
  refine lv_if_ne (tgt := 1066) hx hb dL_law_1051 (by decide) (fun c9 => ?_) (fun c9 => ?_)
  · skip
    refine lv_goto (tgt := 1322) hx hb dL_law_1066 (by decide) ?_
    exact KK n ad A2 J1 G1 H locs ls _ _ ⟨hC1, hM2, hG, rfl, rfl, rfl⟩ (by show cells + 1 ≤ cells + 3; omega) (by show slots + 6 ≤ slots + 19; omega) (lv_sub hl [2, 3, 4, 5, 6] rfl)
  · have hk0 : k = 0 := nI_inj (by omega) (by decide) c9
    refine lv_aload_n hx hb dL_law_1054 rfl (lv_at hl 3 rfl) ?_
    refine lv_iconst (v := nI 0) hx hb dL_law_1055 (by decide) ?_
    refine g_lald hx hb hEL.1 hG (k := 49) (by omega) rfl 0 rfl (by decide) (by decide) dL_law_1056 ?_
    refine lv_iload hx hb dL_law_1057 (lv_at hl 0 rfl) ?_
    refine lv_i2l (v := r2.toInt64) hx hb dL_law_1059 rfl ?_
    refine W.lcmp hx hb dL_law_1060 ?_
    refine lv_if_eq (tgt := 1066) hx hb dL_law_1061 (by decide) (fun _ => ?_) (fun c8 => absurd ((lg_cmp_eq _ _).mpr (hr9 hk0)) c8)
    refine lv_goto (tgt := 1322) hx hb dL_law_1066 (by decide) ?_
    exact KK n ad A2 J1 G1 H locs ls _ _ ⟨hC1, hM2, hG, rfl, rfl, rfl⟩ (by show cells + 1 ≤ cells + 3; omega) (by show slots + 6 ≤ slots + 19; omega) (lv_sub hl [2, 3, 4, 5, 6] rfl)
set_option maxHeartbeats 4000000 in
set_option maxRecDepth 100000 in
theorem law_k22 {p : Program} {e : Env} {s : State} {m : MethodId} {below : List Frame} {meth : Method} {c : Code} {l : Launch} {b L : Nat} {xs : Nat → Int32} {D : va_G} {cy : Nat → ClassId} {a0 a28 a49 : Nat} {Q : State → Prop} (X : LCtx p s m c l b L xs D cy) {i n : Nat} {ad : Nat → Nat} {A : Nat → Nat → Int32} {J : Nat → Nat → Int64} {G : Nat → Nat → Int} {H : Heap} {locs : List Loc} {cells slots : Nat} {ls : Array Slot} (hi : i + 5 ≤ L) (hI : LInv D cy s a0 a28 a49 n ad A J G H locs) (hc : cells + 3 ≤ 601024) (hs : slots + 19 ≤ 7293034) (hl : lv_has ls 7 (lLoc b a0 a28 a49 i)) (KK : ∀ (n1 : Nat) (ad1 : Nat → Nat) (A1 : Nat → Nat → Int32) (J1 : Nat → Nat → Int64) (G1 : Nat → Nat → Int) (H1 : Heap) (locs1 : List Loc) (ls1 : Array Slot) (cells1 slots1 : Nat), LInv D cy s a0 a28 a49 n1 ad1 A1 J1 G1 H1 locs1 → cells1 ≤ cells + 3 → slots1 ≤ slots + 19 → lv_has ls1 7 (lLoc b a0 a28 a49 i) → W p l e room_1 s m #[Value.ref b] below meth c H1 locs1 cells1 slots1 Q (F0 m 1322 ls1 [])) : W p l e room_1 s m #[Value.ref b] below meth c H locs cells slots Q (F0 m 1069 ls []) := by
  obtain ⟨hx, hb, hml, hown, hts, hX, hbl, hEL, hst, hL⟩ := X
  obtain ⟨hC, hM, hG, rfl, rfl, rfl⟩ := hI
  obtain ⟨bT, bn, b41, bpa, bta, bol, bpr, bso, bse, bln, brc, bdv, bdr, btl, b37, bnn, b21⟩ := hC.bd
  have hl : lv_has ls 7 [(4, .int (nI i)), (3, .ref (ad 49)), (2, .ref (ad 28)), (1, .ref (ad 0)), (0, .ref b)] := hl
  refine lv_aload_n hx hb dL_law_1069 rfl (lv_at hl 3 rfl) ?_
  refine lv_aload_n hx hb dL_law_1070 rfl (lv_at hl 4 rfl) ?_
  refine lv_iload hx hb dL_law_1071 (lv_at hl 0 rfl) ?_
  refine lv_iconst (v := nI 1) hx hb dL_law_1073 (by decide) ?_
  refine lv_iadd hx hb dL_law_1074 ?_
  refine g_top (y := nI (i + 1)) (nI_add i 1) ?_
  refine gS_ld hx hb hX hbl hG.2.2 (i := i + 1) rfl (by omega) hL dL_law_1075 ?_
  refine lv_aload_n hx hb dL_law_1076 rfl (lv_at hl 4 rfl) ?_
  refine lv_iload hx hb dL_law_1077 (lv_at hl 0 rfl) ?_
  refine lv_iconst (v := nI 2) hx hb dL_law_1079 (by decide) ?_
  refine lv_iadd hx hb dL_law_1080 ?_
  refine g_top (y := nI (i + 2)) (nI_add i 2) ?_
  refine gS_ld hx hb hX hbl hG.2.2 (i := i + 2) rfl (by omega) hL dL_law_1081 ?_
  refine lv_aload_n hx hb dL_law_1082 rfl (lv_at hl 4 rfl) ?_
  refine lv_iload hx hb dL_law_1083 (lv_at hl 0 rfl) ?_
  refine lv_iconst (v := nI 3) hx hb dL_law_1085 (by decide) ?_
  refine lv_iadd hx hb dL_law_1086 ?_
  refine g_top (y := nI (i + 3)) (nI_add i 3) ?_
  refine gS_ld hx hb hX hbl hG.2.2 (i := i + 3) rfl (by omega) hL dL_law_1087 ?_
  refine lv_aload_n hx hb dL_law_1088 rfl (lv_at hl 4 rfl) ?_
  refine lv_iload hx hb dL_law_1089 (lv_at hl 0 rfl) ?_
  refine lv_iconst (v := nI 4) hx hb dL_law_1091 (by decide) ?_
  refine lv_iadd hx hb dL_law_1092 ?_
  refine g_top (y := nI (i + 4)) (nI_add i 4) ?_
  refine gS_ld hx hb hX hbl hG.2.2 (i := i + 4) rfl (by omega) hL dL_law_1093 ?_
  refine gL_callS (As := [.ref (ad 0), .int (xs (i + 1)), .int (xs (i + 2)), .int (xs (i + 3)), .int (xs (i + 4))]) (rest := []) ⟨hx, hb, hml, hown, hts⟩ hEL hG (cL_deriveC l D cy s.heap.size ad n A J (xs (i + 1)) (xs (i + 2)) (xs (i + 3)) (xs (i + 4)) (PX9_derive ad A J G n (xs (i + 1)).toInt (xs (i + 2)).toInt (xs (i + 3)).toInt (xs (i + 4)).toInt) (EX9_derive ad A J G n (xs (i + 1)).toInt (xs (i + 2)).toInt (xs (i + 3)).toInt (xs (i + 4)).toInt) (by have h9 := cX9_deriveC l D cy s.heap.size ad n A J G n (xs (i + 1)).toInt (xs (i + 2)).toInt (xs (i + 3)).toInt (xs (i + 4)).toInt hst rfl hC (z_bound _) (z_bound _) (z_bound _) (z_bound _); simp only [zI_of] at h9; exact h9) (fun v9 A9 J9 h9 => h9.1) (fun e9 A9 J9 h9 => h9.elim (fun h8 => Or.inl h8.1) (fun h8 => Or.inr h8.1))) (vx_cwSW 5 hts gL_law_L_derive rfl rfl rfl (by decide +kernel) ⟨(Nat.le_of_ble_eq_true rfl), (Nat.le_of_ble_eq_true rfl)⟩) rfl hl.1 rfl (Nat.le_of_ble_eq_true rfl) dL_law_1094 ⟨(by show cells + 1 ≤ 601024; omega), (by show slots + 6 ≤ 7293034; omega)⟩ (fun v9 A1 J1 H locs hq hG => ?_)
  obtain ⟨k, hk2, rfl⟩ : ∃ k : Nat, k ≤ 2 ∧ v9 = some (.int (nI k)) := by
    rcases hq with ⟨rfl, -⟩ | ⟨rfl, -⟩ | ⟨rfl, -⟩
    · exact ⟨0, by decide, rfl⟩
    · exact ⟨1, by decide, rfl⟩
    · exact ⟨2, by decide, rfl⟩
  obtain ⟨hM1, hbr⟩ := br_derive hC hM hq
  refine W.eq (g2 := F0 m 1097 ls [.int (nI k)]) rfl ?_
  refine lv_istore (lv' := [(5, .int (nI k)), (4, .int (nI i)), (3, .ref (ad 49)), (2, .ref (ad 28)), (1, .ref (ad 0)), (0, .ref b)]) hx hb dL_law_1097 hl (by decide) rfl (fun ls hl => ?_)
  refine lv_aload_n hx hb dL_law_1099 rfl (lv_at hl 3 rfl) ?_
  refine lv_aload_n hx hb dL_law_1100 rfl (lv_at hl 5 rfl) ?_
  refine lv_iload hx hb dL_law_1101 (lv_at hl 1 rfl) ?_
  refine lv_iconst (v := nI 1) hx hb dL_law_1103 (by decide) ?_
  refine lv_iadd hx hb dL_law_1104 ?_
  refine g_top (y := nI (i + 1)) (nI_add i 1) ?_
  refine gS_ld hx hb hX hbl hG.2.2 (i := i + 1) rfl (by omega) hL dL_law_1105 ?_
  refine lv_aload_n hx hb dL_law_1106 rfl (lv_at hl 5 rfl) ?_
  refine lv_iload hx hb dL_law_1107 (lv_at hl 1 rfl) ?_
  refine lv_iconst (v := nI 2) hx hb dL_law_1109 (by decide) ?_
  refine lv_iadd hx hb dL_law_1110 ?_
  refine g_top (y := nI (i + 2)) (nI_add i 2) ?_
  refine gS_ld hx hb hX hbl hG.2.2 (i := i + 2) rfl (by omega) hL dL_law_1111 ?_
  refine lv_aload_n hx hb dL_law_1112 rfl (lv_at hl 5 rfl) ?_
  refine lv_iload hx hb dL_law_1113 (lv_at hl 1 rfl) ?_
  refine lv_iconst (v := nI 3) hx hb dL_law_1115 (by decide) ?_
  refine lv_iadd hx hb dL_law_1116 ?_
  refine g_top (y := nI (i + 3)) (nI_add i 3) ?_
  refine gS_ld hx hb hX hbl hG.2.2 (i := i + 3) rfl (by omega) hL dL_law_1117 ?_
  refine lv_aload_n hx hb dL_law_1118 rfl (lv_at hl 5 rfl) ?_
  refine lv_iload hx hb dL_law_1119 (lv_at hl 1 rfl) ?_
  refine lv_iconst (v := nI 4) hx hb dL_law_1121 (by decide) ?_
  refine lv_iadd hx hb dL_law_1122 ?_
  refine g_top (y := nI (i + 4)) (nI_add i 4) ?_
  refine gS_ld hx hb hX hbl hG.2.2 (i := i + 4) rfl (by omega) hL dL_law_1123 ?_
  refine g_callV (As := [.int (xs (i + 1)), .int (xs (i + 2)), .int (xs (i + 3)), .int (xs (i + 4))]) (rest := []) (r := (RX10, TX10, 35)) (k := 28) ⟨hx, hb, hml, hown, hts⟩ hEL.1 hG (by have h9 := cX10_deriveC l D cy s.heap.size ad n A1 J1 G ((xs (i + 1)).toInt) ((xs (i + 2)).toInt) ((xs (i + 3)).toInt) ((xs (i + 4)).toInt) hM1 bdv (z_bound _) (z_bound _) (z_bound _) (z_bound _); simp only [zI_of] at h9; exact h9) (cwV 4 hts gL_law_X10_derive rfl rfl rfl (by decide +kernel) ⟨(Nat.le_of_ble_eq_true rfl), (Nat.le_of_ble_eq_true rfl)⟩) (by omega) rfl rfl rfl hl.1 rfl (Nat.le_of_ble_eq_true rfl) dL_law_1124 ⟨(by show cells + 1 ≤ 601024; omega), (by show slots + 6 ≤ 7293034; omega)⟩ (fun v_ A2 J2 H locs hp hG => ?_)
  have hJ2 : J1 = J2 := by
    rcases hp with ⟨-, -, h9, -⟩ | ⟨-, -, h9, -⟩ | ⟨-, -, h9, -⟩
    · exact h9
    · exact h9
    · exact h9
  obtain ⟨k9, G1, hv, rfl, hth, hk9, hC1, hM2⟩ := hbr _ _ _ hp
  obtain rfl : k = k9 := nI_inj (by omega) (by omega) (Value.int.inj (Option.some.inj hv))
  subst hJ2
  refine W.eq (g2 := F0 m 1127 ls []) rfl ?_
  refine lv_aload_n hx hb dL_law_1127 rfl (lv_at hl 3 rfl) ?_
  refine g_callV (As := []) (rest := []) (r := (RX10, TX10, 35)) (k := 28) ⟨hx, hb, hml, hown, hts⟩ hEL.1 hG (cX10_thrownC l D cy s.heap.size ad n A2 J1 (k : Int) hth) (cwV 0 hts gL_law_X10_thrown rfl rfl rfl (by decide +kernel) ⟨(Nat.le_of_ble_eq_true rfl), (Nat.le_of_ble_eq_true rfl)⟩) (by omega) rfl rfl rfl hl.1 rfl (Nat.le_of_ble_eq_true rfl) dL_law_1128 ⟨(by show cells + 1 ≤ 601024; omega), (by show slots + 6 ≤ 7293034; omega)⟩ (fun v_ A3 J3 H locs hp hG => ?_)
  obtain ⟨rfl, rfl, rfl⟩ := hp
  refine W.eq (g2 := F0 m 1131 ls [.int (zI (k : Int))]) rfl ?_
  refine lv_iload hx hb dL_law_1131 (lv_at hl 0 rfl) ?_
  refine lv_icmp_eq (tgt := 1138) hx hb dL_law_1133 (by decide) (fun _ => ?_) (fun c9 => absurd rfl c9)
  refine lv_goto (tgt := 1322) hx hb dL_law_1138 (by decide) ?_
  exact KK n ad A2 J1 G1 H locs ls _ _ ⟨hC1, hM2, hG, rfl, rfl, rfl⟩ (by show cells + 1 ≤ cells + 3; omega) (by show slots + 6 ≤ slots + 19; omega) (lv_sub hl [1, 2, 3, 4, 5] rfl)
set_option maxHeartbeats 4000000 in
set_option maxRecDepth 100000 in
theorem law_k23 {p : Program} {e : Env} {s : State} {m : MethodId} {below : List Frame} {meth : Method} {c : Code} {l : Launch} {b L : Nat} {xs : Nat → Int32} {D : va_G} {cy : Nat → ClassId} {a0 a28 a49 : Nat} {Q : State → Prop} (X : LCtx p s m c l b L xs D cy) {i n : Nat} {ad : Nat → Nat} {A : Nat → Nat → Int32} {J : Nat → Nat → Int64} {G : Nat → Nat → Int} {H : Heap} {locs : List Loc} {cells slots : Nat} {ls : Array Slot} (hi : i + 5 ≤ L) (hI : LInv D cy s a0 a28 a49 n ad A J G H locs) (hc : cells + 3 ≤ 601024) (hs : slots + 19 ≤ 7293034) (hl : lv_has ls 7 (lLoc b a0 a28 a49 i)) (KK : ∀ (n1 : Nat) (ad1 : Nat → Nat) (A1 : Nat → Nat → Int32) (J1 : Nat → Nat → Int64) (G1 : Nat → Nat → Int) (H1 : Heap) (locs1 : List Loc) (ls1 : Array Slot) (cells1 slots1 : Nat), LInv D cy s a0 a28 a49 n1 ad1 A1 J1 G1 H1 locs1 → cells1 ≤ cells + 3 → slots1 ≤ slots + 19 → lv_has ls1 7 (lLoc b a0 a28 a49 i) → W p l e room_1 s m #[Value.ref b] below meth c H1 locs1 cells1 slots1 Q (F0 m 1322 ls1 [])) : W p l e room_1 s m #[Value.ref b] below meth c H locs cells slots Q (F0 m 1141 ls []) := by
  obtain ⟨hx, hb, hml, hown, hts, hX, hbl, hEL, hst, hL⟩ := X
  obtain ⟨hC, hM, hG, rfl, rfl, rfl⟩ := hI
  obtain ⟨bT, bn, b41, bpa, bta, bol, bpr, bso, bse, bln, brc, bdv, bdr, btl, b37, bnn, b21⟩ := hC.bd
  have hl : lv_has ls 7 [(4, .int (nI i)), (3, .ref (ad 49)), (2, .ref (ad 28)), (1, .ref (ad 0)), (0, .ref b)] := hl
  refine lv_aload_n hx hb dL_law_1141 rfl (lv_at hl 3 rfl) ?_
  refine lv_aload_n hx hb dL_law_1142 rfl (lv_at hl 4 rfl) ?_
  refine lv_iload hx hb dL_law_1143 (lv_at hl 0 rfl) ?_
  refine lv_iconst (v := nI 1) hx hb dL_law_1145 (by decide) ?_
  refine lv_iadd hx hb dL_law_1146 ?_
  refine g_top (y := nI (i + 1)) (nI_add i 1) ?_
  refine gS_ld hx hb hX hbl hG.2.2 (i := i + 1) rfl (by omega) hL dL_law_1147 ?_
  refine lv_aload_n hx hb dL_law_1148 rfl (lv_at hl 1 rfl) ?_
  refine gL_callS (As := [.ref (ad 0), .int (xs (i + 1)), .ref (ad 49)]) (rest := []) ⟨hx, hb, hml, hown, hts⟩ hEL hG (cL_derivedValueC l D cy s.heap.size ad n A J (xs (i + 1)) (PX9_derivedValue ad A J G n (xs (i + 1)).toInt) (EX9_derivedValue ad A J G n (xs (i + 1)).toInt) (by have h9 := cX9_derivedValueC l D cy s.heap.size ad n A J G n (xs (i + 1)).toInt hst rfl hC (z_bound _); simp only [zI_of] at h9; exact h9) (fun v9 A9 J9 h9 => by obtain ⟨_, rfl, -⟩ := h9; exact ⟨_, rfl⟩) (fun e9 A9 J9 h9 => h9.elim (fun h8 => Or.inl h8.1) (fun h8 => Or.inr h8.1))) (vx_cwSW 3 hts gL_law_L_derivedValue rfl rfl rfl (by decide +kernel) ⟨(Nat.le_of_ble_eq_true rfl), (Nat.le_of_ble_eq_true rfl)⟩) rfl hl.1 rfl (Nat.le_of_ble_eq_true rfl) dL_law_1149 ⟨(by show cells + 1 ≤ 601024; omega), (by show slots + 6 ≤ 7293034; omega)⟩ (fun v9 A1 J1 H locs hq hG => ?_)
  obtain ⟨k, hk2, rfl⟩ := qL2_k hq
  obtain ⟨hM1, hbr⟩ := br_derivedValue hC hM hq
  refine W.eq (g2 := F0 m 1152 ls [.int (nI k)]) rfl ?_
  refine lv_istore (lv' := [(5, .int (nI k)), (4, .int (nI i)), (3, .ref (ad 49)), (2, .ref (ad 28)), (1, .ref (ad 0)), (0, .ref b)]) hx hb dL_law_1152 hl (by decide) rfl (fun ls hl => ?_)
  refine lv_aload_n hx hb dL_law_1154 rfl (lv_at hl 3 rfl) ?_
  refine lv_aload_n hx hb dL_law_1155 rfl (lv_at hl 5 rfl) ?_
  refine lv_iload hx hb dL_law_1156 (lv_at hl 1 rfl) ?_
  refine lv_iconst (v := nI 1) hx hb dL_law_1158 (by decide) ?_
  refine lv_iadd hx hb dL_law_1159 ?_
  refine g_top (y := nI (i + 1)) (nI_add i 1) ?_
  refine gS_ld hx hb hX hbl hG.2.2 (i := i + 1) rfl (by omega) hL dL_law_1160 ?_
  refine g_callV (As := [.int (xs (i + 1))]) (rest := []) (r := (RX10, TX10, 35)) (k := 28) ⟨hx, hb, hml, hown, hts⟩ hEL.1 hG (cX10_derivedValueC l D cy s.heap.size ad n A1 J1 G (xs (i + 1)) hM1 bdv bdr bn b41) (cwV 1 hts gL_law_X10_derivedValue rfl rfl rfl (by decide +kernel) ⟨(Nat.le_of_ble_eq_true rfl), (Nat.le_of_ble_eq_true rfl)⟩) (by omega) rfl rfl rfl hl.1 rfl (Nat.le_of_ble_eq_true rfl) dL_law_1161 ⟨(by show cells + 1 ≤ 601024; omega), (by show slots + 6 ≤ 7293034; omega)⟩ (fun v_ A2 J2 H locs hp hG => ?_)
  have hJ2 : J1 = J2 := by
    rcases hp with ⟨_, -, h9, -⟩ | ⟨-, h9, -⟩ | ⟨_, -, h9, -⟩
    · exact h9
    · exact h9
    · exact h9
  obtain ⟨k9, r2, G1, hv, rfl, hth, hk9, hr9, hC1, hM2⟩ := hbr _ _ _ hp
  obtain rfl : k = k9 := nI_inj (by omega) (by omega) (Value.int.inj (Option.some.inj hv))
  subst hJ2
  refine W.eq (g2 := F0 m 1164 ls [.int r2]) rfl ?_
  refine lv_istore (lv' := [(6, .int r2), (5, .int (nI k)), (4, .int (nI i)), (3, .ref (ad 49)), (2, .ref (ad 28)), (1, .ref (ad 0)), (0, .ref b)]) hx hb dL_law_1164 hl (by decide) rfl (fun ls hl => ?_)
  refine lv_aload_n hx hb dL_law_1166 rfl (lv_at hl 4 rfl) ?_
  refine g_callV (As := []) (rest := []) (r := (RX10, TX10, 35)) (k := 28) ⟨hx, hb, hml, hown, hts⟩ hEL.1 hG (cX10_thrownC l D cy s.heap.size ad n A2 J1 (k : Int) hth) (cwV 0 hts gL_law_X10_thrown rfl rfl rfl (by decide +kernel) ⟨(Nat.le_of_ble_eq_true rfl), (Nat.le_of_ble_eq_true rfl)⟩) (by omega) rfl rfl rfl hl.1 rfl (Nat.le_of_ble_eq_true rfl) dL_law_1167 ⟨(by show cells + 1 ≤ 601024; omega), (by show slots + 6 ≤ 7293034; omega)⟩ (fun v_ A3 J3 H locs hp hG => ?_)
  obtain ⟨rfl, rfl, rfl⟩ := hp
  refine W.eq (g2 := F0 m 1170 ls [.int (zI (k : Int))]) rfl ?_
  refine lv_iload hx hb dL_law_1170 (lv_at hl 1 rfl) ?_
  refine lv_icmp_eq (tgt := 1177) hx hb dL_law_1172 (by decide) (fun _ => ?_) (fun c9 => absurd rfl c9)
  refine lv_iload hx hb dL_law_1177 (lv_at hl 1 rfl) ?_
  refine lv_if_ne (tgt := 1194) hx hb dL_law_1179 (by decide) (fun c9 => ?_) (fun c9 => ?_)
  · skip
    refine lv_goto (tgt := 1322) hx hb dL_law_1194 (by decide) ?_
    exact KK n ad A2 J1 G1 H locs ls _ _ ⟨hC1, hM2, hG, rfl, rfl, rfl⟩ (by show cells + 1 ≤ cells + 3; omega) (by show slots + 6 ≤ slots + 19; omega) (lv_sub hl [2, 3, 4, 5, 6] rfl)
  · have hk0 : k = 0 := nI_inj (by omega) (by decide) c9
    refine lv_aload_n hx hb dL_law_1182 rfl (lv_at hl 3 rfl) ?_
    refine lv_iconst (v := nI 0) hx hb dL_law_1183 (by decide) ?_
    refine g_lald hx hb hEL.1 hG (k := 49) (by omega) rfl 0 rfl (by decide) (by decide) dL_law_1184 ?_
    refine lv_iload hx hb dL_law_1185 (lv_at hl 0 rfl) ?_
    refine lv_i2l (v := r2.toInt64) hx hb dL_law_1187 rfl ?_
    refine W.lcmp hx hb dL_law_1188 ?_
    refine lv_if_eq (tgt := 1194) hx hb dL_law_1189 (by decide) (fun _ => ?_) (fun c8 => absurd ((lg_cmp_eq _ _).mpr (hr9 hk0)) c8)
    refine lv_goto (tgt := 1322) hx hb dL_law_1194 (by decide) ?_
    exact KK n ad A2 J1 G1 H locs ls _ _ ⟨hC1, hM2, hG, rfl, rfl, rfl⟩ (by show cells + 1 ≤ cells + 3; omega) (by show slots + 6 ≤ slots + 19; omega) (lv_sub hl [2, 3, 4, 5, 6] rfl)
set_option maxHeartbeats 4000000 in
set_option maxRecDepth 100000 in
theorem law_k24 {p : Program} {e : Env} {s : State} {m : MethodId} {below : List Frame} {meth : Method} {c : Code} {l : Launch} {b L : Nat} {xs : Nat → Int32} {D : va_G} {cy : Nat → ClassId} {a0 a28 a49 : Nat} {Q : State → Prop} (X : LCtx p s m c l b L xs D cy) {i n : Nat} {ad : Nat → Nat} {A : Nat → Nat → Int32} {J : Nat → Nat → Int64} {G : Nat → Nat → Int} {H : Heap} {locs : List Loc} {cells slots : Nat} {ls : Array Slot} (hi : i + 5 ≤ L) (hI : LInv D cy s a0 a28 a49 n ad A J G H locs) (hc : cells + 3 ≤ 601024) (hs : slots + 19 ≤ 7293034) (hl : lv_has ls 7 (lLoc b a0 a28 a49 i)) (KK : ∀ (n1 : Nat) (ad1 : Nat → Nat) (A1 : Nat → Nat → Int32) (J1 : Nat → Nat → Int64) (G1 : Nat → Nat → Int) (H1 : Heap) (locs1 : List Loc) (ls1 : Array Slot) (cells1 slots1 : Nat), LInv D cy s a0 a28 a49 n1 ad1 A1 J1 G1 H1 locs1 → cells1 ≤ cells + 3 → slots1 ≤ slots + 19 → lv_has ls1 7 (lLoc b a0 a28 a49 i) → W p l e room_1 s m #[Value.ref b] below meth c H1 locs1 cells1 slots1 Q (F0 m 1322 ls1 [])) : W p l e room_1 s m #[Value.ref b] below meth c H locs cells slots Q (F0 m 1197 ls []) := by
  obtain ⟨hx, hb, hml, hown, hts, hX, hbl, hEL, hst, hL⟩ := X
  obtain ⟨hC, hM, hG, rfl, rfl, rfl⟩ := hI
  obtain ⟨bT, bn, b41, bpa, bta, bol, bpr, bso, bse, bln, brc, bdv, bdr, btl, b37, bnn, b21⟩ := hC.bd
  have hl : lv_has ls 7 [(4, .int (nI i)), (3, .ref (ad 49)), (2, .ref (ad 28)), (1, .ref (ad 0)), (0, .ref b)] := hl
  refine lv_aload_n hx hb dL_law_1197 rfl (lv_at hl 3 rfl) ?_
  refine lv_aload_n hx hb dL_law_1198 rfl (lv_at hl 4 rfl) ?_
  refine lv_iload hx hb dL_law_1199 (lv_at hl 0 rfl) ?_
  refine lv_iconst (v := nI 1) hx hb dL_law_1201 (by decide) ?_
  refine lv_iadd hx hb dL_law_1202 ?_
  refine g_top (y := nI (i + 1)) (nI_add i 1) ?_
  refine gS_ld hx hb hX hbl hG.2.2 (i := i + 1) rfl (by omega) hL dL_law_1203 ?_
  refine lv_aload_n hx hb dL_law_1204 rfl (lv_at hl 1 rfl) ?_
  refine gL_callS (As := [.ref (ad 0), .int (xs (i + 1)), .ref (ad 49)]) (rest := []) ⟨hx, hb, hml, hown, hts⟩ hEL hG (cL_derivedTimeC l D cy s.heap.size ad n A J (xs (i + 1)) (PX9_derivedTime ad A J G n (xs (i + 1)).toInt) (EX9_derivedTime ad A J G n (xs (i + 1)).toInt) (by have h9 := cX9_derivedTimeC l D cy s.heap.size ad n A J G n (xs (i + 1)).toInt hst rfl hC (z_bound _); simp only [zI_of] at h9; exact h9) (fun v9 A9 J9 h9 => by obtain ⟨_, rfl, -⟩ := h9; exact ⟨_, rfl⟩) (fun e9 A9 J9 h9 => h9.elim (fun h8 => Or.inl h8.1) (fun h8 => Or.inr h8.1))) (vx_cwSW 3 hts gL_law_L_derivedTime rfl rfl rfl (by decide +kernel) ⟨(Nat.le_of_ble_eq_true rfl), (Nat.le_of_ble_eq_true rfl)⟩) rfl hl.1 rfl (Nat.le_of_ble_eq_true rfl) dL_law_1205 ⟨(by show cells + 1 ≤ 601024; omega), (by show slots + 6 ≤ 7293034; omega)⟩ (fun v9 A1 J1 H locs hq hG => ?_)
  obtain ⟨k, hk2, rfl⟩ := qL2_k hq
  obtain ⟨hM1, hbr⟩ := br_derivedTime hC hM hq
  refine W.eq (g2 := F0 m 1208 ls [.int (nI k)]) rfl ?_
  refine lv_istore (lv' := [(5, .int (nI k)), (4, .int (nI i)), (3, .ref (ad 49)), (2, .ref (ad 28)), (1, .ref (ad 0)), (0, .ref b)]) hx hb dL_law_1208 hl (by decide) rfl (fun ls hl => ?_)
  refine lv_aload_n hx hb dL_law_1210 rfl (lv_at hl 3 rfl) ?_
  refine lv_aload_n hx hb dL_law_1211 rfl (lv_at hl 5 rfl) ?_
  refine lv_iload hx hb dL_law_1212 (lv_at hl 1 rfl) ?_
  refine lv_iconst (v := nI 1) hx hb dL_law_1214 (by decide) ?_
  refine lv_iadd hx hb dL_law_1215 ?_
  refine g_top (y := nI (i + 1)) (nI_add i 1) ?_
  refine gS_ld hx hb hX hbl hG.2.2 (i := i + 1) rfl (by omega) hL dL_law_1216 ?_
  refine g_callV (As := [.int (xs (i + 1))]) (rest := []) (r := (RX10, TX10, 35)) (k := 28) ⟨hx, hb, hml, hown, hts⟩ hEL.1 hG (cX10_derivedTimeC l D cy s.heap.size ad n A1 J1 G (xs (i + 1)) hM1 bdv bdr bn b41) (cwV 1 hts gL_law_X10_derivedTime rfl rfl rfl (by decide +kernel) ⟨(Nat.le_of_ble_eq_true rfl), (Nat.le_of_ble_eq_true rfl)⟩) (by omega) rfl rfl rfl hl.1 rfl (Nat.le_of_ble_eq_true rfl) dL_law_1217 ⟨(by show cells + 1 ≤ 601024; omega), (by show slots + 6 ≤ 7293034; omega)⟩ (fun v_ A2 J2 H locs hp hG => ?_)
  have hJ2 : J1 = J2 := by
    rcases hp with ⟨_, -, h9, -⟩ | ⟨-, h9, -⟩ | ⟨_, -, h9, -⟩
    · exact h9
    · exact h9
    · exact h9
  obtain ⟨k9, r2, G1, hv, rfl, hth, hk9, hr9, hC1, hM2⟩ := hbr _ _ _ hp
  obtain rfl : k = k9 := nI_inj (by omega) (by omega) (Value.int.inj (Option.some.inj hv))
  subst hJ2
  refine W.eq (g2 := F0 m 1220 ls [.int r2]) rfl ?_
  refine lv_istore (lv' := [(6, .int r2), (5, .int (nI k)), (4, .int (nI i)), (3, .ref (ad 49)), (2, .ref (ad 28)), (1, .ref (ad 0)), (0, .ref b)]) hx hb dL_law_1220 hl (by decide) rfl (fun ls hl => ?_)
  refine lv_aload_n hx hb dL_law_1222 rfl (lv_at hl 4 rfl) ?_
  refine g_callV (As := []) (rest := []) (r := (RX10, TX10, 35)) (k := 28) ⟨hx, hb, hml, hown, hts⟩ hEL.1 hG (cX10_thrownC l D cy s.heap.size ad n A2 J1 (k : Int) hth) (cwV 0 hts gL_law_X10_thrown rfl rfl rfl (by decide +kernel) ⟨(Nat.le_of_ble_eq_true rfl), (Nat.le_of_ble_eq_true rfl)⟩) (by omega) rfl rfl rfl hl.1 rfl (Nat.le_of_ble_eq_true rfl) dL_law_1223 ⟨(by show cells + 1 ≤ 601024; omega), (by show slots + 6 ≤ 7293034; omega)⟩ (fun v_ A3 J3 H locs hp hG => ?_)
  obtain ⟨rfl, rfl, rfl⟩ := hp
  refine W.eq (g2 := F0 m 1226 ls [.int (zI (k : Int))]) rfl ?_
  refine lv_iload hx hb dL_law_1226 (lv_at hl 1 rfl) ?_
  refine lv_icmp_eq (tgt := 1233) hx hb dL_law_1228 (by decide) (fun _ => ?_) (fun c9 => absurd rfl c9)
  refine lv_iload hx hb dL_law_1233 (lv_at hl 1 rfl) ?_
  refine lv_if_ne (tgt := 1250) hx hb dL_law_1235 (by decide) (fun c9 => ?_) (fun c9 => ?_)
  · skip
    refine lv_goto (tgt := 1322) hx hb dL_law_1250 (by decide) ?_
    exact KK n ad A2 J1 G1 H locs ls _ _ ⟨hC1, hM2, hG, rfl, rfl, rfl⟩ (by show cells + 1 ≤ cells + 3; omega) (by show slots + 6 ≤ slots + 19; omega) (lv_sub hl [2, 3, 4, 5, 6] rfl)
  · have hk0 : k = 0 := nI_inj (by omega) (by decide) c9
    refine lv_aload_n hx hb dL_law_1238 rfl (lv_at hl 3 rfl) ?_
    refine lv_iconst (v := nI 0) hx hb dL_law_1239 (by decide) ?_
    refine g_lald hx hb hEL.1 hG (k := 49) (by omega) rfl 0 rfl (by decide) (by decide) dL_law_1240 ?_
    refine lv_iload hx hb dL_law_1241 (lv_at hl 0 rfl) ?_
    refine lv_i2l (v := r2.toInt64) hx hb dL_law_1243 rfl ?_
    refine W.lcmp hx hb dL_law_1244 ?_
    refine lv_if_eq (tgt := 1250) hx hb dL_law_1245 (by decide) (fun _ => ?_) (fun c8 => absurd ((lg_cmp_eq _ _).mpr (hr9 hk0)) c8)
    refine lv_goto (tgt := 1322) hx hb dL_law_1250 (by decide) ?_
    exact KK n ad A2 J1 G1 H locs ls _ _ ⟨hC1, hM2, hG, rfl, rfl, rfl⟩ (by show cells + 1 ≤ cells + 3; omega) (by show slots + 6 ≤ slots + 19; omega) (lv_sub hl [2, 3, 4, 5, 6] rfl)
set_option maxHeartbeats 4000000 in
set_option maxRecDepth 100000 in
theorem law_k25 {p : Program} {e : Env} {s : State} {m : MethodId} {below : List Frame} {meth : Method} {c : Code} {l : Launch} {b L : Nat} {xs : Nat → Int32} {D : va_G} {cy : Nat → ClassId} {a0 a28 a49 : Nat} {Q : State → Prop} (X : LCtx p s m c l b L xs D cy) {i n : Nat} {ad : Nat → Nat} {A : Nat → Nat → Int32} {J : Nat → Nat → Int64} {G : Nat → Nat → Int} {H : Heap} {locs : List Loc} {cells slots : Nat} {ls : Array Slot} (hi : i + 5 ≤ L) (hI : LInv D cy s a0 a28 a49 n ad A J G H locs) (hc : cells + 3 ≤ 601024) (hs : slots + 19 ≤ 7293034) (hl : lv_has ls 7 (lLoc b a0 a28 a49 i)) (KK : ∀ (n1 : Nat) (ad1 : Nat → Nat) (A1 : Nat → Nat → Int32) (J1 : Nat → Nat → Int64) (G1 : Nat → Nat → Int) (H1 : Heap) (locs1 : List Loc) (ls1 : Array Slot) (cells1 slots1 : Nat), LInv D cy s a0 a28 a49 n1 ad1 A1 J1 G1 H1 locs1 → cells1 ≤ cells + 3 → slots1 ≤ slots + 19 → lv_has ls1 7 (lLoc b a0 a28 a49 i) → W p l e room_1 s m #[Value.ref b] below meth c H1 locs1 cells1 slots1 Q (F0 m 1322 ls1 [])) : W p l e room_1 s m #[Value.ref b] below meth c H locs cells slots Q (F0 m 1253 ls []) := by
  obtain ⟨hx, hb, hml, hown, hts, hX, hbl, hEL, hst, hL⟩ := X
  obtain ⟨hC, hM, hG, rfl, rfl, rfl⟩ := hI
  obtain ⟨bT, bn, b41, bpa, bta, bol, bpr, bso, bse, bln, brc, bdv, bdr, btl, b37, bnn, b21⟩ := hC.bd
  have hl : lv_has ls 7 [(4, .int (nI i)), (3, .ref (ad 49)), (2, .ref (ad 28)), (1, .ref (ad 0)), (0, .ref b)] := hl
  refine lv_aload_n hx hb dL_law_1253 rfl (lv_at hl 3 rfl) ?_
  refine lv_aload_n hx hb dL_law_1254 rfl (lv_at hl 4 rfl) ?_
  refine lv_iload hx hb dL_law_1255 (lv_at hl 0 rfl) ?_
  refine lv_iconst (v := nI 1) hx hb dL_law_1257 (by decide) ?_
  refine lv_iadd hx hb dL_law_1258 ?_
  refine g_top (y := nI (i + 1)) (nI_add i 1) ?_
  refine gS_ld hx hb hX hbl hG.2.2 (i := i + 1) rfl (by omega) hL dL_law_1259 ?_
  refine lv_aload_n hx hb dL_law_1260 rfl (lv_at hl 1 rfl) ?_
  refine gL_callS (As := [.ref (ad 0), .int (xs (i + 1)), .ref (ad 49)]) (rest := []) ⟨hx, hb, hml, hown, hts⟩ hEL hG (cL_matchesC l D cy s.heap.size ad n A J (xs (i + 1)) (PX9_matches ad A J G n (xs (i + 1)).toInt) (EX9_matches ad A J G n (xs (i + 1)).toInt) (by have h9 := cX9_matchesC l D cy s.heap.size ad n A J G n (xs (i + 1)).toInt hst rfl hC (z_bound _); simp only [zI_of] at h9; exact h9) (fun v9 A9 J9 h9 => by obtain ⟨rfl, -⟩ := h9; exact ⟨_, rfl⟩) (fun e9 A9 J9 h9 => h9.1)) (vx_cwSW 3 hts gL_law_L_matches rfl rfl rfl (by decide +kernel) ⟨(Nat.le_of_ble_eq_true rfl), (Nat.le_of_ble_eq_true rfl)⟩) rfl hl.1 rfl (Nat.le_of_ble_eq_true rfl) dL_law_1261 ⟨(by show cells + 1 ≤ 601024; omega), (by show slots + 6 ≤ 7293034; omega)⟩ (fun v9 A1 J1 H locs hq hG => ?_)
  obtain ⟨k, hk2, rfl⟩ := qL1_k hq
  obtain ⟨hM1, hbr⟩ := br_matches hC hM hq
  refine W.eq (g2 := F0 m 1264 ls [.int (nI k)]) rfl ?_
  refine lv_istore (lv' := [(5, .int (nI k)), (4, .int (nI i)), (3, .ref (ad 49)), (2, .ref (ad 28)), (1, .ref (ad 0)), (0, .ref b)]) hx hb dL_law_1264 hl (by decide) rfl (fun ls hl => ?_)
  refine lv_aload_n hx hb dL_law_1266 rfl (lv_at hl 3 rfl) ?_
  refine lv_aload_n hx hb dL_law_1267 rfl (lv_at hl 5 rfl) ?_
  refine lv_iload hx hb dL_law_1268 (lv_at hl 1 rfl) ?_
  refine lv_iconst (v := nI 1) hx hb dL_law_1270 (by decide) ?_
  refine lv_iadd hx hb dL_law_1271 ?_
  refine g_top (y := nI (i + 1)) (nI_add i 1) ?_
  refine gS_ld hx hb hX hbl hG.2.2 (i := i + 1) rfl (by omega) hL dL_law_1272 ?_
  refine g_callV (As := [.int (xs (i + 1))]) (rest := []) (r := (RX10, TX10, 35)) (k := 28) ⟨hx, hb, hml, hown, hts⟩ hEL.1 hG (cX10_matchesC l D cy s.heap.size ad n A1 J1 G (xs (i + 1)) hM1 bpa bta) (cwV 1 hts gL_law_X10_matches rfl rfl rfl (by decide +kernel) ⟨(Nat.le_of_ble_eq_true rfl), (Nat.le_of_ble_eq_true rfl)⟩) (by omega) rfl rfl rfl hl.1 rfl (Nat.le_of_ble_eq_true rfl) dL_law_1273 ⟨(by show cells + 1 ≤ 601024; omega), (by show slots + 6 ≤ 7293034; omega)⟩ (fun v_ A2 J2 H locs hp hG => ?_)
  have hJ2 : J1 = J2 := by
    rcases hp with ⟨_, -, -, h9, -⟩ | ⟨-, -, h9, -⟩
    · exact h9
    · exact h9
  obtain ⟨k9, r2, G1, hv, rfl, hth, hk9, hr9, hC1, hM2⟩ := hbr _ _ _ hp
  obtain rfl : k = k9 := nI_inj (by omega) (by omega) (Value.int.inj (Option.some.inj hv))
  subst hJ2
  refine W.eq (g2 := F0 m 1276 ls [.int r2]) rfl ?_
  refine lv_istore (lv' := [(6, .int r2), (5, .int (nI k)), (4, .int (nI i)), (3, .ref (ad 49)), (2, .ref (ad 28)), (1, .ref (ad 0)), (0, .ref b)]) hx hb dL_law_1276 hl (by decide) rfl (fun ls hl => ?_)
  refine lv_aload_n hx hb dL_law_1278 rfl (lv_at hl 4 rfl) ?_
  refine g_callV (As := []) (rest := []) (r := (RX10, TX10, 35)) (k := 28) ⟨hx, hb, hml, hown, hts⟩ hEL.1 hG (cX10_thrownC l D cy s.heap.size ad n A2 J1 (k : Int) hth) (cwV 0 hts gL_law_X10_thrown rfl rfl rfl (by decide +kernel) ⟨(Nat.le_of_ble_eq_true rfl), (Nat.le_of_ble_eq_true rfl)⟩) (by omega) rfl rfl rfl hl.1 rfl (Nat.le_of_ble_eq_true rfl) dL_law_1279 ⟨(by show cells + 1 ≤ 601024; omega), (by show slots + 6 ≤ 7293034; omega)⟩ (fun v_ A3 J3 H locs hp hG => ?_)
  obtain ⟨rfl, rfl, rfl⟩ := hp
  refine W.eq (g2 := F0 m 1282 ls [.int (zI (k : Int))]) rfl ?_
  refine lv_iload hx hb dL_law_1282 (lv_at hl 1 rfl) ?_
  refine lv_icmp_eq (tgt := 1289) hx hb dL_law_1284 (by decide) (fun _ => ?_) (fun c9 => absurd rfl c9)
  refine lv_iload hx hb dL_law_1289 (lv_at hl 1 rfl) ?_
  refine lv_if_ne (tgt := 1306) hx hb dL_law_1291 (by decide) (fun c9 => ?_) (fun c9 => ?_)
  · skip
    refine lv_goto (tgt := 1322) hx hb dL_law_1306 (by decide) ?_
    exact KK n ad A2 J1 G1 H locs ls _ _ ⟨hC1, hM2, hG, rfl, rfl, rfl⟩ (by show cells + 1 ≤ cells + 3; omega) (by show slots + 6 ≤ slots + 19; omega) (lv_sub hl [2, 3, 4, 5, 6] rfl)
  · have hk0 : k = 0 := nI_inj (by omega) (by decide) c9
    refine lv_aload_n hx hb dL_law_1294 rfl (lv_at hl 3 rfl) ?_
    refine lv_iconst (v := nI 0) hx hb dL_law_1295 (by decide) ?_
    refine g_lald hx hb hEL.1 hG (k := 49) (by omega) rfl 0 rfl (by decide) (by decide) dL_law_1296 ?_
    refine lv_iload hx hb dL_law_1297 (lv_at hl 0 rfl) ?_
    refine lv_i2l (v := r2.toInt64) hx hb dL_law_1299 rfl ?_
    refine W.lcmp hx hb dL_law_1300 ?_
    refine lv_if_eq (tgt := 1306) hx hb dL_law_1301 (by decide) (fun _ => ?_) (fun c8 => absurd ((lg_cmp_eq _ _).mpr (hr9 hk0)) c8)
    refine lv_goto (tgt := 1322) hx hb dL_law_1306 (by decide) ?_
    exact KK n ad A2 J1 G1 H locs ls _ _ ⟨hC1, hM2, hG, rfl, rfl, rfl⟩ (by show cells + 1 ≤ cells + 3; omega) (by show slots + 6 ≤ slots + 19; omega) (lv_sub hl [2, 3, 4, 5, 6] rfl)
set_option maxHeartbeats 4000000 in
set_option maxRecDepth 100000 in
theorem law_k26 {p : Program} {e : Env} {s : State} {m : MethodId} {below : List Frame} {meth : Method} {c : Code} {l : Launch} {b L : Nat} {xs : Nat → Int32} {D : va_G} {cy : Nat → ClassId} {a0 a28 a49 : Nat} {Q : State → Prop} (X : LCtx p s m c l b L xs D cy) {i n : Nat} {ad : Nat → Nat} {A : Nat → Nat → Int32} {J : Nat → Nat → Int64} {G : Nat → Nat → Int} {H : Heap} {locs : List Loc} {cells slots : Nat} {ls : Array Slot} (hi : i + 5 ≤ L) (hI : LInv D cy s a0 a28 a49 n ad A J G H locs) (hc : cells + 3 ≤ 601024) (hs : slots + 19 ≤ 7293034) (hl : lv_has ls 7 (lLoc b a0 a28 a49 i)) (KK : ∀ (n1 : Nat) (ad1 : Nat → Nat) (A1 : Nat → Nat → Int32) (J1 : Nat → Nat → Int64) (G1 : Nat → Nat → Int) (H1 : Heap) (locs1 : List Loc) (ls1 : Array Slot) (cells1 slots1 : Nat), LInv D cy s a0 a28 a49 n1 ad1 A1 J1 G1 H1 locs1 → cells1 ≤ cells + 3 → slots1 ≤ slots + 19 → lv_has ls1 7 (lLoc b a0 a28 a49 i) → W p l e room_1 s m #[Value.ref b] below meth c H1 locs1 cells1 slots1 Q (F0 m 1322 ls1 [])) : W p l e room_1 s m #[Value.ref b] below meth c H locs cells slots Q (F0 m 1309 ls []) := by
  obtain ⟨hx, hb, hml, hown, hts, hX, hbl, hEL, hst, hL⟩ := X
  obtain ⟨hC, hM, hG, rfl, rfl, rfl⟩ := hI
  obtain ⟨bT, bn, b41, bpa, bta, bol, bpr, bso, bse, bln, brc, bdv, bdr, btl, b37, bnn, b21⟩ := hC.bd
  have hl : lv_has ls 7 [(4, .int (nI i)), (3, .ref (ad 49)), (2, .ref (ad 28)), (1, .ref (ad 0)), (0, .ref b)] := hl
  refine lv_aload_n hx hb dL_law_1309 rfl (lv_at hl 3 rfl) ?_
  refine g_callV (As := []) (rest := []) (r := (RX9, TX9, 6)) (k := 0) ⟨hx, hb, hml, hown, hts⟩ hEL.1 hG (cX9_bestOffsetC l D cy s.heap.size ad n A J G n rfl hC) (cwV 0 hts gL_law_X9_bestOffset rfl rfl rfl (by decide +kernel) ⟨(Nat.le_of_ble_eq_true rfl), (Nat.le_of_ble_eq_true rfl)⟩) (by omega) rfl rfl rfl hl.1 rfl (Nat.le_of_ble_eq_true rfl) dL_law_1310 ⟨(by show cells ≤ 601024; omega), (by show slots ≤ 7293034; omega)⟩ (fun v_ A1 J1 H locs hp hG => ?_)
  obtain ⟨rfl, rfl, rfl⟩ := hp
  refine W.eq (g2 := F0 m 1313 ls [.int (nI (mBest (mMat G) 63))]) rfl ?_
  refine lv_aload_n hx hb dL_law_1313 rfl (lv_at hl 2 rfl) ?_
  refine g_callV (As := []) (rest := [.int (nI (mBest (mMat G) 63))]) (r := (RX10, TX10, 35)) (k := 28) ⟨hx, hb, hml, hown, hts⟩ hEL.1 hG (cX10_bestOffsetC l D cy s.heap.size ad n A J G hM bpa bta) (cwV 0 hts gL_law_X10_bestOffset rfl rfl rfl (by decide +kernel) ⟨(Nat.le_of_ble_eq_true rfl), (Nat.le_of_ble_eq_true rfl)⟩) (by omega) rfl rfl rfl hl.1 rfl (Nat.le_of_ble_eq_true rfl) dL_law_1314 ⟨(by show cells ≤ 601024; omega), (by show slots ≤ 7293034; omega)⟩ (fun v_ A2 J2 H locs hp hG => ?_)
  obtain ⟨rfl, rfl, rfl⟩ := hp
  refine W.eq (g2 := F0 m 1317 ls [.int (nI (mBest (mMat G) 63)), .int (nI (mBest (mMat G) 63))]) rfl ?_
  refine lv_icmp_eq (tgt := 1322) hx hb dL_law_1317 (by decide) (fun _ => ?_) (fun c9 => absurd rfl c9)
  exact KK n ad _ J G H locs ls _ _ ⟨(hC.th _), (hM.th _), hG, rfl, rfl, rfl⟩ (by show cells ≤ cells + 3; omega) (by show slots ≤ slots + 19; omega) (lv_sub hl [0, 1, 2, 3, 4] rfl)

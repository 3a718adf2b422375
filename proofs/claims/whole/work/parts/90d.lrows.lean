/-! ===== rows of the law ===== -/
section GR
variable {p : Program} {l : Launch} {e : Env} {R : Room} {s : State} {m : MethodId} {args : Array Value} {below : List Frame} {meth : Method} {c : Code} {H : Heap} {locs : List Loc} {cells slots : Nat} {Q : State → Prop}
variable {cc : ByteArray} {pc : Nat} {ls : Array Slot} {rest : List Value} {D : va_G} {cy : Nat → ClassId} {ad : Nat → Nat} {N n : Nat} {w : Nat → va_E} {A : Nat → Nat → Int32} {J : Nat → Nat → Int64} {base : Nat}
theorem gL_callS {y : MethodName} {bytes : ByteArray} {maxL nL nn index mc1 ms1 : Nat} {ret : Option FieldType} {hh : List (Nat × Nat × Nat × Nat)} {ws : List Cond} {rm : Room} {Ts : List Cond} {own : String} {As st0 : List Value} {post : Option Value → (Nat → Nat → Int32) → (Nat → Nat → Int64) → Prop}
    (S : CallFix p m c cc nL s args Ts own) (hE : gEL D cy base s) (hG : gH D base s ad (50 + 2 * n) (gw cy ad n A J) H locs) (hM : gMetL l y ws rm D cy base ad (50 + 2 * n) (gw cy ad n A J) As (gPost D cy base ad n post) mc1 ms1) (cw : vx_CSW R s args own index y bytes maxL ret hh ws rm mc1 ms1 nn)
    (hn : As.length = nn) (hsize : ls.size = nL) (hst : st0 = As.reverse ++ rest) (hW : (rest.map fun v => v.category).sum ≤ 8) (hdg : decode cc pc = .ok (.invokestatic index, 3)) (hf : cells + mc1 ≤ R.cells ∧ slots + ms1 ≤ R.slots)
    (kk : ∀ (v : Option Value) (A : Nat → Nat → Int32) (J : Nat → Nat → Int64) (H : Heap) (locs : List Loc), post v A J → gH D base s ad (50 + 2 * n) (gw cy ad n A J) H locs → W p l e R s m args below meth c H locs (cells + mc1) (slots + ms1) Q (F0 m (pc + 3) ls (v.toList ++ rest))) : W p l e R s m args below meth c H locs cells slots Q (F0 m pc ls st0) := by
  intro T hT X
  rcases vx_runSX (As := As) (rest := rest) (g := F0 m pc ls st0) S hM cw (gL_pre hE hG As) rfl hn hsize hst (by show 2 * 0 + _ ≤ 8; omega) hdg hf T hT X with ⟨v, st₀, t, T', L, h0, X', hL, e1, e2, ⟨⟨v', u, hv, hp, hb⟩, hF⟩, st⟩ | ⟨q, st₀, t, T', L, E, ce, h0, X', hL, e1, e2, hfalse, hce, hcv, hcl, st⟩
  · cases hv
    obtain ⟨k1, k2, k3⟩ := vx_keep h0 e1 hG.2.2 (fun _ _ h => h) (fun _ h => h) hL hF
    obtain ⟨t2, a1, b1⟩ := kk v u.1 u.2 T'.heap (locs ++ L) hp ⟨by rw [e1]; exact hb, gl_D hG.2.1, k3⟩ T' rfl X'
    exact ⟨t2, st t2 a1, b1⟩
  · exact hfalse.elim
theorem gL_callSW {y : MethodName} {bytes : ByteArray} {maxL nL nn index mc1 ms1 : Nat} {ret : Option FieldType} {hh : List (Nat × Nat × Nat × Nat)} {ws : List Cond} {rm : Room} {Ts : List Cond} {own : String} {As st0 : List Value} {post : Option Value → (Nat → Nat) → Nat → (Nat → va_E) → Prop}
    (S : CallFix p m c cc nL s args Ts own) (hE : gEL D cy base s) (hG : gH D base s ad N w H locs) (hM : gMetL l y ws rm D cy base ad N w As (gPostW D base post) mc1 ms1) (cw : vx_CSW R s args own index y bytes maxL ret hh ws rm mc1 ms1 nn)
    (hn : As.length = nn) (hsize : ls.size = nL) (hst : st0 = As.reverse ++ rest) (hW : (rest.map fun v => v.category).sum ≤ 8) (hdg : decode cc pc = .ok (.invokestatic index, 3)) (hf : cells + mc1 ≤ R.cells ∧ slots + ms1 ≤ R.slots)
    (kk : ∀ (v : Option Value) (ad' : Nat → Nat) (N' : Nat) (w' : Nat → va_E) (H : Heap) (locs : List Loc), post v ad' N' w' → gH D base s ad' N' w' H locs → W p l e R s m args below meth c H locs (cells + mc1) (slots + ms1) Q (F0 m (pc + 3) ls (v.toList ++ rest))) : W p l e R s m args below meth c H locs cells slots Q (F0 m pc ls st0) := by
  intro T hT X
  rcases vx_runSX (As := As) (rest := rest) (g := F0 m pc ls st0) S hM cw (gL_pre hE hG As) rfl hn hsize hst (by show 2 * 0 + _ ≤ 8; omega) hdg hf T hT X with ⟨v, st₀, t, T', L, h0, X', hL, e1, e2, ⟨⟨v', u, hv, hp, hb⟩, hF⟩, st⟩ | ⟨q, st₀, t, T', L, E, ce, h0, X', hL, e1, e2, hfalse, hce, hcv, hcl, st⟩
  · cases hv
    obtain ⟨k1, k2, k3⟩ := vx_keep h0 e1 hG.2.2 (fun _ _ h => h) (fun _ h => h) hL hF
    obtain ⟨t2, a1, b1⟩ := kk v u.1 u.2.1 u.2.2 T'.heap (locs ++ L) hp ⟨by rw [e1]; exact hb.1, hb.2, k3⟩ T' rfl X'
    exact ⟨t2, st t2 a1, b1⟩
  · exact hfalse.elim
/-- the script -/
theorem gS_ld (hx : p.tables.exec = Jvm.exec) (hb : c.code = cc) {b L : Nat} {xs : Nat → Int32} (hX : va_X b L xs s s.heap) (hbl : b < s.heap.size) (hS : va_S (fun q => s.heap.size ≤ q) s.heap H locs) {i : Nat} {x : Int32} (hx2 : x = nI i) (hi : i < L) (hL : L ≤ 2560) (hdg : decode cc pc = .ok (.iaload, 1))
    (kk : W p l e R s m args below meth c H locs cells slots Q (F0 m (pc + 1) ls (.int (xs i) :: rest))) : W p l e R s m args below meth c H locs cells slots Q (F0 m pc ls (.int x :: .ref b :: rest)) := by
  subst hx2
  refine va_sld hx hb hX hbl (Nat.not_le.mpr hbl) hS (vp_in_nI hi (by omega)) hdg ?_
  rw [nI_clamp (by omega)]
  exact kk
theorem gS_len (hx : p.tables.exec = Jvm.exec) (hb : c.code = cc) {b L : Nat} {xs : Nat → Int32} (hX : va_X b L xs s s.heap) (hbl : b < s.heap.size) (hS : va_S (fun q => s.heap.size ≤ q) s.heap H locs) (hdg : decode cc pc = .ok (.arraylength, 1))
    (kk : W p l e R s m args below meth c H locs cells slots Q (F0 m (pc + 1) ls (.int (nI L) :: rest))) : W p l e R s m args below meth c H locs cells slots Q (F0 m pc ls (.ref b :: rest)) :=
  va_slen hx hb hX hbl (Nat.not_le.mpr hbl) hS hdg kk
/-- a number as a truth -/
theorem gS_bool (hx : p.tables.exec = Jvm.exec) (hb : c.code = cc) {x : Int32} {tq p1 p2 p3 p4 : Nat} (h : (x = 0 ∧ tq = 0) ∨ (x ≠ 0 ∧ tq = 1)) {d1 d2 : Int} (h1 : decode cc pc = .ok (.ifCond .eq d1, 3)) (t1 : (pc : Int) + d1 = (p1 : Int)) (h2 : decode cc (pc + 3) = .ok (.iconst 1, 1)) (h3 : decode cc (pc + 4) = .ok (.goto d2, 3)) (t2 : ((pc + 4 : Nat) : Int) + d2 = (p2 : Int)) (h4 : decode cc p1 = .ok (.iconst 0, 1)) (e1 : p1 + 1 = p2)
    (kk : W p l e R s m args below meth c H locs cells slots Q (F0 m p2 ls (.int (nI tq) :: rest))) : W p l e R s m args below meth c H locs cells slots Q (F0 m pc ls (.int x :: rest)) := by
  refine lv_if_eq (tgt := p1) hx hb h1 t1 (fun c1 => ?_) (fun c1 => ?_)
  · obtain ⟨rfl, rfl⟩ : x = 0 ∧ tq = 0 := h.resolve_right (fun z => z.1 c1)
    refine lv_iconst (v := nI 0) hx hb h4 (by decide) ?_
    rw [e1]
    exact kk
  · obtain ⟨-, rfl⟩ : x ≠ 0 ∧ tq = 1 := h.resolve_left (fun z => c1 z.1)
    refine lv_iconst (v := nI 1) hx hb h2 (by decide) ?_
    exact lv_goto (tgt := p2) hx hb h3 t2 kk
end GR
/-- what stands between two calls -/
def LInv (D : va_G) (cy : Nat → ClassId) (s : State) (a0 a28 a49 : Nat) (n : Nat) (ad : Nat → Nat) (A : Nat → Nat → Int32) (J : Nat → Nat → Int64) (G : Nat → Nat → Int) (H : Heap) (locs : List Loc) : Prop :=
  CAll n A J G ∧ MRep A G ∧ gH D s.heap.size s ad (50 + 2 * n) (gw cy ad n A J) H locs ∧ ad 0 = a0 ∧ ad 28 = a28 ∧ ad 49 = a49
abbrev lLoc (b a0 a28 a49 i : Nat) : List (Nat × Value) := [(4, .int (nI i)), (3, .ref a49), (2, .ref a28), (1, .ref a0), (0, .ref b)]
/-- the bounds that the reference's methods ask for -/
theorem CAll.bd {n : Nat} {A : Nat → Nat → Int32} {J : Nat → Nat → Int64} {G : Nat → Nat → Int} (h : CAll n A J G) : TsOk G ∧ (0 ≤ G 28 0 ∧ G 28 0 ≤ 12) ∧ (∀ j, 0 ≤ G 41 j ∧ G 41 j < 1000000) ∧ mPast G ∧ (0 ≤ G 28 12 ∧ G 28 12 ≤ 8000) ∧ (0 ≤ G 28 10 ∧ G 28 10 ≤ 8000) ∧ mPres G ∧ mSndOk G ∧ (0 ≤ G 28 9 ∧ G 28 9 ≤ 1000) ∧ G 28 10 ≤ 8 * G 28 9 ∧ mRcvOk G ∧ mDvOk G ∧ mDrOk G ∧ G 28 12 + G 28 10 ≤ 8000 ∧ (∀ j, G 37 j = 0 ∨ G 37 j = 1) ∧ G 28 0 = (n : Int) ∧ (0 ≤ G 28 21 ∧ G 28 21 < 1000000) := by
  obtain ⟨hct, hn, hT, hFs, hpr, hz, hU, hD, hso, hse, hli, hsy, hde, hcd, hok, hdv, hdr, hsn, hol, hln⟩ := h
  have hta := hok.2.2.1
  have hnr := hok.2.2.2.2.1
  have hsa := hok.2.2.2.2.2
  exact ⟨hT, ⟨hT.1, hT.2.1⟩, fun j => by have := hsa j; omega, hok.2.1, hta, by omega, hpr, hso, hsn, by omega, hok, hdv, hdr, by omega, hln, hn, by omega⟩
/-- a point added, by both -/
theorem br_addPoint {n : Nat} {cy : Nat → ClassId} {ad ad1 : Nat → Nat} {N1 : Nat} {w1 : Nat → va_E} {A : Nat → Nat → Int32} {J : Nat → Nat → Int64} {G : Nat → Nat → Int} {wq cq pq : Int} {tq : Nat} {v : Option Value} (hC : CAll n A J G) (hM : MRep A G) (htq : tq ≤ 1)
    (hq : (∃ pN oN : Nat, v = some (.int (nI 0)) ∧ (n < 12 ∧ G 28 9 = 0 ∧ mGood wq cq pq tq ∧ (pN : Int) < pq ∧ (oN : Int) + wq ≤ mLim ((tq : Int) + 1) ∧ mFree G (oN : Int) wq (pN : Int) pq ((tq : Int) + 1) ∧ mNone G wq pq ((tq : Int) + 1) (pN : Int) (oN : Int)) ∧ (∀ k, k < 50 + 2 * n → ad1 k = ad k) ∧ N1 = 50 + 2 * (n + 1) ∧ ∃ A1 J1, w1 = gw cy ad1 (n + 1) A1 J1 ∧ J1 49 0 = (nI n).toInt64 ∧ CAll (n + 1) A1 J1 (gNG G n wq cq pq tq pN oN) ∧ (∀ k, 28 ≤ k → k < 50 → A1 k = A k)) ∨ (ad1 = ad ∧ N1 = 50 + 2 * n ∧ ∃ A1 J1, w1 = gw cy ad n A1 J1 ∧ ((v = some (.int (nI 1)) ∧ EX9_addPoint ad A J G wq cq pq tq "java/lang/IllegalArgumentException" A1 J1) ∨ (v = some (.int (nI 2)) ∧ EX9_addPoint ad A J G wq cq pq tq "java/lang/IllegalStateException" A1 J1)))) :
    ∃ (n1 : Nat) (A1 : Nat → Nat → Int32) (J1 : Nat → Nat → Int64), N1 = 50 + 2 * n1 ∧ w1 = gw cy ad1 n1 A1 J1 ∧ (∀ k, k < 50 → ad1 k = ad k) ∧ MRep A1 G ∧ ∀ v2 A2 J2, PX10_addPoint ad1 A1 J1 G wq cq pq tq v2 A2 J2 → brOk n1 G v J1 v2 A2 J2 := by
  obtain ⟨hct, hn, hT, hFs, hpr, hz, hU, hD, hso, hse, hli, hsy, hde, hcd, hok, hdv, hdr, hsn, hol, hln⟩ := id hC
  have et : ((tq + 1 : Nat) : Int) = (tq : Int) + 1 := by omega
  rcases hq with ⟨pN, oN, rfl, ⟨h12, h9, hg, hpN, hlN, hfN, hmN⟩, had, hN, A1, J1, hw, hj, hC1, hO⟩ | ⟨rfl, hN, A1, J1, hw, ⟨rfl, ⟨-, rfl, rfl, hno⟩ | ⟨he, -⟩⟩ | ⟨rfl, ⟨he, -⟩ | ⟨-, rfl, rfl, hg, hno⟩⟩⟩
  · have hM1 : MRep A1 G := hM.same hO
    have hF : mFirst G wq pq ((tq : Int) + 1) (100 * (pN : Int) + (oN : Int)) := Or.inr ⟨(pN : Int), (oN : Int), rfl, by omega, hpN, by omega, hlN, hfN, hmN⟩
    have ho : (oN : Int) < 100 := by
      have h1 : mLim ((tq : Int) + 1) ≤ 48 := by unfold mLim; split <;> omega
      have h2 : 1 ≤ wq := by obtain ⟨g1, g2, g3, g4⟩ := hg; omega
      omega
    refine ⟨n + 1, A1, J1, hN, hw, fun k hk => had k (by omega), hM1, fun v2 A2 J2 h2 => ?_⟩
    rcases h2 with ⟨rfl, rfl, rfl, h3⟩ | ⟨rfl, rfl, rfl, h3, rq, h4, h5⟩ | ⟨rq, rfl, rfl, rfl, h3, h4, h5, h6, h7⟩
    · exact absurd hg h3
    · exfalso
      rw [et] at h4
      have := mFirst_uniq h4 hF
      omega
    · rw [et] at h4
      have hr := mFirst_uniq h4 hF
      subst hr
      have hn2 : (G 28 0).toNat = n := by omega
      have e1 : (100 * (pN : Int) + (oN : Int)) / 100 = (pN : Int) := by omega
      have e2 : (100 * (pN : Int) + (oN : Int)) % 100 = (oN : Int) := by omega
      rw [hn2, e1, e2]
      refine ⟨0, _, gNG G n wq cq pq tq pN oN, rfl, rfl, ?_, by decide, fun _ => by rw [hj, hn]; rfl, hC1.of (fun k hk => ?_), ?_⟩
      · rw [gu_at, if_neg (by omega), gu_ne _ _ _ (by decide), gu_ne _ _ _ (by decide), gu_ne _ _ _ (by decide), gu_ne _ _ _ (by decide), gu_ne _ _ _ (by decide), gu_ne _ _ _ (by decide)]
        exact A34
      · rw [gu_ne _ _ _ (by omega), gu_ne _ _ _ (by omega), gu_ne _ _ _ (by omega), gu_ne _ _ _ (by omega), gu_ne _ _ _ (by omega), gu_ne _ _ _ (by omega), gu_ne _ _ _ (by omega), gu_ne _ _ _ (by omega)]
      · rw [hn]
        exact ((((((((hM1.th _).up 29 n wq).up 30 n cq).up 31 n pq).up 32 n ((tq + 1 : Nat) : Int)).up 33 n (pN : Int)).up 34 n (oN : Int)).up 28 0 ((n : Int) + 1))
  · refine ⟨n, A, J, hN, hw, fun _ _ => rfl, hM, fun v2 A2 J2 h2 => ?_⟩
    rcases h2 with ⟨rfl, rfl, rfl, h3⟩ | ⟨rfl, rfl, rfl, h3, rq, h4, h5⟩ | ⟨rq, rfl, rfl, rfl, h3, h4, h5, h6, h7⟩
    · exact ⟨1, _, G, rfl, rfl, A34, by decide, fun z => absurd z (by decide), hC.th _, hM.th _⟩
    · exact absurd h3 hno
    · exact absurd h3 hno
  · exact absurd he (by decide)
  · exact absurd he (by decide)
  · refine ⟨n, A, J, hN, hw, fun _ _ => rfl, hM, fun v2 A2 J2 h2 => ?_⟩
    rcases h2 with ⟨rfl, rfl, rfl, h3⟩ | ⟨rfl, rfl, rfl, h3, rq, h4, h5⟩ | ⟨rq, rfl, rfl, rfl, h3, h4, h5, h6, h7⟩
    · exact absurd hg h3
    · exact ⟨2, _, G, rfl, rfl, A34, by decide, fun z => absurd z (by decide), hC.th _, hM.th _⟩
    · exfalso
      rw [et] at h4
      rcases hno with h8 | h8 | h8
      · omega
      · omega
      · exact h5 (mFirst_uniq h4 (Or.inl ⟨rfl, h8⟩))

/-! ===== methods that throw ===== -/
def gXC (D : va_G) (cy : Nat → ClassId) (base : Nat) (ad : Nat → Nat) (n : Nat) (px : String → (Nat → Nat → Int32) → (Nat → Nat → Int64) → Prop) : String → State → State → Prop := fun E st t => ∃ u : gS, px E u.1 u.2 ∧ va_P D vwCl (gl ad (33 + 2 * n) (gw cy ad n u.1 u.2)) t.heap ∧ va_F (fun q => base ≤ q) st t
abbrev gMetX (l : Launch) (y : MethodName) (ws : List Cond) (rm : Room) (D : va_G) (cy : Nat → ClassId) (base : Nat) (ad : Nat → Nat) (n : Nat) (A : Nat → Nat → Int32) (J : Nat → Nat → Int64) (av : List Value) (post : Option Value → (Nat → Nat → Int32) → (Nat → Nat → Int64) → Prop) (px : String → (Nat → Nat → Int32) → (Nat → Nat → Int64) → Prop) (mc ms : Nat) : Prop :=
  vx_Met l y ws rm (gPre D cy base ad (33 + 2 * n) (gw cy ad n A J) av) (gPost D cy base ad n post) (gXC D cy base ad n px) mc ms (fun q => base ≤ q)
abbrev gMetXW (l : Launch) (y : MethodName) (ws : List Cond) (rm : Room) (D : va_G) (cy : Nat → ClassId) (base : Nat) (ad : Nat → Nat) (n : Nat) (A : Nat → Nat → Int32) (J : Nat → Nat → Int64) (av : List Value) (post : Option Value → (Nat → Nat) → Nat → (Nat → va_E) → Prop) (px : String → (Nat → Nat → Int32) → (Nat → Nat → Int64) → Prop) (mc ms : Nat) : Prop :=
  vx_Met l y ws rm (gPre D cy base ad (33 + 2 * n) (gw cy ad n A J) av) (gPostW D base post) (gXC D cy base ad n px) mc ms (fun q => base ≤ q)
abbrev vxN : List String := ["java/lang/RuntimeException", "java/lang/Exception"]
theorem vx_self {args : Array Value} {s : State} {X : String} {k : Nat} (h : (Cond.instantiable X k).before args s = true) : (Cond.castable X X).before args s = true := by
  obtain ⟨c9, k9, hc, -⟩ := Cond.instantiable_spec h
  have h2 : s.vm.assignable c9 c9 = true := by
    show Vm.assignableAux s.vm (255 + 1) c9 c9 = true
    rw [Vm.assignableAux]
    simp
  simp only [Cond.before, Cond.holds, Cond.value, hc, h2, beq_self_eq_true]
theorem vx_dec {args : Array Value} {s : State} {x : MethodName} {bytes : ByteArray} {mx : Nat} {ret : Option FieldType} (h1 : (Cond.instanceMethod x).before args s = true) (h2 : (Cond.code x bytes mx ret).before args s = true) : (Cond.declares x).before args s = true := by
  have h3 := h1
  simp only [Cond.before, Cond.holds, Cond.value] at h3
  cases hn : s.methodNamed? x with
  | none => simp [hn] at h3
  | some m9 =>
    obtain ⟨meth, c9, hm, -, -, -, -, -, -, hsig⟩ := Cond.code_spec hn h2
    simp only [hn, Option.bind_some, hm, Option.map_some] at h3
    simp only [Cond.before, Cond.holds, Cond.value, hn, Option.bind_some, hm, Option.map_some, hsig]
    simpa using (by simpa using h3 : meth.isStatic = false ∧ meth.isAbstract = false).1
theorem vx_all {args : Array Value} {s : State} {X : String} {L : List Cond} (h1 : ∀ w ∈ L.filter goodWord, w.before args s = true) (hi : Cond.instantiable X 6 ∈ L.filter goodWord)
    {x1 x2 x3 : MethodName} {b1 b2 b3 : ByteArray} (i1 : Cond.instanceMethod x1 ∈ L.filter goodWord) (c1 : Cond.code x1 b1 1 none ∈ L.filter goodWord) (i2 : Cond.instanceMethod x2 ∈ L.filter goodWord) (c2 : Cond.code x2 b2 1 none ∈ L.filter goodWord) (i3 : Cond.instanceMethod x3 ∈ L.filter goodWord) (c3 : Cond.code x3 b3 1 none ∈ L.filter goodWord)
    (h2 : ∀ w ∈ L.filter (fun w => !goodWord w), w ∈ [Cond.castable X X, .declares x1, .declares x2, .declares x3]) : ∀ w ∈ L, w.before args s = true :=
  vx_hat (B := [Cond.castable X X, .declares x1, .declares x2, .declares x3]) h1 h2 (vx_c (vx_self (h1 _ hi)) (vx_c (vx_dec (h1 _ i1) (h1 _ c1)) (vx_c (vx_dec (h1 _ i2) (h1 _ c2)) (vx_c (vx_dec (h1 _ i3) (h1 _ c3)) vx_n))))
theorem vxg_IA {args : Array Value} {s : State} (h1 : ∀ w ∈ (vx_at0 RX9 57 "java/lang/IllegalArgumentException" vxN).filter goodWord, w.before args s = true) : ∀ w ∈ vx_at0 RX9 57 "java/lang/IllegalArgumentException" vxN, w.before args s = true := vx_all (X := "java/lang/IllegalArgumentException") (x1 := Bundle.init0 "java/lang/RuntimeException") (x2 := Bundle.init0 "java/lang/Exception") (x3 := Bundle.init0 Bundle.tN) (b1 := Bundle.five) (b2 := Bundle.five) (b3 := LibCode.Throwable.Init0.code) h1 (by decide +kernel) (by decide +kernel) (by decide +kernel) (by decide +kernel) (by decide +kernel) (by decide +kernel) (by decide +kernel) (by decide +kernel)
theorem vxg_IS {args : Array Value} {s : State} (h1 : ∀ w ∈ (vx_at0 RX9 67 "java/lang/IllegalStateException" vxN).filter goodWord, w.before args s = true) : ∀ w ∈ vx_at0 RX9 67 "java/lang/IllegalStateException" vxN, w.before args s = true := vx_all (X := "java/lang/IllegalStateException") (x1 := Bundle.init0 "java/lang/RuntimeException") (x2 := Bundle.init0 "java/lang/Exception") (x3 := Bundle.init0 Bundle.tN) (b1 := Bundle.five) (b2 := Bundle.five) (b3 := LibCode.Throwable.Init0.code) h1 (by decide +kernel) (by decide +kernel) (by decide +kernel) (by decide +kernel) (by decide +kernel) (by decide +kernel) (by decide +kernel) (by decide +kernel)
theorem vxg_IO {args : Array Value} {s : State} (h1 : ∀ w ∈ (vx_at0 RX9 109 "java/lang/IndexOutOfBoundsException" vxN).filter goodWord, w.before args s = true) : ∀ w ∈ vx_at0 RX9 109 "java/lang/IndexOutOfBoundsException" vxN, w.before args s = true := vx_all (X := "java/lang/IndexOutOfBoundsException") (x1 := Bundle.init0 "java/lang/RuntimeException") (x2 := Bundle.init0 "java/lang/Exception") (x3 := Bundle.init0 Bundle.tN) (b1 := Bundle.five) (b2 := Bundle.five) (b3 := LibCode.Throwable.Init0.code) h1 (by decide +kernel) (by decide +kernel) (by decide +kernel) (by decide +kernel) (by decide +kernel) (by decide +kernel) (by decide +kernel) (by decide +kernel)
theorem vxg_NS {args : Array Value} {s : State} (h1 : ∀ w ∈ (vx_at0 RX9 159 "java/util/NoSuchElementException" vxN).filter goodWord, w.before args s = true) : ∀ w ∈ vx_at0 RX9 159 "java/util/NoSuchElementException" vxN, w.before args s = true := vx_all (X := "java/util/NoSuchElementException") (x1 := Bundle.init0 "java/lang/RuntimeException") (x2 := Bundle.init0 "java/lang/Exception") (x3 := Bundle.init0 Bundle.tN) (b1 := Bundle.five) (b2 := Bundle.five) (b3 := LibCode.Throwable.Init0.code) h1 (by decide +kernel) (by decide +kernel) (by decide +kernel) (by decide +kernel) (by decide +kernel) (by decide +kernel) (by decide +kernel) (by decide +kernel)
theorem vxo_IA : ∀ w ∈ Cond.classLink RX9 55 "java/lang/IllegalArgumentException" :: Cond.initialized "java/lang/IllegalArgumentException" :: vx_at0 RX9 57 "java/lang/IllegalArgumentException" vxN, vx_ot w = true := by decide +kernel
theorem vxo_IS : ∀ w ∈ Cond.classLink RX9 65 "java/lang/IllegalStateException" :: Cond.initialized "java/lang/IllegalStateException" :: vx_at0 RX9 67 "java/lang/IllegalStateException" vxN, vx_ot w = true := by decide +kernel
theorem vxo_IO : ∀ w ∈ Cond.classLink RX9 107 "java/lang/IndexOutOfBoundsException" :: Cond.initialized "java/lang/IndexOutOfBoundsException" :: vx_at0 RX9 109 "java/lang/IndexOutOfBoundsException" vxN, vx_ot w = true := by decide +kernel
theorem vxo_NS : ∀ w ∈ Cond.classLink RX9 157 "java/util/NoSuchElementException" :: Cond.initialized "java/util/NoSuchElementException" :: vx_at0 RX9 159 "java/util/NoSuchElementException" vxN, vx_ot w = true := by decide +kernel
theorem va_P_grow {D : va_G} {cl : List vw_C} {ws : va_W} {H H1 : Heap} (h : va_P D cl ws H) (hq : ∀ q : Nat, q < H.size → H1[q]? = H[q]?) : va_P D cl ws H1 := h.kept (fun _ _ hk => hq _ (vx_lt h hk))
section GR
variable {p : Program} {l : Launch} {e : Env} {R : Room} {s : State} {m : MethodId} {args : Array Value} {below : List Frame} {meth : Method} {c : Code} {H : Heap} {locs : List Loc} {cells slots : Nat} {Q : State → Prop}
variable {cc : ByteArray} {pc : Nat} {ls : Array Slot} {rest : List Value} {D : va_G} {cy : Nat → ClassId} {base : Nat} {ad : Nat → Nat} {N n : Nat} {w : Nat → va_E} {A : Nat → Nat → Int32} {J : Nat → Nat → Int64}
variable {Qc : Array Value → State → Outcome → State → Prop} {px : String → (Nat → Nat → Int32) → (Nat → Nat → Int64) → Prop} {mc ms : Nat}
theorem gx_throw (hx : p.tables.exec = Jvm.exec) (hb : c.code = cc) (hst : l.stackTraces = false) {own cls : String} {ik ic : Nat} (hown : s.vm.findClass own = some m.cls) (hcls : Bundle.fit cls = true) (hk : (Cond.classLink own ik cls).before args s = true) (hini : (Cond.initialized cls).before args s = true) (hat : ∀ w ∈ vx_at0 own ic cls vxN, w.before args s = true)
    (hgood : ∀ w ∈ Cond.classLink own ik cls :: Cond.initialized cls :: vx_at0 own ic cls vxN, vx_ot w = true) (hE : gE D cy base s) (hG : gH D base s ad (33 + 2 * n) (gw cy ad n A J) H locs) (hsize : ls.size = c.maxLocals)
    (d0 : decode cc pc = .ok (.new ik, 3)) (d3 : decode cc (pc + 3) = .ok (.dup, 1)) (d4 : decode cc (pc + 4) = .ok (.invokespecial ic, 3)) (d7 : decode cc (pc + 7) = .ok (.athrow, 1))
    (hout : ∀ x ∈ c.exceptionTable.toList, False) (hRf : 5 < R.frames) (hRl : (rest.map fun v => v.category).sum + 81 ≤ R.locals) (hRc : cells + 1 ≤ R.cells) (hRs : slots + 6 ≤ R.slots) (hlocks : meth.locks = false) (hp : px cls A J) (hc : cells + 1 ≤ mc) (hs : slots + 6 ≤ ms) :
    W p l e R s m args below meth c H locs cells slots (vx_MQ below Qc (gXC D cy base ad n px) args s mc ms (fun q => base ≤ q)) (F0 m pc ls rest) :=
  vx_throw0 hx hb hst hown hcls (by decide +kernel) hk hini hat hgood hE.2.2.2.1 hE.2.2.2.2 hG.2.2 hsize d0 d3 d4 d7 (fun x h => (hout x h).elim) hRf hRl hRc hRs hlocks
    (fun t _ hz hq => ⟨(A, J), hp, va_P_grow hG.1 hq, Nat.le_trans hG.2.2.1 hz, fun q h1 h2 => (hq q (Nat.lt_of_lt_of_le h1 hG.2.2.1)).trans (hG.2.2.2.1 q h1 h2)⟩) hG.2.2.2.2 hc hs
theorem gx_out {E : String} {ce : Cell} {q : Addr} (hout : ∀ x ∈ c.exceptionTable.toList, False) (hlocks : meth.locks = false) (hcell : H[q]? = some ce) (hv : ce.vm = .none) (hcl : s.vm.findClass E = some ce.cls) (hG : gH D base s ad (33 + 2 * n) (gw cy ad n A J) H locs) (hp : px E A J) (hc : cells ≤ mc) (hs : slots ≤ ms) :
    vx_W p l e R s m args below meth c H locs cells slots (vx_MQ below Qc (gXC D cy base ad n px) args s mc ms (fun q => base ≤ q)) (F0 m pc ls rest) q :=
  vx_out (fun x h => (hout x h).elim) hlocks hcell hv hcl (fun t ht _ => ⟨(A, J), hp, by rw [ht]; exact hG.1, hG.2.2.F ht⟩) hG.2.2.2.2 hc hs
theorem gx_fin {S : Type} {post : Option Value → S → Prop} {B : S → State → Prop} {a : Array Value} {mc1 ms1 : Nat} {st0 : List Value} {ad1 : Nat → Nat} {n1 : Nat} (hr : vx_Run p l e R s m args below meth c H locs cells slots mc1 ms1 (F0 m pc ls st0) rest (gQc post B (fun q => base ≤ q) a) (gXC D cy base ad1 n1 px) (fun q => base ≤ q)) (hS : va_S (fun q => base ≤ q) s.heap H locs)
    (kx : ∀ (E : String) (ce : Cell) (q9 : Addr) (A : Nat → Nat → Int32) (J : Nat → Nat → Int64) (H1 : Heap) (locs1 : List Loc), px E A J → va_P D vwCl (gl ad1 (33 + 2 * n1) (gw cy ad1 n1 A J)) H1 → va_S (fun q => base ≤ q) s.heap H1 locs1 → H1[q9]? = some ce → ce.vm = .none → s.vm.findClass E = some ce.cls → vx_W p l e R s m args below meth c H1 locs1 (cells + mc1) (slots + ms1) Q (F0 m pc ls rest) q9)
    (kk : ∀ (v : Option Value) (u : S) (t : State) (H1 : Heap) (locs1 : List Loc), t.heap = H1 → post v u → B u t → H.size ≤ H1.size → va_S (fun q => base ≤ q) s.heap H1 locs1 → W p l e R s m args below meth c H1 locs1 (cells + mc1) (slots + ms1) Q (F0 m (pc + 3) ls (v.toList ++ rest))) : W p l e R s m args below meth c H locs cells slots Q (F0 m pc ls st0) := by
  intro T hT X
  rcases hr T hT X with ⟨v, st₀, t, T', L, h0, X', hL, e1, e2, ⟨⟨v', u, hv, hp, hb⟩, hF⟩, st⟩ | ⟨q, st₀, t, T', L, E, ce, h0, X', hL, e1, e2, ⟨u, hp, hb, hF⟩, hce, hcv, hcl, st⟩
  · cases hv
    obtain ⟨k1, k2, k3⟩ := vx_keep h0 e1 hS (fun _ _ h => h) (fun _ h => h) hL hF
    obtain ⟨t2, a1, b1⟩ := kk v u t T'.heap (locs ++ L) e1.symm hp hb k1 k3 T' rfl X'
    exact ⟨t2, st t2 a1, b1⟩
  · obtain ⟨k1, k2, k3⟩ := vx_keep h0 e1 hS (fun _ _ h => h) (fun _ h => h) hL hF
    obtain ⟨t2, a1, b1⟩ := kx E ce q u.1 u.2 T'.heap (locs ++ L) hp (by rw [e1]; exact hb) k3 (by rw [e1]; exact hce) hcv hcl T' rfl X'
    exact ⟨t2, st.trans a1, b1⟩
theorem gx_callV {y : MethodName} {bytes : ByteArray} {maxL nL nn index mc1 ms1 : Nat} {ret : Option FieldType} {ws : List Cond} {rm : Room} {Ts : List Cond} {own : String} {As st0 : List Value} {post : Option Value → (Nat → Nat → Int32) → (Nat → Nat → Int64) → Prop} {px1 : String → (Nat → Nat → Int32) → (Nat → Nat → Int64) → Prop} {k : Nat} {r : vw_C} {ci : Nat} {fs : List Value}
    (S : CallFix p m c cc nL s args Ts own) (hE : gE D cy base s) (hG : gH D base s ad (33 + 2 * n) (gw cy ad n A J) H locs) (hM : gMetX l y ws rm D cy base ad n A J (.ref (ad k) :: As) post px1 mc1 ms1) (cw : CallW R s args own r.1 index y bytes maxL ret ws rm mc1 ms1 nn) (hk : k < 33 + 2 * n) (he : gw cy ad n A J k = .inr (ci, fs)) (hc : vwCl[ci]? = some r)
    (hn : As.length = nn) (hsize : ls.size = nL) (hst : st0 = As.reverse ++ .ref (ad k) :: rest) (hW : (rest.map fun v => v.category).sum ≤ 8) (hdg : decode cc pc = .ok (.invokevirtual index, 3)) (hf : cells + mc1 ≤ R.cells ∧ slots + ms1 ≤ R.slots)
    (hout : ∀ x ∈ c.exceptionTable.toList, False) (hlocks : meth.locks = false) (hpx : ∀ E A J, px1 E A J → px E A J) (hcm : cells + mc1 ≤ mc) (hsm : slots + ms1 ≤ ms)
    (kk : ∀ (v : Option Value) (A : Nat → Nat → Int32) (J : Nat → Nat → Int64) (H : Heap) (locs : List Loc), post v A J → gH D base s ad (33 + 2 * n) (gw cy ad n A J) H locs → W p l e R s m args below meth c H locs (cells + mc1) (slots + ms1) (vx_MQ below Qc (gXC D cy base ad n px) args s mc ms (fun q => base ≤ q)) (F0 m (pc + 3) ls (v.toList ++ rest))) : W p l e R s m args below meth c H locs cells slots (vx_MQ below Qc (gXC D cy base ad n px) args s mc ms (fun q => base ≤ q)) (F0 m pc ls st0) := by
  have hP := g_pre hE hG (.ref (ad k) :: As)
  refine gx_fin (rest := rest) (mc1 := mc1) (ms1 := ms1) (vx_runV (C := r.1) (b := ad k) (As := As) (rest := rest) (g := F0 m pc ls st0) S hM cw ⟨hP.1, g_recv hE hG hk he hc, hP.2⟩ rfl hn hsize hst (by show 2 * 0 + _ ≤ 8; omega) hdg hf) hG.2.2
    (fun E ce q9 A1 J1 H1 locs1 hp hB hS hce hv hcl => gx_out hout hlocks hce hv hcl ⟨hB, gl_D hG.2.1, hS⟩ (hpx _ _ _ hp) hcm hsm)
    (fun v u t H1 locs1 ht hp hB hz hS => kk v u.1 u.2 H1 locs1 hp ⟨by rw [← ht]; exact hB, gl_D hG.2.1, hS⟩)
theorem gx_callS {y : MethodName} {bytes : ByteArray} {maxL nL nn index mc1 ms1 : Nat} {ret : Option FieldType} {ws : List Cond} {rm : Room} {Ts : List Cond} {own : String} {As st0 : List Value} {post : Option Value → (Nat → Nat → Int32) → (Nat → Nat → Int64) → Prop} {px1 : String → (Nat → Nat → Int32) → (Nat → Nat → Int64) → Prop}
    (S : CallFix p m c cc nL s args Ts own) (hE : gE D cy base s) (hG : gH D base s ad (33 + 2 * n) (gw cy ad n A J) H locs) (hM : gMetX l y ws rm D cy base ad n A J As post px1 mc1 ms1) (cw : CallB R s args own index y bytes maxL ret ws rm mc1 ms1 nn ∧ (Cond.static y).before args s = true)
    (hn : As.length = nn) (hsize : ls.size = nL) (hst : st0 = As.reverse ++ rest) (hW : (rest.map fun v => v.category).sum ≤ 8) (hdg : decode cc pc = .ok (.invokestatic index, 3)) (hf : cells + mc1 ≤ R.cells ∧ slots + ms1 ≤ R.slots)
    (hout : ∀ x ∈ c.exceptionTable.toList, False) (hlocks : meth.locks = false) (hpx : ∀ E A J, px1 E A J → px E A J) (hcm : cells + mc1 ≤ mc) (hsm : slots + ms1 ≤ ms)
    (kk : ∀ (v : Option Value) (A : Nat → Nat → Int32) (J : Nat → Nat → Int64) (H : Heap) (locs : List Loc), post v A J → gH D base s ad (33 + 2 * n) (gw cy ad n A J) H locs → W p l e R s m args below meth c H locs (cells + mc1) (slots + ms1) (vx_MQ below Qc (gXC D cy base ad n px) args s mc ms (fun q => base ≤ q)) (F0 m (pc + 3) ls (v.toList ++ rest))) : W p l e R s m args below meth c H locs cells slots (vx_MQ below Qc (gXC D cy base ad n px) args s mc ms (fun q => base ≤ q)) (F0 m pc ls st0) := by
  refine gx_fin (rest := rest) (mc1 := mc1) (ms1 := ms1) (vx_runS (As := As) (rest := rest) (g := F0 m pc ls st0) S hM cw (g_pre hE hG As) rfl hn hsize hst (by show 2 * 0 + _ ≤ 8; omega) hdg hf) hG.2.2
    (fun E ce q9 A1 J1 H1 locs1 hp hB hS hce hv hcl => gx_out hout hlocks hce hv hcl ⟨hB, gl_D hG.2.1, hS⟩ (hpx _ _ _ hp) hcm hsm)
    (fun v u t H1 locs1 ht hp hB hz hS => kk v u.1 u.2 H1 locs1 hp ⟨by rw [← ht]; exact hB, gl_D hG.2.1, hS⟩)
/-- a callee under which the world grows -/
theorem gR_callV {y : MethodName} {bytes : ByteArray} {maxL nL nn index mc1 ms1 : Nat} {ret : Option FieldType} {ws : List Cond} {rm : Room} {Ts : List Cond} {own : String} {As st0 : List Value} {post : Option Value → (Nat → Nat) → Nat → (Nat → va_E) → Prop} {k : Nat} {r : vw_C} {ci : Nat} {fs : List Value}
    (S : CallFix p m c cc nL s args Ts own) (hE : gE D cy base s) (hG : gH D base s ad N w H locs) (hM : gMetW l y ws rm D cy base ad N w (.ref (ad k) :: As) post mc1 ms1) (cw : CallW R s args own r.1 index y bytes maxL ret ws rm mc1 ms1 nn) (hk : k < N) (he : w k = .inr (ci, fs)) (hc : vwCl[ci]? = some r)
    (hn : As.length = nn) (hsize : ls.size = nL) (hst : st0 = As.reverse ++ .ref (ad k) :: rest) (hW : (rest.map fun v => v.category).sum ≤ 8) (hdg : decode cc pc = .ok (.invokevirtual index, 3)) (hf : cells + mc1 ≤ R.cells ∧ slots + ms1 ≤ R.slots)
    (kk : ∀ (v : Option Value) (ad' : Nat → Nat) (N' : Nat) (w' : Nat → va_E) (H : Heap) (locs : List Loc), post v ad' N' w' → gH D base s ad' N' w' H locs → W p l e R s m args below meth c H locs (cells + mc1) (slots + ms1) Q (F0 m (pc + 3) ls (v.toList ++ rest))) : W p l e R s m args below meth c H locs cells slots Q (F0 m pc ls st0) := by
  have hP := g_pre hE hG (.ref (ad k) :: As)
  refine g_fin (rest := rest) (mc := mc1) (ms := ms1) (va_runV (C := r.1) (b := ad k) (As := As) (rest := rest) (g := F0 m pc ls st0) S hM cw ⟨hP.1, g_recv hE hG hk he hc, hP.2⟩ rfl hn hsize hst (by show 2 * 0 + _ ≤ 8; omega) hdg hf) hG.2.2 (fun v u t H1 locs1 ht hp hB hz hS => ?_)
  exact kk v u.1 u.2.1 u.2.2 H1 locs1 hp ⟨by rw [← ht]; exact hB.1, hB.2, hS⟩
/-- ends -/
theorem gx_iret {post : Option Value → (Nat → Nat → Int32) → (Nat → Nat → Int64) → Prop} {XC : String → State → State → Prop} {v : Int32} (hx : p.tables.exec = Jvm.exec) (hb : c.code = cc) (hr : meth.sig.returnType = some .int) (hlocks : meth.locks = false) (hG : gH D base s ad (33 + 2 * n) (gw cy ad n A J) H locs) (h1 : cells ≤ mc) (h2 : slots ≤ ms) (hp : post (some (.int v)) A J) (hdg : decode cc pc = .ok (.ireturn, 1)) :
    W p l e R s m args below meth c H locs cells slots (vx_MQ below (gPost D cy base ad n post) XC args s mc ms (fun q => base ≤ q)) (F0 m pc ls [.int v]) :=
  vx_ret (W.widen h1 h2 (W.iret hx hb hr (fun t ht _ => ⟨⟨_, (A, J), rfl, hp, by show va_P _ _ _ t.heap; rw [ht]; exact hG.1⟩, hG.2.2.F ht⟩) hG.2.2.2.2 hdg hlocks))
theorem gx_vret {post : Option Value → (Nat → Nat → Int32) → (Nat → Nat → Int64) → Prop} {XC : String → State → State → Prop} (hx : p.tables.exec = Jvm.exec) (hb : c.code = cc) (hr : meth.sig.returnType = none) (hlocks : meth.locks = false) (hG : gH D base s ad (33 + 2 * n) (gw cy ad n A J) H locs) (h1 : cells ≤ mc) (h2 : slots ≤ ms) (hp : post none A J) (hdg : decode cc pc = .ok (.return_, 1)) :
    W p l e R s m args below meth c H locs cells slots (vx_MQ below (gPost D cy base ad n post) XC args s mc ms (fun q => base ≤ q)) (F0 m pc ls []) :=
  vx_ret (W.widen h1 h2 (W.vret hx hb hr (fun t ht _ => ⟨⟨_, (A, J), rfl, hp, by show va_P _ _ _ t.heap; rw [ht]; exact hG.1⟩, hG.2.2.F ht⟩) hG.2.2.2.2 hdg hlocks))
theorem gx_aret {post : Option Value → (Nat → Nat → Int32) → (Nat → Nat → Int64) → Prop} {XC : String → State → State → Prop} {v : Value} {nm : String} (hx : p.tables.exec = Jvm.exec) (hb : c.code = cc) (hr : meth.sig.returnType = some (.object nm)) (hlocks : meth.locks = false) (hv : v = .null ∨ ∃ a, v = .ref a) (hG : gH D base s ad (33 + 2 * n) (gw cy ad n A J) H locs) (h1 : cells ≤ mc) (h2 : slots ≤ ms) (hp : post (some v) A J) (hdg : decode cc pc = .ok (.areturn, 1)) :
    W p l e R s m args below meth c H locs cells slots (vx_MQ below (gPost D cy base ad n post) XC args s mc ms (fun q => base ≤ q)) (F0 m pc ls [v]) :=
  vx_ret (W.widen h1 h2 (W.aret hx hb hr (Or.inl ⟨nm, rfl⟩) hv (fun t ht _ => ⟨⟨_, (A, J), rfl, hp, by show va_P _ _ _ t.heap; rw [ht]; exact hG.1⟩, hG.2.2.F ht⟩) hG.2.2.2.2 hdg hlocks))
theorem gy_iret {post : Option Value → (Nat → Nat) → Nat → (Nat → va_E) → Prop} {XC : String → State → State → Prop} {v : Int32} (hx : p.tables.exec = Jvm.exec) (hb : c.code = cc) (hr : meth.sig.returnType = some .int) (hlocks : meth.locks = false) (hG : gH D base s ad N w H locs) (h1 : cells ≤ mc) (h2 : slots ≤ ms) (hp : post (some (.int v)) ad N w) (hdg : decode cc pc = .ok (.ireturn, 1)) :
    W p l e R s m args below meth c H locs cells slots (vx_MQ below (gPostW D base post) XC args s mc ms (fun q => base ≤ q)) (F0 m pc ls [.int v]) :=
  vx_ret (W.widen h1 h2 (W.iret hx hb hr (fun t ht _ => ⟨⟨_, (ad, N, w), rfl, hp, by show va_P _ _ _ t.heap; rw [ht]; exact hG.1, hG.2.1⟩, hG.2.2.F ht⟩) hG.2.2.2.2 hdg hlocks))
end GR
/-- a body that may throw -/
theorem gx_ofW {l : Launch} {y : MethodName} {ws ws' : List Cond} {rm : Room} {D : va_G} {cy : Nat → ClassId} {base : Nat} {ad : Nat → Nat} {N : Nat} {w : Nat → va_E} {mc ms : Nat} {av : List Value} {Qc : Array Value → State → Outcome → State → Prop} {XC : String → State → State → Prop} {cc : ByteArray} {maxL : Nat} {ret : Option FieldType}
    (hy : plainName y.cls = true) (hw : ws = Cond.code y cc maxL ret :: ws') (hlen : (lg_sl av).length ≤ maxL)
    (body : ∀ (p : Program) (e : Env) (s : State) (m : MethodId) (args : Array Value) (below : List Frame) (meth : Method) (c : Code) (H : Heap) (locs : List Loc) (ls : Array Slot), p.tables.exec = Jvm.exec → c.code = cc → meth.sig.returnType = ret → (∀ w ∈ ws, w.before args s = true) → s.vm.findClass y.cls = some m.cls → meth.locks = false → c.maxLocals = maxL → (∀ x ∈ c.exceptionTable.toList, False) → gE D cy base s → gH D base s ad N w H locs → lv_has ls maxL (lv_args 0 av) →
      W p l e rm s m args below meth c H locs 0 0 (vx_MQ below Qc XC args s mc ms (fun q => base ≤ q)) (F0 m 0 ls [])) : vx_Met l y ws rm (gPre D cy base ad N w av) Qc XC mc ms (fun q => base ≤ q) := by
  refine vx_ofW (cc := cc) (maxL := maxL) (ret := ret) hy hw ?_
  intro p e s m args below meth c s₁ B hml ht hv
  obtain ⟨rfl, hE, hP, hD⟩ := hv
  rw [lg_entry_eq]
  exact body p e s m av.toArray below meth c s.heap [] _ B.exec B.bytes B.returns (atoms_spec (ws := ws) B.pre) (findClass_of_methodNamed B.named) B.notSynchronized hml ht hE ⟨hP, hD, va_S.rf⟩ (lv_entry av hlen)

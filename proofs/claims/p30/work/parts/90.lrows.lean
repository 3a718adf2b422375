/-! ===== rows of the law's methods: they make cells, they throw nothing ===== -/
abbrev pxNo : String → (Nat → Nat → Int32) → (Nat → Nat → Int64) → Prop := fun _ _ _ => False
section GR
variable {p : Program} {l : Launch} {e : Env} {R : Room} {s : State} {m : MethodId} {args : Array Value} {below : List Frame} {meth : Method} {c : Code} {H : Heap} {locs : List Loc} {cells slots : Nat} {Q : State → Prop}
variable {cc : ByteArray} {pc : Nat} {ls : Array Slot} {rest : List Value} {D : va_G} {cy : Nat → ClassId} {base : Nat} {ad : Nat → Nat} {N n : Nat} {w : Nat → va_E} {A : Nat → Nat → Int32} {J : Nat → Nat → Int64} {mc ms : Nat}
theorem gN_callV {y : MethodName} {bytes : ByteArray} {maxL nL nn index mc1 ms1 : Nat} {ret : Option FieldType} {ws : List Cond} {rm : Room} {Ts : List Cond} {own : String} {As st0 : List Value} {post : Option Value → (Nat → Nat → Int32) → (Nat → Nat → Int64) → Prop} {px1 : String → (Nat → Nat → Int32) → (Nat → Nat → Int64) → Prop} {k : Nat} {r : vw_C} {ci : Nat} {fs : List Value}
    (S : CallFix p m c cc nL s args Ts own) (hE : gE D cy base s) (hG : gH D base s ad (33 + 2 * n) (gw cy ad n A J) H locs) (hM : gMetX l y ws rm D cy base ad n A J (.ref (ad k) :: As) post px1 mc1 ms1) (cw : CallW R s args own r.1 index y bytes maxL ret ws rm mc1 ms1 nn) (hk : k < 33 + 2 * n) (he : gw cy ad n A J k = .inr (ci, fs)) (hc : vwCl[ci]? = some r)
    (hn : As.length = nn) (hsize : ls.size = nL) (hst : st0 = As.reverse ++ .ref (ad k) :: rest) (hW : (rest.map fun v => v.category).sum ≤ 8) (hdg : decode cc pc = .ok (.invokevirtual index, 3)) (hf : cells + mc1 ≤ R.cells ∧ slots + ms1 ≤ R.slots) (hno : ∀ E A J, px1 E A J → False)
    (kk : ∀ (v : Option Value) (A : Nat → Nat → Int32) (J : Nat → Nat → Int64) (H : Heap) (locs : List Loc), post v A J → gH D base s ad (33 + 2 * n) (gw cy ad n A J) H locs → W p l e R s m args below meth c H locs (cells + mc1) (slots + ms1) Q (F0 m (pc + 3) ls (v.toList ++ rest))) : W p l e R s m args below meth c H locs cells slots Q (F0 m pc ls st0) := by
  have hP := g_pre hE hG (.ref (ad k) :: As)
  refine gx_fin (rest := rest) (mc1 := mc1) (ms1 := ms1) (vx_runV (C := r.1) (b := ad k) (As := As) (rest := rest) (g := F0 m pc ls st0) S hM cw ⟨hP.1, g_recv hE hG hk he hc, hP.2⟩ rfl hn hsize hst (by show 2 * 0 + _ ≤ 8; omega) hdg hf) hG.2.2
    (fun E ce q9 A1 J1 H1 locs1 hp hB hS hce hv hcl => (hno _ _ _ hp).elim)
    (fun v u t H1 locs1 ht hp hB hz hS => kk v u.1 u.2 H1 locs1 hp ⟨by rw [← ht]; exact hB, gl_D hG.2.1, hS⟩)
theorem gN_callS {y : MethodName} {bytes : ByteArray} {maxL nL nn index mc1 ms1 : Nat} {ret : Option FieldType} {ws : List Cond} {rm : Room} {Ts : List Cond} {own : String} {As st0 : List Value} {post : Option Value → (Nat → Nat → Int32) → (Nat → Nat → Int64) → Prop} {px1 : String → (Nat → Nat → Int32) → (Nat → Nat → Int64) → Prop}
    (S : CallFix p m c cc nL s args Ts own) (hE : gE D cy base s) (hG : gH D base s ad (33 + 2 * n) (gw cy ad n A J) H locs) (hM : gMetX l y ws rm D cy base ad n A J As post px1 mc1 ms1) (cw : CallB R s args own index y bytes maxL ret ws rm mc1 ms1 nn ∧ (Cond.static y).before args s = true)
    (hn : As.length = nn) (hsize : ls.size = nL) (hst : st0 = As.reverse ++ rest) (hW : (rest.map fun v => v.category).sum ≤ 8) (hdg : decode cc pc = .ok (.invokestatic index, 3)) (hf : cells + mc1 ≤ R.cells ∧ slots + ms1 ≤ R.slots) (hno : ∀ E A J, px1 E A J → False)
    (kk : ∀ (v : Option Value) (A : Nat → Nat → Int32) (J : Nat → Nat → Int64) (H : Heap) (locs : List Loc), post v A J → gH D base s ad (33 + 2 * n) (gw cy ad n A J) H locs → W p l e R s m args below meth c H locs (cells + mc1) (slots + ms1) Q (F0 m (pc + 3) ls (v.toList ++ rest))) : W p l e R s m args below meth c H locs cells slots Q (F0 m pc ls st0) := by
  refine gx_fin (rest := rest) (mc1 := mc1) (ms1 := ms1) (vx_runS (As := As) (rest := rest) (g := F0 m pc ls st0) S hM cw (g_pre hE hG As) rfl hn hsize hst (by show 2 * 0 + _ ≤ 8; omega) hdg hf) hG.2.2
    (fun E ce q9 A1 J1 H1 locs1 hp hB hS hce hv hcl => (hno _ _ _ hp).elim)
    (fun v u t H1 locs1 ht hp hB hz hS => kk v u.1 u.2 H1 locs1 hp ⟨by rw [← ht]; exact hB, gl_D hG.2.1, hS⟩)
theorem gN_callT {y : MethodName} {bytes : ByteArray} {maxL nL nn index mc1 ms1 : Nat} {ret : Option FieldType} {hh : List (Nat × Nat × Nat × Nat)} {ws : List Cond} {rm : Room} {Ts : List Cond} {own : String} {As st0 : List Value} {post : Option Value → (Nat → Nat → Int32) → (Nat → Nat → Int64) → Prop} {px1 : String → (Nat → Nat → Int32) → (Nat → Nat → Int64) → Prop}
    (S : CallFix p m c cc nL s args Ts own) (hE : gE D cy base s) (hG : gH D base s ad (33 + 2 * n) (gw cy ad n A J) H locs) (hM : gMetX l y ws rm D cy base ad n A J As post px1 mc1 ms1) (cw : vx_CSW R s args own index y bytes maxL ret hh ws rm mc1 ms1 nn)
    (hn : As.length = nn) (hsize : ls.size = nL) (hst : st0 = As.reverse ++ rest) (hW : (rest.map fun v => v.category).sum ≤ 8) (hdg : decode cc pc = .ok (.invokestatic index, 3)) (hf : cells + mc1 ≤ R.cells ∧ slots + ms1 ≤ R.slots) (hno : ∀ E A J, px1 E A J → False)
    (kk : ∀ (v : Option Value) (A : Nat → Nat → Int32) (J : Nat → Nat → Int64) (H : Heap) (locs : List Loc), post v A J → gH D base s ad (33 + 2 * n) (gw cy ad n A J) H locs → W p l e R s m args below meth c H locs (cells + mc1) (slots + ms1) Q (F0 m (pc + 3) ls (v.toList ++ rest))) : W p l e R s m args below meth c H locs cells slots Q (F0 m pc ls st0) := by
  refine gx_fin (rest := rest) (mc1 := mc1) (ms1 := ms1) (vx_runSX (As := As) (rest := rest) (g := F0 m pc ls st0) S hM cw (g_pre hE hG As) rfl hn hsize hst (by show 2 * 0 + _ ≤ 8; omega) hdg hf) hG.2.2
    (fun E ce q9 A1 J1 H1 locs1 hp hB hS hce hv hcl => (hno _ _ _ hp).elim)
    (fun v u t H1 locs1 ht hp hB hz hS => kk v u.1 u.2 H1 locs1 hp ⟨by rw [← ht]; exact hB, gl_D hG.2.1, hS⟩)
theorem gx_zret {post : Option Value → (Nat → Nat → Int32) → (Nat → Nat → Int64) → Prop} {XC : String → State → State → Prop} {v : Int32} (hx : p.tables.exec = Jvm.exec) (hb : c.code = cc) (hr : meth.sig.returnType = some .boolean) (hlocks : meth.locks = false) (hG : gH D base s ad (33 + 2 * n) (gw cy ad n A J) H locs) (hn : narrow .boolean (.int v) = .int v) (h1 : cells ≤ mc) (h2 : slots ≤ ms) (hp : post (some (.int v)) A J) (hdg : decode cc pc = .ok (.ireturn, 1)) :
    W p l e R s m args below meth c H locs cells slots (vx_MQ below (gPost D cy base ad n post) XC args s mc ms (fun q => base ≤ q)) (F0 m pc ls [.int v]) :=
  vx_ret (W.widen h1 h2 (W.zret hx hb hr hn (fun t ht _ => ⟨⟨_, (A, J), rfl, hp, by show va_P _ _ _ t.heap; rw [ht]; exact hG.1⟩, hG.2.2.F ht⟩) hG.2.2.2.2 hdg hlocks))
end GR
/-- a method with a table of its own -/
theorem gT_ofW {l : Launch} {y : MethodName} {ws ws' : List Cond} {rm : Room} {D : va_G} {cy : Nat → ClassId} {base : Nat} {ad : Nat → Nat} {N : Nat} {w : Nat → va_E} {mc ms : Nat} {av : List Value} {Qc : Array Value → State → Outcome → State → Prop} {XC : String → State → State → Prop} {cc : ByteArray} {maxL : Nat} {ret : Option FieldType} {hh : List (Nat × Nat × Nat × Nat)}
    (hy : plainName y.cls = true) (hw : ws = Cond.codeWith y cc maxL ret hh :: ws') (hlen : (lg_sl av).length ≤ maxL)
    (body : ∀ (p : Program) (e : Env) (s : State) (m : MethodId) (args : Array Value) (below : List Frame) (meth : Method) (c : Code) (H : Heap) (locs : List Loc) (ls : Array Slot), p.tables.exec = Jvm.exec → c.code = cc → meth.sig.returnType = ret → (∀ w ∈ ws, w.before args s = true) → s.vm.findClass y.cls = some m.cls → meth.locks = false → c.maxLocals = maxL → c.exceptionTable.toList = tableOf hh → gE D cy base s → gH D base s ad N w H locs → lv_has ls maxL (lv_args 0 av) →
      W p l e rm s m args below meth c H locs 0 0 (vx_MQ below Qc XC args s mc ms (fun q => base ≤ q)) (F0 m 0 ls [])) : vx_Met l y ws rm (gPre D cy base ad N w av) Qc XC mc ms (fun q => base ≤ q) := by
  refine vx_ofWH (cc := cc) (maxL := maxL) (ret := ret) hy hw ?_
  intro p e s m args below meth c s₁ B hml hv
  obtain ⟨rfl, hE, hP, hD⟩ := hv
  rw [lg_entry_eq]
  have hts := atoms_spec (ws := ws) B.pre
  exact body p e s m av.toArray below meth c s.heap [] _ B.exec B.bytes B.returns hts (findClass_of_methodNamed B.named) B.notSynchronized hml (vx_table (x := y) B (hts _ (by rw [hw]; exact List.mem_cons_self))) hE ⟨hP, hD, va_S.rf⟩ (lv_entry av hlen)

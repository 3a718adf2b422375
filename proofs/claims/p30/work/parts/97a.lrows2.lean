/-! ===== rows of methods under which the world grows ===== -/
section GR
variable {p : Program} {l : Launch} {e : Env} {R : Room} {s : State} {m : MethodId} {args : Array Value} {below : List Frame} {meth : Method} {c : Code} {H : Heap} {locs : List Loc} {cells slots : Nat} {Q : State → Prop}
variable {cc : ByteArray} {pc : Nat} {ls : Array Slot} {rest : List Value} {D : va_G} {cy : Nat → ClassId} {base : Nat} {ad : Nat → Nat} {N n : Nat} {w : Nat → va_E} {A : Nat → Nat → Int32} {J : Nat → Nat → Int64} {mc ms : Nat}
theorem gR_callT {y : MethodName} {bytes : ByteArray} {maxL nL nn index mc1 ms1 : Nat} {ret : Option FieldType} {hh : List (Nat × Nat × Nat × Nat)} {ws : List Cond} {rm : Room} {Ts : List Cond} {own : String} {As st0 : List Value} {post : Option Value → (Nat → Nat) → Nat → (Nat → va_E) → Prop}
    (S : CallFix p m c cc nL s args Ts own) (hE : gE D cy base s) (hG : gH D base s ad N w H locs) (hM : vx_Met l y ws rm (gPre D cy base ad N w As) (gPostW D base post) (gXC D cy base ad n pxNo) mc1 ms1 (fun q => base ≤ q)) (cw : vx_CSW R s args own index y bytes maxL ret hh ws rm mc1 ms1 nn)
    (hn : As.length = nn) (hsize : ls.size = nL) (hst : st0 = As.reverse ++ rest) (hW : (rest.map fun v => v.category).sum ≤ 8) (hdg : decode cc pc = .ok (.invokestatic index, 3)) (hf : cells + mc1 ≤ R.cells ∧ slots + ms1 ≤ R.slots)
    (kk : ∀ (v : Option Value) (ad' : Nat → Nat) (N' : Nat) (w' : Nat → va_E) (H : Heap) (locs : List Loc), post v ad' N' w' → gH D base s ad' N' w' H locs → W p l e R s m args below meth c H locs (cells + mc1) (slots + ms1) Q (F0 m (pc + 3) ls (v.toList ++ rest))) : W p l e R s m args below meth c H locs cells slots Q (F0 m pc ls st0) := by
  refine gx_fin (rest := rest) (mc1 := mc1) (ms1 := ms1) (vx_runSX (As := As) (rest := rest) (g := F0 m pc ls st0) S hM cw (g_pre hE hG As) rfl hn hsize hst (by show 2 * 0 + _ ≤ 8; omega) hdg hf) hG.2.2
    (fun E ce q9 A1 J1 H1 locs1 hp hB hS hce hv hcl => hp.elim)
    (fun v u t H1 locs1 ht hp hB hz hS => kk v u.1 u.2.1 u.2.2 H1 locs1 hp ⟨by rw [← ht]; exact hB.1, hB.2, hS⟩)
theorem gR_callS {y : MethodName} {bytes : ByteArray} {maxL nL nn index mc1 ms1 : Nat} {ret : Option FieldType} {ws : List Cond} {rm : Room} {Ts : List Cond} {own : String} {As st0 : List Value} {post : Option Value → (Nat → Nat) → Nat → (Nat → va_E) → Prop}
    (S : CallFix p m c cc nL s args Ts own) (hE : gE D cy base s) (hG : gH D base s ad N w H locs) (hM : vx_Met l y ws rm (gPre D cy base ad N w As) (gPostW D base post) (gXC D cy base ad n pxNo) mc1 ms1 (fun q => base ≤ q)) (cw : CallB R s args own index y bytes maxL ret ws rm mc1 ms1 nn ∧ (Cond.static y).before args s = true)
    (hn : As.length = nn) (hsize : ls.size = nL) (hst : st0 = As.reverse ++ rest) (hW : (rest.map fun v => v.category).sum ≤ 8) (hdg : decode cc pc = .ok (.invokestatic index, 3)) (hf : cells + mc1 ≤ R.cells ∧ slots + ms1 ≤ R.slots)
    (kk : ∀ (v : Option Value) (ad' : Nat → Nat) (N' : Nat) (w' : Nat → va_E) (H : Heap) (locs : List Loc), post v ad' N' w' → gH D base s ad' N' w' H locs → W p l e R s m args below meth c H locs (cells + mc1) (slots + ms1) Q (F0 m (pc + 3) ls (v.toList ++ rest))) : W p l e R s m args below meth c H locs cells slots Q (F0 m pc ls st0) := by
  refine gx_fin (rest := rest) (mc1 := mc1) (ms1 := ms1) (vx_runS (As := As) (rest := rest) (g := F0 m pc ls st0) S hM cw (g_pre hE hG As) rfl hn hsize hst (by show 2 * 0 + _ ≤ 8; omega) hdg hf) hG.2.2
    (fun E ce q9 A1 J1 H1 locs1 hp hB hS hce hv hcl => hp.elim)
    (fun v u t H1 locs1 ht hp hB hz hS => kk v u.1 u.2.1 u.2.2 H1 locs1 hp ⟨by rw [← ht]; exact hB.1, hB.2, hS⟩)
theorem gy_zret {post : Option Value → (Nat → Nat) → Nat → (Nat → va_E) → Prop} {XC : String → State → State → Prop} {v : Int32} (hx : p.tables.exec = Jvm.exec) (hb : c.code = cc) (hr : meth.sig.returnType = some .boolean) (hlocks : meth.locks = false) (hG : gH D base s ad N w H locs) (hn : narrow .boolean (.int v) = .int v) (h1 : cells ≤ mc) (h2 : slots ≤ ms) (hp : post (some (.int v)) ad N w) (hdg : decode cc pc = .ok (.ireturn, 1)) :
    W p l e R s m args below meth c H locs cells slots (vx_MQ below (gPostW D base post) XC args s mc ms (fun q => base ≤ q)) (F0 m pc ls [.int v]) :=
  vx_ret (W.widen h1 h2 (W.zret hx hb hr hn (fun t ht _ => ⟨⟨_, (ad, N, w), rfl, hp, by show va_P _ _ _ t.heap; rw [ht]; exact hG.1, hG.2.1⟩, hG.2.2.F ht⟩) hG.2.2.2.2 hdg hlocks))
end GR

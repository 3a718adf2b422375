/-! ===== worlds that grow, methods that throw ===== -/
abbrev gT : Type := (Nat → Nat) × (Nat × (Nat → va_E))
def gPostW (D : va_G) (base : Nat) (post : Option Value → (Nat → Nat) → Nat → (Nat → va_E) → Prop) : Array Value → State → Outcome → State → Prop := gQc (S := gT) (fun v u => post v u.1 u.2.1 u.2.2) (fun u t => va_P D vwCl (gl u.1 u.2.1 u.2.2) t.heap ∧ va_D (fun q => base ≤ q) (gl u.1 u.2.1 u.2.2)) (fun q => base ≤ q)
abbrev gMetW (l : Launch) (y : MethodName) (ws : List Cond) (rm : Room) (D : va_G) (cy : Nat → ClassId) (base : Nat) (ad : Nat → Nat) (N : Nat) (w : Nat → va_E) (av : List Value) (post : Option Value → (Nat → Nat) → Nat → (Nat → va_E) → Prop) (mc ms : Nat) : Prop :=
  Met l y ws rm (gPre D cy base ad N w av) (gPostW D base post) mc ms (fun q => base ≤ q)
/-- and what the arrays of references need -/
def gEA (D : va_G) (cy : Nat → ClassId) (base : Nat) (U : State) : Prop := gE D cy base U ∧ va_AO RX4 U ∧ va_AO RX1 U
def gPreA (D : va_G) (cy : Nat → ClassId) (base : Nat) (ad : Nat → Nat) (N : Nat) (w : Nat → va_E) (av : List Value) : Array Value → State → Prop := va_Pc av (fun U => gEA D cy base U ∧ va_P D vwCl (gl ad N w) U.heap ∧ va_D (fun q => base ≤ q) (gl ad N w))
abbrev gMetA (l : Launch) (y : MethodName) (ws : List Cond) (rm : Room) (D : va_G) (cy : Nat → ClassId) (base : Nat) (ad : Nat → Nat) (N : Nat) (w : Nat → va_E) (av : List Value) (post : Option Value → (Nat → Nat) → Nat → (Nat → va_E) → Prop) (mc ms : Nat) : Prop :=
  Met l y ws rm (gPreA D cy base ad N w av) (gPostW D base post) mc ms (fun q => base ≤ q)
theorem gEA.blind {D : va_G} {cy : Nat → ClassId} {base : Nat} {U : State} {g : JFrame} {mk : MethodId} {a : Array Value} (h : gEA D cy base U) : gEA D cy base (U.calling g mk a) :=
  ⟨h.1.blind, va_AO.moved (u := U) (U := U.calling g mk a) (Vm.Alike.refl U.vm) h.2.1, va_AO.moved (u := U) (U := U.calling g mk a) (Vm.Alike.refl U.vm) h.2.2⟩
theorem gEA.warm {D : va_G} {cy : Nat → ClassId} {base : Nat} {s U : State} {H : Heap} {locs : List Loc} (h : gEA D cy base s) (hS : va_S (fun q => base ≤ q) s.heap H locs) (hU : U.heap = H) (hW : s.WarmedH U.vm) : gEA D cy base U :=
  ⟨h.1.warm hS hU hW, h.2.1.moved hW.alike, h.2.2.moved hW.alike⟩
theorem gPreA.blind {D : va_G} {cy : Nat → ClassId} {base : Nat} {ad : Nat → Nat} {N : Nat} {w : Nat → va_E} {av : List Value} : FrameBlind (gPreA D cy base ad N w av) := fun a U g mk h => ⟨h.1, h.2.1.blind, h.2.2.1, h.2.2.2⟩
theorem gl_E {A : Nat → Prop} {ad ad' : Nat → Nat} {N : Nat} {w w' : Nat → va_E} (h : va_D A (gl ad N w)) (e : ∀ k, k < N → ad k = ad' k) : va_D A (gl ad' N w') := by
  have h1 : gl ad' N w' = gl ad N w' := gl_ext (fun k hk => (e k hk).symm) (fun _ _ => rfl)
  rw [h1]
  exact gl_D h
section GR
variable {p : Program} {l : Launch} {e : Env} {R : Room} {s : State} {m : MethodId} {args : Array Value} {below : List Frame} {meth : Method} {c : Code} {H : Heap} {locs : List Loc} {cells slots : Nat} {Q : State → Prop}
variable {cc : ByteArray} {pc : Nat} {ls : Array Slot} {rest : List Value} {D : va_G} {cy : Nat → ClassId} {base : Nat} {ad : Nat → Nat} {N n : Nat} {w : Nat → va_E} {A : Nat → Nat → Int32} {J : Nat → Nat → Int64}
/-- the same world under other names -/
theorem gH.as {ad' : Nat → Nat} {w' : Nat → va_E} (h : gH D base s ad N w H locs) (e1 : ∀ k, k < N → ad k = ad' k) (e2 : ∀ k, k < N → w k = w' k) : gH D base s ad' N w' H locs := by
  have h1 : gl ad N w = gl ad' N w' := gl_ext e1 e2
  obtain ⟨a, b, c9⟩ := h
  rw [h1] at a b
  exact ⟨a, b, c9⟩
theorem gA_pre (hE : gEA D cy base s) (hG : gH D base s ad N w H locs) (As : List Value) : PreS s H (gPreA D cy base ad N w As) As :=
  ⟨gPreA.blind, fun U hU hW => ⟨rfl, hE.warm hG.2.2 hU hW, by rw [hU]; exact hG.1, hG.2.1⟩⟩
theorem gR_put (hx : p.tables.exec = Jvm.exec) (hb : c.code = cc) {own C : String} {T : u_T} {NN ci index : Nat} {Ts : List Cond} (hts : ∀ w ∈ Ts, w.before args s = true) (hin : ∀ w ∈ u_ws C T NN, w ∈ Ts) (ty0 : Nat → FieldType) (hty : ∀ k, k < NN → parseFieldDescriptor (T k).2.2.1 = some (ty0 k)) (hnm : ∀ a, a < NN → ∀ b, b < NN → a ≠ b → (T a).2.1 ≠ (T b).2.1) (hown : s.vm.findClass own = some m.cls) (hE : gE D cy base s) (hG : gH D base s ad N w H locs) {k a : Nat} (ha : ad k = a) (hk : k < N) {fs : List Value} (he : w k = .inr (ci, fs)) (hc : vwCl[ci]? = some (C, T, NN)) (j : Nat) (hj : j < NN) (hlink : (Cond.fieldLink own index C (T j).2.1 (T j).2.2.1).before args s = true) (hsame : (T j).1 = C) (hfin : (T j).2.2.2 = false) {ty : FieldType} {v : Value} (hd : parseFieldDescriptor (T j).2.2.1 = some ty) (hn : narrow ty v = v) (hfit : fits ty v = true) (hl : j < fs.length)
    (hdg : decode cc pc = .ok (.putfield index, 3)) (kk : ∀ (H : Heap) (locs : List Loc), gH D base s ad N (va_up w k (.inr (ci, fs.set j v))) H locs → W p l e R s m args below meth c H locs cells slots Q (F0 m (pc + 3) ls rest)) : W p l e R s m args below meth c H locs cells slots Q (F0 m pc ls (v :: .ref a :: rest)) := by
  subst ha
  exact g_put hx hb hts hin ty0 hty hnm hown hE hG hk he hc j hj hlink hsame hfin hd hn hfit hl hdg kk
theorem gR_putF (hx : p.tables.exec = Jvm.exec) (hb : c.code = cc) {own C : String} {T : u_T} {NN ci index : Nat} {Ts : List Cond} (hts : ∀ w ∈ Ts, w.before args s = true) (hin : ∀ w ∈ u_ws C T NN, w ∈ Ts) (ty0 : Nat → FieldType) (hty : ∀ k, k < NN → parseFieldDescriptor (T k).2.2.1 = some (ty0 k)) (hnm : ∀ a, a < NN → ∀ b, b < NN → a ≠ b → (T a).2.1 ≠ (T b).2.1) (hown : s.vm.findClass own = some m.cls) (hE : gE D cy base s) (hG : gH D base s ad N w H locs) {k a : Nat} (ha : ad k = a) (hk : k < N) {fs : List Value} (he : w k = .inr (ci, fs)) (hc : vwCl[ci]? = some (C, T, NN)) (j : Nat) (hj : j < NN) (hlink : (Cond.fieldLink own index C (T j).2.1 (T j).2.2.1).before args s = true) (hsame : (T j).1 = C) (hfin : (T j).2.2.2 = true) (hin2 : meth.name = "<init>") (hdecl : (T j).1 = own) {ty : FieldType} {v : Value} (hd : parseFieldDescriptor (T j).2.2.1 = some ty) (hn : narrow ty v = v) (hfit : fits ty v = true) (hl : j < fs.length)
    (hdg : decode cc pc = .ok (.putfield index, 3)) (kk : ∀ (H : Heap) (locs : List Loc), gH D base s ad N (va_up w k (.inr (ci, fs.set j v))) H locs → W p l e R s m args below meth c H locs cells slots Q (F0 m (pc + 3) ls rest)) : W p l e R s m args below meth c H locs cells slots Q (F0 m pc ls (v :: .ref a :: rest)) := by
  subst ha
  exact va_putF hx hb hts hin ty0 hty hnm hown hE.1 hG.1 hG.2.1 hG.2.2 k (by rw [gl_at hk, he]) hc j hj hlink (fun x h => by rw [hsame] at h; exact h) hfin hin2 hdecl hd hn hfit hl hdg (fun H1 locs1 h1 h2 h3 => kk H1 locs1 (gH_up hk h1 h2 h3))
theorem gR_get (hx : p.tables.exec = Jvm.exec) (hb : c.code = cc) {own C : String} {T : u_T} {NN ci index : Nat} {Ts : List Cond} (hts : ∀ w ∈ Ts, w.before args s = true) (hin : ∀ w ∈ u_ws C T NN, w ∈ Ts) (hown : s.vm.findClass own = some m.cls) (hE : gE D cy base s) (hG : gH D base s ad N w H locs) {k a : Nat} (ha : ad k = a) (hk : k < N) {fs : List Value} (he : w k = .inr (ci, fs)) (hc : vwCl[ci]? = some (C, T, NN)) (j : Nat) (hj : j < NN) (hlink : (Cond.fieldLink own index C (T j).2.1 (T j).2.2.1).before args s = true) (hsame : (T j).1 = C) {v : Value} (hv : fs[j]? = some v)
    (hdg : decode cc pc = .ok (.getfield index, 3)) (kk : W p l e R s m args below meth c H locs cells slots Q (F0 m (pc + 3) ls (v :: rest))) : W p l e R s m args below meth c H locs cells slots Q (F0 m pc ls (.ref a :: rest)) := by
  subst ha
  exact g_get hx hb hts hin hown hE hG hk he hc j hj hlink hsame hv hdg kk
theorem gR_alen (hx : p.tables.exec = Jvm.exec) (hb : c.code = cc) (hE : gE D cy base s) (hG : gH D base s ad N w H locs) {k a : Nat} (ha : ad k = a) (hk : k < N) {t0 : Nat} {cA : ClassId} {x : vp_A} {ty : FieldType} (he : w k = .inl (cA, x)) (ht : (gty cy)[t0]? = some (cA, ty)) {v : Int32} (hv : Int32.ofNat x.1 = v) (hdg : decode cc pc = .ok (.arraylength, 1))
    (kk : W p l e R s m args below meth c H locs cells slots Q (F0 m (pc + 1) ls (.int v :: rest))) : W p l e R s m args below meth c H locs cells slots Q (F0 m pc ls (.ref a :: rest)) := by
  subst ha
  exact g_alen hx hb hE hG hk he ht hv hdg kk
/-- a reference into an array of references -/
theorem gR_astq (hx : p.tables.exec = Jvm.exec) (hb : c.code = cc) (hE : gE D cy base s) (hG : gH D base s ad N w H locs) {k a kv v : Nat} (ha : ad k = a) (hk : k < N) (hv : ad kv = v) (hkv : kv < N) {t0 ci nn : Nat} {cA : ClassId} {r : vw_C} {vs : List Value} {f : Nat → Option Nat} (he : w k = .inl (cA, nn, .inr (.inr (.inr (.inr f))))) (ht : (gty cy)[t0]? = some (cA, .object r.1)) (hev : w kv = .inr (ci, vs)) (hc : vwCl[ci]? = some r) (i : Nat) {x : Int32} (hx2 : x = nI i) (hi : i < nn) (hnn : nn < 2 ^ 31) (hdg : decode cc pc = .ok (.aastore, 1))
    (kk : ∀ (H : Heap) (locs : List Loc), gH D base s ad N (va_up w k (.inl (cA, nn, .inr (.inr (.inr (.inr (va_up f i (some v)))))))) H locs → W p l e R s m args below meth c H locs cells slots Q (F0 m (pc + 1) ls rest)) : W p l e R s m args below meth c H locs cells slots Q (F0 m pc ls (.ref v :: .int x :: .ref a :: rest)) := by
  subst ha; subst hv; subst hx2
  refine va_astq hx hb hE.1 hG.1 hG.2.1 hG.2.2 k t0 kv ci (by rw [gl_at hk, he]) ht (by rw [gl_at hkv, hev]) hc (vp_in_nI hi hnn) hdg (fun H1 locs1 h1 h2 h3 => kk H1 locs1 ?_)
  rw [nI_clamp (by omega)] at h1 h2
  exact gH_up hk h1 h2 h3
/-- calls of constructors -/
theorem gR_callI {y : MethodName} {bytes : ByteArray} {maxL nL nn index mc ms : Nat} {ws : List Cond} {rm : Room} {Ts : List Cond} {own : String} {As st0 : List Value} {post : Option Value → (Nat → Nat) → Nat → (Nat → va_E) → Prop} {a : Nat} {Pc : Array Value → State → Prop}
    (S : CallFix p m c cc nL s args Ts own) (hG : gH D base s ad N w H locs) (hM : Met l y ws rm Pc (gPostW D base post) mc ms (fun q => base ≤ q)) (hp : PreS s H Pc (.ref a :: As)) (cw : CallB R s args own index y bytes maxL none ws rm mc ms nn ∧ y.name = "<init>" ∧ (Cond.instanceMethod y).before args s = true)
    (hn : As.length = nn) (hsize : ls.size = nL) (hst : st0 = As.reverse ++ .ref a :: rest) (hW : (rest.map fun v => v.category).sum ≤ 8) (hdg : decode cc pc = .ok (.invokespecial index, 3)) (hf : cells + mc ≤ R.cells ∧ slots + ms ≤ R.slots)
    (kk : ∀ (v : Option Value) (ad' : Nat → Nat) (N' : Nat) (w' : Nat → va_E) (H : Heap) (locs : List Loc), post v ad' N' w' → gH D base s ad' N' w' H locs → W p l e R s m args below meth c H locs (cells + mc) (slots + ms) Q (F0 m (pc + 3) ls (v.toList ++ rest))) : W p l e R s m args below meth c H locs cells slots Q (F0 m pc ls st0) := by
  refine g_fin (rest := rest) (mc := mc) (ms := ms) (va_runI (b := a) (As := As) (rest := rest) (g := F0 m pc ls st0) S hM cw hp rfl hn hsize hst (by show 2 * 0 + _ ≤ 8; omega) hdg hf) hG.2.2 (fun v u t H1 locs1 ht hp hB hz hS => ?_)
  exact kk v u.1 u.2.1 u.2.2 H1 locs1 hp ⟨by rw [← ht]; exact hB.1, hB.2, hS⟩
theorem gR_callIN {y : MethodName} {bytes : ByteArray} {maxL nL nn index mc ms : Nat} {ws : List Cond} {rm : Room} {Ts : List Cond} {own host : String} {As st0 : List Value} {post : Option Value → (Nat → Nat) → Nat → (Nat → va_E) → Prop} {a : Nat} {Pc : Array Value → State → Prop}
    (S : CallFix p m c cc nL s args Ts own) (hG : gH D base s ad N w H locs) (hM : Met l y ws rm Pc (gPostW D base post) mc ms (fun q => base ≤ q)) (hp : PreS s H Pc (.ref a :: As)) (cw : va_CN R s args own index y host bytes maxL none ws rm mc ms nn ∧ y.name = "<init>" ∧ (Cond.instanceMethod y).before args s = true)
    (hn : As.length = nn) (hsize : ls.size = nL) (hst : st0 = As.reverse ++ .ref a :: rest) (hW : (rest.map fun v => v.category).sum ≤ 8) (hdg : decode cc pc = .ok (.invokespecial index, 3)) (hf : cells + mc ≤ R.cells ∧ slots + ms ≤ R.slots)
    (kk : ∀ (v : Option Value) (ad' : Nat → Nat) (N' : Nat) (w' : Nat → va_E) (H : Heap) (locs : List Loc), post v ad' N' w' → gH D base s ad' N' w' H locs → W p l e R s m args below meth c H locs (cells + mc) (slots + ms) Q (F0 m (pc + 3) ls (v.toList ++ rest))) : W p l e R s m args below meth c H locs cells slots Q (F0 m pc ls st0) := by
  refine g_fin (rest := rest) (mc := mc) (ms := ms) (va_runIN (b := a) (As := As) (rest := rest) (g := F0 m pc ls st0) S hM cw hp rfl hn hsize hst (by show 2 * 0 + _ ≤ 8; omega) hdg hf) hG.2.2 (fun v u t H1 locs1 ht hp hB hz hS => ?_)
  exact kk v u.1 u.2.1 u.2.2 H1 locs1 hp ⟨by rw [← ht]; exact hB.1, hB.2, hS⟩
theorem gR_vret {post : Option Value → (Nat → Nat) → Nat → (Nat → va_E) → Prop} {mc ms : Nat} (hx : p.tables.exec = Jvm.exec) (hb : c.code = cc) (hr : meth.sig.returnType = none) (hlocks : meth.locks = false) (hG : gH D base s ad N w H locs) (h1 : cells ≤ mc) (h2 : slots ≤ ms) (hp : post none ad N w) (hdg : decode cc pc = .ok (.return_, 1)) :
    W p l e R s m args below meth c H locs cells slots (MQ below (gPostW D base post) args s mc ms (fun q => base ≤ q)) (F0 m pc ls []) :=
  W.widen h1 h2 (W.vret hx hb hr (fun t ht _ => ⟨⟨_, (ad, N, w), rfl, hp, by show va_P _ _ _ t.heap; rw [ht]; exact hG.1, hG.2.1⟩, hG.2.2.F ht⟩) hG.2.2.2.2 hdg hlocks)
theorem gR_zret {post : Option Value → (Nat → Nat) → Nat → (Nat → va_E) → Prop} {mc ms : Nat} {v : Int32} (hx : p.tables.exec = Jvm.exec) (hb : c.code = cc) (hr : meth.sig.returnType = some .boolean) (hlocks : meth.locks = false) (hG : gH D base s ad N w H locs) (hn : narrow .boolean (.int v) = .int v) (h1 : cells ≤ mc) (h2 : slots ≤ ms) (hp : post (some (.int v)) ad N w) (hdg : decode cc pc = .ok (.ireturn, 1)) :
    W p l e R s m args below meth c H locs cells slots (MQ below (gPostW D base post) args s mc ms (fun q => base ≤ q)) (F0 m pc ls [.int v]) :=
  W.widen h1 h2 (W.zret hx hb hr hn (fun t ht _ => ⟨⟨_, (ad, N, w), rfl, hp, by show va_P _ _ _ t.heap; rw [ht]; exact hG.1, hG.2.1⟩, hG.2.2.F ht⟩) hG.2.2.2.2 hdg hlocks)
end GR
/-- a constructor's body -/
theorem gW_ofW {l : Launch} {y : MethodName} {ws ws' : List Cond} {rm : Room} {D : va_G} {cy : Nat → ClassId} {base : Nat} {ad : Nat → Nat} {N mc ms : Nat} {w : Nat → va_E} {av : List Value} {post : Option Value → (Nat → Nat) → Nat → (Nat → va_E) → Prop} {cc : ByteArray} {maxL : Nat} {ret : Option FieldType}
    (hy : plainName y.cls = true) (hw : ws = Cond.code y cc maxL ret :: ws') (hlen : (lg_sl av).length ≤ maxL)
    (body : ∀ (p : Program) (e : Env) (s : State) (m : MethodId) (args : Array Value) (below : List Frame) (meth : Method) (c : Code) (H : Heap) (locs : List Loc) (ls : Array Slot), p.tables.exec = Jvm.exec → c.code = cc → meth.sig.returnType = ret → (∀ w ∈ ws, w.before args s = true) → s.vm.findClass y.cls = some m.cls → meth.locks = false → c.maxLocals = maxL → meth.name = y.name → gE D cy base s → gH D base s ad N w H locs → lv_has ls maxL (lv_args 0 av) →
      W p l e rm s m args below meth c H locs 0 0 (MQ below (gPostW D base post) args s mc ms (fun q => base ≤ q)) (F0 m 0 ls [])) : gMetW l y ws rm D cy base ad N w av post mc ms := by
  refine Met.ofW (cc := cc) (maxL := maxL) (ret := ret) hy hw ?_
  intro p e s m args below meth c s₁ B hml hv
  obtain ⟨rfl, hE, hP, hD⟩ := hv
  rw [lg_entry_eq]
  exact body p e s m av.toArray below meth c s.heap [] _ B.exec B.bytes B.returns (atoms_spec (ws := ws) B.pre) (findClass_of_methodNamed B.named) B.notSynchronized hml (name_of_methodNamed B.named B.method).1 hE ⟨hP, hD, va_S.rf⟩ (lv_entry av hlen)
theorem gA_ofW {l : Launch} {y : MethodName} {ws ws' : List Cond} {rm : Room} {D : va_G} {cy : Nat → ClassId} {base : Nat} {ad : Nat → Nat} {N mc ms : Nat} {w : Nat → va_E} {av : List Value} {post : Option Value → (Nat → Nat) → Nat → (Nat → va_E) → Prop} {cc : ByteArray} {maxL : Nat} {ret : Option FieldType}
    (hy : plainName y.cls = true) (hw : ws = Cond.code y cc maxL ret :: ws') (hlen : (lg_sl av).length ≤ maxL)
    (body : ∀ (p : Program) (e : Env) (s : State) (m : MethodId) (args : Array Value) (below : List Frame) (meth : Method) (c : Code) (H : Heap) (locs : List Loc) (ls : Array Slot), p.tables.exec = Jvm.exec → c.code = cc → meth.sig.returnType = ret → (∀ w ∈ ws, w.before args s = true) → s.vm.findClass y.cls = some m.cls → meth.locks = false → c.maxLocals = maxL → meth.name = y.name → gEA D cy base s → gH D base s ad N w H locs → lv_has ls maxL (lv_args 0 av) →
      W p l e rm s m args below meth c H locs 0 0 (MQ below (gPostW D base post) args s mc ms (fun q => base ≤ q)) (F0 m 0 ls [])) : gMetA l y ws rm D cy base ad N w av post mc ms := by
  refine Met.ofW (cc := cc) (maxL := maxL) (ret := ret) hy hw ?_
  intro p e s m args below meth c s₁ B hml hv
  obtain ⟨rfl, hE, hP, hD⟩ := hv
  rw [lg_entry_eq]
  exact body p e s m av.toArray below meth c s.heap [] _ B.exec B.bytes B.returns (atoms_spec (ws := ws) B.pre) (findClass_of_methodNamed B.named) B.notSynchronized hml (name_of_methodNamed B.named B.method).1 hE ⟨hP, hD, va_S.rf⟩ (lv_entry av hlen)

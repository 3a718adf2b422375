/-! ===== new cells ===== -/
theorem va_K_same {D : va_G} {cl : List vw_C} {tys : List (ClassId × FieldType)} {U : State} {cA c0 : ClassId} {ty : FieldType} {t : Nat} (h : va_K D cl (tys ++ [(cA, ty)]) U) (ht : tys[t]? = some (c0, ty)) : cA = c0 := by
  have hl : t < tys.length := (List.getElem?_eq_some_iff.mp ht).1
  have h1 := (h.2 t (c0, ty) (by rw [List.getElem?_append_left hl]; exact ht)).2
  have h2 := (h.2 tys.length (cA, ty) (by rw [List.getElem?_append_right (Nat.le_refl _), Nat.sub_self]; rfl)).2
  cases ty with
  | object C =>
    obtain ⟨_, _, _, _, _, a⟩ := h1
    obtain ⟨_, _, _, _, _, b⟩ := h2
    exact Option.some.inj (b.symm.trans a)
  | _ => exact Option.some.inj (h2.symm.trans h1)
section GR
variable {p : Program} {l : Launch} {e : Env} {R : Room} {s : State} {m : MethodId} {args : Array Value} {below : List Frame} {meth : Method} {c : Code} {H : Heap} {locs : List Loc} {cells slots : Nat} {Q : State → Prop}
variable {cc : ByteArray} {pc : Nat} {ls : Array Slot} {rest : List Value} {D : va_G} {cy : Nat → ClassId} {base : Nat} {ad : Nat → Nat} {N n : Nat} {w : Nat → va_E}
theorem gH_push {q : Nat} {e' : va_E} {H1 : Heap} {locs1 : List Loc} (h1 : va_P D vwCl (gl ad N w ++ [(q, e')]) H1) (h2 : va_D (fun q => base ≤ q) (gl ad N w ++ [(q, e')])) (h3 : va_S (fun q => base ≤ q) s.heap H1 locs1) : gH D base s (va_up ad N q) (N + 1) (va_up w N e') H1 locs1 := by
  rw [gl_push] at h1 h2
  exact ⟨h1, h2, h3⟩
/-- newarray -/
theorem g_newa (hx : p.tables.exec = Jvm.exec) (hb : c.code = cc) {atype : ArrayType} (harr : (Cond.arrayClass (newarray.typeOf atype)).before args s = true) {ty : FieldType} (hty : newarray.typeOf atype = ty) (hE : gE D cy base s) (hG : gH D base s ad N w H locs) {t0 : Nat} {c0 : ClassId} (ht : (gty cy)[t0]? = some (c0, ty)) {n : Int32} {N' : Nat} {a0 : vp_A} (ha : ∀ cA : ClassId, vp_cell cA a0 = arrV cA N' (fun _ => defaultValue ty)) (hn : ¬ n < 0) (hN : n.toNatClampNeg = N') (hbytes : N' * componentBytes ty ≤ 536870912) (hcells : cells + 1 ≤ R.cells) (hslots : slots + N' ≤ R.slots) (hdg : decode cc pc = .ok (.newarray atype, 2))
    (kk : ∀ (q : Nat) (H : Heap) (locs : List Loc), gH D base s (va_up ad N q) (N + 1) (va_up w N (.inl (c0, a0))) H locs → W p l e R s m args below meth c H locs (cells + 1) (slots + N') Q (F0 m (pc + 2) ls (.ref q :: rest))) : W p l e R s m args below meth c H locs cells slots Q (F0 m pc ls (.int n :: rest)) := by
  refine va_newa hx hb harr hty hE.1 hG.1 hG.2.1 hG.2.2 (fun q hq => Nat.le_trans hE.2.2.1 hq) ha hn hN hbytes hcells hslots hdg (fun q cA H1 hK h1 h2 h3 => ?_)
  have e9 := va_K_same hK ht
  subst e9
  exact kk q H1 locs (gH_push h1 h2 h3)
/-- anewarray -/
theorem g_newq (hx : p.tables.exec = Jvm.exec) (hb : c.code = cc) {own C : String} {index : Nat} (hown : s.vm.findClass own = some m.cls) (hclink : (Cond.classLink own index C).before args s = true) (hover : va_AO C s) (hE : gE D cy base s) (hG : gH D base s ad N w H locs) {t0 : Nat} {c0 : ClassId} (ht : (gty cy)[t0]? = some (c0, .object C)) {n : Int32} {N' : Nat} (hn : ¬ n < 0) (hN : n.toNatClampNeg = N') (hbytes : N' * 4 ≤ 536870912) (hcells : cells + 1 ≤ R.cells) (hslots : slots + N' ≤ R.slots) (hdg : decode cc pc = .ok (.anewarray index, 3))
    (kk : ∀ (q : Nat) (H : Heap) (locs : List Loc), gH D base s (va_up ad N q) (N + 1) (va_up w N (.inl (c0, N', .inr (.inr (.inr (.inr (fun _ => none))))))) H locs → W p l e R s m args below meth c H locs (cells + 1) (slots + N') Q (F0 m (pc + 3) ls (.ref q :: rest))) : W p l e R s m args below meth c H locs cells slots Q (F0 m pc ls (.int n :: rest)) := by
  refine va_newq hx hb hown hclink hover hE.1 hG.1 hG.2.1 hG.2.2 (fun q hq => Nat.le_trans hE.2.2.1 hq) hn hN hbytes hcells hslots hdg (fun q cA H1 hK h1 h2 h3 => ?_)
  have e9 := va_K_same hK ht
  subst e9
  exact kk q H1 locs (gH_push h1 h2 h3)
/-- new -/
theorem g_new (hx : p.tables.exec = Jvm.exec) (hb : c.code = cc) {own C : String} {T : u_T} {NN ci index : Nat} {Ts : List Cond} (hts : ∀ w ∈ Ts, w.before args s = true) (hin : ∀ w ∈ u_ws C T NN, w ∈ Ts) (ty : Nat → FieldType) (hty : ∀ k, k < NN → parseFieldDescriptor (T k).2.2.1 = some (ty k)) (hown : s.vm.findClass own = some m.cls) (hcl : (Cond.classLink own index C).before args s = true) (hinst : (Cond.instantiable C NN).before args s = true) (hini : (Cond.initialized C).before args s = true)
    (hE : gE D cy base s) (hG : gH D base s ad N w H locs) (hc : vwCl[ci]? = some (C, T, NN)) {fs : List Value} (hfs : ∀ j, j < NN → defaultValue (ty j) = vp_V fs j) (hcells : cells + 1 ≤ R.cells) (hslots : slots + NN ≤ R.slots) (hdg : decode cc pc = .ok (.new index, 3))
    (kk : ∀ (q : Nat) (H : Heap) (locs : List Loc), gH D base s (va_up ad N q) (N + 1) (va_up w N (.inr (ci, fs))) H locs → W p l e R s m args below meth c H locs (cells + 1) (slots + NN) Q (F0 m (pc + 3) ls (.ref q :: rest))) : W p l e R s m args below meth c H locs cells slots Q (F0 m pc ls rest) :=
  va_new hx hb hts hin ty hty hown hcl hinst hini hE.1 hG.1 hG.2.1 hG.2.2 (fun q hq => Nat.le_trans hE.2.2.1 hq) hc hfs hcells hslots hdg (fun q H1 h1 h2 h3 => kk q H1 locs (gH_push h1 h2 h3))
end GR

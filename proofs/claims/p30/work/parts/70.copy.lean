/-! ===== an array copied within itself ===== -/
section GR
variable {p : Program} {l : Launch} {e : Env} {R : Room} {s : State} {m : MethodId} {args : Array Value} {below : List Frame} {meth : Method} {c : Code} {H : Heap} {locs : List Loc} {cells slots : Nat} {Q : State → Prop}
variable {cc : ByteArray} {pc : Nat} {ls : Array Slot} {rest : List Value} {D : va_G} {cy : Nat → ClassId} {base : Nat} {ad : Nat → Nat} {N n : Nat} {w : Nat → va_E} {A : Nat → Nat → Int32} {J : Nat → Nat → Int64}
theorem nI_nn {k : Nat} (h : k < 2 ^ 31) : ¬ nI k < 0 := by
  rw [zz_lt, nI_toInt h, Int32.toInt_zero]
  omega
theorem g_copy (hx : p.tables.exec = Jvm.exec) (hb : c.code = cc) (hml : c.maxLocals = ls.size) {own : String} {index : Nat} (hown : s.vm.findClass own = some m.cls) (hlink : (Cond.methodLink own index arraycopyName).before args s = true) (hnat : (Cond.native arraycopyName).before args s = true) (hstat : (Cond.static arraycopyName).before args s = true) (hini : (Cond.initialized "java/lang/System").before args s = true)
    (hE : gE D cy base s) (hG : gH D base s ad N (gw cy ad n A J) H locs) {k : Nat} (hk : k < N) {nn : Nat} (he : ∀ f, gC cy ad n k f (J k) = .inl (cy 0, nn, .inl f)) {sp dp cn : Nat} (h4 : sp + cn ≤ nn) (h5 : dp + cn ≤ nn) (hnn : nn < 2 ^ 31)
    (hframes : 1 ≤ R.frames) (hlocals : (rest.map fun v => v.category).sum + (nativeFrameWords "java/lang/System" "arraycopy" 5 + 11) ≤ R.locals) (hdg : decode cc pc = .ok (.invokestatic index, 3))
    (kk : ∀ (H : Heap) (locs : List Loc), gH D base s ad N (gw cy ad n (gr A k (va_cpy (A k) (A k) sp dp cn)) J) H locs → W p l e R s m args below meth c H locs cells slots Q (F0 m (pc + 3) ls rest)) : W p l e R s m args below meth c H locs cells slots Q (F0 m pc ls (.int (nI cn) :: .int (nI dp) :: .ref (ad k) :: .int (nI sp) :: .ref (ad k) :: rest)) := by
  have hat : (gl ad N (gw cy ad n A J))[k]? = some (ad k, .inl (cy 0, nn, .inl (A k))) := by
    rw [gl_at hk]
    exact congrArg some (congrArg (Prod.mk (ad k)) (he (A k)))
  refine va_copyi hx hb hml hown hlink hnat hstat hini hE.1 hG.1 hG.2.1 hG.2.2 k k 0 0 hat hat rfl rfl rfl (nI_nn (by omega)) (nI_nn (by omega)) (nI_nn (by omega)) (by rw [nI_clamp (by omega), nI_clamp (by omega)]; exact h4) (by rw [nI_clamp (by omega), nI_clamp (by omega)]; exact h5) (fun _ _ => rfl) hframes hlocals hdg (fun H1 locs1 h1 h2 h3 => kk H1 locs1 ((gH_up hk h1 h2 h3).to (gw_row ?_)))
  rw [he, nI_clamp (by omega), nI_clamp (by omega), nI_clamp (by omega)]
end GR

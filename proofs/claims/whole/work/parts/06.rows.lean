/-! ===== rows over the numbered world ===== -/
section GR
variable {p : Program} {l : Launch} {e : Env} {R : Room} {s : State} {m : MethodId} {args : Array Value} {below : List Frame} {meth : Method} {c : Code} {H : Heap} {locs : List Loc} {cells slots : Nat} {Q : State → Prop}
variable {cc : ByteArray} {pc : Nat} {ls : Array Slot} {rest : List Value} {D : va_G} {cy : Nat → ClassId} {base : Nat} {ad : Nat → Nat} {N n : Nat} {w : Nat → va_E} {A : Nat → Nat → Int32} {J : Nat → Nat → Int64}
theorem g_get (hx : p.tables.exec = Jvm.exec) (hb : c.code = cc) {own C : String} {T : u_T} {NN ci index : Nat} {Ts : List Cond} (hts : ∀ w ∈ Ts, w.before args s = true) (hin : ∀ w ∈ u_ws C T NN, w ∈ Ts) (hown : s.vm.findClass own = some m.cls) (hE : gE D cy base s) (hG : gH D base s ad N w H locs) {k : Nat} (hk : k < N) {fs : List Value} (he : w k = .inr (ci, fs)) (hc : vwCl[ci]? = some (C, T, NN)) (j : Nat) (hj : j < NN) (hlink : (Cond.fieldLink own index C (T j).2.1 (T j).2.2.1).before args s = true) (hsame : (T j).1 = C) {v : Value} (hv : fs[j]? = some v) (hdg : decode cc pc = .ok (.getfield index, 3))
    (kk : W p l e R s m args below meth c H locs cells slots Q (F0 m (pc + 3) ls (v :: rest))) : W p l e R s m args below meth c H locs cells slots Q (F0 m pc ls (.ref (ad k) :: rest)) :=
  va_get hx hb hts hin hown hE.1 hG.1 k (by rw [gl_at hk, he]) hc j hj hlink (fun x h => by rw [hsame] at h; exact h) hv hdg kk
theorem g_getN (hx : p.tables.exec = Jvm.exec) (hb : c.code = cc) {own C host : String} {T : u_T} {NN ci index : Nat} {Ts : List Cond} (hts : ∀ w ∈ Ts, w.before args s = true) (hin : ∀ w ∈ u_ws C T NN, w ∈ Ts) (hown : s.vm.findClass own = some m.cls) (hE : gE D cy base s) (hG : gH D base s ad N w H locs) {k : Nat} (hk : k < N) {fs : List Value} (he : w k = .inr (ci, fs)) (hc : vwCl[ci]? = some (C, T, NN)) (j : Nat) (hj : j < NN) (i : Nat) (hnest : gnest[i]? = some (.fieldLinkNest own index C (T j).2.1 (T j).2.2.1 host)) (hsame : (T j).1 = C) {v : Value} (hv : fs[j]? = some v) (hdg : decode cc pc = .ok (.getfield index, 3))
    (kk : W p l e R s m args below meth c H locs cells slots Q (F0 m (pc + 3) ls (v :: rest))) : W p l e R s m args below meth c H locs cells slots Q (F0 m pc ls (.ref (ad k) :: rest)) :=
  va_getN hx hb hts hin hown hE.1 hG.1 k (by rw [gl_at hk, he]) hc j hj (va_Nw.use rfl (hE.2.1 _ (List.mem_of_getElem? hnest))) (fun x h => by rw [hsame] at h; exact h) hv hdg kk
theorem gH_up {k : Nat} {e' : va_E} {H1 : Heap} {locs1 : List Loc} (hk : k < N) (h1 : va_P D vwCl ((gl ad N w).set k (ad k, e')) H1) (h2 : va_D (fun q => base ≤ q) ((gl ad N w).set k (ad k, e'))) (h3 : va_S (fun q => base ≤ q) s.heap H1 locs1) : gH D base s ad N (va_up w k e') H1 locs1 := by
  rw [gl_set e' hk] at h1 h2
  exact ⟨h1, h2, h3⟩
theorem g_put (hx : p.tables.exec = Jvm.exec) (hb : c.code = cc) {own C : String} {T : u_T} {NN ci index : Nat} {Ts : List Cond} (hts : ∀ w ∈ Ts, w.before args s = true) (hin : ∀ w ∈ u_ws C T NN, w ∈ Ts) (ty0 : Nat → FieldType) (hty : ∀ k, k < NN → parseFieldDescriptor (T k).2.2.1 = some (ty0 k)) (hnm : ∀ a, a < NN → ∀ b, b < NN → a ≠ b → (T a).2.1 ≠ (T b).2.1) (hown : s.vm.findClass own = some m.cls) (hE : gE D cy base s) (hG : gH D base s ad N w H locs) {k : Nat} (hk : k < N) {fs : List Value} (he : w k = .inr (ci, fs)) (hc : vwCl[ci]? = some (C, T, NN)) (j : Nat) (hj : j < NN) (hlink : (Cond.fieldLink own index C (T j).2.1 (T j).2.2.1).before args s = true) (hsame : (T j).1 = C) (hfin : (T j).2.2.2 = false) {ty : FieldType} {v : Value} (hd : parseFieldDescriptor (T j).2.2.1 = some ty) (hn : narrow ty v = v) (hfit : fits ty v = true) (hl : j < fs.length)
    (hdg : decode cc pc = .ok (.putfield index, 3)) (kk : ∀ (H : Heap) (locs : List Loc), gH D base s ad N (va_up w k (.inr (ci, fs.set j v))) H locs → W p l e R s m args below meth c H locs cells slots Q (F0 m (pc + 3) ls rest)) : W p l e R s m args below meth c H locs cells slots Q (F0 m pc ls (v :: .ref (ad k) :: rest)) :=
  va_put hx hb hts hin ty0 hty hnm hown hE.1 hG.1 hG.2.1 hG.2.2 k (by rw [gl_at hk, he]) hc j hj hlink (fun x h => by rw [hsame] at h; exact h) hfin hd hn hfit hl hdg (fun H1 locs1 h1 h2 h3 => kk H1 locs1 (gH_up hk h1 h2 h3))
theorem g_putN (hx : p.tables.exec = Jvm.exec) (hb : c.code = cc) {own C host : String} {T : u_T} {NN ci index : Nat} {Ts : List Cond} (hts : ∀ w ∈ Ts, w.before args s = true) (hin : ∀ w ∈ u_ws C T NN, w ∈ Ts) (ty0 : Nat → FieldType) (hty : ∀ k, k < NN → parseFieldDescriptor (T k).2.2.1 = some (ty0 k)) (hnm : ∀ a, a < NN → ∀ b, b < NN → a ≠ b → (T a).2.1 ≠ (T b).2.1) (hown : s.vm.findClass own = some m.cls) (hE : gE D cy base s) (hG : gH D base s ad N w H locs) {k : Nat} (hk : k < N) {fs : List Value} (he : w k = .inr (ci, fs)) (hc : vwCl[ci]? = some (C, T, NN)) (j : Nat) (hj : j < NN) (i : Nat) (hnest : gnest[i]? = some (.fieldLinkNest own index C (T j).2.1 (T j).2.2.1 host)) (hsame : (T j).1 = C) (hfin : (T j).2.2.2 = false) {ty : FieldType} {v : Value} (hd : parseFieldDescriptor (T j).2.2.1 = some ty) (hn : narrow ty v = v) (hfit : fits ty v = true) (hl : j < fs.length)
    (hdg : decode cc pc = .ok (.putfield index, 3)) (kk : ∀ (H : Heap) (locs : List Loc), gH D base s ad N (va_up w k (.inr (ci, fs.set j v))) H locs → W p l e R s m args below meth c H locs cells slots Q (F0 m (pc + 3) ls rest)) : W p l e R s m args below meth c H locs cells slots Q (F0 m pc ls (v :: .ref (ad k) :: rest)) :=
  va_putN hx hb hts hin ty0 hty hnm hown hE.1 hG.1 hG.2.1 hG.2.2 k (by rw [gl_at hk, he]) hc j hj (va_Nw.use rfl (hE.2.1 _ (List.mem_of_getElem? hnest))) (fun x h => by rw [hsame] at h; exact h) hfin hd hn hfit hl hdg (fun H1 locs1 h1 h2 h3 => kk H1 locs1 (gH_up hk h1 h2 h3))
/-- typed: an int field -/
theorem g_puti (hx : p.tables.exec = Jvm.exec) (hb : c.code = cc) {own C : String} {T : u_T} {NN ci index : Nat} {Ts : List Cond} (hts : ∀ w ∈ Ts, w.before args s = true) (hin : ∀ w ∈ u_ws C T NN, w ∈ Ts) (ty0 : Nat → FieldType) (hty : ∀ k, k < NN → parseFieldDescriptor (T k).2.2.1 = some (ty0 k)) (hnm : ∀ a, a < NN → ∀ b, b < NN → a ≠ b → (T a).2.1 ≠ (T b).2.1) (hown : s.vm.findClass own = some m.cls) (hE : gE D cy base s) (hG : gH D base s ad N (gw cy ad n A J) H locs) {k : Nat} (hk : k < N) {fs : List Value} (he : gw cy ad n A J k = .inr (ci, fs)) (hc : vwCl[ci]? = some (C, T, NN)) (j : Nat) (hj : j < NN) (hlink : (Cond.fieldLink own index C (T j).2.1 (T j).2.2.1).before args s = true) (hsame : (T j).1 = C) (hfin : (T j).2.2.2 = false) {ty : FieldType} {v : Int32} (hd : parseFieldDescriptor (T j).2.2.1 = some ty) (hn : narrow ty (.int v) = .int v) (hfit : fits ty (.int v) = true) (hl : j < fs.length) (he2 : gC cy ad n k (fun j' => if j' = j then v else A k j') (J k) = .inr (ci, fs.set j (.int v)))
    (hdg : decode cc pc = .ok (.putfield index, 3)) (kk : ∀ (H : Heap) (locs : List Loc), gH D base s ad N (gw cy ad n (gu A k j v) J) H locs → W p l e R s m args below meth c H locs cells slots Q (F0 m (pc + 3) ls rest)) : W p l e R s m args below meth c H locs cells slots Q (F0 m pc ls (.int v :: .ref (ad k) :: rest)) :=
  g_put hx hb hts hin ty0 hty hnm hown hE hG hk he hc j hj hlink hsame hfin hd hn hfit hl hdg (fun H1 locs1 h => kk H1 locs1 (h.to (gw_row he2)))
theorem g_putiN (hx : p.tables.exec = Jvm.exec) (hb : c.code = cc) {own C host : String} {T : u_T} {NN ci index : Nat} {Ts : List Cond} (hts : ∀ w ∈ Ts, w.before args s = true) (hin : ∀ w ∈ u_ws C T NN, w ∈ Ts) (ty0 : Nat → FieldType) (hty : ∀ k, k < NN → parseFieldDescriptor (T k).2.2.1 = some (ty0 k)) (hnm : ∀ a, a < NN → ∀ b, b < NN → a ≠ b → (T a).2.1 ≠ (T b).2.1) (hown : s.vm.findClass own = some m.cls) (hE : gE D cy base s) (hG : gH D base s ad N (gw cy ad n A J) H locs) {k : Nat} (hk : k < N) {fs : List Value} (he : gw cy ad n A J k = .inr (ci, fs)) (hc : vwCl[ci]? = some (C, T, NN)) (j : Nat) (hj : j < NN) (i : Nat) (hnest : gnest[i]? = some (.fieldLinkNest own index C (T j).2.1 (T j).2.2.1 host)) (hsame : (T j).1 = C) (hfin : (T j).2.2.2 = false) {ty : FieldType} {v : Int32} (hd : parseFieldDescriptor (T j).2.2.1 = some ty) (hn : narrow ty (.int v) = .int v) (hfit : fits ty (.int v) = true) (hl : j < fs.length) (he2 : gC cy ad n k (fun j' => if j' = j then v else A k j') (J k) = .inr (ci, fs.set j (.int v)))
    (hdg : decode cc pc = .ok (.putfield index, 3)) (kk : ∀ (H : Heap) (locs : List Loc), gH D base s ad N (gw cy ad n (gu A k j v) J) H locs → W p l e R s m args below meth c H locs cells slots Q (F0 m (pc + 3) ls rest)) : W p l e R s m args below meth c H locs cells slots Q (F0 m pc ls (.int v :: .ref (ad k) :: rest)) :=
  g_putN hx hb hts hin ty0 hty hnm hown hE hG hk he hc j hj i hnest hsame hfin hd hn hfit hl hdg (fun H1 locs1 h => kk H1 locs1 (h.to (gw_row he2)))
theorem g_putl (hx : p.tables.exec = Jvm.exec) (hb : c.code = cc) {own C : String} {T : u_T} {NN ci index : Nat} {Ts : List Cond} (hts : ∀ w ∈ Ts, w.before args s = true) (hin : ∀ w ∈ u_ws C T NN, w ∈ Ts) (ty0 : Nat → FieldType) (hty : ∀ k, k < NN → parseFieldDescriptor (T k).2.2.1 = some (ty0 k)) (hnm : ∀ a, a < NN → ∀ b, b < NN → a ≠ b → (T a).2.1 ≠ (T b).2.1) (hown : s.vm.findClass own = some m.cls) (hE : gE D cy base s) (hG : gH D base s ad N (gw cy ad n A J) H locs) {k : Nat} (hk : k < N) {fs : List Value} (he : gw cy ad n A J k = .inr (ci, fs)) (hc : vwCl[ci]? = some (C, T, NN)) (j : Nat) (hj : j < NN) (hlink : (Cond.fieldLink own index C (T j).2.1 (T j).2.2.1).before args s = true) (hsame : (T j).1 = C) (hfin : (T j).2.2.2 = false) {v : Int64} (hd : parseFieldDescriptor (T j).2.2.1 = some .long) (hl : j < fs.length) (he2 : gC cy ad n k (A k) (fun j' => if j' = j then v else J k j') = .inr (ci, fs.set j (.long v)))
    (hdg : decode cc pc = .ok (.putfield index, 3)) (kk : ∀ (H : Heap) (locs : List Loc), gH D base s ad N (gw cy ad n A (gu J k j v)) H locs → W p l e R s m args below meth c H locs cells slots Q (F0 m (pc + 3) ls rest)) : W p l e R s m args below meth c H locs cells slots Q (F0 m pc ls (.long v :: .ref (ad k) :: rest)) :=
  g_put hx hb hts hin ty0 hty hnm hown hE hG hk he hc j hj hlink hsame hfin (v := .long v) hd rfl rfl hl hdg (fun H1 locs1 h => kk H1 locs1 (h.to (gw_rowJ he2)))
/-- arrays -/
theorem g_iald (hx : p.tables.exec = Jvm.exec) (hb : c.code = cc) (hE : gE D cy base s) (hG : gH D base s ad N (gw cy ad n A J) H locs) {k : Nat} (hk : k < N) {nn : Nat} (he : gw cy ad n A J k = .inl (cy 0, nn, .inl (A k))) (i : Nat) {x : Int32} (hx2 : x = nI i) (hi : i < nn) (hnn : nn < 2 ^ 31) (hdg : decode cc pc = .ok (.iaload, 1))
    (kk : W p l e R s m args below meth c H locs cells slots Q (F0 m (pc + 1) ls (.int (A k i) :: rest))) : W p l e R s m args below meth c H locs cells slots Q (F0 m pc ls (.int x :: .ref (ad k) :: rest)) := by
  subst hx2
  refine va_iald hx hb hE.1 hG.1 k 0 (by rw [gl_at hk, he]) rfl (vp_in_nI hi hnn) hdg ?_
  rw [nI_clamp (by omega)]
  exact kk
theorem g_zald (hx : p.tables.exec = Jvm.exec) (hb : c.code = cc) (hE : gE D cy base s) (hG : gH D base s ad N (gw cy ad n A J) H locs) {k : Nat} (hk : k < N) {nn : Nat} (he : gw cy ad n A J k = .inl (cy 2, nn, .inl (A k))) (i : Nat) {x : Int32} (hx2 : x = nI i) (hi : i < nn) (hnn : nn < 2 ^ 31) (hdg : decode cc pc = .ok (.baload, 1))
    (kk : W p l e R s m args below meth c H locs cells slots Q (F0 m (pc + 1) ls (.int (A k i) :: rest))) : W p l e R s m args below meth c H locs cells slots Q (F0 m pc ls (.int x :: .ref (ad k) :: rest)) := by
  subst hx2
  refine va_zald hx hb hE.1 hG.1 k 2 (by rw [gl_at hk, he]) rfl (vp_in_nI hi hnn) hdg ?_
  rw [nI_clamp (by omega)]
  exact kk
theorem g_lald (hx : p.tables.exec = Jvm.exec) (hb : c.code = cc) (hE : gE D cy base s) (hG : gH D base s ad N (gw cy ad n A J) H locs) {k : Nat} (hk : k < N) {nn : Nat} (he : gw cy ad n A J k = .inl (cy 1, nn, .inr (.inl (J k)))) (i : Nat) {x : Int32} (hx2 : x = nI i) (hi : i < nn) (hnn : nn < 2 ^ 31) (hdg : decode cc pc = .ok (.laload, 1))
    (kk : W p l e R s m args below meth c H locs cells slots Q (F0 m (pc + 1) ls (.long (J k i) :: rest))) : W p l e R s m args below meth c H locs cells slots Q (F0 m pc ls (.int x :: .ref (ad k) :: rest)) := by
  subst hx2
  refine va_lald hx hb hE.1 hG.1 k 1 (by rw [gl_at hk, he]) rfl (vp_in_nI hi hnn) hdg ?_
  rw [nI_clamp (by omega)]
  exact kk
theorem g_iast (hx : p.tables.exec = Jvm.exec) (hb : c.code = cc) (hE : gE D cy base s) (hG : gH D base s ad N (gw cy ad n A J) H locs) {k : Nat} (hk : k < N) {nn : Nat} (he : ∀ f, gC cy ad n k f (J k) = .inl (cy 0, nn, .inl f)) (i : Nat) {x v : Int32} (hx2 : x = nI i) (hi : i < nn) (hnn : nn < 2 ^ 31) (hdg : decode cc pc = .ok (.iastore, 1))
    (kk : ∀ (H : Heap) (locs : List Loc), gH D base s ad N (gw cy ad n (gu A k i v) J) H locs → W p l e R s m args below meth c H locs cells slots Q (F0 m (pc + 1) ls rest)) : W p l e R s m args below meth c H locs cells slots Q (F0 m pc ls (.int v :: .int x :: .ref (ad k) :: rest)) := by
  subst hx2
  refine va_iast hx hb hE.1 hG.1 hG.2.1 hG.2.2 k 0 (by rw [gl_at hk]; exact congrArg some (congrArg (Prod.mk (ad k)) (he (A k)))) rfl (vp_in_nI hi hnn) hdg (fun H1 locs1 h1 h2 h3 => kk H1 locs1 ((gH_up hk h1 h2 h3).to (gw_row (f := fun j' => if j' = i then v else A k j') ?_)))
  rw [he, nI_clamp (by omega)]
  rfl
theorem g_zast (hx : p.tables.exec = Jvm.exec) (hb : c.code = cc) (hE : gE D cy base s) (hG : gH D base s ad N (gw cy ad n A J) H locs) {k : Nat} (hk : k < N) {nn : Nat} (he : ∀ f, gC cy ad n k f (J k) = .inl (cy 2, nn, .inl f)) (i : Nat) {x v : Int32} (hv : vp_nar .boolean v = v) (hx2 : x = nI i) (hi : i < nn) (hnn : nn < 2 ^ 31) (hdg : decode cc pc = .ok (.bastore, 1))
    (kk : ∀ (H : Heap) (locs : List Loc), gH D base s ad N (gw cy ad n (gu A k i v) J) H locs → W p l e R s m args below meth c H locs cells slots Q (F0 m (pc + 1) ls rest)) : W p l e R s m args below meth c H locs cells slots Q (F0 m pc ls (.int v :: .int x :: .ref (ad k) :: rest)) := by
  subst hx2
  refine va_zast hx hb hE.1 hG.1 hG.2.1 hG.2.2 k 2 (by rw [gl_at hk]; exact congrArg some (congrArg (Prod.mk (ad k)) (he (A k)))) rfl (vp_in_nI hi hnn) hdg (fun H1 locs1 h1 h2 h3 => kk H1 locs1 ((gH_up hk h1 h2 h3).to (gw_row (f := fun j' => if j' = i then v else A k j') ?_)))
  rw [he, nI_clamp (by omega), hv]
  rfl
theorem g_last (hx : p.tables.exec = Jvm.exec) (hb : c.code = cc) (hE : gE D cy base s) (hG : gH D base s ad N (gw cy ad n A J) H locs) {k : Nat} (hk : k < N) {nn : Nat} (he : ∀ f, gC cy ad n k (A k) f = .inl (cy 1, nn, .inr (.inl f))) (i : Nat) {x : Int32} {v : Int64} (hx2 : x = nI i) (hi : i < nn) (hnn : nn < 2 ^ 31) (hdg : decode cc pc = .ok (.lastore, 1))
    (kk : ∀ (H : Heap) (locs : List Loc), gH D base s ad N (gw cy ad n A (gu J k i v)) H locs → W p l e R s m args below meth c H locs cells slots Q (F0 m (pc + 1) ls rest)) : W p l e R s m args below meth c H locs cells slots Q (F0 m pc ls (.long v :: .int x :: .ref (ad k) :: rest)) := by
  subst hx2
  refine va_last hx hb hE.1 hG.1 hG.2.1 hG.2.2 k 1 (by rw [gl_at hk]; exact congrArg some (congrArg (Prod.mk (ad k)) (he (J k)))) rfl (vp_in_nI hi hnn) hdg (fun H1 locs1 h1 h2 h3 => kk H1 locs1 ((gH_up hk h1 h2 h3).to (gw_rowJ (f := fun j' => if j' = i then v else J k j') ?_)))
  rw [he, nI_clamp (by omega)]
  rfl
theorem g_aald (hx : p.tables.exec = Jvm.exec) (hb : c.code = cc) (hE : gE D cy base s) (hG : gH D base s ad N w H locs) {k : Nat} (hk : k < N) {t0 nn : Nat} {cA : ClassId} {C : String} {f : Nat → Option Nat} (he : w k = .inl (cA, nn, .inr (.inr (.inr (.inr f))))) (ht : (gty cy)[t0]? = some (cA, .object C)) (i : Nat) {x : Int32} (hx2 : x = nI i) (hi : i < nn) (hnn : nn < 2 ^ 31) (hdg : decode cc pc = .ok (.aaload, 1)) {v : Value} (hv : va_rf (f i) = v)
    (kk : W p l e R s m args below meth c H locs cells slots Q (F0 m (pc + 1) ls (v :: rest))) : W p l e R s m args below meth c H locs cells slots Q (F0 m pc ls (.int x :: .ref (ad k) :: rest)) := by
  subst hx2
  refine va_aldq hx hb hE.1 hG.1 k t0 (by rw [gl_at hk, he]) ht (vp_in_nI hi hnn) hdg ?_
  rw [nI_clamp (by omega), hv]
  exact kk
theorem g_alen (hx : p.tables.exec = Jvm.exec) (hb : c.code = cc) (hE : gE D cy base s) (hG : gH D base s ad N w H locs) {k : Nat} (hk : k < N) {t0 : Nat} {cA : ClassId} {x : vp_A} {ty : FieldType} (he : w k = .inl (cA, x)) (ht : (gty cy)[t0]? = some (cA, ty)) {v : Int32} (hv : Int32.ofNat x.1 = v) (hdg : decode cc pc = .ok (.arraylength, 1))
    (kk : W p l e R s m args below meth c H locs cells slots Q (F0 m (pc + 1) ls (.int v :: rest))) : W p l e R s m args below meth c H locs cells slots Q (F0 m pc ls (.ref (ad k) :: rest)) :=
  va_alen hx hb hE.1 hG.1 k t0 (by rw [gl_at hk, he]) ht hv hdg kk
/-- a computed number under another name -/
theorem g_top {x y : Int32} (h : x = y) (k : W p l e R s m args below meth c H locs cells slots Q (F0 m pc ls (.int y :: rest))) : W p l e R s m args below meth c H locs cells slots Q (F0 m pc ls (.int x :: rest)) := by
  subst h; exact k
theorem g_topl {x y : Int64} (h : x = y) (k : W p l e R s m args below meth c H locs cells slots Q (F0 m pc ls (.long y :: rest))) : W p l e R s m args below meth c H locs cells slots Q (F0 m pc ls (.long x :: rest)) := by
  subst h; exact k
/-- ends -/
theorem g_iret {post : Option Value → (Nat → Nat → Int32) → (Nat → Nat → Int64) → Prop} {v : Int32} (hx : p.tables.exec = Jvm.exec) (hb : c.code = cc) (hr : meth.sig.returnType = some .int) (hlocks : meth.locks = false) (hG : gH D base s ad (50 + 2 * n) (gw cy ad n A J) H locs) (hp : post (some (.int v)) A J) (hdg : decode cc pc = .ok (.ireturn, 1)) :
    W p l e R s m args below meth c H locs 0 0 (MQ below (gPost D cy base ad n post) args s 0 0 (fun q => base ≤ q)) (F0 m pc ls [.int v]) :=
  W.iret hx hb hr (fun t ht _ => ⟨⟨_, (A, J), rfl, hp, by show va_P _ _ _ t.heap; rw [ht]; exact hG.1⟩, hG.2.2.F ht⟩) hG.2.2.2.2 hdg hlocks
theorem g_zret {post : Option Value → (Nat → Nat → Int32) → (Nat → Nat → Int64) → Prop} {v : Int32} (hx : p.tables.exec = Jvm.exec) (hb : c.code = cc) (hr : meth.sig.returnType = some .boolean) (hlocks : meth.locks = false) (hG : gH D base s ad (50 + 2 * n) (gw cy ad n A J) H locs) (hn : narrow .boolean (.int v) = .int v) (hp : post (some (.int v)) A J) (hdg : decode cc pc = .ok (.ireturn, 1)) :
    W p l e R s m args below meth c H locs 0 0 (MQ below (gPost D cy base ad n post) args s 0 0 (fun q => base ≤ q)) (F0 m pc ls [.int v]) :=
  W.zret hx hb hr hn (fun t ht _ => ⟨⟨_, (A, J), rfl, hp, by show va_P _ _ _ t.heap; rw [ht]; exact hG.1⟩, hG.2.2.F ht⟩) hG.2.2.2.2 hdg hlocks
theorem g_lret {post : Option Value → (Nat → Nat → Int32) → (Nat → Nat → Int64) → Prop} {v : Int64} (hx : p.tables.exec = Jvm.exec) (hb : c.code = cc) (hr : meth.sig.returnType = some .long) (hlocks : meth.locks = false) (hG : gH D base s ad (50 + 2 * n) (gw cy ad n A J) H locs) (hp : post (some (.long v)) A J) (hdg : decode cc pc = .ok (.lreturn, 1)) :
    W p l e R s m args below meth c H locs 0 0 (MQ below (gPost D cy base ad n post) args s 0 0 (fun q => base ≤ q)) (F0 m pc ls [.long v]) :=
  W.lret hx hb hr (fun t ht _ => ⟨⟨_, (A, J), rfl, hp, by show va_P _ _ _ t.heap; rw [ht]; exact hG.1⟩, hG.2.2.F ht⟩) hG.2.2.2.2 hdg hlocks
theorem g_vret {post : Option Value → (Nat → Nat → Int32) → (Nat → Nat → Int64) → Prop} (hx : p.tables.exec = Jvm.exec) (hb : c.code = cc) (hr : meth.sig.returnType = none) (hlocks : meth.locks = false) (hG : gH D base s ad (50 + 2 * n) (gw cy ad n A J) H locs) (hp : post none A J) (hdg : decode cc pc = .ok (.return_, 1)) :
    W p l e R s m args below meth c H locs 0 0 (MQ below (gPost D cy base ad n post) args s 0 0 (fun q => base ≤ q)) (F0 m pc ls []) :=
  W.vret hx hb hr (fun t ht _ => ⟨⟨_, (A, J), rfl, hp, by show va_P _ _ _ t.heap; rw [ht]; exact hG.1⟩, hG.2.2.F ht⟩) hG.2.2.2.2 hdg hlocks
theorem g_aret {post : Option Value → (Nat → Nat → Int32) → (Nat → Nat → Int64) → Prop} {v : Value} {nm : String} (hx : p.tables.exec = Jvm.exec) (hb : c.code = cc) (hr : meth.sig.returnType = some (.object nm)) (hlocks : meth.locks = false) (hv : v = .null ∨ ∃ a, v = .ref a) (hG : gH D base s ad (50 + 2 * n) (gw cy ad n A J) H locs) (hp : post (some v) A J) (hdg : decode cc pc = .ok (.areturn, 1)) :
    W p l e R s m args below meth c H locs 0 0 (MQ below (gPost D cy base ad n post) args s 0 0 (fun q => base ≤ q)) (F0 m pc ls [v]) :=
  W.aret hx hb hr (Or.inl ⟨nm, rfl⟩) hv (fun t ht _ => ⟨⟨_, (A, J), rfl, hp, by show va_P _ _ _ t.heap; rw [ht]; exact hG.1⟩, hG.2.2.F ht⟩) hG.2.2.2.2 hdg hlocks
/-- calls -/
theorem g_fin {S : Type} {post : Option Value → S → Prop} {B : S → State → Prop} {a : Array Value} {mc ms : Nat} {st0 : List Value} (hr : va_Run p l e R s m args below meth c H locs cells slots mc ms (F0 m pc ls st0) rest (gQc post B (fun q => base ≤ q) a) (fun q => base ≤ q)) (hS : va_S (fun q => base ≤ q) s.heap H locs)
    (kk : ∀ (v : Option Value) (u : S) (t : State) (H1 : Heap) (locs1 : List Loc), t.heap = H1 → post v u → B u t → H.size ≤ H1.size → va_S (fun q => base ≤ q) s.heap H1 locs1 → W p l e R s m args below meth c H1 locs1 (cells + mc) (slots + ms) Q (F0 m (pc + 3) ls (v.toList ++ rest))) : W p l e R s m args below meth c H locs cells slots Q (F0 m pc ls st0) := by
  intro T hT X
  obtain ⟨v, st₀, t, T', L, h0, X', hL, e1, e2, ⟨⟨v', u, hv, hp, hb⟩, hz, hk⟩, st⟩ := hr T hT X
  cases hv
  rw [h0] at hz hk
  obtain ⟨t2, a1, b1⟩ := kk v u t T'.heap (locs ++ L) e1.symm hp hb (by rw [e1]; exact hz)
    ⟨Nat.le_trans hS.1 (by rw [e1]; exact hz), fun q h1 h2 => by rw [e1, hk q (Nat.lt_of_lt_of_le h1 hS.1) h2]; exact hS.2.1 q h1 h2, fun q hq => by
      rcases List.mem_append.mp hq with h | h
      · exact hS.2.2 q h
      · exact hL q h⟩ T' rfl X'
  exact ⟨t2, st t2 a1, b1⟩
theorem g_recv (hE : gE D cy base s) (hG : gH D base s ad N w H locs) {k : Nat} (hk : k < N) {ci : Nat} {fs : List Value} (he : w k = .inr (ci, fs)) {r : vw_C} (hc : vwCl[ci]? = some r) : ∃ cell : Cell, H[ad k]? = some cell ∧ cell.vm.isStatics = false ∧ s.vm.findClass r.1 = some cell.cls :=
  va_recv hE.1 hG.1 hc (q0 := k) (fs := fs) (by rw [gl_at hk, he])
theorem g_pre (hE : gE D cy base s) (hG : gH D base s ad N w H locs) (As : List Value) : PreS s H (gPre D cy base ad N w As) As :=
  ⟨gPre.blind, fun U hU hW => ⟨rfl, hE.warm hG.2.2 hU hW, by rw [hU]; exact hG.1, hG.2.1⟩⟩
theorem g_callV {y : MethodName} {bytes : ByteArray} {maxL nL nn index : Nat} {ret : Option FieldType} {ws : List Cond} {rm : Room} {Ts : List Cond} {own : String} {As st0 : List Value} {post : Option Value → (Nat → Nat → Int32) → (Nat → Nat → Int64) → Prop} {k : Nat} {r : vw_C} {ci : Nat} {fs : List Value}
    (S : CallFix p m c cc nL s args Ts own) (hE : gE D cy base s) (hG : gH D base s ad (50 + 2 * n) (gw cy ad n A J) H locs) (hM : gMet l y ws rm D cy base ad n A J (.ref (ad k) :: As) post) (cw : CallW R s args own r.1 index y bytes maxL ret ws rm 0 0 nn) (hk : k < 50 + 2 * n) (he : gw cy ad n A J k = .inr (ci, fs)) (hc : vwCl[ci]? = some r)
    (hn : As.length = nn) (hsize : ls.size = nL) (hst : st0 = As.reverse ++ .ref (ad k) :: rest) (hW : (rest.map fun v => v.category).sum ≤ 8) (hdg : decode cc pc = .ok (.invokevirtual index, 3)) (hf : cells ≤ R.cells ∧ slots ≤ R.slots)
    (kk : ∀ (v : Option Value) (A : Nat → Nat → Int32) (J : Nat → Nat → Int64) (H : Heap) (locs : List Loc), post v A J → gH D base s ad (50 + 2 * n) (gw cy ad n A J) H locs → W p l e R s m args below meth c H locs cells slots Q (F0 m (pc + 3) ls (v.toList ++ rest))) : W p l e R s m args below meth c H locs cells slots Q (F0 m pc ls st0) := by
  have hP := g_pre hE hG (.ref (ad k) :: As)
  refine g_fin (rest := rest) (mc := 0) (ms := 0) (va_runV (C := r.1) (b := ad k) (As := As) (rest := rest) (g := F0 m pc ls st0) S hM cw ⟨hP.1, g_recv hE hG hk he hc, hP.2⟩ rfl hn hsize hst (by show 2 * 0 + _ ≤ 8; omega) hdg hf) hG.2.2 (fun v u t H1 locs1 ht hp hB hz hS => ?_)
  exact kk v u.1 u.2 H1 locs1 hp ⟨by rw [← ht]; exact hB, gl_D hG.2.1, hS⟩
theorem g_callS {y : MethodName} {bytes : ByteArray} {maxL nL nn index : Nat} {ret : Option FieldType} {ws : List Cond} {rm : Room} {Ts : List Cond} {own : String} {As st0 : List Value} {post : Option Value → (Nat → Nat → Int32) → (Nat → Nat → Int64) → Prop}
    (S : CallFix p m c cc nL s args Ts own) (hE : gE D cy base s) (hG : gH D base s ad (50 + 2 * n) (gw cy ad n A J) H locs) (hM : gMet l y ws rm D cy base ad n A J As post) (cw : CallB R s args own index y bytes maxL ret ws rm 0 0 nn ∧ (Cond.static y).before args s = true)
    (hn : As.length = nn) (hsize : ls.size = nL) (hst : st0 = As.reverse ++ rest) (hW : (rest.map fun v => v.category).sum ≤ 8) (hdg : decode cc pc = .ok (.invokestatic index, 3)) (hf : cells ≤ R.cells ∧ slots ≤ R.slots)
    (kk : ∀ (v : Option Value) (A : Nat → Nat → Int32) (J : Nat → Nat → Int64) (H : Heap) (locs : List Loc), post v A J → gH D base s ad (50 + 2 * n) (gw cy ad n A J) H locs → W p l e R s m args below meth c H locs cells slots Q (F0 m (pc + 3) ls (v.toList ++ rest))) : W p l e R s m args below meth c H locs cells slots Q (F0 m pc ls st0) := by
  refine g_fin (rest := rest) (mc := 0) (ms := 0) (va_runS (As := As) (rest := rest) (g := F0 m pc ls st0) S hM cw (g_pre hE hG As) rfl hn hsize hst (by show 2 * 0 + _ ≤ 8; omega) hdg hf) hG.2.2 (fun v u t H1 locs1 ht hp hB hz hS => ?_)
  exact kk v u.1 u.2 H1 locs1 hp ⟨by rw [← ht]; exact hB, gl_D hG.2.1, hS⟩
end GR
/-- a method's body: what it may take for granted -/
theorem g_ofW {l : Launch} {y : MethodName} {ws ws' : List Cond} {rm : Room} {D : va_G} {cy : Nat → ClassId} {base : Nat} {ad : Nat → Nat} {n : Nat} {A : Nat → Nat → Int32} {J : Nat → Nat → Int64} {av : List Value} {post : Option Value → (Nat → Nat → Int32) → (Nat → Nat → Int64) → Prop} {cc : ByteArray} {maxL : Nat} {ret : Option FieldType}
    (hy : plainName y.cls = true) (hw : ws = Cond.code y cc maxL ret :: ws') (hlen : (lg_sl av).length ≤ maxL)
    (body : ∀ (p : Program) (e : Env) (s : State) (m : MethodId) (args : Array Value) (below : List Frame) (meth : Method) (c : Code) (H : Heap) (locs : List Loc) (ls : Array Slot), p.tables.exec = Jvm.exec → c.code = cc → meth.sig.returnType = ret → (∀ w ∈ ws, w.before args s = true) → s.vm.findClass y.cls = some m.cls → meth.locks = false → c.maxLocals = maxL → gE D cy base s → gH D base s ad (50 + 2 * n) (gw cy ad n A J) H locs → lv_has ls maxL (lv_args 0 av) →
      W p l e rm s m args below meth c H locs 0 0 (MQ below (gPost D cy base ad n post) args s 0 0 (fun q => base ≤ q)) (F0 m 0 ls [])) : gMet l y ws rm D cy base ad n A J av post := by
  refine Met.ofW (cc := cc) (maxL := maxL) (ret := ret) hy hw ?_
  intro p e s m args below meth c s₁ B hml hv
  obtain ⟨rfl, hE, hP, hD⟩ := hv
  rw [lg_entry_eq]
  exact body p e s m av.toArray below meth c s.heap [] _ B.exec B.bytes B.returns (atoms_spec (ws := ws) B.pre) (findClass_of_methodNamed B.named) B.notSynchronized hml hE ⟨hP, hD, va_S.rf⟩ (lv_entry av hlen)

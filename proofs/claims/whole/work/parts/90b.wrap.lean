/-! ===== the law's own methods: each calls one of the class's and catches ===== -/
def gNcs (U : State) : Prop := va_Nc "java/lang/IllegalArgumentException" "java/lang/IndexOutOfBoundsException" U ∧ va_Nc "java/util/NoSuchElementException" "java/lang/IndexOutOfBoundsException" U ∧ va_Nc "java/lang/IllegalStateException" "java/lang/IllegalArgumentException" U ∧ va_Nc "java/lang/IndexOutOfBoundsException" "java/lang/IllegalArgumentException" U ∧ va_Nc "java/util/NoSuchElementException" "java/lang/IllegalArgumentException" U
def gEL (D : va_G) (cy : Nat → ClassId) (base : Nat) (U : State) : Prop := gE D cy base U ∧ gNcs U
def gPreL (D : va_G) (cy : Nat → ClassId) (base : Nat) (ad : Nat → Nat) (N : Nat) (w : Nat → va_E) (av : List Value) : Array Value → State → Prop := va_Pc av (fun U => gEL D cy base U ∧ va_P D vwCl (gl ad N w) U.heap ∧ va_D (fun q => base ≤ q) (gl ad N w))
theorem gNcs.moved {u U : State} (hvm : u.vm.Alike U.vm) (h : gNcs u) : gNcs U := ⟨h.1.moved hvm, h.2.1.moved hvm, h.2.2.1.moved hvm, h.2.2.2.1.moved hvm, h.2.2.2.2.moved hvm⟩
theorem gEL.blind {D : va_G} {cy : Nat → ClassId} {base : Nat} {U : State} {g : JFrame} {mk : MethodId} {a : Array Value} (h : gEL D cy base U) : gEL D cy base (U.calling g mk a) := ⟨h.1.blind, gNcs.moved (u := U) (U := U.calling g mk a) (Vm.Alike.refl U.vm) h.2⟩
theorem gEL.warm {D : va_G} {cy : Nat → ClassId} {base : Nat} {s U : State} {H : Heap} {locs : List Loc} (h : gEL D cy base s) (hS : va_S (fun q => base ≤ q) s.heap H locs) (hU : U.heap = H) (hW : s.WarmedH U.vm) : gEL D cy base U := ⟨h.1.warm hS hU hW, h.2.moved hW.alike⟩
theorem gPreL.blind {D : va_G} {cy : Nat → ClassId} {base : Nat} {ad : Nat → Nat} {N : Nat} {w : Nat → va_E} {av : List Value} : FrameBlind (gPreL D cy base ad N w av) := fun a U g mk h => ⟨h.1, h.2.1.blind, h.2.2.1, h.2.2.2⟩
theorem gL_pre {s : State} {H : Heap} {locs : List Loc} {D : va_G} {cy : Nat → ClassId} {base : Nat} {ad : Nat → Nat} {N : Nat} {w : Nat → va_E} (hE : gEL D cy base s) (hG : gH D base s ad N w H locs) (As : List Value) : PreS s H (gPreL D cy base ad N w As) As :=
  ⟨gPreL.blind, fun U hU hW => ⟨rfl, hE.warm hG.2.2 hU hW, by rw [hU]; exact hG.1, hG.2.1⟩⟩
abbrev xNo : String → State → State → Prop := fun _ _ _ => False
abbrev gMetL (l : Launch) (y : MethodName) (ws : List Cond) (rm : Room) (D : va_G) (cy : Nat → ClassId) (base : Nat) (ad : Nat → Nat) (N : Nat) (w : Nat → va_E) (av : List Value) (Qc : Array Value → State → Outcome → State → Prop) (mc ms : Nat) : Prop := vx_Met l y ws rm (gPreL D cy base ad N w av) Qc xNo mc ms (fun q => base ≤ q)
theorem gL_ofW {l : Launch} {y : MethodName} {ws ws' : List Cond} {rm : Room} {D : va_G} {cy : Nat → ClassId} {base : Nat} {ad : Nat → Nat} {N : Nat} {w : Nat → va_E} {mc ms : Nat} {av : List Value} {Qc : Array Value → State → Outcome → State → Prop} {cc : ByteArray} {maxL : Nat} {ret : Option FieldType} {hh : List (Nat × Nat × Nat × Nat)}
    (hy : plainName y.cls = true) (hw : ws = Cond.codeWith y cc maxL ret hh :: ws') (hlen : (lg_sl av).length ≤ maxL)
    (body : ∀ (p : Program) (e : Env) (s : State) (m : MethodId) (args : Array Value) (below : List Frame) (meth : Method) (c : Code) (H : Heap) (locs : List Loc) (ls : Array Slot), p.tables.exec = Jvm.exec → c.code = cc → meth.sig.returnType = ret → (∀ w ∈ ws, w.before args s = true) → s.vm.findClass y.cls = some m.cls → meth.locks = false → c.maxLocals = maxL → c.exceptionTable.toList = tableOf hh → gEL D cy base s → gH D base s ad N w H locs → lv_has ls maxL (lv_args 0 av) →
      W p l e rm s m args below meth c H locs 0 0 (vx_MQ below Qc xNo args s mc ms (fun q => base ≤ q)) (F0 m 0 ls [])) : gMetL l y ws rm D cy base ad N w av Qc mc ms := by
  refine vx_ofWH (cc := cc) (maxL := maxL) (ret := ret) hy hw ?_
  intro p e s m args below meth c s₁ B hml hv
  obtain ⟨rfl, hE, hP, hD⟩ := hv
  rw [lg_entry_eq]
  have hts := atoms_spec (ws := ws) B.pre
  exact body p e s m av.toArray below meth c s.heap [] _ B.exec B.bytes B.returns hts (findClass_of_methodNamed B.named) B.notSynchronized hml (vx_table (x := y) B (hts _ (by rw [hw]; exact List.mem_cons_self))) hE ⟨hP, hD, va_S.rf⟩ (lv_entry av hlen)
theorem CAll.ofJ {n : Nat} {A : Nat → Nat → Int32} {J J' : Nat → Nat → Int64} {G : Nat → Nat → Int} (h : CAll n A J G) (hJ : ∀ k, k < 28 → J' k = J k) : CAll n A J' G := by
  obtain ⟨hct, hn, hT, hFs, hpr, hz, hU, hD, hso, hse, hli, hsy, hde, hcd, hok, hdv, hdr, hsn, hol, hln⟩ := h
  exact ⟨hct, hn, hT, hFs, hpr, hz, hU.to (hJ 3 (by omega)) rfl (fun _ _ _ _ => rfl), hD, hso, hse.to rfl (by rw [hJ 6 (by omega)]) rfl rfl (fun _ _ _ _ => rfl) (fun _ => rfl), hli, hsy.to rfl rfl (by rw [hJ 7 (by omega)]) (fun _ => rfl) (fun _ _ _ => rfl), hde, hcd, hok, hdv, hdr, hsn, hol, hln⟩
/-- what a wrapper answers, out of what the method does -/
def qL0 (P : Option Value → (Nat → Nat → Int32) → (Nat → Nat → Int64) → Prop) : Option Value → (Nat → Nat → Int32) → (Nat → Nat → Int64) → Prop := fun v A1 J1 => ∃ (r : Int32) (J2 : Nat → Nat → Int64), P (some (.int r)) A1 J2 ∧ v = some (.int (nI 0)) ∧ J1 = gu J2 49 0 r.toInt64
def qL1 (P : Option Value → (Nat → Nat → Int32) → (Nat → Nat → Int64) → Prop) (E : String → (Nat → Nat → Int32) → (Nat → Nat → Int64) → Prop) (e1 : String) : Option Value → (Nat → Nat → Int32) → (Nat → Nat → Int64) → Prop := fun v A1 J1 => qL0 P v A1 J1 ∨ (v = some (.int (nI 1)) ∧ E e1 A1 J1)
def qL2 (P : Option Value → (Nat → Nat → Int32) → (Nat → Nat → Int64) → Prop) (E : String → (Nat → Nat → Int32) → (Nat → Nat → Int64) → Prop) (e1 e2 : String) : Option Value → (Nat → Nat → Int32) → (Nat → Nat → Int64) → Prop := fun v A1 J1 => qL0 P v A1 J1 ∨ (v = some (.int (nI 1)) ∧ E e1 A1 J1) ∨ (v = some (.int (nI 2)) ∧ E e2 A1 J1)
set_option maxHeartbeats 4000000 in
set_option maxRecDepth 100000 in
theorem cL_placeC (l : Launch) (D : va_G) (cy : Nat → ClassId) (base : Nat) (ad : Nat → Nat) (n : Nat) (A : Nat → Nat → Int32) (J : Nat → Nat → Int64) (x1 : Int32) (P : Option Value → (Nat → Nat → Int32) → (Nat → Nat → Int64) → Prop) (E : String → (Nat → Nat → Int32) → (Nat → Nat → Int64) → Prop) (hM : gMetX l yX9_place wsX9_place ({ frames := 7, cells := 1, slots := 6, locals := 122 } : Room) D cy base ad n A J [.ref (ad 0), .int x1] P E 1 6) (hP : ∀ v A1 J1, P v A1 J1 → ∃ r : Int32, v = some (.int r)) (hE : ∀ e A1 J1, E e A1 J1 → e = "java/lang/IndexOutOfBoundsException") : gMetL l yL_place wsL_place ({ frames := 8, cells := 1, slots := 6, locals := 144 } : Room) D cy base ad (50 + 2 * n) (gw cy ad n A J) [.ref (ad 0), .int x1, .ref (ad 49)] (gPost D cy base ad n (qL1 P E "java/lang/IndexOutOfBoundsException")) 1 6 := by
  refine gL_ofW (cc := cL_place) (maxL := 4) (ret := some .int) (hh := [(0, 9, 12, 21)]) (by decide) rfl (Nat.le_of_ble_eq_true rfl) ?_
  intro pM eM sM mM aM bM methM cM H locs ls hx hb hr hts hown hlocks hml htab hEL hG hl
  have hl : lv_has ls 4 [(0, .ref (ad 0)), (1, .int x1), (2, .ref (ad 49))] := hl
  refine lv_aload_n hx hb dL_place_0 rfl (lv_at hl 2 rfl) ?_
  refine lv_iconst (v := nI 0) hx hb dL_place_1 (by decide) ?_
  refine lv_aload_n hx hb dL_place_2 rfl (lv_at hl 0 rfl) ?_
  refine lv_iload_n hx hb dL_place_3 rfl (lv_at hl 1 rfl) ?_
  have hPq := g_pre hEL.1 hG (.ref (ad 0) :: [.int x1])
  refine gx_fin (rest := [.int (nI 0), .ref (ad 49)]) (vx_runV (C := RX9) (b := ad 0) (As := [.int x1]) (rest := [.int (nI 0), .ref (ad 49)]) (g := F0 mM _ ls _) ⟨hx, hb, hml, hown, hts⟩ hM (cwV 1 hts gL_place_X9_place rfl rfl rfl (by decide +kernel) ⟨(Nat.le_of_ble_eq_true rfl), (Nat.le_of_ble_eq_true rfl)⟩) ⟨hPq.1, g_recv hEL.1 hG (k := 0) (r := (RX9, TX9, 6)) (by omega) rfl rfl, hPq.2⟩ rfl rfl hl.1 rfl (Nat.le_of_ble_eq_true rfl) dL_place_4 ⟨(Nat.le_of_ble_eq_true rfl), (Nat.le_of_ble_eq_true rfl)⟩) hG.2.2 (fun e9 ce q9 A1 J1 H locs hp hB hS hce hv hcl => ?_) (fun v9 u9 t9 H locs ht hp hB hz hS => ?_)
  · have hG : gH D base sM ad (50 + 2 * n) (gw cy ad n A1 J1) H locs := ⟨hB, gl_D hG.2.1, hS⟩
    have he9 := hE _ _ _ hp
    subst he9
    refine vx_catch (own := RL) (name := "java/lang/IndexOutOfBoundsException") hown [] ⟨0, 9, 12, 21⟩ [] htab (fun z h => nomatch h) (by decide) (by decide) (hts (.classLink RL 21 "java/lang/IndexOutOfBoundsException") (List.mem_of_getElem? (i := 1) rfl)) (vx_self (k := 6) (hts _ ((fun h9 => List.mem_cons_of_mem _ (List.mem_append_right _ h9)) (show Cond.instantiable "java/lang/IndexOutOfBoundsException" 6 ∈ (vx_at0 RX9 109 "java/lang/IndexOutOfBoundsException" vxN).filter goodWord from by decide +kernel)))) hce hv hcl ?_
    refine lv_astore_n (lv' := [(3, .ref q9), (0, .ref (ad 0)), (1, .int x1), (2, .ref (ad 49))]) hx hb dL_place_12 rfl hl (by decide) rfl (fun ls hl => ?_)
    refine lv_iconst (v := nI 1) hx hb dL_place_13 (by decide) ?_
    exact gx_iret hx hb hr hlocks hG (Nat.le_of_ble_eq_true rfl) (Nat.le_of_ble_eq_true rfl) (Or.inr ⟨rfl, hp⟩) dL_place_14
  · obtain ⟨r9, rfl⟩ := hP _ _ _ hp
    have hG : gH D base sM ad (50 + 2 * n) (gw cy ad n u9.1 u9.2) H locs := ⟨by rw [← ht]; exact hB, gl_D hG.2.1, hS⟩
    refine W.eq (g2 := F0 mM 7 ls [.int r9, .int (nI 0), .ref (ad 49)]) rfl ?_
    refine lv_i2l (v := r9.toInt64) hx hb dL_place_7 rfl ?_
    refine g_last hx hb hEL.1 hG (k := 49) (by omega) (nn := 1) (fun _ => rfl) 0 rfl (by decide) (by decide) dL_place_8 (fun H locs hG => ?_)
    refine lv_goto (tgt := 15) hx hb dL_place_9 (by decide) ?_
    refine lv_iconst (v := nI 0) hx hb dL_place_15 (by decide) ?_
    exact gx_iret hx hb hr hlocks hG (Nat.le_of_ble_eq_true rfl) (Nat.le_of_ble_eq_true rfl) (Or.inl ⟨r9, _, hp, rfl, rfl⟩) dL_place_16
set_option maxHeartbeats 4000000 in
set_option maxRecDepth 100000 in
theorem cL_numberC (l : Launch) (D : va_G) (cy : Nat → ClassId) (base : Nat) (ad : Nat → Nat) (n : Nat) (A : Nat → Nat → Int32) (J : Nat → Nat → Int64) (P : Option Value → (Nat → Nat → Int32) → (Nat → Nat → Int64) → Prop) (E : String → (Nat → Nat → Int32) → (Nat → Nat → Int64) → Prop) (hM : gMetX l yX9_number wsX9_number ({ frames := 6, cells := 1, slots := 6, locals := 100 } : Room) D cy base ad n A J [.ref (ad 0)] P E 1 6) (hP : ∀ v A1 J1, P v A1 J1 → ∃ r : Int32, v = some (.int r)) (hE : ∀ e A1 J1, E e A1 J1 → e = "java/util/NoSuchElementException") : gMetL l yL_number wsL_number ({ frames := 7, cells := 1, slots := 6, locals := 120 } : Room) D cy base ad (50 + 2 * n) (gw cy ad n A J) [.ref (ad 0), .ref (ad 49)] (gPost D cy base ad n (qL1 P E "java/util/NoSuchElementException")) 1 6 := by
  refine gL_ofW (cc := cL_number) (maxL := 3) (ret := some .int) (hh := [(0, 8, 11, 46)]) (by decide) rfl (Nat.le_of_ble_eq_true rfl) ?_
  intro pM eM sM mM aM bM methM cM H locs ls hx hb hr hts hown hlocks hml htab hEL hG hl
  have hl : lv_has ls 3 [(0, .ref (ad 0)), (1, .ref (ad 49))] := hl
  refine lv_aload_n hx hb dL_number_0 rfl (lv_at hl 1 rfl) ?_
  refine lv_iconst (v := nI 0) hx hb dL_number_1 (by decide) ?_
  refine lv_aload_n hx hb dL_number_2 rfl (lv_at hl 0 rfl) ?_
  have hPq := g_pre hEL.1 hG (.ref (ad 0) :: [])
  refine gx_fin (rest := [.int (nI 0), .ref (ad 49)]) (vx_runV (C := RX9) (b := ad 0) (As := []) (rest := [.int (nI 0), .ref (ad 49)]) (g := F0 mM _ ls _) ⟨hx, hb, hml, hown, hts⟩ hM (cwV 0 hts gL_number_X9_number rfl rfl rfl (by decide +kernel) ⟨(Nat.le_of_ble_eq_true rfl), (Nat.le_of_ble_eq_true rfl)⟩) ⟨hPq.1, g_recv hEL.1 hG (k := 0) (r := (RX9, TX9, 6)) (by omega) rfl rfl, hPq.2⟩ rfl rfl hl.1 rfl (Nat.le_of_ble_eq_true rfl) dL_number_3 ⟨(Nat.le_of_ble_eq_true rfl), (Nat.le_of_ble_eq_true rfl)⟩) hG.2.2 (fun e9 ce q9 A1 J1 H locs hp hB hS hce hv hcl => ?_) (fun v9 u9 t9 H locs ht hp hB hz hS => ?_)
  · have hG : gH D base sM ad (50 + 2 * n) (gw cy ad n A1 J1) H locs := ⟨hB, gl_D hG.2.1, hS⟩
    have he9 := hE _ _ _ hp
    subst he9
    refine vx_catch (own := RL) (name := "java/util/NoSuchElementException") hown [] ⟨0, 8, 11, 46⟩ [] htab (fun z h => nomatch h) (by decide) (by decide) (hts (.classLink RL 46 "java/util/NoSuchElementException") (List.mem_of_getElem? (i := 1) rfl)) (vx_self (k := 6) (hts _ ((fun h9 => List.mem_cons_of_mem _ (List.mem_append_right _ h9)) (show Cond.instantiable "java/util/NoSuchElementException" 6 ∈ (vx_at0 RX9 159 "java/util/NoSuchElementException" vxN).filter goodWord from by decide +kernel)))) hce hv hcl ?_
    refine lv_astore_n (lv' := [(2, .ref q9), (0, .ref (ad 0)), (1, .ref (ad 49))]) hx hb dL_number_11 rfl hl (by decide) rfl (fun ls hl => ?_)
    refine lv_iconst (v := nI 1) hx hb dL_number_12 (by decide) ?_
    exact gx_iret hx hb hr hlocks hG (Nat.le_of_ble_eq_true rfl) (Nat.le_of_ble_eq_true rfl) (Or.inr ⟨rfl, hp⟩) dL_number_13
  · obtain ⟨r9, rfl⟩ := hP _ _ _ hp
    have hG : gH D base sM ad (50 + 2 * n) (gw cy ad n u9.1 u9.2) H locs := ⟨by rw [← ht]; exact hB, gl_D hG.2.1, hS⟩
    refine W.eq (g2 := F0 mM 6 ls [.int r9, .int (nI 0), .ref (ad 49)]) rfl ?_
    refine lv_i2l (v := r9.toInt64) hx hb dL_number_6 rfl ?_
    refine g_last hx hb hEL.1 hG (k := 49) (by omega) (nn := 1) (fun _ => rfl) 0 rfl (by decide) (by decide) dL_number_7 (fun H locs hG => ?_)
    refine lv_goto (tgt := 14) hx hb dL_number_8 (by decide) ?_
    refine lv_iconst (v := nI 0) hx hb dL_number_14 (by decide) ?_
    exact gx_iret hx hb hr hlocks hG (Nat.le_of_ble_eq_true rfl) (Nat.le_of_ble_eq_true rfl) (Or.inl ⟨r9, _, hp, rfl, rfl⟩) dL_number_15
set_option maxHeartbeats 4000000 in
set_option maxRecDepth 100000 in
theorem cL_putC (l : Launch) (D : va_G) (cy : Nat → ClassId) (base : Nat) (ad : Nat → Nat) (n : Nat) (A : Nat → Nat → Int32) (J : Nat → Nat → Int64) (x1 x2 : Int32) (P : Option Value → (Nat → Nat → Int32) → (Nat → Nat → Int64) → Prop) (E : String → (Nat → Nat → Int32) → (Nat → Nat → Int64) → Prop) (hM : gMetX l yX9_put wsX9_put ({ frames := 7, cells := 2, slots := 12, locals := 122 } : Room) D cy base ad n A J [.ref (ad 0), .int x1, .int x2] P E 2 12) (hP : ∀ v A1 J1, P v A1 J1 → ∃ r : Int32, v = some (.int r)) (hE : ∀ e A1 J1, E e A1 J1 → e = "java/lang/IndexOutOfBoundsException" ∨ e = "java/lang/IllegalArgumentException") : gMetL l yL_put wsL_put ({ frames := 8, cells := 2, slots := 12, locals := 146 } : Room) D cy base ad (50 + 2 * n) (gw cy ad n A J) [.ref (ad 0), .int x1, .int x2, .ref (ad 49)] (gPost D cy base ad n (qL2 P E "java/lang/IndexOutOfBoundsException" "java/lang/IllegalArgumentException")) 2 12 := by
  refine gL_ofW (cc := cL_put) (maxL := 5) (ret := some .int) (hh := [(0, 10, 13, 21), (0, 10, 17, 13)]) (by decide) rfl (Nat.le_of_ble_eq_true rfl) ?_
  intro pM eM sM mM aM bM methM cM H locs ls hx hb hr hts hown hlocks hml htab hEL hG hl
  have hl : lv_has ls 5 [(0, .ref (ad 0)), (1, .int x1), (2, .int x2), (3, .ref (ad 49))] := hl
  refine lv_aload_n hx hb dL_put_0 rfl (lv_at hl 3 rfl) ?_
  refine lv_iconst (v := nI 0) hx hb dL_put_1 (by decide) ?_
  refine lv_aload_n hx hb dL_put_2 rfl (lv_at hl 0 rfl) ?_
  refine lv_iload_n hx hb dL_put_3 rfl (lv_at hl 1 rfl) ?_
  refine lv_iload_n hx hb dL_put_4 rfl (lv_at hl 2 rfl) ?_
  have hPq := g_pre hEL.1 hG (.ref (ad 0) :: [.int x1, .int x2])
  refine gx_fin (rest := [.int (nI 0), .ref (ad 49)]) (vx_runV (C := RX9) (b := ad 0) (As := [.int x1, .int x2]) (rest := [.int (nI 0), .ref (ad 49)]) (g := F0 mM _ ls _) ⟨hx, hb, hml, hown, hts⟩ hM (cwV 2 hts gL_put_X9_put rfl rfl rfl (by decide +kernel) ⟨(Nat.le_of_ble_eq_true rfl), (Nat.le_of_ble_eq_true rfl)⟩) ⟨hPq.1, g_recv hEL.1 hG (k := 0) (r := (RX9, TX9, 6)) (by omega) rfl rfl, hPq.2⟩ rfl rfl hl.1 rfl (Nat.le_of_ble_eq_true rfl) dL_put_5 ⟨(Nat.le_of_ble_eq_true rfl), (Nat.le_of_ble_eq_true rfl)⟩) hG.2.2 (fun e9 ce q9 A1 J1 H locs hp hB hS hce hv hcl => ?_) (fun v9 u9 t9 H locs ht hp hB hz hS => ?_)
  · have hG : gH D base sM ad (50 + 2 * n) (gw cy ad n A1 J1) H locs := ⟨hB, gl_D hG.2.1, hS⟩
    have he9 := hE _ _ _ hp
    rcases he9 with rfl | rfl
    · refine vx_catch (own := RL) (name := "java/lang/IndexOutOfBoundsException") hown [] ⟨0, 10, 13, 21⟩ [⟨0, 10, 17, 13⟩] htab (fun z h => nomatch h) (by decide) (by decide) (hts (.classLink RL 21 "java/lang/IndexOutOfBoundsException") (List.mem_of_getElem? (i := 1) rfl)) (vx_self (k := 6) (hts _ ((fun h9 => List.mem_cons_of_mem _ (List.mem_append_right _ h9)) (show Cond.instantiable "java/lang/IndexOutOfBoundsException" 6 ∈ (vx_at0 RX9 109 "java/lang/IndexOutOfBoundsException" vxN).filter goodWord from by decide +kernel)))) hce hv hcl ?_
      refine lv_astore (lv' := [(4, .ref q9), (0, .ref (ad 0)), (1, .int x1), (2, .int x2), (3, .ref (ad 49))]) hx hb dL_put_13 hl (by decide) rfl (fun ls hl => ?_)
      refine lv_iconst (v := nI 1) hx hb dL_put_15 (by decide) ?_
      exact gx_iret hx hb hr hlocks hG (Nat.le_of_ble_eq_true rfl) (Nat.le_of_ble_eq_true rfl) (Or.inr (Or.inl ⟨rfl, hp⟩)) dL_put_16
    · refine vx_catch (own := RL) (name := "java/lang/IllegalArgumentException") hown [⟨0, 10, 13, 21⟩] ⟨0, 10, 17, 13⟩ [] htab (fun z h => by have h9 := List.mem_singleton.mp h; subst h9; exact Or.inr ⟨by decide, "java/lang/IndexOutOfBoundsException", (hts (.classLink RL 21 "java/lang/IndexOutOfBoundsException") (List.mem_of_getElem? (i := 1) rfl)), hEL.2.1⟩) (by decide) (by decide) (hts (.classLink RL 13 "java/lang/IllegalArgumentException") (List.mem_of_getElem? (i := 2) rfl)) (vx_self (k := 6) (hts _ ((fun h9 => List.mem_cons_of_mem _ (List.mem_append_left _ (List.mem_append_right _ h9))) (show Cond.instantiable "java/lang/IllegalArgumentException" 6 ∈ (vx_at0 RX9 57 "java/lang/IllegalArgumentException" vxN).filter goodWord from by decide +kernel)))) hce hv hcl ?_
      refine lv_astore (lv' := [(4, .ref q9), (0, .ref (ad 0)), (1, .int x1), (2, .int x2), (3, .ref (ad 49))]) hx hb dL_put_17 hl (by decide) rfl (fun ls hl => ?_)
      refine lv_iconst (v := nI 2) hx hb dL_put_19 (by decide) ?_
      exact gx_iret hx hb hr hlocks hG (Nat.le_of_ble_eq_true rfl) (Nat.le_of_ble_eq_true rfl) (Or.inr (Or.inr ⟨rfl, hp⟩)) dL_put_20
  · obtain ⟨r9, rfl⟩ := hP _ _ _ hp
    have hG : gH D base sM ad (50 + 2 * n) (gw cy ad n u9.1 u9.2) H locs := ⟨by rw [← ht]; exact hB, gl_D hG.2.1, hS⟩
    refine W.eq (g2 := F0 mM 8 ls [.int r9, .int (nI 0), .ref (ad 49)]) rfl ?_
    refine lv_i2l (v := r9.toInt64) hx hb dL_put_8 rfl ?_
    refine g_last hx hb hEL.1 hG (k := 49) (by omega) (nn := 1) (fun _ => rfl) 0 rfl (by decide) (by decide) dL_put_9 (fun H locs hG => ?_)
    refine lv_goto (tgt := 21) hx hb dL_put_10 (by decide) ?_
    refine lv_iconst (v := nI 0) hx hb dL_put_21 (by decide) ?_
    exact gx_iret hx hb hr hlocks hG (Nat.le_of_ble_eq_true rfl) (Nat.le_of_ble_eq_true rfl) (Or.inl ⟨r9, _, hp, rfl, rfl⟩) dL_put_22
set_option maxHeartbeats 4000000 in
set_option maxRecDepth 100000 in
theorem cL_addPointC (l : Launch) (D : va_G) (cy : Nat → ClassId) (base : Nat) (ad : Nat → Nat) (n : Nat) (A : Nat → Nat → Int32) (J : Nat → Nat → Int64) (G : Nat → Nat → Int) (wq cq pq : Int) (tq : Nat) (hst : l.stackTraces = false) (hC : CAll n A J G) (hwq9 : -2147483648 ≤ wq ∧ wq < 2147483648) (hcq9 : -2147483648 ≤ cq ∧ cq < 2147483648) (hpq9 : -2147483648 ≤ pq ∧ pq < 2147483648) (htq : tq ≤ 1) : gMetL l yL_addPoint wsL_addPoint ({ frames := 7, cells := 3, slots := 19, locals := 124 } : Room) D cy base ad (50 + 2 * n) (gw cy ad n A J) [.ref (ad 0), .int (zI wq), .int (zI cq), .int (zI pq), .int (nI tq), .ref (ad 49)] (gPostW D base (fun v_ ad1 N1 w1 => (∃ pN oN : Nat, v_ = some (.int (nI 0)) ∧ (n < 12 ∧ G 28 9 = 0 ∧ mGood wq cq pq tq ∧ (pN : Int) < pq ∧ (oN : Int) + wq ≤ mLim ((tq : Int) + 1) ∧ mFree G (oN : Int) wq (pN : Int) pq ((tq : Int) + 1) ∧ mNone G wq pq ((tq : Int) + 1) (pN : Int) (oN : Int)) ∧ (∀ k, k < 50 + 2 * n → ad1 k = ad k) ∧ N1 = 50 + 2 * (n + 1) ∧ ∃ A1 J1, w1 = gw cy ad1 (n + 1) A1 J1 ∧ J1 49 0 = (nI n).toInt64 ∧ CAll (n + 1) A1 J1 (gNG G n wq cq pq tq pN oN) ∧ (∀ k, 28 ≤ k → k < 50 → A1 k = A k)) ∨ (ad1 = ad ∧ N1 = 50 + 2 * n ∧ ∃ A1 J1, w1 = gw cy ad n A1 J1 ∧ ((v_ = some (.int (nI 1)) ∧ EX9_addPoint ad A J G wq cq pq tq "java/lang/IllegalArgumentException" A1 J1) ∨ (v_ = some (.int (nI 2)) ∧ EX9_addPoint ad A J G wq cq pq tq "java/lang/IllegalStateException" A1 J1))))) 3 19 := by
  have hM := cX9_addPointC l D cy base ad n A J G wq cq pq tq hst hC hwq9 hcq9 hpq9 htq
  refine gL_ofW (cc := cL_addPoint) (maxL := 7) (ret := some .int) (hh := [(0, 14, 17, 13), (0, 14, 21, 15)]) (by decide) rfl (Nat.le_of_ble_eq_true rfl) ?_
  intro pM eM sM mM aM bM methM cM H locs ls hx hb hr hts hown hlocks hml htab hEL hG hl
  have hl : lv_has ls 7 [(0, .ref (ad 0)), (1, .int (zI wq)), (2, .int (zI cq)), (3, .int (zI pq)), (4, .int (nI tq)), (5, .ref (ad 49))] := hl
  refine lv_aload hx hb dL_addPoint_0 (lv_at hl 5 rfl) ?_
  refine lv_iconst (v := nI 0) hx hb dL_addPoint_2 (by decide) ?_
  refine lv_aload_n hx hb dL_addPoint_3 rfl (lv_at hl 0 rfl) ?_
  refine lv_iload_n hx hb dL_addPoint_4 rfl (lv_at hl 1 rfl) ?_
  refine lv_iload_n hx hb dL_addPoint_5 rfl (lv_at hl 2 rfl) ?_
  refine lv_iload_n hx hb dL_addPoint_6 rfl (lv_at hl 3 rfl) ?_
  refine lv_iload hx hb dL_addPoint_7 (lv_at hl 4 rfl) ?_
  have hPq := g_pre hEL.1 hG (.ref (ad 0) :: [.int (zI wq), .int (zI cq), .int (zI pq), .int (nI tq)])
  refine gx_fin (rest := [.int (nI 0), .ref (ad 49)]) (vx_runV (C := RX9) (b := ad 0) (As := [.int (zI wq), .int (zI cq), .int (zI pq), .int (nI tq)]) (rest := [.int (nI 0), .ref (ad 49)]) (g := F0 mM _ ls _) ⟨hx, hb, hml, hown, hts⟩ hM (cwV 4 hts gL_addPoint_X9_addPoint rfl rfl rfl (by decide +kernel) ⟨(Nat.le_of_ble_eq_true rfl), (Nat.le_of_ble_eq_true rfl)⟩) ⟨hPq.1, g_recv hEL.1 hG (k := 0) (r := (RX9, TX9, 6)) (by omega) rfl rfl, hPq.2⟩ rfl rfl hl.1 rfl (Nat.le_of_ble_eq_true rfl) dL_addPoint_9 ⟨(Nat.le_of_ble_eq_true rfl), (Nat.le_of_ble_eq_true rfl)⟩) hG.2.2 (fun e9 ce q9 A1 J1 H locs hp hB hS hce hv hcl => ?_) (fun v9 u9 t9 H locs ht hp hB hz hS => ?_)
  · have hG : gH D base sM ad (50 + 2 * n) (gw cy ad n A1 J1) H locs := ⟨hB, gl_D hG.2.1, hS⟩
    have he9 : e9 = "java/lang/IllegalArgumentException" ∨ e9 = "java/lang/IllegalStateException" := hp.elim (fun h9 => Or.inl h9.1) (fun h9 => Or.inr h9.1)
    rcases he9 with rfl | rfl
    · refine vx_catch (own := RL) (name := "java/lang/IllegalArgumentException") hown [] ⟨0, 14, 17, 13⟩ [⟨0, 14, 21, 15⟩] htab (fun z h => nomatch h) (by decide) (by decide) (hts (.classLink RL 13 "java/lang/IllegalArgumentException") (List.mem_of_getElem? (i := 1) rfl)) (vx_self (k := 6) (hts _ ((fun h9 => List.mem_cons_of_mem _ (List.mem_append_left _ (List.mem_append_right _ h9))) (show Cond.instantiable "java/lang/IllegalArgumentException" 6 ∈ (vx_at0 RX9 57 "java/lang/IllegalArgumentException" vxN).filter goodWord from by decide +kernel)))) hce hv hcl ?_
      refine lv_astore (lv' := [(6, .ref q9), (0, .ref (ad 0)), (1, .int (zI wq)), (2, .int (zI cq)), (3, .int (zI pq)), (4, .int (nI tq)), (5, .ref (ad 49))]) hx hb dL_addPoint_17 hl (by decide) rfl (fun ls hl => ?_)
      refine lv_iconst (v := nI 1) hx hb dL_addPoint_19 (by decide) ?_
      exact gy_iret hx hb hr hlocks hG (Nat.le_of_ble_eq_true rfl) (Nat.le_of_ble_eq_true rfl) (Or.inr ⟨rfl, rfl, A1, J1, rfl, Or.inl ⟨rfl, hp⟩⟩) dL_addPoint_20
    · refine vx_catch (own := RL) (name := "java/lang/IllegalStateException") hown [⟨0, 14, 17, 13⟩] ⟨0, 14, 21, 15⟩ [] htab (fun z h => by have h9 := List.mem_singleton.mp h; subst h9; exact Or.inr ⟨by decide, "java/lang/IllegalArgumentException", (hts (.classLink RL 13 "java/lang/IllegalArgumentException") (List.mem_of_getElem? (i := 1) rfl)), hEL.2.2.2.1⟩) (by decide) (by decide) (hts (.classLink RL 15 "java/lang/IllegalStateException") (List.mem_of_getElem? (i := 2) rfl)) (vx_self (k := 6) (hts _ ((fun h9 => List.mem_cons_of_mem _ (List.mem_append_right _ h9)) (show Cond.instantiable "java/lang/IllegalStateException" 6 ∈ (vx_at0 RX9 67 "java/lang/IllegalStateException" vxN).filter goodWord from by decide +kernel)))) hce hv hcl ?_
      refine lv_astore (lv' := [(6, .ref q9), (0, .ref (ad 0)), (1, .int (zI wq)), (2, .int (zI cq)), (3, .int (zI pq)), (4, .int (nI tq)), (5, .ref (ad 49))]) hx hb dL_addPoint_21 hl (by decide) rfl (fun ls hl => ?_)
      refine lv_iconst (v := nI 2) hx hb dL_addPoint_23 (by decide) ?_
      exact gy_iret hx hb hr hlocks hG (Nat.le_of_ble_eq_true rfl) (Nat.le_of_ble_eq_true rfl) (Or.inr ⟨rfl, rfl, A1, J1, rfl, Or.inr ⟨rfl, hp⟩⟩) dL_addPoint_24
  · obtain ⟨pN, oN, rfl, hnew, had, hN, A1, J1, hw1, hC1, hO1⟩ := hp
    have hG0 : gH D base sM u9.1 u9.2.1 u9.2.2 H locs := ⟨by rw [← ht]; exact hB.1, hB.2, hS⟩
    rw [hN, hw1] at hG0
    refine W.eq (g2 := F0 mM 12 ls [.int (nI n), .int (nI 0), .ref (u9.1 49)]) (by rw [had 49 (by omega)]; rfl) ?_
    refine lv_i2l (v := (nI n).toInt64) hx hb dL_addPoint_12 rfl ?_
    refine g_last hx hb hEL.1 hG0 (k := 49) (by omega) (nn := 1) (fun _ => rfl) 0 rfl (by decide) (by decide) dL_addPoint_13 (fun H locs hG => ?_)
    refine lv_goto (tgt := 25) hx hb dL_addPoint_14 (by decide) ?_
    refine lv_iconst (v := nI 0) hx hb dL_addPoint_25 (by decide) ?_
    exact gy_iret hx hb hr hlocks hG (Nat.le_of_ble_eq_true rfl) (Nat.le_of_ble_eq_true rfl) (Or.inl ⟨pN, oN, rfl, hnew, had, rfl, A1, _, rfl, (by rw [gu_at, if_pos ⟨rfl, rfl⟩]), hC1.ofJ (fun k hk => gu_ne _ _ _ (by omega)), hO1⟩) dL_addPoint_26
set_option maxHeartbeats 4000000 in
set_option maxRecDepth 100000 in
theorem cL_sendC (l : Launch) (D : va_G) (cy : Nat → ClassId) (base : Nat) (ad : Nat → Nat) (n : Nat) (A : Nat → Nat → Int32) (J : Nat → Nat → Int64) (x1 : Int32) (P : Option Value → (Nat → Nat → Int32) → (Nat → Nat → Int64) → Prop) (E : String → (Nat → Nat → Int32) → (Nat → Nat → Int64) → Prop) (hM : gMetX l yX9_send wsX9_send ({ frames := 6, cells := 1, slots := 6, locals := 100 } : Room) D cy base ad n A J [.ref (ad 0), .int x1] P E 1 6) (hP : ∀ v A1 J1, P v A1 J1 → ∃ r : Int32, v = some (.int r)) (hE : ∀ e A1 J1, E e A1 J1 → e = "java/lang/IllegalArgumentException" ∨ e = "java/lang/IllegalStateException") : gMetL l yL_send wsL_send ({ frames := 7, cells := 1, slots := 6, locals := 122 } : Room) D cy base ad (50 + 2 * n) (gw cy ad n A J) [.ref (ad 0), .int x1, .ref (ad 49)] (gPost D cy base ad n (qL2 P E "java/lang/IllegalArgumentException" "java/lang/IllegalStateException")) 1 6 := by
  refine gL_ofW (cc := cL_send) (maxL := 4) (ret := some .int) (hh := [(0, 9, 12, 13), (0, 9, 15, 15)]) (by decide) rfl (Nat.le_of_ble_eq_true rfl) ?_
  intro pM eM sM mM aM bM methM cM H locs ls hx hb hr hts hown hlocks hml htab hEL hG hl
  have hl : lv_has ls 4 [(0, .ref (ad 0)), (1, .int x1), (2, .ref (ad 49))] := hl
  refine lv_aload_n hx hb dL_send_0 rfl (lv_at hl 2 rfl) ?_
  refine lv_iconst (v := nI 0) hx hb dL_send_1 (by decide) ?_
  refine lv_aload_n hx hb dL_send_2 rfl (lv_at hl 0 rfl) ?_
  refine lv_iload_n hx hb dL_send_3 rfl (lv_at hl 1 rfl) ?_
  have hPq := g_pre hEL.1 hG (.ref (ad 0) :: [.int x1])
  refine gx_fin (rest := [.int (nI 0), .ref (ad 49)]) (vx_runV (C := RX9) (b := ad 0) (As := [.int x1]) (rest := [.int (nI 0), .ref (ad 49)]) (g := F0 mM _ ls _) ⟨hx, hb, hml, hown, hts⟩ hM (cwV 1 hts gL_send_X9_send rfl rfl rfl (by decide +kernel) ⟨(Nat.le_of_ble_eq_true rfl), (Nat.le_of_ble_eq_true rfl)⟩) ⟨hPq.1, g_recv hEL.1 hG (k := 0) (r := (RX9, TX9, 6)) (by omega) rfl rfl, hPq.2⟩ rfl rfl hl.1 rfl (Nat.le_of_ble_eq_true rfl) dL_send_4 ⟨(Nat.le_of_ble_eq_true rfl), (Nat.le_of_ble_eq_true rfl)⟩) hG.2.2 (fun e9 ce q9 A1 J1 H locs hp hB hS hce hv hcl => ?_) (fun v9 u9 t9 H locs ht hp hB hz hS => ?_)
  · have hG : gH D base sM ad (50 + 2 * n) (gw cy ad n A1 J1) H locs := ⟨hB, gl_D hG.2.1, hS⟩
    have he9 := hE _ _ _ hp
    rcases he9 with rfl | rfl
    · refine vx_catch (own := RL) (name := "java/lang/IllegalArgumentException") hown [] ⟨0, 9, 12, 13⟩ [⟨0, 9, 15, 15⟩] htab (fun z h => nomatch h) (by decide) (by decide) (hts (.classLink RL 13 "java/lang/IllegalArgumentException") (List.mem_of_getElem? (i := 1) rfl)) (vx_self (k := 6) (hts _ ((fun h9 => List.mem_cons_of_mem _ (List.mem_append_left _ (List.mem_append_right _ h9))) (show Cond.instantiable "java/lang/IllegalArgumentException" 6 ∈ (vx_at0 RX9 57 "java/lang/IllegalArgumentException" vxN).filter goodWord from by decide +kernel)))) hce hv hcl ?_
      refine lv_astore_n (lv' := [(3, .ref q9), (0, .ref (ad 0)), (1, .int x1), (2, .ref (ad 49))]) hx hb dL_send_12 rfl hl (by decide) rfl (fun ls hl => ?_)
      refine lv_iconst (v := nI 1) hx hb dL_send_13 (by decide) ?_
      exact gx_iret hx hb hr hlocks hG (Nat.le_of_ble_eq_true rfl) (Nat.le_of_ble_eq_true rfl) (Or.inr (Or.inl ⟨rfl, hp⟩)) dL_send_14
    · refine vx_catch (own := RL) (name := "java/lang/IllegalStateException") hown [⟨0, 9, 12, 13⟩] ⟨0, 9, 15, 15⟩ [] htab (fun z h => by have h9 := List.mem_singleton.mp h; subst h9; exact Or.inr ⟨by decide, "java/lang/IllegalArgumentException", (hts (.classLink RL 13 "java/lang/IllegalArgumentException") (List.mem_of_getElem? (i := 1) rfl)), hEL.2.2.2.1⟩) (by decide) (by decide) (hts (.classLink RL 15 "java/lang/IllegalStateException") (List.mem_of_getElem? (i := 2) rfl)) (vx_self (k := 6) (hts _ ((fun h9 => List.mem_cons_of_mem _ (List.mem_append_right _ h9)) (show Cond.instantiable "java/lang/IllegalStateException" 6 ∈ (vx_at0 RX9 67 "java/lang/IllegalStateException" vxN).filter goodWord from by decide +kernel)))) hce hv hcl ?_
      refine lv_astore_n (lv' := [(3, .ref q9), (0, .ref (ad 0)), (1, .int x1), (2, .ref (ad 49))]) hx hb dL_send_15 rfl hl (by decide) rfl (fun ls hl => ?_)
      refine lv_iconst (v := nI 2) hx hb dL_send_16 (by decide) ?_
      exact gx_iret hx hb hr hlocks hG (Nat.le_of_ble_eq_true rfl) (Nat.le_of_ble_eq_true rfl) (Or.inr (Or.inr ⟨rfl, hp⟩)) dL_send_17
  · obtain ⟨r9, rfl⟩ := hP _ _ _ hp
    have hG : gH D base sM ad (50 + 2 * n) (gw cy ad n u9.1 u9.2) H locs := ⟨by rw [← ht]; exact hB, gl_D hG.2.1, hS⟩
    refine W.eq (g2 := F0 mM 7 ls [.int r9, .int (nI 0), .ref (ad 49)]) rfl ?_
    refine lv_i2l (v := r9.toInt64) hx hb dL_send_7 rfl ?_
    refine g_last hx hb hEL.1 hG (k := 49) (by omega) (nn := 1) (fun _ => rfl) 0 rfl (by decide) (by decide) dL_send_8 (fun H locs hG => ?_)
    refine lv_goto (tgt := 18) hx hb dL_send_9 (by decide) ?_
    refine lv_iconst (v := nI 0) hx hb dL_send_18 (by decide) ?_
    exact gx_iret hx hb hr hlocks hG (Nat.le_of_ble_eq_true rfl) (Nat.le_of_ble_eq_true rfl) (Or.inl ⟨r9, _, hp, rfl, rfl⟩) dL_send_19
set_option maxHeartbeats 4000000 in
set_option maxRecDepth 100000 in
theorem cL_bitC (l : Launch) (D : va_G) (cy : Nat → ClassId) (base : Nat) (ad : Nat → Nat) (n : Nat) (A : Nat → Nat → Int32) (J : Nat → Nat → Int64) (x1 : Int32) (P : Option Value → (Nat → Nat → Int32) → (Nat → Nat → Int64) → Prop) (E : String → (Nat → Nat → Int32) → (Nat → Nat → Int64) → Prop) (hM : gMetX l yX9_bit wsX9_bit ({ frames := 6, cells := 1, slots := 6, locals := 100 } : Room) D cy base ad n A J [.ref (ad 0), .int x1] P E 1 6) (hP : ∀ v A1 J1, P v A1 J1 → ∃ r : Int32, v = some (.int r)) (hE : ∀ e A1 J1, E e A1 J1 → e = "java/lang/IndexOutOfBoundsException") : gMetL l yL_bit wsL_bit ({ frames := 7, cells := 1, slots := 6, locals := 121 } : Room) D cy base ad (50 + 2 * n) (gw cy ad n A J) [.ref (ad 0), .int x1, .ref (ad 49)] (gPost D cy base ad n (qL1 P E "java/lang/IndexOutOfBoundsException")) 1 6 := by
  refine gL_ofW (cc := cL_bit) (maxL := 4) (ret := some .int) (hh := [(0, 9, 12, 21)]) (by decide) rfl (Nat.le_of_ble_eq_true rfl) ?_
  intro pM eM sM mM aM bM methM cM H locs ls hx hb hr hts hown hlocks hml htab hEL hG hl
  have hl : lv_has ls 4 [(0, .ref (ad 0)), (1, .int x1), (2, .ref (ad 49))] := hl
  refine lv_aload_n hx hb dL_bit_0 rfl (lv_at hl 2 rfl) ?_
  refine lv_iconst (v := nI 0) hx hb dL_bit_1 (by decide) ?_
  refine lv_aload_n hx hb dL_bit_2 rfl (lv_at hl 0 rfl) ?_
  refine lv_iload_n hx hb dL_bit_3 rfl (lv_at hl 1 rfl) ?_
  have hPq := g_pre hEL.1 hG (.ref (ad 0) :: [.int x1])
  refine gx_fin (rest := [.int (nI 0), .ref (ad 49)]) (vx_runV (C := RX9) (b := ad 0) (As := [.int x1]) (rest := [.int (nI 0), .ref (ad 49)]) (g := F0 mM _ ls _) ⟨hx, hb, hml, hown, hts⟩ hM (cwV 1 hts gL_bit_X9_bit rfl rfl rfl (by decide +kernel) ⟨(Nat.le_of_ble_eq_true rfl), (Nat.le_of_ble_eq_true rfl)⟩) ⟨hPq.1, g_recv hEL.1 hG (k := 0) (r := (RX9, TX9, 6)) (by omega) rfl rfl, hPq.2⟩ rfl rfl hl.1 rfl (Nat.le_of_ble_eq_true rfl) dL_bit_4 ⟨(Nat.le_of_ble_eq_true rfl), (Nat.le_of_ble_eq_true rfl)⟩) hG.2.2 (fun e9 ce q9 A1 J1 H locs hp hB hS hce hv hcl => ?_) (fun v9 u9 t9 H locs ht hp hB hz hS => ?_)
  · have hG : gH D base sM ad (50 + 2 * n) (gw cy ad n A1 J1) H locs := ⟨hB, gl_D hG.2.1, hS⟩
    have he9 := hE _ _ _ hp
    subst he9
    refine vx_catch (own := RL) (name := "java/lang/IndexOutOfBoundsException") hown [] ⟨0, 9, 12, 21⟩ [] htab (fun z h => nomatch h) (by decide) (by decide) (hts (.classLink RL 21 "java/lang/IndexOutOfBoundsException") (List.mem_of_getElem? (i := 1) rfl)) (vx_self (k := 6) (hts _ ((fun h9 => List.mem_cons_of_mem _ (List.mem_append_right _ h9)) (show Cond.instantiable "java/lang/IndexOutOfBoundsException" 6 ∈ (vx_at0 RX9 109 "java/lang/IndexOutOfBoundsException" vxN).filter goodWord from by decide +kernel)))) hce hv hcl ?_
    refine lv_astore_n (lv' := [(3, .ref q9), (0, .ref (ad 0)), (1, .int x1), (2, .ref (ad 49))]) hx hb dL_bit_12 rfl hl (by decide) rfl (fun ls hl => ?_)
    refine lv_iconst (v := nI 1) hx hb dL_bit_13 (by decide) ?_
    exact gx_iret hx hb hr hlocks hG (Nat.le_of_ble_eq_true rfl) (Nat.le_of_ble_eq_true rfl) (Or.inr ⟨rfl, hp⟩) dL_bit_14
  · obtain ⟨r9, rfl⟩ := hP _ _ _ hp
    have hG : gH D base sM ad (50 + 2 * n) (gw cy ad n u9.1 u9.2) H locs := ⟨by rw [← ht]; exact hB, gl_D hG.2.1, hS⟩
    refine W.eq (g2 := F0 mM 7 ls [.int r9, .int (nI 0), .ref (ad 49)]) rfl ?_
    refine lv_i2l (v := r9.toInt64) hx hb dL_bit_7 rfl ?_
    refine g_last hx hb hEL.1 hG (k := 49) (by omega) (nn := 1) (fun _ => rfl) 0 rfl (by decide) (by decide) dL_bit_8 (fun H locs hG => ?_)
    refine lv_goto (tgt := 15) hx hb dL_bit_9 (by decide) ?_
    refine lv_iconst (v := nI 0) hx hb dL_bit_15 (by decide) ?_
    exact gx_iret hx hb hr hlocks hG (Nat.le_of_ble_eq_true rfl) (Nat.le_of_ble_eq_true rfl) (Or.inl ⟨r9, _, hp, rfl, rfl⟩) dL_bit_16
set_option maxHeartbeats 4000000 in
set_option maxRecDepth 100000 in
theorem cL_flipC (l : Launch) (D : va_G) (cy : Nat → ClassId) (base : Nat) (ad : Nat → Nat) (n : Nat) (A : Nat → Nat → Int32) (J : Nat → Nat → Int64) (x1 : Int32) (P : Option Value → (Nat → Nat → Int32) → (Nat → Nat → Int64) → Prop) (E : String → (Nat → Nat → Int32) → (Nat → Nat → Int64) → Prop) (hM : gMetX l yX9_flip wsX9_flip ({ frames := 6, cells := 1, slots := 6, locals := 100 } : Room) D cy base ad n A J [.ref (ad 0), .int x1] P E 1 6) (hP : ∀ v A1 J1, P v A1 J1 → ∃ r : Int32, v = some (.int r)) (hE : ∀ e A1 J1, E e A1 J1 → e = "java/lang/IndexOutOfBoundsException") : gMetL l yL_flip wsL_flip ({ frames := 7, cells := 1, slots := 6, locals := 121 } : Room) D cy base ad (50 + 2 * n) (gw cy ad n A J) [.ref (ad 0), .int x1, .ref (ad 49)] (gPost D cy base ad n (qL1 P E "java/lang/IndexOutOfBoundsException")) 1 6 := by
  refine gL_ofW (cc := cL_flip) (maxL := 4) (ret := some .int) (hh := [(0, 9, 12, 21)]) (by decide) rfl (Nat.le_of_ble_eq_true rfl) ?_
  intro pM eM sM mM aM bM methM cM H locs ls hx hb hr hts hown hlocks hml htab hEL hG hl
  have hl : lv_has ls 4 [(0, .ref (ad 0)), (1, .int x1), (2, .ref (ad 49))] := hl
  refine lv_aload_n hx hb dL_flip_0 rfl (lv_at hl 2 rfl) ?_
  refine lv_iconst (v := nI 0) hx hb dL_flip_1 (by decide) ?_
  refine lv_aload_n hx hb dL_flip_2 rfl (lv_at hl 0 rfl) ?_
  refine lv_iload_n hx hb dL_flip_3 rfl (lv_at hl 1 rfl) ?_
  have hPq := g_pre hEL.1 hG (.ref (ad 0) :: [.int x1])
  refine gx_fin (rest := [.int (nI 0), .ref (ad 49)]) (vx_runV (C := RX9) (b := ad 0) (As := [.int x1]) (rest := [.int (nI 0), .ref (ad 49)]) (g := F0 mM _ ls _) ⟨hx, hb, hml, hown, hts⟩ hM (cwV 1 hts gL_flip_X9_flip rfl rfl rfl (by decide +kernel) ⟨(Nat.le_of_ble_eq_true rfl), (Nat.le_of_ble_eq_true rfl)⟩) ⟨hPq.1, g_recv hEL.1 hG (k := 0) (r := (RX9, TX9, 6)) (by omega) rfl rfl, hPq.2⟩ rfl rfl hl.1 rfl (Nat.le_of_ble_eq_true rfl) dL_flip_4 ⟨(Nat.le_of_ble_eq_true rfl), (Nat.le_of_ble_eq_true rfl)⟩) hG.2.2 (fun e9 ce q9 A1 J1 H locs hp hB hS hce hv hcl => ?_) (fun v9 u9 t9 H locs ht hp hB hz hS => ?_)
  · have hG : gH D base sM ad (50 + 2 * n) (gw cy ad n A1 J1) H locs := ⟨hB, gl_D hG.2.1, hS⟩
    have he9 := hE _ _ _ hp
    subst he9
    refine vx_catch (own := RL) (name := "java/lang/IndexOutOfBoundsException") hown [] ⟨0, 9, 12, 21⟩ [] htab (fun z h => nomatch h) (by decide) (by decide) (hts (.classLink RL 21 "java/lang/IndexOutOfBoundsException") (List.mem_of_getElem? (i := 1) rfl)) (vx_self (k := 6) (hts _ ((fun h9 => List.mem_cons_of_mem _ (List.mem_append_right _ h9)) (show Cond.instantiable "java/lang/IndexOutOfBoundsException" 6 ∈ (vx_at0 RX9 109 "java/lang/IndexOutOfBoundsException" vxN).filter goodWord from by decide +kernel)))) hce hv hcl ?_
    refine lv_astore_n (lv' := [(3, .ref q9), (0, .ref (ad 0)), (1, .int x1), (2, .ref (ad 49))]) hx hb dL_flip_12 rfl hl (by decide) rfl (fun ls hl => ?_)
    refine lv_iconst (v := nI 1) hx hb dL_flip_13 (by decide) ?_
    exact gx_iret hx hb hr hlocks hG (Nat.le_of_ble_eq_true rfl) (Nat.le_of_ble_eq_true rfl) (Or.inr ⟨rfl, hp⟩) dL_flip_14
  · obtain ⟨r9, rfl⟩ := hP _ _ _ hp
    have hG : gH D base sM ad (50 + 2 * n) (gw cy ad n u9.1 u9.2) H locs := ⟨by rw [← ht]; exact hB, gl_D hG.2.1, hS⟩
    refine W.eq (g2 := F0 mM 7 ls [.int r9, .int (nI 0), .ref (ad 49)]) rfl ?_
    refine lv_i2l (v := r9.toInt64) hx hb dL_flip_7 rfl ?_
    refine g_last hx hb hEL.1 hG (k := 49) (by omega) (nn := 1) (fun _ => rfl) 0 rfl (by decide) (by decide) dL_flip_8 (fun H locs hG => ?_)
    refine lv_goto (tgt := 15) hx hb dL_flip_9 (by decide) ?_
    refine lv_iconst (v := nI 0) hx hb dL_flip_15 (by decide) ?_
    exact gx_iret hx hb hr hlocks hG (Nat.le_of_ble_eq_true rfl) (Nat.le_of_ble_eq_true rfl) (Or.inl ⟨r9, _, hp, rfl, rfl⟩) dL_flip_16
set_option maxHeartbeats 4000000 in
set_option maxRecDepth 100000 in
theorem cL_cutC (l : Launch) (D : va_G) (cy : Nat → ClassId) (base : Nat) (ad : Nat → Nat) (n : Nat) (A : Nat → Nat → Int32) (J : Nat → Nat → Int64) (x1 x2 : Int32) (P : Option Value → (Nat → Nat → Int32) → (Nat → Nat → Int64) → Prop) (E : String → (Nat → Nat → Int32) → (Nat → Nat → Int64) → Prop) (hM : gMetX l yX9_cut wsX9_cut ({ frames := 6, cells := 1, slots := 6, locals := 100 } : Room) D cy base ad n A J [.ref (ad 0), .int x1, .int x2] P E 1 6) (hP : ∀ v A1 J1, P v A1 J1 → ∃ r : Int32, v = some (.int r)) (hE : ∀ e A1 J1, E e A1 J1 → e = "java/lang/IllegalArgumentException" ∨ e = "java/lang/IndexOutOfBoundsException") : gMetL l yL_cut wsL_cut ({ frames := 7, cells := 1, slots := 6, locals := 122 } : Room) D cy base ad (50 + 2 * n) (gw cy ad n A J) [.ref (ad 0), .int x1, .int x2, .ref (ad 49)] (gPost D cy base ad n (qL2 P E "java/lang/IllegalArgumentException" "java/lang/IndexOutOfBoundsException")) 1 6 := by
  refine gL_ofW (cc := cL_cut) (maxL := 5) (ret := some .int) (hh := [(0, 10, 13, 13), (0, 10, 17, 21)]) (by decide) rfl (Nat.le_of_ble_eq_true rfl) ?_
  intro pM eM sM mM aM bM methM cM H locs ls hx hb hr hts hown hlocks hml htab hEL hG hl
  have hl : lv_has ls 5 [(0, .ref (ad 0)), (1, .int x1), (2, .int x2), (3, .ref (ad 49))] := hl
  refine lv_aload_n hx hb dL_cut_0 rfl (lv_at hl 3 rfl) ?_
  refine lv_iconst (v := nI 0) hx hb dL_cut_1 (by decide) ?_
  refine lv_aload_n hx hb dL_cut_2 rfl (lv_at hl 0 rfl) ?_
  refine lv_iload_n hx hb dL_cut_3 rfl (lv_at hl 1 rfl) ?_
  refine lv_iload_n hx hb dL_cut_4 rfl (lv_at hl 2 rfl) ?_
  have hPq := g_pre hEL.1 hG (.ref (ad 0) :: [.int x1, .int x2])
  refine gx_fin (rest := [.int (nI 0), .ref (ad 49)]) (vx_runV (C := RX9) (b := ad 0) (As := [.int x1, .int x2]) (rest := [.int (nI 0), .ref (ad 49)]) (g := F0 mM _ ls _) ⟨hx, hb, hml, hown, hts⟩ hM (cwV 2 hts gL_cut_X9_cut rfl rfl rfl (by decide +kernel) ⟨(Nat.le_of_ble_eq_true rfl), (Nat.le_of_ble_eq_true rfl)⟩) ⟨hPq.1, g_recv hEL.1 hG (k := 0) (r := (RX9, TX9, 6)) (by omega) rfl rfl, hPq.2⟩ rfl rfl hl.1 rfl (Nat.le_of_ble_eq_true rfl) dL_cut_5 ⟨(Nat.le_of_ble_eq_true rfl), (Nat.le_of_ble_eq_true rfl)⟩) hG.2.2 (fun e9 ce q9 A1 J1 H locs hp hB hS hce hv hcl => ?_) (fun v9 u9 t9 H locs ht hp hB hz hS => ?_)
  · have hG : gH D base sM ad (50 + 2 * n) (gw cy ad n A1 J1) H locs := ⟨hB, gl_D hG.2.1, hS⟩
    have he9 := hE _ _ _ hp
    rcases he9 with rfl | rfl
    · refine vx_catch (own := RL) (name := "java/lang/IllegalArgumentException") hown [] ⟨0, 10, 13, 13⟩ [⟨0, 10, 17, 21⟩] htab (fun z h => nomatch h) (by decide) (by decide) (hts (.classLink RL 13 "java/lang/IllegalArgumentException") (List.mem_of_getElem? (i := 1) rfl)) (vx_self (k := 6) (hts _ ((fun h9 => List.mem_cons_of_mem _ (List.mem_append_left _ (List.mem_append_right _ h9))) (show Cond.instantiable "java/lang/IllegalArgumentException" 6 ∈ (vx_at0 RX9 57 "java/lang/IllegalArgumentException" vxN).filter goodWord from by decide +kernel)))) hce hv hcl ?_
      refine lv_astore (lv' := [(4, .ref q9), (0, .ref (ad 0)), (1, .int x1), (2, .int x2), (3, .ref (ad 49))]) hx hb dL_cut_13 hl (by decide) rfl (fun ls hl => ?_)
      refine lv_iconst (v := nI 1) hx hb dL_cut_15 (by decide) ?_
      exact gx_iret hx hb hr hlocks hG (Nat.le_of_ble_eq_true rfl) (Nat.le_of_ble_eq_true rfl) (Or.inr (Or.inl ⟨rfl, hp⟩)) dL_cut_16
    · refine vx_catch (own := RL) (name := "java/lang/IndexOutOfBoundsException") hown [⟨0, 10, 13, 13⟩] ⟨0, 10, 17, 21⟩ [] htab (fun z h => by have h9 := List.mem_singleton.mp h; subst h9; exact Or.inr ⟨by decide, "java/lang/IllegalArgumentException", (hts (.classLink RL 13 "java/lang/IllegalArgumentException") (List.mem_of_getElem? (i := 1) rfl)), hEL.2.2.2.2.1⟩) (by decide) (by decide) (hts (.classLink RL 21 "java/lang/IndexOutOfBoundsException") (List.mem_of_getElem? (i := 2) rfl)) (vx_self (k := 6) (hts _ ((fun h9 => List.mem_cons_of_mem _ (List.mem_append_right _ h9)) (show Cond.instantiable "java/lang/IndexOutOfBoundsException" 6 ∈ (vx_at0 RX9 109 "java/lang/IndexOutOfBoundsException" vxN).filter goodWord from by decide +kernel)))) hce hv hcl ?_
      refine lv_astore (lv' := [(4, .ref q9), (0, .ref (ad 0)), (1, .int x1), (2, .int x2), (3, .ref (ad 49))]) hx hb dL_cut_17 hl (by decide) rfl (fun ls hl => ?_)
      refine lv_iconst (v := nI 2) hx hb dL_cut_19 (by decide) ?_
      exact gx_iret hx hb hr hlocks hG (Nat.le_of_ble_eq_true rfl) (Nat.le_of_ble_eq_true rfl) (Or.inr (Or.inr ⟨rfl, hp⟩)) dL_cut_20
  · obtain ⟨r9, rfl⟩ := hP _ _ _ hp
    have hG : gH D base sM ad (50 + 2 * n) (gw cy ad n u9.1 u9.2) H locs := ⟨by rw [← ht]; exact hB, gl_D hG.2.1, hS⟩
    refine W.eq (g2 := F0 mM 8 ls [.int r9, .int (nI 0), .ref (ad 49)]) rfl ?_
    refine lv_i2l (v := r9.toInt64) hx hb dL_cut_8 rfl ?_
    refine g_last hx hb hEL.1 hG (k := 49) (by omega) (nn := 1) (fun _ => rfl) 0 rfl (by decide) (by decide) dL_cut_9 (fun H locs hG => ?_)
    refine lv_goto (tgt := 21) hx hb dL_cut_10 (by decide) ?_
    refine lv_iconst (v := nI 0) hx hb dL_cut_21 (by decide) ?_
    exact gx_iret hx hb hr hlocks hG (Nat.le_of_ble_eq_true rfl) (Nat.le_of_ble_eq_true rfl) (Or.inl ⟨r9, _, hp, rfl, rfl⟩) dL_cut_22
set_option maxHeartbeats 4000000 in
set_option maxRecDepth 100000 in
theorem cL_receiveC (l : Launch) (D : va_G) (cy : Nat → ClassId) (base : Nat) (ad : Nat → Nat) (n : Nat) (A : Nat → Nat → Int32) (J : Nat → Nat → Int64) (x1 : Int32) (P : Option Value → (Nat → Nat → Int32) → (Nat → Nat → Int64) → Prop) (E : String → (Nat → Nat → Int32) → (Nat → Nat → Int64) → Prop) (hM : gMetX l yX9_receive wsX9_receive ({ frames := 6, cells := 1, slots := 6, locals := 117 } : Room) D cy base ad n A J [.ref (ad 0), .int x1] P E 1 6) (hP : ∀ v A1 J1, P v A1 J1 → ∃ r : Int32, v = some (.int r)) (hE : ∀ e A1 J1, E e A1 J1 → e = "java/lang/IllegalArgumentException") : gMetL l yL_receive wsL_receive ({ frames := 7, cells := 1, slots := 6, locals := 141 } : Room) D cy base ad (50 + 2 * n) (gw cy ad n A J) [.ref (ad 0), .int x1, .ref (ad 49)] (gPost D cy base ad n (qL1 P E "java/lang/IllegalArgumentException")) 1 6 := by
  refine gL_ofW (cc := cL_receive) (maxL := 4) (ret := some .int) (hh := [(0, 9, 12, 13)]) (by decide) rfl (Nat.le_of_ble_eq_true rfl) ?_
  intro pM eM sM mM aM bM methM cM H locs ls hx hb hr hts hown hlocks hml htab hEL hG hl
  have hl : lv_has ls 4 [(0, .ref (ad 0)), (1, .int x1), (2, .ref (ad 49))] := hl
  refine lv_aload_n hx hb dL_receive_0 rfl (lv_at hl 2 rfl) ?_
  refine lv_iconst (v := nI 0) hx hb dL_receive_1 (by decide) ?_
  refine lv_aload_n hx hb dL_receive_2 rfl (lv_at hl 0 rfl) ?_
  refine lv_iload_n hx hb dL_receive_3 rfl (lv_at hl 1 rfl) ?_
  have hPq := g_pre hEL.1 hG (.ref (ad 0) :: [.int x1])
  refine gx_fin (rest := [.int (nI 0), .ref (ad 49)]) (vx_runV (C := RX9) (b := ad 0) (As := [.int x1]) (rest := [.int (nI 0), .ref (ad 49)]) (g := F0 mM _ ls _) ⟨hx, hb, hml, hown, hts⟩ hM (cwV 1 hts gL_receive_X9_receive rfl rfl rfl (by decide +kernel) ⟨(Nat.le_of_ble_eq_true rfl), (Nat.le_of_ble_eq_true rfl)⟩) ⟨hPq.1, g_recv hEL.1 hG (k := 0) (r := (RX9, TX9, 6)) (by omega) rfl rfl, hPq.2⟩ rfl rfl hl.1 rfl (Nat.le_of_ble_eq_true rfl) dL_receive_4 ⟨(Nat.le_of_ble_eq_true rfl), (Nat.le_of_ble_eq_true rfl)⟩) hG.2.2 (fun e9 ce q9 A1 J1 H locs hp hB hS hce hv hcl => ?_) (fun v9 u9 t9 H locs ht hp hB hz hS => ?_)
  · have hG : gH D base sM ad (50 + 2 * n) (gw cy ad n A1 J1) H locs := ⟨hB, gl_D hG.2.1, hS⟩
    have he9 := hE _ _ _ hp
    subst he9
    refine vx_catch (own := RL) (name := "java/lang/IllegalArgumentException") hown [] ⟨0, 9, 12, 13⟩ [] htab (fun z h => nomatch h) (by decide) (by decide) (hts (.classLink RL 13 "java/lang/IllegalArgumentException") (List.mem_of_getElem? (i := 1) rfl)) (vx_self (k := 6) (hts _ ((fun h9 => List.mem_cons_of_mem _ (List.mem_append_right _ h9)) (show Cond.instantiable "java/lang/IllegalArgumentException" 6 ∈ (vx_at0 RX9 57 "java/lang/IllegalArgumentException" vxN).filter goodWord from by decide +kernel)))) hce hv hcl ?_
    refine lv_astore_n (lv' := [(3, .ref q9), (0, .ref (ad 0)), (1, .int x1), (2, .ref (ad 49))]) hx hb dL_receive_12 rfl hl (by decide) rfl (fun ls hl => ?_)
    refine lv_iconst (v := nI 1) hx hb dL_receive_13 (by decide) ?_
    exact gx_iret hx hb hr hlocks hG (Nat.le_of_ble_eq_true rfl) (Nat.le_of_ble_eq_true rfl) (Or.inr ⟨rfl, hp⟩) dL_receive_14
  · obtain ⟨r9, rfl⟩ := hP _ _ _ hp
    have hG : gH D base sM ad (50 + 2 * n) (gw cy ad n u9.1 u9.2) H locs := ⟨by rw [← ht]; exact hB, gl_D hG.2.1, hS⟩
    refine W.eq (g2 := F0 mM 7 ls [.int r9, .int (nI 0), .ref (ad 49)]) rfl ?_
    refine lv_i2l (v := r9.toInt64) hx hb dL_receive_7 rfl ?_
    refine g_last hx hb hEL.1 hG (k := 49) (by omega) (nn := 1) (fun _ => rfl) 0 rfl (by decide) (by decide) dL_receive_8 (fun H locs hG => ?_)
    refine lv_goto (tgt := 15) hx hb dL_receive_9 (by decide) ?_
    refine lv_iconst (v := nI 0) hx hb dL_receive_15 (by decide) ?_
    exact gx_iret hx hb hr hlocks hG (Nat.le_of_ble_eq_true rfl) (Nat.le_of_ble_eq_true rfl) (Or.inl ⟨r9, _, hp, rfl, rfl⟩) dL_receive_16
set_option maxHeartbeats 4000000 in
set_option maxRecDepth 100000 in
theorem cL_valueC (l : Launch) (D : va_G) (cy : Nat → ClassId) (base : Nat) (ad : Nat → Nat) (n : Nat) (A : Nat → Nat → Int32) (J : Nat → Nat → Int64) (x1 : Int32) (P : Option Value → (Nat → Nat → Int32) → (Nat → Nat → Int64) → Prop) (E : String → (Nat → Nat → Int32) → (Nat → Nat → Int64) → Prop) (hM : gMetX l yX9_value wsX9_value ({ frames := 7, cells := 2, slots := 12, locals := 122 } : Room) D cy base ad n A J [.ref (ad 0), .int x1] P E 2 12) (hP : ∀ v A1 J1, P v A1 J1 → ∃ r : Int32, v = some (.int r)) (hE : ∀ e A1 J1, E e A1 J1 → e = "java/lang/IndexOutOfBoundsException" ∨ e = "java/util/NoSuchElementException") : gMetL l yL_value wsL_value ({ frames := 8, cells := 2, slots := 12, locals := 143 } : Room) D cy base ad (50 + 2 * n) (gw cy ad n A J) [.ref (ad 0), .int x1, .ref (ad 49)] (gPost D cy base ad n (qL2 P E "java/lang/IndexOutOfBoundsException" "java/util/NoSuchElementException")) 2 12 := by
  refine gL_ofW (cc := cL_value) (maxL := 4) (ret := some .int) (hh := [(0, 9, 12, 21), (0, 9, 15, 46)]) (by decide) rfl (Nat.le_of_ble_eq_true rfl) ?_
  intro pM eM sM mM aM bM methM cM H locs ls hx hb hr hts hown hlocks hml htab hEL hG hl
  have hl : lv_has ls 4 [(0, .ref (ad 0)), (1, .int x1), (2, .ref (ad 49))] := hl
  refine lv_aload_n hx hb dL_value_0 rfl (lv_at hl 2 rfl) ?_
  refine lv_iconst (v := nI 0) hx hb dL_value_1 (by decide) ?_
  refine lv_aload_n hx hb dL_value_2 rfl (lv_at hl 0 rfl) ?_
  refine lv_iload_n hx hb dL_value_3 rfl (lv_at hl 1 rfl) ?_
  have hPq := g_pre hEL.1 hG (.ref (ad 0) :: [.int x1])
  refine gx_fin (rest := [.int (nI 0), .ref (ad 49)]) (vx_runV (C := RX9) (b := ad 0) (As := [.int x1]) (rest := [.int (nI 0), .ref (ad 49)]) (g := F0 mM _ ls _) ⟨hx, hb, hml, hown, hts⟩ hM (cwV 1 hts gL_value_X9_value rfl rfl rfl (by decide +kernel) ⟨(Nat.le_of_ble_eq_true rfl), (Nat.le_of_ble_eq_true rfl)⟩) ⟨hPq.1, g_recv hEL.1 hG (k := 0) (r := (RX9, TX9, 6)) (by omega) rfl rfl, hPq.2⟩ rfl rfl hl.1 rfl (Nat.le_of_ble_eq_true rfl) dL_value_4 ⟨(Nat.le_of_ble_eq_true rfl), (Nat.le_of_ble_eq_true rfl)⟩) hG.2.2 (fun e9 ce q9 A1 J1 H locs hp hB hS hce hv hcl => ?_) (fun v9 u9 t9 H locs ht hp hB hz hS => ?_)
  · have hG : gH D base sM ad (50 + 2 * n) (gw cy ad n A1 J1) H locs := ⟨hB, gl_D hG.2.1, hS⟩
    have he9 := hE _ _ _ hp
    rcases he9 with rfl | rfl
    · refine vx_catch (own := RL) (name := "java/lang/IndexOutOfBoundsException") hown [] ⟨0, 9, 12, 21⟩ [⟨0, 9, 15, 46⟩] htab (fun z h => nomatch h) (by decide) (by decide) (hts (.classLink RL 21 "java/lang/IndexOutOfBoundsException") (List.mem_of_getElem? (i := 1) rfl)) (vx_self (k := 6) (hts _ ((fun h9 => List.mem_cons_of_mem _ (List.mem_append_left _ (List.mem_append_right _ h9))) (show Cond.instantiable "java/lang/IndexOutOfBoundsException" 6 ∈ (vx_at0 RX9 109 "java/lang/IndexOutOfBoundsException" vxN).filter goodWord from by decide +kernel)))) hce hv hcl ?_
      refine lv_astore_n (lv' := [(3, .ref q9), (0, .ref (ad 0)), (1, .int x1), (2, .ref (ad 49))]) hx hb dL_value_12 rfl hl (by decide) rfl (fun ls hl => ?_)
      refine lv_iconst (v := nI 1) hx hb dL_value_13 (by decide) ?_
      exact gx_iret hx hb hr hlocks hG (Nat.le_of_ble_eq_true rfl) (Nat.le_of_ble_eq_true rfl) (Or.inr (Or.inl ⟨rfl, hp⟩)) dL_value_14
    · refine vx_catch (own := RL) (name := "java/util/NoSuchElementException") hown [⟨0, 9, 12, 21⟩] ⟨0, 9, 15, 46⟩ [] htab (fun z h => by have h9 := List.mem_singleton.mp h; subst h9; exact Or.inr ⟨by decide, "java/lang/IndexOutOfBoundsException", (hts (.classLink RL 21 "java/lang/IndexOutOfBoundsException") (List.mem_of_getElem? (i := 1) rfl)), hEL.2.2.1⟩) (by decide) (by decide) (hts (.classLink RL 46 "java/util/NoSuchElementException") (List.mem_of_getElem? (i := 2) rfl)) (vx_self (k := 6) (hts _ ((fun h9 => List.mem_cons_of_mem _ (List.mem_append_right _ h9)) (show Cond.instantiable "java/util/NoSuchElementException" 6 ∈ (vx_at0 RX9 159 "java/util/NoSuchElementException" vxN).filter goodWord from by decide +kernel)))) hce hv hcl ?_
      refine lv_astore_n (lv' := [(3, .ref q9), (0, .ref (ad 0)), (1, .int x1), (2, .ref (ad 49))]) hx hb dL_value_15 rfl hl (by decide) rfl (fun ls hl => ?_)
      refine lv_iconst (v := nI 2) hx hb dL_value_16 (by decide) ?_
      exact gx_iret hx hb hr hlocks hG (Nat.le_of_ble_eq_true rfl) (Nat.le_of_ble_eq_true rfl) (Or.inr (Or.inr ⟨rfl, hp⟩)) dL_value_17
  · obtain ⟨r9, rfl⟩ := hP _ _ _ hp
    have hG : gH D base sM ad (50 + 2 * n) (gw cy ad n u9.1 u9.2) H locs := ⟨by rw [← ht]; exact hB, gl_D hG.2.1, hS⟩
    refine W.eq (g2 := F0 mM 7 ls [.int r9, .int (nI 0), .ref (ad 49)]) rfl ?_
    refine lv_i2l (v := r9.toInt64) hx hb dL_value_7 rfl ?_
    refine g_last hx hb hEL.1 hG (k := 49) (by omega) (nn := 1) (fun _ => rfl) 0 rfl (by decide) (by decide) dL_value_8 (fun H locs hG => ?_)
    refine lv_goto (tgt := 18) hx hb dL_value_9 (by decide) ?_
    refine lv_iconst (v := nI 0) hx hb dL_value_18 (by decide) ?_
    exact gx_iret hx hb hr hlocks hG (Nat.le_of_ble_eq_true rfl) (Nat.le_of_ble_eq_true rfl) (Or.inl ⟨r9, _, hp, rfl, rfl⟩) dL_value_19
set_option maxHeartbeats 4000000 in
set_option maxRecDepth 100000 in
theorem cL_timeC (l : Launch) (D : va_G) (cy : Nat → ClassId) (base : Nat) (ad : Nat → Nat) (n : Nat) (A : Nat → Nat → Int32) (J : Nat → Nat → Int64) (x1 : Int32) (P : Option Value → (Nat → Nat → Int32) → (Nat → Nat → Int64) → Prop) (E : String → (Nat → Nat → Int32) → (Nat → Nat → Int64) → Prop) (hM : gMetX l yX9_time wsX9_time ({ frames := 7, cells := 2, slots := 12, locals := 122 } : Room) D cy base ad n A J [.ref (ad 0), .int x1] P E 2 12) (hP : ∀ v A1 J1, P v A1 J1 → ∃ r : Int32, v = some (.int r)) (hE : ∀ e A1 J1, E e A1 J1 → e = "java/lang/IndexOutOfBoundsException" ∨ e = "java/util/NoSuchElementException") : gMetL l yL_time wsL_time ({ frames := 8, cells := 2, slots := 12, locals := 143 } : Room) D cy base ad (50 + 2 * n) (gw cy ad n A J) [.ref (ad 0), .int x1, .ref (ad 49)] (gPost D cy base ad n (qL2 P E "java/lang/IndexOutOfBoundsException" "java/util/NoSuchElementException")) 2 12 := by
  refine gL_ofW (cc := cL_time) (maxL := 4) (ret := some .int) (hh := [(0, 9, 12, 21), (0, 9, 15, 46)]) (by decide) rfl (Nat.le_of_ble_eq_true rfl) ?_
  intro pM eM sM mM aM bM methM cM H locs ls hx hb hr hts hown hlocks hml htab hEL hG hl
  have hl : lv_has ls 4 [(0, .ref (ad 0)), (1, .int x1), (2, .ref (ad 49))] := hl
  refine lv_aload_n hx hb dL_time_0 rfl (lv_at hl 2 rfl) ?_
  refine lv_iconst (v := nI 0) hx hb dL_time_1 (by decide) ?_
  refine lv_aload_n hx hb dL_time_2 rfl (lv_at hl 0 rfl) ?_
  refine lv_iload_n hx hb dL_time_3 rfl (lv_at hl 1 rfl) ?_
  have hPq := g_pre hEL.1 hG (.ref (ad 0) :: [.int x1])
  refine gx_fin (rest := [.int (nI 0), .ref (ad 49)]) (vx_runV (C := RX9) (b := ad 0) (As := [.int x1]) (rest := [.int (nI 0), .ref (ad 49)]) (g := F0 mM _ ls _) ⟨hx, hb, hml, hown, hts⟩ hM (cwV 1 hts gL_time_X9_time rfl rfl rfl (by decide +kernel) ⟨(Nat.le_of_ble_eq_true rfl), (Nat.le_of_ble_eq_true rfl)⟩) ⟨hPq.1, g_recv hEL.1 hG (k := 0) (r := (RX9, TX9, 6)) (by omega) rfl rfl, hPq.2⟩ rfl rfl hl.1 rfl (Nat.le_of_ble_eq_true rfl) dL_time_4 ⟨(Nat.le_of_ble_eq_true rfl), (Nat.le_of_ble_eq_true rfl)⟩) hG.2.2 (fun e9 ce q9 A1 J1 H locs hp hB hS hce hv hcl => ?_) (fun v9 u9 t9 H locs ht hp hB hz hS => ?_)
  · have hG : gH D base sM ad (50 + 2 * n) (gw cy ad n A1 J1) H locs := ⟨hB, gl_D hG.2.1, hS⟩
    have he9 := hE _ _ _ hp
    rcases he9 with rfl | rfl
    · refine vx_catch (own := RL) (name := "java/lang/IndexOutOfBoundsException") hown [] ⟨0, 9, 12, 21⟩ [⟨0, 9, 15, 46⟩] htab (fun z h => nomatch h) (by decide) (by decide) (hts (.classLink RL 21 "java/lang/IndexOutOfBoundsException") (List.mem_of_getElem? (i := 1) rfl)) (vx_self (k := 6) (hts _ ((fun h9 => List.mem_cons_of_mem _ (List.mem_append_left _ (List.mem_append_right _ h9))) (show Cond.instantiable "java/lang/IndexOutOfBoundsException" 6 ∈ (vx_at0 RX9 109 "java/lang/IndexOutOfBoundsException" vxN).filter goodWord from by decide +kernel)))) hce hv hcl ?_
      refine lv_astore_n (lv' := [(3, .ref q9), (0, .ref (ad 0)), (1, .int x1), (2, .ref (ad 49))]) hx hb dL_time_12 rfl hl (by decide) rfl (fun ls hl => ?_)
      refine lv_iconst (v := nI 1) hx hb dL_time_13 (by decide) ?_
      exact gx_iret hx hb hr hlocks hG (Nat.le_of_ble_eq_true rfl) (Nat.le_of_ble_eq_true rfl) (Or.inr (Or.inl ⟨rfl, hp⟩)) dL_time_14
    · refine vx_catch (own := RL) (name := "java/util/NoSuchElementException") hown [⟨0, 9, 12, 21⟩] ⟨0, 9, 15, 46⟩ [] htab (fun z h => by have h9 := List.mem_singleton.mp h; subst h9; exact Or.inr ⟨by decide, "java/lang/IndexOutOfBoundsException", (hts (.classLink RL 21 "java/lang/IndexOutOfBoundsException") (List.mem_of_getElem? (i := 1) rfl)), hEL.2.2.1⟩) (by decide) (by decide) (hts (.classLink RL 46 "java/util/NoSuchElementException") (List.mem_of_getElem? (i := 2) rfl)) (vx_self (k := 6) (hts _ ((fun h9 => List.mem_cons_of_mem _ (List.mem_append_right _ h9)) (show Cond.instantiable "java/util/NoSuchElementException" 6 ∈ (vx_at0 RX9 159 "java/util/NoSuchElementException" vxN).filter goodWord from by decide +kernel)))) hce hv hcl ?_
      refine lv_astore_n (lv' := [(3, .ref q9), (0, .ref (ad 0)), (1, .int x1), (2, .ref (ad 49))]) hx hb dL_time_15 rfl hl (by decide) rfl (fun ls hl => ?_)
      refine lv_iconst (v := nI 2) hx hb dL_time_16 (by decide) ?_
      exact gx_iret hx hb hr hlocks hG (Nat.le_of_ble_eq_true rfl) (Nat.le_of_ble_eq_true rfl) (Or.inr (Or.inr ⟨rfl, hp⟩)) dL_time_17
  · obtain ⟨r9, rfl⟩ := hP _ _ _ hp
    have hG : gH D base sM ad (50 + 2 * n) (gw cy ad n u9.1 u9.2) H locs := ⟨by rw [← ht]; exact hB, gl_D hG.2.1, hS⟩
    refine W.eq (g2 := F0 mM 7 ls [.int r9, .int (nI 0), .ref (ad 49)]) rfl ?_
    refine lv_i2l (v := r9.toInt64) hx hb dL_time_7 rfl ?_
    refine g_last hx hb hEL.1 hG (k := 49) (by omega) (nn := 1) (fun _ => rfl) 0 rfl (by decide) (by decide) dL_time_8 (fun H locs hG => ?_)
    refine lv_goto (tgt := 18) hx hb dL_time_9 (by decide) ?_
    refine lv_iconst (v := nI 0) hx hb dL_time_18 (by decide) ?_
    exact gx_iret hx hb hr hlocks hG (Nat.le_of_ble_eq_true rfl) (Nat.le_of_ble_eq_true rfl) (Or.inl ⟨r9, _, hp, rfl, rfl⟩) dL_time_19
set_option maxHeartbeats 4000000 in
set_option maxRecDepth 100000 in
theorem cL_samplesC (l : Launch) (D : va_G) (cy : Nat → ClassId) (base : Nat) (ad : Nat → Nat) (n : Nat) (A : Nat → Nat → Int32) (J : Nat → Nat → Int64) (x1 : Int32) (P : Option Value → (Nat → Nat → Int32) → (Nat → Nat → Int64) → Prop) (E : String → (Nat → Nat → Int32) → (Nat → Nat → Int64) → Prop) (hM : gMetX l yX9_samples wsX9_samples ({ frames := 7, cells := 1, slots := 6, locals := 122 } : Room) D cy base ad n A J [.ref (ad 0), .int x1] P E 1 6) (hP : ∀ v A1 J1, P v A1 J1 → ∃ r : Int32, v = some (.int r)) (hE : ∀ e A1 J1, E e A1 J1 → e = "java/lang/IndexOutOfBoundsException") : gMetL l yL_samples wsL_samples ({ frames := 8, cells := 1, slots := 6, locals := 143 } : Room) D cy base ad (50 + 2 * n) (gw cy ad n A J) [.ref (ad 0), .int x1, .ref (ad 49)] (gPost D cy base ad n (qL1 P E "java/lang/IndexOutOfBoundsException")) 1 6 := by
  refine gL_ofW (cc := cL_samples) (maxL := 4) (ret := some .int) (hh := [(0, 9, 12, 21)]) (by decide) rfl (Nat.le_of_ble_eq_true rfl) ?_
  intro pM eM sM mM aM bM methM cM H locs ls hx hb hr hts hown hlocks hml htab hEL hG hl
  have hl : lv_has ls 4 [(0, .ref (ad 0)), (1, .int x1), (2, .ref (ad 49))] := hl
  refine lv_aload_n hx hb dL_samples_0 rfl (lv_at hl 2 rfl) ?_
  refine lv_iconst (v := nI 0) hx hb dL_samples_1 (by decide) ?_
  refine lv_aload_n hx hb dL_samples_2 rfl (lv_at hl 0 rfl) ?_
  refine lv_iload_n hx hb dL_samples_3 rfl (lv_at hl 1 rfl) ?_
  have hPq := g_pre hEL.1 hG (.ref (ad 0) :: [.int x1])
  refine gx_fin (rest := [.int (nI 0), .ref (ad 49)]) (vx_runV (C := RX9) (b := ad 0) (As := [.int x1]) (rest := [.int (nI 0), .ref (ad 49)]) (g := F0 mM _ ls _) ⟨hx, hb, hml, hown, hts⟩ hM (cwV 1 hts gL_samples_X9_samples rfl rfl rfl (by decide +kernel) ⟨(Nat.le_of_ble_eq_true rfl), (Nat.le_of_ble_eq_true rfl)⟩) ⟨hPq.1, g_recv hEL.1 hG (k := 0) (r := (RX9, TX9, 6)) (by omega) rfl rfl, hPq.2⟩ rfl rfl hl.1 rfl (Nat.le_of_ble_eq_true rfl) dL_samples_4 ⟨(Nat.le_of_ble_eq_true rfl), (Nat.le_of_ble_eq_true rfl)⟩) hG.2.2 (fun e9 ce q9 A1 J1 H locs hp hB hS hce hv hcl => ?_) (fun v9 u9 t9 H locs ht hp hB hz hS => ?_)
  · have hG : gH D base sM ad (50 + 2 * n) (gw cy ad n A1 J1) H locs := ⟨hB, gl_D hG.2.1, hS⟩
    have he9 := hE _ _ _ hp
    subst he9
    refine vx_catch (own := RL) (name := "java/lang/IndexOutOfBoundsException") hown [] ⟨0, 9, 12, 21⟩ [] htab (fun z h => nomatch h) (by decide) (by decide) (hts (.classLink RL 21 "java/lang/IndexOutOfBoundsException") (List.mem_of_getElem? (i := 1) rfl)) (vx_self (k := 6) (hts _ ((fun h9 => List.mem_cons_of_mem _ (List.mem_append_right _ h9)) (show Cond.instantiable "java/lang/IndexOutOfBoundsException" 6 ∈ (vx_at0 RX9 109 "java/lang/IndexOutOfBoundsException" vxN).filter goodWord from by decide +kernel)))) hce hv hcl ?_
    refine lv_astore_n (lv' := [(3, .ref q9), (0, .ref (ad 0)), (1, .int x1), (2, .ref (ad 49))]) hx hb dL_samples_12 rfl hl (by decide) rfl (fun ls hl => ?_)
    refine lv_iconst (v := nI 1) hx hb dL_samples_13 (by decide) ?_
    exact gx_iret hx hb hr hlocks hG (Nat.le_of_ble_eq_true rfl) (Nat.le_of_ble_eq_true rfl) (Or.inr ⟨rfl, hp⟩) dL_samples_14
  · obtain ⟨r9, rfl⟩ := hP _ _ _ hp
    have hG : gH D base sM ad (50 + 2 * n) (gw cy ad n u9.1 u9.2) H locs := ⟨by rw [← ht]; exact hB, gl_D hG.2.1, hS⟩
    refine W.eq (g2 := F0 mM 7 ls [.int r9, .int (nI 0), .ref (ad 49)]) rfl ?_
    refine lv_i2l (v := r9.toInt64) hx hb dL_samples_7 rfl ?_
    refine g_last hx hb hEL.1 hG (k := 49) (by omega) (nn := 1) (fun _ => rfl) 0 rfl (by decide) (by decide) dL_samples_8 (fun H locs hG => ?_)
    refine lv_goto (tgt := 15) hx hb dL_samples_9 (by decide) ?_
    refine lv_iconst (v := nI 0) hx hb dL_samples_15 (by decide) ?_
    exact gx_iret hx hb hr hlocks hG (Nat.le_of_ble_eq_true rfl) (Nat.le_of_ble_eq_true rfl) (Or.inl ⟨r9, _, hp, rfl, rfl⟩) dL_samples_16
set_option maxHeartbeats 4000000 in
set_option maxRecDepth 100000 in
theorem cL_missingC (l : Launch) (D : va_G) (cy : Nat → ClassId) (base : Nat) (ad : Nat → Nat) (n : Nat) (A : Nat → Nat → Int32) (J : Nat → Nat → Int64) (x1 : Int32) (P : Option Value → (Nat → Nat → Int32) → (Nat → Nat → Int64) → Prop) (E : String → (Nat → Nat → Int32) → (Nat → Nat → Int64) → Prop) (hM : gMetX l yX9_missing wsX9_missing ({ frames := 7, cells := 1, slots := 6, locals := 122 } : Room) D cy base ad n A J [.ref (ad 0), .int x1] P E 1 6) (hP : ∀ v A1 J1, P v A1 J1 → ∃ r : Int32, v = some (.int r)) (hE : ∀ e A1 J1, E e A1 J1 → e = "java/lang/IndexOutOfBoundsException") : gMetL l yL_missing wsL_missing ({ frames := 8, cells := 1, slots := 6, locals := 143 } : Room) D cy base ad (50 + 2 * n) (gw cy ad n A J) [.ref (ad 0), .int x1, .ref (ad 49)] (gPost D cy base ad n (qL1 P E "java/lang/IndexOutOfBoundsException")) 1 6 := by
  refine gL_ofW (cc := cL_missing) (maxL := 4) (ret := some .int) (hh := [(0, 9, 12, 21)]) (by decide) rfl (Nat.le_of_ble_eq_true rfl) ?_
  intro pM eM sM mM aM bM methM cM H locs ls hx hb hr hts hown hlocks hml htab hEL hG hl
  have hl : lv_has ls 4 [(0, .ref (ad 0)), (1, .int x1), (2, .ref (ad 49))] := hl
  refine lv_aload_n hx hb dL_missing_0 rfl (lv_at hl 2 rfl) ?_
  refine lv_iconst (v := nI 0) hx hb dL_missing_1 (by decide) ?_
  refine lv_aload_n hx hb dL_missing_2 rfl (lv_at hl 0 rfl) ?_
  refine lv_iload_n hx hb dL_missing_3 rfl (lv_at hl 1 rfl) ?_
  have hPq := g_pre hEL.1 hG (.ref (ad 0) :: [.int x1])
  refine gx_fin (rest := [.int (nI 0), .ref (ad 49)]) (vx_runV (C := RX9) (b := ad 0) (As := [.int x1]) (rest := [.int (nI 0), .ref (ad 49)]) (g := F0 mM _ ls _) ⟨hx, hb, hml, hown, hts⟩ hM (cwV 1 hts gL_missing_X9_missing rfl rfl rfl (by decide +kernel) ⟨(Nat.le_of_ble_eq_true rfl), (Nat.le_of_ble_eq_true rfl)⟩) ⟨hPq.1, g_recv hEL.1 hG (k := 0) (r := (RX9, TX9, 6)) (by omega) rfl rfl, hPq.2⟩ rfl rfl hl.1 rfl (Nat.le_of_ble_eq_true rfl) dL_missing_4 ⟨(Nat.le_of_ble_eq_true rfl), (Nat.le_of_ble_eq_true rfl)⟩) hG.2.2 (fun e9 ce q9 A1 J1 H locs hp hB hS hce hv hcl => ?_) (fun v9 u9 t9 H locs ht hp hB hz hS => ?_)
  · have hG : gH D base sM ad (50 + 2 * n) (gw cy ad n A1 J1) H locs := ⟨hB, gl_D hG.2.1, hS⟩
    have he9 := hE _ _ _ hp
    subst he9
    refine vx_catch (own := RL) (name := "java/lang/IndexOutOfBoundsException") hown [] ⟨0, 9, 12, 21⟩ [] htab (fun z h => nomatch h) (by decide) (by decide) (hts (.classLink RL 21 "java/lang/IndexOutOfBoundsException") (List.mem_of_getElem? (i := 1) rfl)) (vx_self (k := 6) (hts _ ((fun h9 => List.mem_cons_of_mem _ (List.mem_append_right _ h9)) (show Cond.instantiable "java/lang/IndexOutOfBoundsException" 6 ∈ (vx_at0 RX9 109 "java/lang/IndexOutOfBoundsException" vxN).filter goodWord from by decide +kernel)))) hce hv hcl ?_
    refine lv_astore_n (lv' := [(3, .ref q9), (0, .ref (ad 0)), (1, .int x1), (2, .ref (ad 49))]) hx hb dL_missing_12 rfl hl (by decide) rfl (fun ls hl => ?_)
    refine lv_iconst (v := nI 1) hx hb dL_missing_13 (by decide) ?_
    exact gx_iret hx hb hr hlocks hG (Nat.le_of_ble_eq_true rfl) (Nat.le_of_ble_eq_true rfl) (Or.inr ⟨rfl, hp⟩) dL_missing_14
  · obtain ⟨r9, rfl⟩ := hP _ _ _ hp
    have hG : gH D base sM ad (50 + 2 * n) (gw cy ad n u9.1 u9.2) H locs := ⟨by rw [← ht]; exact hB, gl_D hG.2.1, hS⟩
    refine W.eq (g2 := F0 mM 7 ls [.int r9, .int (nI 0), .ref (ad 49)]) rfl ?_
    refine lv_i2l (v := r9.toInt64) hx hb dL_missing_7 rfl ?_
    refine g_last hx hb hEL.1 hG (k := 49) (by omega) (nn := 1) (fun _ => rfl) 0 rfl (by decide) (by decide) dL_missing_8 (fun H locs hG => ?_)
    refine lv_goto (tgt := 15) hx hb dL_missing_9 (by decide) ?_
    refine lv_iconst (v := nI 0) hx hb dL_missing_15 (by decide) ?_
    exact gx_iret hx hb hr hlocks hG (Nat.le_of_ble_eq_true rfl) (Nat.le_of_ble_eq_true rfl) (Or.inl ⟨r9, _, hp, rfl, rfl⟩) dL_missing_16
set_option maxHeartbeats 4000000 in
set_option maxRecDepth 100000 in
theorem cL_deriveC (l : Launch) (D : va_G) (cy : Nat → ClassId) (base : Nat) (ad : Nat → Nat) (n : Nat) (A : Nat → Nat → Int32) (J : Nat → Nat → Int64) (x1 x2 x3 x4 : Int32) (P : Option Value → (Nat → Nat → Int32) → (Nat → Nat → Int64) → Prop) (E : String → (Nat → Nat → Int32) → (Nat → Nat → Int64) → Prop) (hM : gMetX l yX9_derive wsX9_derive ({ frames := 6, cells := 1, slots := 6, locals := 100 } : Room) D cy base ad n A J [.ref (ad 0), .int x1, .int x2, .int x3, .int x4] P E 1 6) (hP : ∀ v A1 J1, P v A1 J1 → v = none) (hE : ∀ e A1 J1, E e A1 J1 → e = "java/lang/IllegalArgumentException" ∨ e = "java/lang/IllegalStateException") : gMetL l yL_derive wsL_derive ({ frames := 7, cells := 1, slots := 6, locals := 124 } : Room) D cy base ad (50 + 2 * n) (gw cy ad n A J) [.ref (ad 0), .int x1, .int x2, .int x3, .int x4] (gPost D cy base ad n (fun v A1 J1 => (v = some (.int (nI 0)) ∧ P none A1 J1) ∨ (v = some (.int (nI 1)) ∧ E "java/lang/IllegalArgumentException" A1 J1) ∨ (v = some (.int (nI 2)) ∧ E "java/lang/IllegalStateException" A1 J1))) 1 6 := by
  refine gL_ofW (cc := cL_derive) (maxL := 6) (ret := some .int) (hh := [(0, 9, 12, 13), (0, 9, 16, 15)]) (by decide) rfl (Nat.le_of_ble_eq_true rfl) ?_
  intro pM eM sM mM aM bM methM cM H locs ls hx hb hr hts hown hlocks hml htab hEL hG hl
  have hl : lv_has ls 6 [(0, .ref (ad 0)), (1, .int x1), (2, .int x2), (3, .int x3), (4, .int x4)] := hl
  refine lv_aload_n hx hb dL_derive_0 rfl (lv_at hl 0 rfl) ?_
  refine lv_iload_n hx hb dL_derive_1 rfl (lv_at hl 1 rfl) ?_
  refine lv_iload_n hx hb dL_derive_2 rfl (lv_at hl 2 rfl) ?_
  refine lv_iload_n hx hb dL_derive_3 rfl (lv_at hl 3 rfl) ?_
  refine lv_iload hx hb dL_derive_4 (lv_at hl 4 rfl) ?_
  have hPq := g_pre hEL.1 hG (.ref (ad 0) :: [.int x1, .int x2, .int x3, .int x4])
  refine gx_fin (rest := []) (vx_runV (C := RX9) (b := ad 0) (As := [.int x1, .int x2, .int x3, .int x4]) (rest := []) (g := F0 mM _ ls _) ⟨hx, hb, hml, hown, hts⟩ hM (cwV 4 hts gL_derive_X9_derive rfl rfl rfl (by decide +kernel) ⟨(Nat.le_of_ble_eq_true rfl), (Nat.le_of_ble_eq_true rfl)⟩) ⟨hPq.1, g_recv hEL.1 hG (k := 0) (r := (RX9, TX9, 6)) (by omega) rfl rfl, hPq.2⟩ rfl rfl hl.1 rfl (Nat.le_of_ble_eq_true rfl) dL_derive_6 ⟨(Nat.le_of_ble_eq_true rfl), (Nat.le_of_ble_eq_true rfl)⟩) hG.2.2 (fun e9 ce q9 A1 J1 H locs hp hB hS hce hv hcl => ?_) (fun v9 u9 t9 H locs ht hp hB hz hS => ?_)
  · have hG : gH D base sM ad (50 + 2 * n) (gw cy ad n A1 J1) H locs := ⟨hB, gl_D hG.2.1, hS⟩
    have he9 := hE _ _ _ hp
    rcases he9 with rfl | rfl
    · refine vx_catch (own := RL) (name := "java/lang/IllegalArgumentException") hown [] ⟨0, 9, 12, 13⟩ [⟨0, 9, 16, 15⟩] htab (fun z h => nomatch h) (by decide) (by decide) (hts (.classLink RL 13 "java/lang/IllegalArgumentException") (List.mem_of_getElem? (i := 1) rfl)) (vx_self (k := 6) (hts _ ((fun h9 => List.mem_cons_of_mem _ (List.mem_append_left _ (List.mem_append_right _ h9))) (show Cond.instantiable "java/lang/IllegalArgumentException" 6 ∈ (vx_at0 RX9 57 "java/lang/IllegalArgumentException" vxN).filter goodWord from by decide +kernel)))) hce hv hcl ?_
      refine lv_astore (lv' := [(5, .ref q9), (0, .ref (ad 0)), (1, .int x1), (2, .int x2), (3, .int x3), (4, .int x4)]) hx hb dL_derive_12 hl (by decide) rfl (fun ls hl => ?_)
      refine lv_iconst (v := nI 1) hx hb dL_derive_14 (by decide) ?_
      exact gx_iret hx hb hr hlocks hG (Nat.le_of_ble_eq_true rfl) (Nat.le_of_ble_eq_true rfl) (Or.inr (Or.inl ⟨rfl, hp⟩)) dL_derive_15
    · refine vx_catch (own := RL) (name := "java/lang/IllegalStateException") hown [⟨0, 9, 12, 13⟩] ⟨0, 9, 16, 15⟩ [] htab (fun z h => by have h9 := List.mem_singleton.mp h; subst h9; exact Or.inr ⟨by decide, "java/lang/IllegalArgumentException", (hts (.classLink RL 13 "java/lang/IllegalArgumentException") (List.mem_of_getElem? (i := 1) rfl)), hEL.2.2.2.1⟩) (by decide) (by decide) (hts (.classLink RL 15 "java/lang/IllegalStateException") (List.mem_of_getElem? (i := 2) rfl)) (vx_self (k := 6) (hts _ ((fun h9 => List.mem_cons_of_mem _ (List.mem_append_right _ h9)) (show Cond.instantiable "java/lang/IllegalStateException" 6 ∈ (vx_at0 RX9 67 "java/lang/IllegalStateException" vxN).filter goodWord from by decide +kernel)))) hce hv hcl ?_
      refine lv_astore (lv' := [(5, .ref q9), (0, .ref (ad 0)), (1, .int x1), (2, .int x2), (3, .int x3), (4, .int x4)]) hx hb dL_derive_16 hl (by decide) rfl (fun ls hl => ?_)
      refine lv_iconst (v := nI 2) hx hb dL_derive_18 (by decide) ?_
      exact gx_iret hx hb hr hlocks hG (Nat.le_of_ble_eq_true rfl) (Nat.le_of_ble_eq_true rfl) (Or.inr (Or.inr ⟨rfl, hp⟩)) dL_derive_19
  · have hv9 := hP _ _ _ hp
    subst hv9
    have hG : gH D base sM ad (50 + 2 * n) (gw cy ad n u9.1 u9.2) H locs := ⟨by rw [← ht]; exact hB, gl_D hG.2.1, hS⟩
    refine W.eq (g2 := F0 mM 9 ls []) rfl ?_
    refine lv_goto (tgt := 20) hx hb dL_derive_9 (by decide) ?_
    refine lv_iconst (v := nI 0) hx hb dL_derive_20 (by decide) ?_
    exact gx_iret hx hb hr hlocks hG (Nat.le_of_ble_eq_true rfl) (Nat.le_of_ble_eq_true rfl) (Or.inl ⟨rfl, hp⟩) dL_derive_21
set_option maxHeartbeats 4000000 in
set_option maxRecDepth 100000 in
theorem cL_derivedValueC (l : Launch) (D : va_G) (cy : Nat → ClassId) (base : Nat) (ad : Nat → Nat) (n : Nat) (A : Nat → Nat → Int32) (J : Nat → Nat → Int64) (x1 : Int32) (P : Option Value → (Nat → Nat → Int32) → (Nat → Nat → Int64) → Prop) (E : String → (Nat → Nat → Int32) → (Nat → Nat → Int64) → Prop) (hM : gMetX l yX9_derivedValue wsX9_derivedValue ({ frames := 7, cells := 1, slots := 6, locals := 177 } : Room) D cy base ad n A J [.ref (ad 0), .int x1] P E 1 6) (hP : ∀ v A1 J1, P v A1 J1 → ∃ r : Int32, v = some (.int r)) (hE : ∀ e A1 J1, E e A1 J1 → e = "java/lang/IllegalArgumentException" ∨ e = "java/util/NoSuchElementException") : gMetL l yL_derivedValue wsL_derivedValue ({ frames := 8, cells := 1, slots := 6, locals := 198 } : Room) D cy base ad (50 + 2 * n) (gw cy ad n A J) [.ref (ad 0), .int x1, .ref (ad 49)] (gPost D cy base ad n (qL2 P E "java/lang/IllegalArgumentException" "java/util/NoSuchElementException")) 1 6 := by
  refine gL_ofW (cc := cL_derivedValue) (maxL := 4) (ret := some .int) (hh := [(0, 9, 12, 13), (0, 9, 15, 46)]) (by decide) rfl (Nat.le_of_ble_eq_true rfl) ?_
  intro pM eM sM mM aM bM methM cM H locs ls hx hb hr hts hown hlocks hml htab hEL hG hl
  have hl : lv_has ls 4 [(0, .ref (ad 0)), (1, .int x1), (2, .ref (ad 49))] := hl
  refine lv_aload_n hx hb dL_derivedValue_0 rfl (lv_at hl 2 rfl) ?_
  refine lv_iconst (v := nI 0) hx hb dL_derivedValue_1 (by decide) ?_
  refine lv_aload_n hx hb dL_derivedValue_2 rfl (lv_at hl 0 rfl) ?_
  refine lv_iload_n hx hb dL_derivedValue_3 rfl (lv_at hl 1 rfl) ?_
  have hPq := g_pre hEL.1 hG (.ref (ad 0) :: [.int x1])
  refine gx_fin (rest := [.int (nI 0), .ref (ad 49)]) (vx_runV (C := RX9) (b := ad 0) (As := [.int x1]) (rest := [.int (nI 0), .ref (ad 49)]) (g := F0 mM _ ls _) ⟨hx, hb, hml, hown, hts⟩ hM (cwV 1 hts gL_derivedValue_X9_derivedValue rfl rfl rfl (by decide +kernel) ⟨(Nat.le_of_ble_eq_true rfl), (Nat.le_of_ble_eq_true rfl)⟩) ⟨hPq.1, g_recv hEL.1 hG (k := 0) (r := (RX9, TX9, 6)) (by omega) rfl rfl, hPq.2⟩ rfl rfl hl.1 rfl (Nat.le_of_ble_eq_true rfl) dL_derivedValue_4 ⟨(Nat.le_of_ble_eq_true rfl), (Nat.le_of_ble_eq_true rfl)⟩) hG.2.2 (fun e9 ce q9 A1 J1 H locs hp hB hS hce hv hcl => ?_) (fun v9 u9 t9 H locs ht hp hB hz hS => ?_)
  · have hG : gH D base sM ad (50 + 2 * n) (gw cy ad n A1 J1) H locs := ⟨hB, gl_D hG.2.1, hS⟩
    have he9 := hE _ _ _ hp
    rcases he9 with rfl | rfl
    · refine vx_catch (own := RL) (name := "java/lang/IllegalArgumentException") hown [] ⟨0, 9, 12, 13⟩ [⟨0, 9, 15, 46⟩] htab (fun z h => nomatch h) (by decide) (by decide) (hts (.classLink RL 13 "java/lang/IllegalArgumentException") (List.mem_of_getElem? (i := 1) rfl)) (vx_self (k := 6) (hts _ ((fun h9 => List.mem_cons_of_mem _ (List.mem_append_left _ (List.mem_append_right _ h9))) (show Cond.instantiable "java/lang/IllegalArgumentException" 6 ∈ (vx_at0 RX9 57 "java/lang/IllegalArgumentException" vxN).filter goodWord from by decide +kernel)))) hce hv hcl ?_
      refine lv_astore_n (lv' := [(3, .ref q9), (0, .ref (ad 0)), (1, .int x1), (2, .ref (ad 49))]) hx hb dL_derivedValue_12 rfl hl (by decide) rfl (fun ls hl => ?_)
      refine lv_iconst (v := nI 1) hx hb dL_derivedValue_13 (by decide) ?_
      exact gx_iret hx hb hr hlocks hG (Nat.le_of_ble_eq_true rfl) (Nat.le_of_ble_eq_true rfl) (Or.inr (Or.inl ⟨rfl, hp⟩)) dL_derivedValue_14
    · refine vx_catch (own := RL) (name := "java/util/NoSuchElementException") hown [⟨0, 9, 12, 13⟩] ⟨0, 9, 15, 46⟩ [] htab (fun z h => by have h9 := List.mem_singleton.mp h; subst h9; exact Or.inr ⟨by decide, "java/lang/IllegalArgumentException", (hts (.classLink RL 13 "java/lang/IllegalArgumentException") (List.mem_of_getElem? (i := 1) rfl)), hEL.2.2.2.2.2⟩) (by decide) (by decide) (hts (.classLink RL 46 "java/util/NoSuchElementException") (List.mem_of_getElem? (i := 2) rfl)) (vx_self (k := 6) (hts _ ((fun h9 => List.mem_cons_of_mem _ (List.mem_append_right _ h9)) (show Cond.instantiable "java/util/NoSuchElementException" 6 ∈ (vx_at0 RX9 159 "java/util/NoSuchElementException" vxN).filter goodWord from by decide +kernel)))) hce hv hcl ?_
      refine lv_astore_n (lv' := [(3, .ref q9), (0, .ref (ad 0)), (1, .int x1), (2, .ref (ad 49))]) hx hb dL_derivedValue_15 rfl hl (by decide) rfl (fun ls hl => ?_)
      refine lv_iconst (v := nI 2) hx hb dL_derivedValue_16 (by decide) ?_
      exact gx_iret hx hb hr hlocks hG (Nat.le_of_ble_eq_true rfl) (Nat.le_of_ble_eq_true rfl) (Or.inr (Or.inr ⟨rfl, hp⟩)) dL_derivedValue_17
  · obtain ⟨r9, rfl⟩ := hP _ _ _ hp
    have hG : gH D base sM ad (50 + 2 * n) (gw cy ad n u9.1 u9.2) H locs := ⟨by rw [← ht]; exact hB, gl_D hG.2.1, hS⟩
    refine W.eq (g2 := F0 mM 7 ls [.int r9, .int (nI 0), .ref (ad 49)]) rfl ?_
    refine lv_i2l (v := r9.toInt64) hx hb dL_derivedValue_7 rfl ?_
    refine g_last hx hb hEL.1 hG (k := 49) (by omega) (nn := 1) (fun _ => rfl) 0 rfl (by decide) (by decide) dL_derivedValue_8 (fun H locs hG => ?_)
    refine lv_goto (tgt := 18) hx hb dL_derivedValue_9 (by decide) ?_
    refine lv_iconst (v := nI 0) hx hb dL_derivedValue_18 (by decide) ?_
    exact gx_iret hx hb hr hlocks hG (Nat.le_of_ble_eq_true rfl) (Nat.le_of_ble_eq_true rfl) (Or.inl ⟨r9, _, hp, rfl, rfl⟩) dL_derivedValue_19
set_option maxHeartbeats 4000000 in
set_option maxRecDepth 100000 in
theorem cL_derivedTimeC (l : Launch) (D : va_G) (cy : Nat → ClassId) (base : Nat) (ad : Nat → Nat) (n : Nat) (A : Nat → Nat → Int32) (J : Nat → Nat → Int64) (x1 : Int32) (P : Option Value → (Nat → Nat → Int32) → (Nat → Nat → Int64) → Prop) (E : String → (Nat → Nat → Int32) → (Nat → Nat → Int64) → Prop) (hM : gMetX l yX9_derivedTime wsX9_derivedTime ({ frames := 7, cells := 1, slots := 6, locals := 177 } : Room) D cy base ad n A J [.ref (ad 0), .int x1] P E 1 6) (hP : ∀ v A1 J1, P v A1 J1 → ∃ r : Int32, v = some (.int r)) (hE : ∀ e A1 J1, E e A1 J1 → e = "java/lang/IllegalArgumentException" ∨ e = "java/util/NoSuchElementException") : gMetL l yL_derivedTime wsL_derivedTime ({ frames := 8, cells := 1, slots := 6, locals := 198 } : Room) D cy base ad (50 + 2 * n) (gw cy ad n A J) [.ref (ad 0), .int x1, .ref (ad 49)] (gPost D cy base ad n (qL2 P E "java/lang/IllegalArgumentException" "java/util/NoSuchElementException")) 1 6 := by
  refine gL_ofW (cc := cL_derivedTime) (maxL := 4) (ret := some .int) (hh := [(0, 9, 12, 13), (0, 9, 15, 46)]) (by decide) rfl (Nat.le_of_ble_eq_true rfl) ?_
  intro pM eM sM mM aM bM methM cM H locs ls hx hb hr hts hown hlocks hml htab hEL hG hl
  have hl : lv_has ls 4 [(0, .ref (ad 0)), (1, .int x1), (2, .ref (ad 49))] := hl
  refine lv_aload_n hx hb dL_derivedTime_0 rfl (lv_at hl 2 rfl) ?_
  refine lv_iconst (v := nI 0) hx hb dL_derivedTime_1 (by decide) ?_
  refine lv_aload_n hx hb dL_derivedTime_2 rfl (lv_at hl 0 rfl) ?_
  refine lv_iload_n hx hb dL_derivedTime_3 rfl (lv_at hl 1 rfl) ?_
  have hPq := g_pre hEL.1 hG (.ref (ad 0) :: [.int x1])
  refine gx_fin (rest := [.int (nI 0), .ref (ad 49)]) (vx_runV (C := RX9) (b := ad 0) (As := [.int x1]) (rest := [.int (nI 0), .ref (ad 49)]) (g := F0 mM _ ls _) ⟨hx, hb, hml, hown, hts⟩ hM (cwV 1 hts gL_derivedTime_X9_derivedTime rfl rfl rfl (by decide +kernel) ⟨(Nat.le_of_ble_eq_true rfl), (Nat.le_of_ble_eq_true rfl)⟩) ⟨hPq.1, g_recv hEL.1 hG (k := 0) (r := (RX9, TX9, 6)) (by omega) rfl rfl, hPq.2⟩ rfl rfl hl.1 rfl (Nat.le_of_ble_eq_true rfl) dL_derivedTime_4 ⟨(Nat.le_of_ble_eq_true rfl), (Nat.le_of_ble_eq_true rfl)⟩) hG.2.2 (fun e9 ce q9 A1 J1 H locs hp hB hS hce hv hcl => ?_) (fun v9 u9 t9 H locs ht hp hB hz hS => ?_)
  · have hG : gH D base sM ad (50 + 2 * n) (gw cy ad n A1 J1) H locs := ⟨hB, gl_D hG.2.1, hS⟩
    have he9 := hE _ _ _ hp
    rcases he9 with rfl | rfl
    · refine vx_catch (own := RL) (name := "java/lang/IllegalArgumentException") hown [] ⟨0, 9, 12, 13⟩ [⟨0, 9, 15, 46⟩] htab (fun z h => nomatch h) (by decide) (by decide) (hts (.classLink RL 13 "java/lang/IllegalArgumentException") (List.mem_of_getElem? (i := 1) rfl)) (vx_self (k := 6) (hts _ ((fun h9 => List.mem_cons_of_mem _ (List.mem_append_left _ (List.mem_append_right _ h9))) (show Cond.instantiable "java/lang/IllegalArgumentException" 6 ∈ (vx_at0 RX9 57 "java/lang/IllegalArgumentException" vxN).filter goodWord from by decide +kernel)))) hce hv hcl ?_
      refine lv_astore_n (lv' := [(3, .ref q9), (0, .ref (ad 0)), (1, .int x1), (2, .ref (ad 49))]) hx hb dL_derivedTime_12 rfl hl (by decide) rfl (fun ls hl => ?_)
      refine lv_iconst (v := nI 1) hx hb dL_derivedTime_13 (by decide) ?_
      exact gx_iret hx hb hr hlocks hG (Nat.le_of_ble_eq_true rfl) (Nat.le_of_ble_eq_true rfl) (Or.inr (Or.inl ⟨rfl, hp⟩)) dL_derivedTime_14
    · refine vx_catch (own := RL) (name := "java/util/NoSuchElementException") hown [⟨0, 9, 12, 13⟩] ⟨0, 9, 15, 46⟩ [] htab (fun z h => by have h9 := List.mem_singleton.mp h; subst h9; exact Or.inr ⟨by decide, "java/lang/IllegalArgumentException", (hts (.classLink RL 13 "java/lang/IllegalArgumentException") (List.mem_of_getElem? (i := 1) rfl)), hEL.2.2.2.2.2⟩) (by decide) (by decide) (hts (.classLink RL 46 "java/util/NoSuchElementException") (List.mem_of_getElem? (i := 2) rfl)) (vx_self (k := 6) (hts _ ((fun h9 => List.mem_cons_of_mem _ (List.mem_append_right _ h9)) (show Cond.instantiable "java/util/NoSuchElementException" 6 ∈ (vx_at0 RX9 159 "java/util/NoSuchElementException" vxN).filter goodWord from by decide +kernel)))) hce hv hcl ?_
      refine lv_astore_n (lv' := [(3, .ref q9), (0, .ref (ad 0)), (1, .int x1), (2, .ref (ad 49))]) hx hb dL_derivedTime_15 rfl hl (by decide) rfl (fun ls hl => ?_)
      refine lv_iconst (v := nI 2) hx hb dL_derivedTime_16 (by decide) ?_
      exact gx_iret hx hb hr hlocks hG (Nat.le_of_ble_eq_true rfl) (Nat.le_of_ble_eq_true rfl) (Or.inr (Or.inr ⟨rfl, hp⟩)) dL_derivedTime_17
  · obtain ⟨r9, rfl⟩ := hP _ _ _ hp
    have hG : gH D base sM ad (50 + 2 * n) (gw cy ad n u9.1 u9.2) H locs := ⟨by rw [← ht]; exact hB, gl_D hG.2.1, hS⟩
    refine W.eq (g2 := F0 mM 7 ls [.int r9, .int (nI 0), .ref (ad 49)]) rfl ?_
    refine lv_i2l (v := r9.toInt64) hx hb dL_derivedTime_7 rfl ?_
    refine g_last hx hb hEL.1 hG (k := 49) (by omega) (nn := 1) (fun _ => rfl) 0 rfl (by decide) (by decide) dL_derivedTime_8 (fun H locs hG => ?_)
    refine lv_goto (tgt := 18) hx hb dL_derivedTime_9 (by decide) ?_
    refine lv_iconst (v := nI 0) hx hb dL_derivedTime_18 (by decide) ?_
    exact gx_iret hx hb hr hlocks hG (Nat.le_of_ble_eq_true rfl) (Nat.le_of_ble_eq_true rfl) (Or.inl ⟨r9, _, hp, rfl, rfl⟩) dL_derivedTime_19
set_option maxHeartbeats 4000000 in
set_option maxRecDepth 100000 in
theorem cL_matchesC (l : Launch) (D : va_G) (cy : Nat → ClassId) (base : Nat) (ad : Nat → Nat) (n : Nat) (A : Nat → Nat → Int32) (J : Nat → Nat → Int64) (x1 : Int32) (P : Option Value → (Nat → Nat → Int32) → (Nat → Nat → Int64) → Prop) (E : String → (Nat → Nat → Int32) → (Nat → Nat → Int64) → Prop) (hM : gMetX l yX9_matches wsX9_matches ({ frames := 6, cells := 1, slots := 6, locals := 100 } : Room) D cy base ad n A J [.ref (ad 0), .int x1] P E 1 6) (hP : ∀ v A1 J1, P v A1 J1 → ∃ r : Int32, v = some (.int r)) (hE : ∀ e A1 J1, E e A1 J1 → e = "java/lang/IllegalArgumentException") : gMetL l yL_matches wsL_matches ({ frames := 7, cells := 1, slots := 6, locals := 121 } : Room) D cy base ad (50 + 2 * n) (gw cy ad n A J) [.ref (ad 0), .int x1, .ref (ad 49)] (gPost D cy base ad n (qL1 P E "java/lang/IllegalArgumentException")) 1 6 := by
  refine gL_ofW (cc := cL_matches) (maxL := 4) (ret := some .int) (hh := [(0, 9, 12, 13)]) (by decide) rfl (Nat.le_of_ble_eq_true rfl) ?_
  intro pM eM sM mM aM bM methM cM H locs ls hx hb hr hts hown hlocks hml htab hEL hG hl
  have hl : lv_has ls 4 [(0, .ref (ad 0)), (1, .int x1), (2, .ref (ad 49))] := hl
  refine lv_aload_n hx hb dL_matches_0 rfl (lv_at hl 2 rfl) ?_
  refine lv_iconst (v := nI 0) hx hb dL_matches_1 (by decide) ?_
  refine lv_aload_n hx hb dL_matches_2 rfl (lv_at hl 0 rfl) ?_
  refine lv_iload_n hx hb dL_matches_3 rfl (lv_at hl 1 rfl) ?_
  have hPq := g_pre hEL.1 hG (.ref (ad 0) :: [.int x1])
  refine gx_fin (rest := [.int (nI 0), .ref (ad 49)]) (vx_runV (C := RX9) (b := ad 0) (As := [.int x1]) (rest := [.int (nI 0), .ref (ad 49)]) (g := F0 mM _ ls _) ⟨hx, hb, hml, hown, hts⟩ hM (cwV 1 hts gL_matches_X9_matches rfl rfl rfl (by decide +kernel) ⟨(Nat.le_of_ble_eq_true rfl), (Nat.le_of_ble_eq_true rfl)⟩) ⟨hPq.1, g_recv hEL.1 hG (k := 0) (r := (RX9, TX9, 6)) (by omega) rfl rfl, hPq.2⟩ rfl rfl hl.1 rfl (Nat.le_of_ble_eq_true rfl) dL_matches_4 ⟨(Nat.le_of_ble_eq_true rfl), (Nat.le_of_ble_eq_true rfl)⟩) hG.2.2 (fun e9 ce q9 A1 J1 H locs hp hB hS hce hv hcl => ?_) (fun v9 u9 t9 H locs ht hp hB hz hS => ?_)
  · have hG : gH D base sM ad (50 + 2 * n) (gw cy ad n A1 J1) H locs := ⟨hB, gl_D hG.2.1, hS⟩
    have he9 := hE _ _ _ hp
    subst he9
    refine vx_catch (own := RL) (name := "java/lang/IllegalArgumentException") hown [] ⟨0, 9, 12, 13⟩ [] htab (fun z h => nomatch h) (by decide) (by decide) (hts (.classLink RL 13 "java/lang/IllegalArgumentException") (List.mem_of_getElem? (i := 1) rfl)) (vx_self (k := 6) (hts _ ((fun h9 => List.mem_cons_of_mem _ (List.mem_append_right _ h9)) (show Cond.instantiable "java/lang/IllegalArgumentException" 6 ∈ (vx_at0 RX9 57 "java/lang/IllegalArgumentException" vxN).filter goodWord from by decide +kernel)))) hce hv hcl ?_
    refine lv_astore_n (lv' := [(3, .ref q9), (0, .ref (ad 0)), (1, .int x1), (2, .ref (ad 49))]) hx hb dL_matches_12 rfl hl (by decide) rfl (fun ls hl => ?_)
    refine lv_iconst (v := nI 1) hx hb dL_matches_13 (by decide) ?_
    exact gx_iret hx hb hr hlocks hG (Nat.le_of_ble_eq_true rfl) (Nat.le_of_ble_eq_true rfl) (Or.inr ⟨rfl, hp⟩) dL_matches_14
  · obtain ⟨r9, rfl⟩ := hP _ _ _ hp
    have hG : gH D base sM ad (50 + 2 * n) (gw cy ad n u9.1 u9.2) H locs := ⟨by rw [← ht]; exact hB, gl_D hG.2.1, hS⟩
    refine W.eq (g2 := F0 mM 7 ls [.int r9, .int (nI 0), .ref (ad 49)]) rfl ?_
    refine lv_i2l (v := r9.toInt64) hx hb dL_matches_7 rfl ?_
    refine g_last hx hb hEL.1 hG (k := 49) (by omega) (nn := 1) (fun _ => rfl) 0 rfl (by decide) (by decide) dL_matches_8 (fun H locs hG => ?_)
    refine lv_goto (tgt := 15) hx hb dL_matches_9 (by decide) ?_
    refine lv_iconst (v := nI 0) hx hb dL_matches_15 (by decide) ?_
    exact gx_iret hx hb hr hlocks hG (Nat.le_of_ble_eq_true rfl) (Nat.le_of_ble_eq_true rfl) (Or.inl ⟨r9, _, hp, rfl, rfl⟩) dL_matches_16

abbrev vwCl : List vw_C := [(RX0, TX0, 5), (RX1, TX1, 5), (RX2, TX2, 1), (RX3, TX3, 3), (RX4, TX4, 10), (RX5, TX5, 3), (RX6, TX6, 3), (RX7, TX7, 2), (RX8, TX8, 7), (RX9, TX9, 6)]
/-! ===== the world by numbers: cell k lies at ad k and holds w k ===== -/
def gu {α : Type} (A : Nat → Nat → α) (k j : Nat) (v : α) : Nat → Nat → α := fun k' => if k' = k then (fun j' => if j' = j then v else A k j') else A k'
theorem gu_self {α : Type} (A : Nat → Nat → α) (k j : Nat) (v : α) : gu A k j v k = fun j' => if j' = j then v else A k j' := if_pos rfl
theorem gu_ne {α : Type} (A : Nat → Nat → α) {k k' : Nat} (j : Nat) (v : α) (h : k' ≠ k) : gu A k j v k' = A k' := if_neg h
theorem gu_at {α : Type} (A : Nat → Nat → α) (k j : Nat) (v : α) (k' j' : Nat) : gu A k j v k' j' = if k' = k ∧ j' = j then v else A k' j' := by
  unfold gu
  by_cases h : k' = k
  · subst h
    by_cases h2 : j' = j <;> simp [h2]
  · simp [h]
/-- a whole row of a cell -/
def gr {α : Type} (A : Nat → Nat → α) (k : Nat) (f : Nat → α) : Nat → Nat → α := fun k' => if k' = k then f else A k'
theorem gr_self {α : Type} (A : Nat → Nat → α) (k : Nat) (f : Nat → α) : gr A k f k = f := if_pos rfl
theorem gr_ne {α : Type} (A : Nat → Nat → α) {k k' : Nat} (f : Nat → α) (h : k' ≠ k) : gr A k f k' = A k' := if_neg h
theorem gu_gr {α : Type} (A : Nat → Nat → α) (k j : Nat) (v : α) : gu A k j v = gr A k (fun j' => if j' = j then v else A k j') := rfl
def gl (ad : Nat → Nat) (N : Nat) (w : Nat → va_E) : va_W := (List.range N).map fun k => (ad k, w k)
theorem gl_at {ad : Nat → Nat} {N : Nat} {w : Nat → va_E} {k : Nat} (h : k < N) : (gl ad N w)[k]? = some (ad k, w k) := by
  unfold gl
  rw [List.getElem?_map, List.getElem?_range h]
  rfl
theorem gl_ext {ad ad' : Nat → Nat} {N : Nat} {w w' : Nat → va_E} (h : ∀ k, k < N → ad k = ad' k) (h2 : ∀ k, k < N → w k = w' k) : gl ad N w = gl ad' N w' := by
  unfold gl
  refine List.map_congr_left fun k hk => ?_
  rw [h k (List.mem_range.mp hk), h2 k (List.mem_range.mp hk)]
theorem gl_set {ad : Nat → Nat} {N : Nat} {w : Nat → va_E} {k : Nat} (e : va_E) (h : k < N) : (gl ad N w).set k (ad k, e) = gl ad N (va_up w k e) := by
  refine List.ext_getElem? fun i => ?_
  by_cases hi : i < N
  · rw [gl_at hi]
    by_cases hk : i = k
    · subst hk
      rw [List.getElem?_set_self (by unfold gl; simpa using h), va_up_self]
    · rw [List.getElem?_set_ne (Ne.symm hk), gl_at hi, va_up_ne _ _ hk]
  · rw [List.getElem?_eq_none (by unfold gl; simp; omega), List.getElem?_eq_none (by unfold gl; simp; omega)]
theorem gl_push (ad : Nat → Nat) (N : Nat) (w : Nat → va_E) (q : Nat) (e : va_E) : gl ad N w ++ [(q, e)] = gl (va_up ad N q) (N + 1) (va_up w N e) := by
  unfold gl
  rw [List.range_succ, List.map_append]
  congr 1
  · refine List.map_congr_left fun k hk => ?_
    have : k ≠ N := Nat.ne_of_lt (List.mem_range.mp hk)
    rw [va_up_ne _ _ this, va_up_ne _ _ this]
  · simp [va_up]
/-- the class numbers of the arrays: int, long, boolean, Derived, Point -/
abbrev gty (cy : Nat → ClassId) : List (ClassId × FieldType) := [(cy 0, .int), (cy 1, .long), (cy 0, .int), (cy 3, .object "Commutator$Derived"), (cy 4, .object "Commutator$Point")]
/-- what cell k holds: a its ints, j its longs; n points are there -/
def gC0 (cy : Nat → ClassId) (ad : Nat → Nat) (n : Nat) (k : Nat) (a : Nat → Int32) (j : Nat → Int64) : va_E := match k with
  | 0 => .inr (9, [.ref (ad 1), .ref (ad 4), .ref (ad 6), .ref (ad 7), .ref (ad 9), .ref (ad 10)])
  | 1 => .inr (5, [.ref (ad 2), .int (a 1), .ref (ad 3)])
  | 2 => .inl (cy 4, 12, .inr (.inr (.inr (.inr (fun i => if i < n then some (ad (33 + 2 * i)) else none)))))
  | 3 => .inl (cy 1, 4, .inr (.inl j))
  | 4 => .inr (3, [.ref (ad 5), .int (a 1), .int (a 2)])
  | 5 => .inl (cy 0, 8000, .inl a)
  | 6 => .inr (7, [.int (a 0), .long (j 1)])
  | 7 => .inr (8, [.int (a 0), .int (a 1), .long (j 2), .int (a 3), .int (a 4), .int (a 5), .ref (ad 8)])
  | 8 => .inl (cy 0, 64, .inl a)
  | 9 => .inr (0, [.int (a 0), .int (a 1), .int (a 2), .int (a 3), .int (a 4)])
  | 10 => .inr (2, [.ref (ad 11)])
  | _ => .inl (cy 3, 8, .inr (.inr (.inr (.inr (fun i => if i < 8 then some (ad (12 + 2 * i)) else none)))))
/-- the law's rows: the points' words, the bits in use, the values, the counts, the derived points -/
def gC1 (cy : Nat → ClassId) (k : Nat) (a : Nat → Int32) (j : Nat → Int64) : va_E := match k with
  | 28 => .inl (cy 0, 48, .inl a)
  | 29 => .inl (cy 1, 4, .inr (.inl j))
  | 30 => .inl (cy 0, 12, .inl a)
  | 31 => .inl (cy 0, 4, .inl a)
  | _ => .inl (cy 0, 8, .inl a)
def gPt (ad : Nat → Nat) (k : Nat) (a : Nat → Int32) : va_E := .inr (4, [.int (a 0), .int (a 1), .int (a 2), .int (a 3), .int (a 4), .int (a 5), .int (a 6), .ref (ad (k + 1)), .int (a 8), .int (a 9)])
def gRd (a : Nat → Int32) : va_E := .inr (6, [.int (a 0), .int (a 1), .int (a 2)])
def gDv (ad : Nat → Nat) (k : Nat) (a : Nat → Int32) : va_E := .inr (1, [.int (a 0), .int (a 1), .int (a 2), .int (a 3), .ref (ad (k + 1))])
def gC (cy : Nat → ClassId) (ad : Nat → Nat) (n : Nat) (k : Nat) (a : Nat → Int32) (j : Nat → Int64) : va_E :=
  if k < 12 then gC0 cy ad n k a j else if k < 28 then (if k % 2 = 0 then gDv ad k a else gRd a) else if k < 33 then gC1 cy k a j else (if k % 2 = 1 then gPt ad k a else gRd a)
def gw (cy : Nat → ClassId) (ad : Nat → Nat) (n : Nat) (A : Nat → Nat → Int32) (J : Nat → Nat → Int64) : Nat → va_E := fun k => gC cy ad n k (A k) (J k)
theorem gC_pt (cy : Nat → ClassId) (ad : Nat → Nat) (n i : Nat) (a : Nat → Int32) (j : Nat → Int64) : gC cy ad n (33 + 2 * i) a j = gPt ad (33 + 2 * i) a := by
  unfold gC
  rw [if_neg (by omega), if_neg (by omega), if_neg (by omega), if_pos (by omega)]
theorem gC_rp (cy : Nat → ClassId) (ad : Nat → Nat) (n i : Nat) (a : Nat → Int32) (j : Nat → Int64) : gC cy ad n (33 + 2 * i + 1) a j = gRd a := by
  unfold gC
  rw [if_neg (by omega), if_neg (by omega), if_neg (by omega), if_neg (by omega)]
theorem gC_dv (cy : Nat → ClassId) (ad : Nat → Nat) (n : Nat) {i : Nat} (h : i < 8) (a : Nat → Int32) (j : Nat → Int64) : gC cy ad n (12 + 2 * i) a j = gDv ad (12 + 2 * i) a := by
  unfold gC
  rw [if_neg (by omega), if_pos (by omega), if_pos (by omega)]
theorem gw_pt (cy : Nat → ClassId) (ad : Nat → Nat) (n : Nat) (A : Nat → Nat → Int32) (J : Nat → Nat → Int64) (i : Nat) : gw cy ad n A J (33 + 2 * i) = gPt ad (33 + 2 * i) (A (33 + 2 * i)) := by
  unfold gw gC
  rw [if_neg (by omega), if_neg (by omega), if_neg (by omega), if_pos (by omega)]
theorem gw_rp (cy : Nat → ClassId) (ad : Nat → Nat) (n : Nat) (A : Nat → Nat → Int32) (J : Nat → Nat → Int64) (i : Nat) : gw cy ad n A J (33 + 2 * i + 1) = gRd (A (33 + 2 * i + 1)) := by
  unfold gw gC
  rw [if_neg (by omega), if_neg (by omega), if_neg (by omega), if_neg (by omega)]
theorem gw_dv (cy : Nat → ClassId) (ad : Nat → Nat) (n : Nat) (A : Nat → Nat → Int32) (J : Nat → Nat → Int64) {i : Nat} (h : i < 8) : gw cy ad n A J (12 + 2 * i) = gDv ad (12 + 2 * i) (A (12 + 2 * i)) := by
  unfold gw gC
  rw [if_neg (by omega), if_pos (by omega), if_pos (by omega)]
theorem gw_rd (cy : Nat → ClassId) (ad : Nat → Nat) (n : Nat) (A : Nat → Nat → Int32) (J : Nat → Nat → Int64) {i : Nat} (h : i < 8) : gw cy ad n A J (12 + 2 * i + 1) = gRd (A (12 + 2 * i + 1)) := by
  unfold gw gC
  rw [if_neg (by omega), if_pos (by omega), if_neg (by omega)]
/-- a cell that is a reading -/
def gIsR (n k : Nat) : Prop := k < 33 + 2 * n ∧ ((k % 2 = 1 ∧ 12 ≤ k ∧ k < 28) ∨ (k % 2 = 0 ∧ 33 ≤ k))
theorem gC_r {n k : Nat} (h : gIsR n k) (cy : Nat → ClassId) (ad : Nat → Nat) (a : Nat → Int32) (j : Nat → Int64) : gC cy ad n k a j = gRd a := by
  unfold gC
  obtain ⟨-, h3⟩ := h
  rcases h3 with h3 | h3
  · rw [if_neg (by omega), if_pos (by omega), if_neg (by omega)]
  · rw [if_neg (by omega), if_neg (by omega), if_neg (by omega), if_neg (by omega)]
theorem gw_r {cy : Nat → ClassId} {ad : Nat → Nat} {n : Nat} {A : Nat → Nat → Int32} {J : Nat → Nat → Int64} {k : Nat} (h : gIsR n k) : gw cy ad n A J k = gRd (A k) := by
  unfold gw gC
  obtain ⟨-, h3⟩ := h
  rcases h3 with h3 | h3
  · rw [if_neg (by omega), if_pos (by omega), if_neg (by omega)]
  · rw [if_neg (by omega), if_neg (by omega), if_neg (by omega), if_neg (by omega)]
/-- one cell's row of ints changes, nothing else -/
theorem gw_row {cy : Nat → ClassId} {ad : Nat → Nat} {n : Nat} {A : Nat → Nat → Int32} {J : Nat → Nat → Int64} {k : Nat} {f : Nat → Int32} {e : va_E} (h : gC cy ad n k f (J k) = e) : ∀ q, va_up (gw cy ad n A J) k e q = gw cy ad n (gr A k f) J q := by
  intro q
  by_cases hq : q = k
  · subst hq
    rw [va_up_self]
    unfold gw
    rw [gr_self, h]
  · rw [va_up_ne _ _ hq]
    unfold gw
    rw [gr_ne _ _ hq]
theorem gw_rowJ {cy : Nat → ClassId} {ad : Nat → Nat} {n : Nat} {A : Nat → Nat → Int32} {J : Nat → Nat → Int64} {k : Nat} {f : Nat → Int64} {e : va_E} (h : gC cy ad n k (A k) f = e) : ∀ q, va_up (gw cy ad n A J) k e q = gw cy ad n A (gr J k f) q := by
  intro q
  by_cases hq : q = k
  · subst hq
    rw [va_up_self]
    unfold gw
    rw [gr_self, h]
  · rw [va_up_ne _ _ hq]
    unfold gw
    rw [gr_ne _ _ hq]
/-- the heap holds the world w of N cells; what was before base is as it was -/
def gH (D : va_G) (base : Nat) (s : State) (ad : Nat → Nat) (N : Nat) (w : Nat → va_E) (H : Heap) (locs : List Loc) : Prop := va_P D vwCl (gl ad N w) H ∧ va_D (fun q => base ≤ q) (gl ad N w) ∧ va_S (fun q => base ≤ q) s.heap H locs
theorem gH.to {D : va_G} {base : Nat} {s : State} {ad : Nat → Nat} {N : Nat} {w w' : Nat → va_E} {H : Heap} {locs : List Loc} (h : gH D base s ad N w H locs) (e : ∀ k, w k = w' k) : gH D base s ad N w' H locs := by
  have : w = w' := funext e
  subst this
  exact h
/-- what every method is given: the classes, the words on the nest, what the throws need -/
def gnest : List Cond := [.methodLinkNest "Commutator" 9 ⟨"Commutator$PointTable", "<init>", "()V"⟩ "Commutator", .fieldLinkNest "Commutator" 68 "Commutator$PointTable" "count" "I" "Commutator", .fieldLinkNest "Commutator$Sender" 30 "Commutator$PointTable" "count" "I" "Commutator", .fieldLinkNest "Commutator$Decoder" 35 "Commutator$PointTable" "count" "I" "Commutator", .methodLinkNest "Commutator" 18 ⟨"Commutator$Line", "<init>", "()V"⟩ "Commutator", .methodLinkNest "Commutator" 25 ⟨"Commutator$Sender", "<init>", "()V"⟩ "Commutator", .fieldLinkNest "Commutator" 58 "Commutator$Sender" "wordsSent" "I" "Commutator", .methodLinkNest "Commutator" 32 ⟨"Commutator$Synchroniser", "<init>", "()V"⟩ "Commutator", .fieldLinkNest "Commutator" 145 "Commutator$Synchroniser" "mode" "I" "Commutator", .fieldLinkNest "Commutator" 148 "Commutator$Synchroniser" "takenBits" "I" "Commutator", .fieldLinkNest "Commutator" 137 "Commutator$Synchroniser" "latest" "J" "Commutator", .methodLinkNest "Commutator" 39 ⟨"Commutator$Decoder", "<init>", "()V"⟩ "Commutator", .fieldLinkNest "Commutator" 121 "Commutator$Decoder" "usedFrames" "I" "Commutator", .fieldLinkNest "Commutator" 151 "Commutator$Decoder" "lostFrames" "I" "Commutator", .fieldLinkNest "Commutator" 154 "Commutator$Decoder" "repeatedFrames" "I" "Commutator", .fieldLinkNest "Commutator" 160 "Commutator$Decoder" "latestNumber" "I" "Commutator", .methodLinkNest "Commutator$DerivedTable" 17 ⟨"Commutator$Derived", "<init>", "()V"⟩ "Commutator", .methodLinkNest "Commutator$Derived" 9 ⟨"Commutator$Reading", "<init>", "()V"⟩ "Commutator", .fieldLinkNest "Commutator$DerivedTable" 56 "Commutator$Reading" "known" "Z" "Commutator", .fieldLinkNest "Commutator" 208 "Commutator$Reading" "known" "Z" "Commutator", .fieldLinkNest "Commutator$Derived" 20 "Commutator$Reading" "amount" "I" "Commutator", .fieldLinkNest "Commutator" 167 "Commutator$Reading" "amount" "I" "Commutator", .fieldLinkNest "Commutator$Derived" 36 "Commutator$Reading" "moment" "I" "Commutator", .fieldLinkNest "Commutator" 172 "Commutator$Reading" "moment" "I" "Commutator", .fieldLinkNest "Commutator$DerivedTable" 22 "Commutator$Derived" "defined" "Z" "Commutator", .fieldLinkNest "Commutator$DerivedTable" 26 "Commutator$Derived" "operation" "I" "Commutator", .fieldLinkNest "Commutator$DerivedTable" 30 "Commutator$Derived" "first" "I" "Commutator", .fieldLinkNest "Commutator$DerivedTable" 33 "Commutator$Derived" "second" "I" "Commutator", .fieldLinkNest "Commutator$DerivedTable" 43 "Commutator$Derived" "result" "LCommutator$Reading;" "Commutator", .methodLinkNest "Commutator$Point" 33 ⟨"Commutator$Reading", "<init>", "()V"⟩ "Commutator", .fieldLinkNest "Commutator" 75 "Commutator$Point" "phase" "I" "Commutator", .fieldLinkNest "Commutator" 80 "Commutator$Point" "offset" "I" "Commutator", .fieldLinkNest "Commutator$Sender" 53 "Commutator$Point" "present" "I" "Commutator", .fieldLinkNest "Commutator" 93 "Commutator$Point" "present" "I" "Commutator", .fieldLinkNest "Commutator$DerivedTable" 72 "Commutator$Point" "latest" "LCommutator$Reading;" "Commutator", .fieldLinkNest "Commutator" 205 "Commutator$Point" "latest" "LCommutator$Reading;" "Commutator", .fieldLinkNest "Commutator" 175 "Commutator$Point" "sampleCount" "I" "Commutator", .fieldLinkNest "Commutator" 178 "Commutator$Point" "missingCount" "I" "Commutator"]
def gisN (w : Cond) : Bool := match w with
  | .fieldLinkNest _ _ _ _ _ _ => true
  | .methodLinkNest _ _ _ _ => true
  | _ => false
theorem gnest_is : ∀ w ∈ gnest, gisN w = true := by decide +kernel
theorem gnest_tbl : ∀ w ∈ gnest, w ∈ lw_tbl := by decide +kernel
def gE (D : va_G) (cy : Nat → ClassId) (base : Nat) (U : State) : Prop := va_K D vwCl (gty cy) U ∧ (∀ w ∈ gnest, va_Nw w U) ∧ base ≤ U.heap.size ∧ vx_Zq Bundle.tN "UNASSIGNED_STACK" Bundle.steD (fun q => base ≤ q) U U.heap ∧ vx_Zq Bundle.tN "SUPPRESSED_SENTINEL" Bundle.listD (fun q => base ≤ q) U U.heap
theorem gnest_warm {s U : State} (hW : s.WarmedH U.vm) {w : Cond} (hw : w ∈ gnest) (h : va_Nw w s) : va_Nw w U := by
  have h2 := gnest_is w hw
  cases w <;> first | exact va_Nw.warmF hW h | exact va_Nw.warmM hW h | (simp [gisN] at h2)
theorem gnest_tabs {w : Cond} (hw : w ∈ gnest) : w.onTables = true := by
  have h2 := gnest_is w hw
  cases w <;> first | rfl | (simp [gisN] at h2)
theorem gE.warm {D : va_G} {cy : Nat → ClassId} {base : Nat} {s U : State} {H : Heap} {locs : List Loc} (h : gE D cy base s) (hS : va_S (fun q => base ≤ q) s.heap H locs) (hU : U.heap = H) (hW : s.WarmedH U.vm) : gE D cy base U := by
  obtain ⟨h1, h2, h3, h4, h5⟩ := h
  refine ⟨h1.moved hW.alike, fun w hw => gnest_warm hW hw (h2 w hw), ?_, ?_, ?_⟩
  · rw [hU]; exact Nat.le_trans h3 hS.1
  · rw [hU]; exact (h4.moved hW.alike).kept (fun a ha hn => hS.2.1 a ha hn)
  · rw [hU]; exact (h5.moved hW.alike).kept (fun a ha hn => hS.2.1 a ha hn)
theorem gE.blind {D : va_G} {cy : Nat → ClassId} {base : Nat} {U : State} {g : JFrame} {mk : MethodId} {a : Array Value} (h : gE D cy base U) : gE D cy base (U.calling g mk a) := by
  obtain ⟨h1, h2, h3, h4, h5⟩ := h
  exact ⟨h1.moved (u := U) (U := U.calling g mk a) (Vm.Alike.refl U.vm), fun w hw => va_Nw.same (gnest_tabs hw) (u := U) (U := U.calling g mk a) rfl (h2 w hw), h3, h4.moved (u := U) (U := U.calling g mk a) (Vm.Alike.refl U.vm), h5.moved (u := U) (U := U.calling g mk a) (Vm.Alike.refl U.vm)⟩
abbrev gS : Type := (Nat → Nat → Int32) × (Nat → Nat → Int64)
def gQc {S : Type} (post : Option Value → S → Prop) (B : S → State → Prop) (A : Nat → Prop) : Array Value → State → Outcome → State → Prop := fun _ st oc t => (∃ (v : Option Value) (u : S), oc = .returned v ∧ post v u ∧ B u t) ∧ va_F A st t
/-- the start of a method: its arguments, the world -/
def gPre (D : va_G) (cy : Nat → ClassId) (base : Nat) (ad : Nat → Nat) (N : Nat) (w : Nat → va_E) (av : List Value) : Array Value → State → Prop := va_Pc av (fun U => gE D cy base U ∧ va_P D vwCl (gl ad N w) U.heap ∧ va_D (fun q => base ≤ q) (gl ad N w))
/-- its end: the same cells -/
def gPost (D : va_G) (cy : Nat → ClassId) (base : Nat) (ad : Nat → Nat) (n : Nat) (post : Option Value → (Nat → Nat → Int32) → (Nat → Nat → Int64) → Prop) : Array Value → State → Outcome → State → Prop := gQc (S := gS) (fun v u => post v u.1 u.2) (fun u t => va_P D vwCl (gl ad (33 + 2 * n) (gw cy ad n u.1 u.2)) t.heap) (fun q => base ≤ q)
abbrev gMet (l : Launch) (y : MethodName) (ws : List Cond) (rm : Room) (D : va_G) (cy : Nat → ClassId) (base : Nat) (ad : Nat → Nat) (n : Nat) (A : Nat → Nat → Int32) (J : Nat → Nat → Int64) (av : List Value) (post : Option Value → (Nat → Nat → Int32) → (Nat → Nat → Int64) → Prop) : Prop :=
  Met l y ws rm (gPre D cy base ad (33 + 2 * n) (gw cy ad n A J) av) (gPost D cy base ad n post) 0 0 (fun q => base ≤ q)
theorem gPre.blind {D : va_G} {cy : Nat → ClassId} {base : Nat} {ad : Nat → Nat} {N : Nat} {w : Nat → va_E} {av : List Value} : FrameBlind (gPre D cy base ad N w av) := fun a U g mk h => ⟨h.1, h.2.1.blind, h.2.2.1, h.2.2.2⟩
theorem gl_D {A : Nat → Prop} {ad : Nat → Nat} {N : Nat} {w w' : Nat → va_E} (h : va_D A (gl ad N w)) : va_D A (gl ad N w') := by
  have key : ∀ (k : Nat) (q : Nat × va_E), (gl ad N w')[k]? = some q → k < N ∧ q.1 = ad k := by
    intro k q hk
    by_cases hN : k < N
    · rw [gl_at hN] at hk
      cases hk
      exact ⟨hN, rfl⟩
    · rw [List.getElem?_eq_none (by unfold gl; simp; omega)] at hk
      cases hk
  refine ⟨fun i j p q hi hj hpq => ?_, fun k q hk => ?_⟩
  · obtain ⟨a1, a2⟩ := key i p hi
    obtain ⟨b1, b2⟩ := key j q hj
    exact h.1 i j _ _ (gl_at a1) (gl_at b1) (by show ad i = ad j; rw [← a2, ← b2, hpq])
  · obtain ⟨a1, a2⟩ := key k q hk
    rw [a2]
    exact h.2 k _ (gl_at a1)

/-! ===== between the checks ===== -/
theorem LI.keep {n : Nat} {A A1 : Nat → Nat → Int32} {J J1 : Nat → Nat → Int64} {G : Nat → Nat → Int} (h : LI n A J G) (hC : CAll n A1 J1 G) (hA : ∀ k, 28 ≤ k → A1 k = A k) : LI n A1 J1 G := by
  obtain ⟨a, b, c, d, e, c1, c2, f0, f1, f2, f3, f4⟩ := id h
  exact h.mk hC (hA 28 (by omega)) (fun _ _ _ _ => rfl) (fun i hi => by rw [hA 30 (by omega)]; exact c i hi) (fun k hk => by rw [hA 32 (by omega)]; exact d k hk) ⟨e, fun z => ⟨z, rfl⟩⟩ (by rw [hA 31 (by omega)]) (by rw [hA 31 (by omega)]; exact f0) ⟨c1, by rw [hA 31 (by omega)]; exact f1, f4⟩
theorem LI.recv {n : Nat} {A : Nat → Nat → Int32} {J : Nat → Nat → Int64} {G : Nat → Nat → Int} (h : LI n A J G) : LI n (gu A 31 2 (zI (if G 28 21 = 0 then -1 else mFst G))) J G := by
  obtain ⟨a, b, c, d, e, c1, c2, f0, f1, f2, f3, f4⟩ := h
  have g : ∀ k, k ≠ 31 → gu A 31 2 (zI (if G 28 21 = 0 then -1 else mFst G)) k = A k := fun k z => gu_ne _ _ _ z
  refine ⟨a.of (fun k hk => g k (by omega)), b.to (g 28 (by decide)) (fun _ _ _ _ => rfl), fun i hi => by rw [g 30 (by decide)]; exact c i hi, fun k hk => by rw [g 32 (by decide)]; exact d k hk, e, c1, if G 28 21 = 0 then -1 else mFst G, by rw [gu_at, if_neg (by omega)]; exact f0, by rw [gu_at, if_neg (by omega)]; exact f1, by rw [gu_at, if_pos ⟨rfl, rfl⟩], ?_, f4⟩
  by_cases z : G 28 21 = 0
  · rw [if_pos z]; exact Or.inl rfl
  · rw [if_neg z]; exact Or.inr ⟨z, rfl⟩
theorem spare_sum {n : Nat} {A : Nat → Nat → Int32} {J : Nat → Nat → Int64} {G : Nat → Nat → Int} (h : LI n A J G) (hJ : J 29 = J 3) : (192 : Int) - (nCnt (lnat (J 29 0)) 64 : Int) - (nCnt (lnat (J 29 1)) 64 : Int) - (nCnt (lnat (J 29 2)) 64 : Int) - (nCnt (lnat (J 29 3)) 64 : Int) = mSpare G 192 := by
  have hU : UsR J G := h.1.2.2.2.2.2.2.1
  rw [← gCnt_spare hU, hJ]
  simp only [gCnt]
  push_cast
  omega
theorem PL_points_all {cy : Nat → ClassId} {n : Nat} {ad : Nat → Nat} {A : Nat → Nat → Int32} {J : Nat → Nat → Int64} {G : Nat → Nat → Int} {v : Option Value} {ad1 : Nat → Nat} {N1 : Nat} {w1 : Nat → va_E} (h : PL_points cy n ad A J v ad1 N1 w1) (hL : LI n A J G) (hJ9 : J 29 = J 3) (h09 : G 28 9 = 0) : v = some (.int (nI 1)) ∧ ∃ (n1 : Nat) (A1 : Nat → Nat → Int32) (J1 : Nat → Nat → Int64) (G1 : Nat → Nat → Int), (∀ k, k < 33 → ad1 k = ad k) ∧ N1 = 33 + 2 * n1 ∧ w1 = gw cy ad1 n1 A1 J1 ∧ LI n1 A1 J1 G1 ∧ J1 29 = J1 3 ∧ G1 28 9 = 0 ∧ n1 ≠ 0 := by
  obtain ⟨hv, h2⟩ := h
  refine ⟨hv, ?_⟩
  rcases h2 with ⟨hn, rfl, rfl, rfl⟩ | ⟨had, hN, A1, J1, G1, hw, hL1, hJ1, h1⟩
  · exact ⟨n, A, J, G, fun _ _ => rfl, rfl, rfl, hL, hJ9, h09, hn⟩
  · exact ⟨n + 1, A1, J1, G1, fun k hk => had k (by omega), hN, hw, hL1, hJ1, h1, by omega⟩
section GR
variable {p : Program} {l : Launch} {e : Env} {R : Room} {s : State} {m : MethodId} {args : Array Value} {below : List Frame} {meth : Method} {c : Code} {H : Heap} {locs : List Loc} {cells slots : Nat} {Q : State → Prop}
variable {cc : ByteArray} {pc : Nat} {ls : Array Slot} {rest : List Value} {D : va_G} {cy : Nat → ClassId} {base : Nat} {ad : Nat → Nat} {N n : Nat} {w : Nat → va_E} {A : Nat → Nat → Int32} {J : Nat → Nat → Int64}
theorem gS_callS {y : MethodName} {bytes : ByteArray} {maxL nL nn index b L : Nat} {xs : Nat → Int32} {ret : Option FieldType} {ws : List Cond} {rm : Room} {Ts : List Cond} {own : String} {As st0 : List Value} {post : Option Value → (Nat → Nat → Int32) → (Nat → Nat → Int64) → Prop}
    (S : CallFix p m c cc nL s args Ts own) (hE : gE D cy base s) (hX : gXS b L xs base s) (hG : gH D base s ad (33 + 2 * n) (gw cy ad n A J) H locs) (hM : Met l y ws rm (gPreS D cy base b L xs ad (33 + 2 * n) (gw cy ad n A J) As) (gPost D cy base ad n post) 0 0 (fun q => base ≤ q)) (cw : CallB R s args own index y bytes maxL ret ws rm 0 0 nn ∧ (Cond.static y).before args s = true)
    (hn : As.length = nn) (hsize : ls.size = nL) (hst : st0 = As.reverse ++ rest) (hW : (rest.map fun v => v.category).sum ≤ 8) (hdg : decode cc pc = .ok (.invokestatic index, 3)) (hf : cells ≤ R.cells ∧ slots ≤ R.slots)
    (kk : ∀ (v : Option Value) (A : Nat → Nat → Int32) (J : Nat → Nat → Int64) (H : Heap) (locs : List Loc), post v A J → gH D base s ad (33 + 2 * n) (gw cy ad n A J) H locs → W p l e R s m args below meth c H locs cells slots Q (F0 m (pc + 3) ls (v.toList ++ rest))) : W p l e R s m args below meth c H locs cells slots Q (F0 m pc ls st0) := by
  refine g_fin (rest := rest) (mc := 0) (ms := 0) (va_runS (As := As) (rest := rest) (g := F0 m pc ls st0) S hM cw (gS_pre hE hX hG As) rfl hn hsize hst (by show 2 * 0 + _ ≤ 8; omega) hdg hf) hG.2.2 (fun v u t H1 locs1 ht hp hB hz hS => ?_)
  exact kk v u.1 u.2 H1 locs1 hp ⟨by rw [← ht]; exact hB, gl_D hG.2.1, hS⟩
end GR

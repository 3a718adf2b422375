/-! ===== the class's answers and the reference's ===== -/
theorem MRep.same {A A1 : Nat → Nat → Int32} {G : Nat → Nat → Int} (h : MRep A G) (e : ∀ k, 28 ≤ k → k < 50 → A1 k = A k) : MRep A1 G := fun k j h1 h2 h3 => by rw [e k h1 (by omega)]; exact h k j h1 h2 h3
theorem CAll.th {n : Nat} {A : Nat → Nat → Int32} {J : Nat → Nat → Int64} {G : Nat → Nat → Int} (h : CAll n A J G) (v : Int32) : CAll n (gu A 28 34 v) J G := h.of (fun k hk => gu_ne _ _ _ (by omega))
theorem CAll.j49 {n : Nat} {A : Nat → Nat → Int32} {J : Nat → Nat → Int64} {G : Nat → Nat → Int} (h : CAll n A J G) (v : Int64) : CAll n A (gu J 49 0 v) G := h.ofJ (fun k hk => gu_ne _ _ _ (by omega))
theorem CAll.mo {n : Nat} {A A1 : Nat → Nat → Int32} {J : Nat → Nat → Int64} {G : Nat → Nat → Int} (h : CAll n A J G) (e : MOnly A A1) : CAll n A1 J G := h.of (fun k hk => e k (by omega))
theorem J49 {J : Nat → Nat → Int64} {v : Int64} : gu J 49 0 v 49 0 = v := by rw [gu_at, if_pos ⟨rfl, rfl⟩]
theorem A34 {A : Nat → Nat → Int32} {v : Int32} : gu A 28 34 v 28 34 = v := by rw [gu_at, if_pos ⟨rfl, rfl⟩]
/-- what is to be shown of a call: the same throw or the same answer, and all of it again -/
def brOk (n : Nat) (G : Nat → Nat → Int) (v : Option Value) (J1 : Nat → Nat → Int64) (v2 : Option Value) (A2 : Nat → Nat → Int32) (J2 : Nat → Nat → Int64) : Prop :=
  ∃ (k : Nat) (r2 : Int32) (G1 : Nat → Nat → Int), v = some (.int (nI k)) ∧ v2 = some (.int r2) ∧ A2 28 34 = nI k ∧ k ≤ 2 ∧ (k = 0 → J1 49 0 = r2.toInt64) ∧ CAll n A2 J2 G1 ∧ MRep A2 G1
theorem nI_toI {j : Nat} (h : j < 2147483648) : (nI j).toInt = (j : Int) := nI_toInt (by omega)
section BR
variable {n : Nat} {ad : Nat → Nat} {A : Nat → Nat → Int32} {J : Nat → Nat → Int64} {G : Nat → Nat → Int} {x : Int32} {v : Option Value} {A1 : Nat → Nat → Int32} {J1 : Nat → Nat → Int64}
theorem br_place (hC : CAll n A J G) (hM : MRep A G) (hq : qL1 (PX9_place ad A J G n x.toInt) (EX9_place ad A J G n x.toInt) "java/lang/IndexOutOfBoundsException" v A1 J1) : MRep A1 G ∧ ∀ v2 A2 J2, PX10_place ad A1 J1 G x v2 A2 J2 → brOk n G v J1 v2 A2 J2 := by
  obtain ⟨hct, hn, hT, hFs, hpr, hz, hU, hD, hso, hse, hli, hsy, hde, hcd, hok, hdv, hdr, hsn, hol, hln⟩ := id hC
  have hta := hok.2.2.1
  rcases hq with ⟨r, J3, ⟨iq, hr, rfl, rfl, hiq⟩, rfl, rfl⟩ | ⟨rfl, -, rfl, rfl, hno⟩
  · cases hr
    refine ⟨hM, fun v2 A2 J2 h2 => ?_⟩
    rcases h2 with ⟨jq, rfl, rfl, rfl, rfl, hj⟩ | ⟨rfl, rfl, rfl, hno⟩
    · rw [nI_toI (by omega)] at hiq
      obtain rfl : iq = jq := by omega
      exact ⟨0, _, G, rfl, rfl, A34, by decide, fun _ => J49, (hC.j49 _).th _, hM.th _⟩
    · exfalso; omega
  · refine ⟨hM, fun v2 A2 J2 h2 => ?_⟩
    rcases h2 with ⟨jq, rfl, rfl, rfl, rfl, hj⟩ | ⟨rfl, rfl, rfl, hno2⟩
    · exfalso; rw [nI_toI (by omega)] at hno; omega
    · exact ⟨1, _, G, rfl, rfl, A34, by decide, fun z => absurd z (by decide), hC.th _, hM.th _⟩
theorem br_samples (hC : CAll n A J G) (hM : MRep A G) (hq : qL1 (PX9_samples ad A J G n x.toInt) (EX9_samples ad A J G n x.toInt) "java/lang/IndexOutOfBoundsException" v A1 J1) : MRep A1 G ∧ ∀ v2 A2 J2, PX10_samples ad A1 J1 G x v2 A2 J2 → brOk n G v J1 v2 A2 J2 := by
  obtain ⟨hct, hn, hT, hFs, hpr, hz, hU, hD, hso, hse, hli, hsy, hde, hcd, hok, hdv, hdr, hsn, hol, hln⟩ := id hC
  have hta := hok.2.2.1
  rcases hq with ⟨r, J3, ⟨iq, hr, rfl, rfl, hiq⟩, rfl, rfl⟩ | ⟨rfl, -, rfl, rfl, hno⟩
  · cases hr
    refine ⟨hM, fun v2 A2 J2 h2 => ?_⟩
    rcases h2 with ⟨jq, rfl, rfl, rfl, rfl, hj⟩ | ⟨rfl, rfl, rfl, hno⟩
    · rw [nI_toI (by omega)] at hiq
      obtain rfl : iq = jq := by omega
      exact ⟨0, _, G, rfl, rfl, A34, by decide, fun _ => J49, (hC.j49 _).th _, hM.th _⟩
    · exfalso; omega
  · refine ⟨hM, fun v2 A2 J2 h2 => ?_⟩
    rcases h2 with ⟨jq, rfl, rfl, rfl, rfl, hj⟩ | ⟨rfl, rfl, rfl, hno2⟩
    · exfalso; rw [nI_toI (by omega)] at hno; omega
    · exact ⟨1, _, G, rfl, rfl, A34, by decide, fun z => absurd z (by decide), hC.th _, hM.th _⟩
theorem br_missing (hC : CAll n A J G) (hM : MRep A G) (hq : qL1 (PX9_missing ad A J G n x.toInt) (EX9_missing ad A J G n x.toInt) "java/lang/IndexOutOfBoundsException" v A1 J1) : MRep A1 G ∧ ∀ v2 A2 J2, PX10_missing ad A1 J1 G x v2 A2 J2 → brOk n G v J1 v2 A2 J2 := by
  obtain ⟨hct, hn, hT, hFs, hpr, hz, hU, hD, hso, hse, hli, hsy, hde, hcd, hok, hdv, hdr, hsn, hol, hln⟩ := id hC
  have hta := hok.2.2.1
  rcases hq with ⟨r, J3, ⟨iq, hr, rfl, rfl, hiq⟩, rfl, rfl⟩ | ⟨rfl, -, rfl, rfl, hno⟩
  · cases hr
    refine ⟨hM, fun v2 A2 J2 h2 => ?_⟩
    rcases h2 with ⟨jq, rfl, rfl, rfl, rfl, hj⟩ | ⟨rfl, rfl, rfl, hno⟩
    · rw [nI_toI (by omega)] at hiq
      obtain rfl : iq = jq := by omega
      exact ⟨0, _, G, rfl, rfl, A34, by decide, fun _ => J49, (hC.j49 _).th _, hM.th _⟩
    · exfalso; omega
  · refine ⟨hM, fun v2 A2 J2 h2 => ?_⟩
    rcases h2 with ⟨jq, rfl, rfl, rfl, rfl, hj⟩ | ⟨rfl, rfl, rfl, hno2⟩
    · exfalso; rw [nI_toI (by omega)] at hno; omega
    · exact ⟨1, _, G, rfl, rfl, A34, by decide, fun z => absurd z (by decide), hC.th _, hM.th _⟩
theorem br_value (hC : CAll n A J G) (hM : MRep A G) (hq : qL2 (PX9_value ad A J G n x.toInt) (EX9_value ad A J G n x.toInt) "java/lang/IndexOutOfBoundsException" "java/util/NoSuchElementException" v A1 J1) : MRep A1 G ∧ ∀ v2 A2 J2, PX10_value ad A1 J1 G x v2 A2 J2 → brOk n G v J1 v2 A2 J2 := by
  obtain ⟨hct, hn, hT, hFs, hpr, hz, hU, hD, hso, hse, hli, hsy, hde, hcd, hok, hdv, hdr, hsn, hol, hln⟩ := id hC
  have hta := hok.2.2.1
  rcases hq with ⟨r, J3, ⟨iq, hr, rfl, rfl, hiq⟩, rfl, rfl⟩ | ⟨rfl, ⟨-, rfl, rfl, hno⟩ | ⟨he, -⟩⟩ | ⟨rfl, ⟨he, -⟩ | ⟨-, rfl, rfl, iq, hi1, hi2, hi3⟩⟩
  · cases hr
    refine ⟨hM, fun v2 A2 J2 h2 => ?_⟩
    rcases h2 with ⟨jq, rfl, rfl, rfl, rfl, hj, hj2⟩ | ⟨rfl, rfl, rfl, hno⟩ | ⟨jq, rfl, rfl, rfl, rfl, hj, hj2⟩
    · rw [nI_toI (by omega)] at hiq
      obtain rfl : iq = jq := by omega
      exact ⟨0, _, G, rfl, rfl, A34, by decide, fun _ => J49, (hC.j49 _).th _, hM.th _⟩
    · exfalso; omega
    · exfalso
      rw [nI_toI (by omega)] at hiq
      obtain rfl : iq = jq := by omega
      exact hiq.2.2 hj2
  · refine ⟨hM, fun v2 A2 J2 h2 => ?_⟩
    rcases h2 with ⟨jq, rfl, rfl, rfl, rfl, hj, hj2⟩ | ⟨rfl, rfl, rfl, hno2⟩ | ⟨jq, rfl, rfl, rfl, rfl, hj, hj2⟩
    · exfalso; rw [nI_toI (by omega)] at hno; omega
    · exact ⟨1, _, G, rfl, rfl, A34, by decide, fun z => absurd z (by decide), hC.th _, hM.th _⟩
    · exfalso; rw [nI_toI (by omega)] at hno; omega
  · exact absurd he (by decide)
  · exact absurd he (by decide)
  · refine ⟨hM, fun v2 A2 J2 h2 => ?_⟩
    rcases h2 with ⟨jq, rfl, rfl, rfl, rfl, hj, hj2⟩ | ⟨rfl, rfl, rfl, hno⟩ | ⟨jq, rfl, rfl, rfl, rfl, hj, hj2⟩
    · exfalso
      rw [nI_toI (by omega)] at hi2
      obtain rfl : iq = jq := by omega
      exact hj2 hi3
    · exfalso; omega
    · exact ⟨2, _, G, rfl, rfl, A34, by decide, fun z => absurd z (by decide), hC.th _, hM.th _⟩
theorem br_time (hC : CAll n A J G) (hM : MRep A G) (hq : qL2 (PX9_time ad A J G n x.toInt) (EX9_time ad A J G n x.toInt) "java/lang/IndexOutOfBoundsException" "java/util/NoSuchElementException" v A1 J1) : MRep A1 G ∧ ∀ v2 A2 J2, PX10_time ad A1 J1 G x v2 A2 J2 → brOk n G v J1 v2 A2 J2 := by
  obtain ⟨hct, hn, hT, hFs, hpr, hz, hU, hD, hso, hse, hli, hsy, hde, hcd, hok, hdv, hdr, hsn, hol, hln⟩ := id hC
  have hta := hok.2.2.1
  rcases hq with ⟨r, J3, ⟨iq, hr, rfl, rfl, hiq⟩, rfl, rfl⟩ | ⟨rfl, ⟨-, rfl, rfl, hno⟩ | ⟨he, -⟩⟩ | ⟨rfl, ⟨he, -⟩ | ⟨-, rfl, rfl, iq, hi1, hi2, hi3⟩⟩
  · cases hr
    refine ⟨hM, fun v2 A2 J2 h2 => ?_⟩
    rcases h2 with ⟨jq, rfl, rfl, rfl, rfl, hj, hj2⟩ | ⟨rfl, rfl, rfl, hno⟩ | ⟨jq, rfl, rfl, rfl, rfl, hj, hj2⟩
    · rw [nI_toI (by omega)] at hiq
      obtain rfl : iq = jq := by omega
      exact ⟨0, _, G, rfl, rfl, A34, by decide, fun _ => J49, (hC.j49 _).th _, hM.th _⟩
    · exfalso; omega
    · exfalso
      rw [nI_toI (by omega)] at hiq
      obtain rfl : iq = jq := by omega
      exact hiq.2.2 hj2
  · refine ⟨hM, fun v2 A2 J2 h2 => ?_⟩
    rcases h2 with ⟨jq, rfl, rfl, rfl, rfl, hj, hj2⟩ | ⟨rfl, rfl, rfl, hno2⟩ | ⟨jq, rfl, rfl, rfl, rfl, hj, hj2⟩
    · exfalso; rw [nI_toI (by omega)] at hno; omega
    · exact ⟨1, _, G, rfl, rfl, A34, by decide, fun z => absurd z (by decide), hC.th _, hM.th _⟩
    · exfalso; rw [nI_toI (by omega)] at hno; omega
  · exact absurd he (by decide)
  · exact absurd he (by decide)
  · refine ⟨hM, fun v2 A2 J2 h2 => ?_⟩
    rcases h2 with ⟨jq, rfl, rfl, rfl, rfl, hj, hj2⟩ | ⟨rfl, rfl, rfl, hno⟩ | ⟨jq, rfl, rfl, rfl, rfl, hj, hj2⟩
    · exfalso
      rw [nI_toI (by omega)] at hi2
      obtain rfl : iq = jq := by omega
      exact hj2 hi3
    · exfalso; omega
    · exact ⟨2, _, G, rfl, rfl, A34, by decide, fun z => absurd z (by decide), hC.th _, hM.th _⟩
theorem br_bit (hC : CAll n A J G) (hM : MRep A G) (hq : qL1 (PX9_bit ad A J G n x.toInt) (EX9_bit ad A J G n x.toInt) "java/lang/IndexOutOfBoundsException" v A1 J1) : MRep A1 G ∧ ∀ v2 A2 J2, PX10_bit ad A1 J1 G x v2 A2 J2 → brOk n G v J1 v2 A2 J2 := by
  obtain ⟨hct, hn, hT, hFs, hpr, hz, hU, hD, hso, hse, hli, hsy, hde, hcd, hok, hdv, hdr, hsn, hol, hln⟩ := id hC
  have hta := hok.2.2.1
  rcases hq with ⟨r, J3, ⟨hr, rfl, rfl, hin⟩, rfl, rfl⟩ | ⟨rfl, -, rfl, rfl, hno⟩
  · cases hr
    refine ⟨hM, fun v2 A2 J2 h2 => ?_⟩
    rcases h2 with ⟨jq, rfl, rfl, rfl, rfl, hj⟩ | ⟨rfl, rfl, rfl, hno⟩
    · rw [nI_toI (by omega)]
      exact ⟨0, _, G, rfl, rfl, A34, by decide, fun _ => J49, (hC.j49 _).th _, hM.th _⟩
    · exfalso; omega
  · refine ⟨hM, fun v2 A2 J2 h2 => ?_⟩
    rcases h2 with ⟨jq, rfl, rfl, rfl, rfl, hj⟩ | ⟨rfl, rfl, rfl, hno2⟩
    · exfalso; rw [nI_toI (by omega)] at hno; omega
    · exact ⟨1, _, G, rfl, rfl, A34, by decide, fun z => absurd z (by decide), hC.th _, hM.th _⟩
theorem br_matches (hC : CAll n A J G) (hM : MRep A G) (hq : qL1 (PX9_matches ad A J G n x.toInt) (EX9_matches ad A J G n x.toInt) "java/lang/IllegalArgumentException" v A1 J1) : MRep A1 G ∧ ∀ v2 A2 J2, PX10_matches ad A1 J1 G x v2 A2 J2 → brOk n G v J1 v2 A2 J2 := by
  obtain ⟨hct, hn, hT, hFs, hpr, hz, hU, hD, hso, hse, hli, hsy, hde, hcd, hok, hdv, hdr, hsn, hol, hln⟩ := id hC
  have hta := hok.2.2.1
  rcases hq with ⟨r, J3, ⟨hr, rfl, rfl, hin⟩, rfl, rfl⟩ | ⟨rfl, -, rfl, rfl, hno⟩
  · cases hr
    refine ⟨hM, fun v2 A2 J2 h2 => ?_⟩
    rcases h2 with ⟨jq, rfl, rfl, rfl, rfl, hj⟩ | ⟨rfl, rfl, rfl, hno⟩
    · rw [nI_toI (by omega)]
      exact ⟨0, _, G, rfl, rfl, A34, by decide, fun _ => J49, (hC.j49 _).th _, hM.th _⟩
    · exfalso; omega
  · refine ⟨hM, fun v2 A2 J2 h2 => ?_⟩
    rcases h2 with ⟨jq, rfl, rfl, rfl, rfl, hj⟩ | ⟨rfl, rfl, rfl, hno2⟩
    · exfalso; rw [nI_toI (by omega)] at hno; omega
    · exact ⟨1, _, G, rfl, rfl, A34, by decide, fun z => absurd z (by decide), hC.th _, hM.th _⟩
theorem br_number (hC : CAll n A J G) (hM : MRep A G) (hq : qL1 (PX9_number ad A J G n ) (EX9_number ad A J G n ) "java/util/NoSuchElementException" v A1 J1) : MRep A1 G ∧ ∀ v2 A2 J2, PX10_number ad A1 J1 G  v2 A2 J2 → brOk n G v J1 v2 A2 J2 := by
  obtain ⟨hct, hn, hT, hFs, hpr, hz, hU, hD, hso, hse, hli, hsy, hde, hcd, hok, hdv, hdr, hsn, hol, hln⟩ := id hC
  have hta := hok.2.2.1
  rcases hq with ⟨r, J3, ⟨hr, rfl, rfl, hne⟩, rfl, rfl⟩ | ⟨rfl, -, rfl, rfl, hno⟩
  · cases hr
    refine ⟨hM, fun v2 A2 J2 h2 => ?_⟩
    rcases h2 with ⟨rfl, rfl, rfl, h3⟩ | ⟨rfl, rfl, rfl, h3⟩
    · exact ⟨0, _, G, rfl, rfl, A34, by decide, fun _ => J49, (hC.j49 _).th _, hM.th _⟩
    · exact absurd h3 hne
  · refine ⟨hM, fun v2 A2 J2 h2 => ?_⟩
    rcases h2 with ⟨rfl, rfl, rfl, h3⟩ | ⟨rfl, rfl, rfl, h3⟩
    · exact absurd hno h3
    · exact ⟨1, _, G, rfl, rfl, A34, by decide, fun z => absurd z (by decide), hC.th _, hM.th _⟩
theorem br_put (hC : CAll n A J G) (hM : MRep A G) {y : Int32} (hq : qL2 (PX9_put ad A J G n x.toInt y.toInt) (EX9_put ad A J G n x.toInt y.toInt) "java/lang/IndexOutOfBoundsException" "java/lang/IllegalArgumentException" v A1 J1) : MRep A1 G ∧ ∀ v2 A2 J2, PX10_put ad A1 J1 G x y v2 A2 J2 → brOk n G v J1 v2 A2 J2 := by
  obtain ⟨hct, hn, hT, hFs, hpr, hz, hU, hD, hso, hse, hli, hsy, hde, hcd, hok, hdv, hdr, hsn, hol, hln⟩ := id hC
  have hta := hok.2.2.1
  rcases hq with ⟨r, J3, ⟨iq, hr, rfl, hiq, hC1, hO⟩, rfl, rfl⟩ | ⟨rfl, ⟨-, rfl, rfl, hno⟩ | ⟨he, -⟩⟩ | ⟨rfl, ⟨he, -⟩ | ⟨-, rfl, rfl, iq, hi1, hi2, hi3⟩⟩
  · cases hr
    have hM1 : MRep A1 G := hM.same (fun k a b => hO k b)
    refine ⟨hM1, fun v2 A2 J2 h2 => ?_⟩
    rcases h2 with ⟨rfl, rfl, rfl, hno⟩ | ⟨jq, rfl, rfl, rfl, rfl, hj, hj2⟩ | ⟨jq, rfl, rfl, rfl, rfl, hj, hj2⟩
    · exfalso; omega
    · exfalso
      rw [nI_toI (by omega)] at hiq
      obtain rfl : iq = jq := by omega
      exact hj2 hiq.2.2
    · rw [nI_toI (by omega)] at hiq
      obtain rfl : iq = jq := by omega
      refine ⟨0, _, gu G 35 iq y.toInt, rfl, rfl, ?_, by decide, fun _ => J49, ((hC1.j49 _).of (fun k hk => ?_)), ?_⟩
      · rw [gu_ne _ _ _ (by decide)]; exact A34
      · rw [gu_ne _ _ _ (by omega), gu_ne _ _ _ (by omega), gu_ne _ _ _ (by omega)]
      · have h9 := ((hM1.th (nI 0)).th (nI 0)).up 35 iq y.toInt
        rw [zI_of] at h9
        exact h9
  · refine ⟨hM, fun v2 A2 J2 h2 => ?_⟩
    rcases h2 with ⟨rfl, rfl, rfl, hno2⟩ | ⟨jq, rfl, rfl, rfl, rfl, hj, hj2⟩ | ⟨jq, rfl, rfl, rfl, rfl, hj, hj2⟩
    · exact ⟨1, _, G, rfl, rfl, A34, by decide, fun z => absurd z (by decide), hC.th _, hM.th _⟩
    · exfalso; rw [nI_toI (by omega)] at hno; omega
    · exfalso; rw [nI_toI (by omega)] at hno; omega
  · exact absurd he (by decide)
  · exact absurd he (by decide)
  · refine ⟨hM, fun v2 A2 J2 h2 => ?_⟩
    rcases h2 with ⟨rfl, rfl, rfl, hno⟩ | ⟨jq, rfl, rfl, rfl, rfl, hj, hj2⟩ | ⟨jq, rfl, rfl, rfl, rfl, hj, hj2⟩
    · exfalso; omega
    · exact ⟨2, _, G, rfl, rfl, A34, by decide, fun z => absurd z (by decide), (hC.th _).th _, (hM.th _).th _⟩
    · exfalso
      rw [nI_toI (by omega)] at hi2
      obtain rfl : iq = jq := by omega
      exact hi3 hj2
theorem br_send (hC : CAll n A J G) (hM : MRep A G) (hq : qL2 (PX9_send ad A J G n x.toInt) (EX9_send ad A J G n x.toInt) "java/lang/IllegalArgumentException" "java/lang/IllegalStateException" v A1 J1) : MRep A1 G ∧ ∀ v2 A2 J2, PX10_send ad A1 J1 G x v2 A2 J2 → brOk n G v J1 v2 A2 J2 := by
  obtain ⟨hct, hn, hT, hFs, hpr, hz, hU, hD, hso, hse, hli, hsy, hde, hcd, hok, hdv, hdr, hsn, hol, hln⟩ := id hC
  have hta := hok.2.2.1
  rcases hq with ⟨r, J3, ⟨hr, hin, hC1, hO⟩, rfl, rfl⟩ | ⟨rfl, ⟨-, rfl, rfl, hno⟩ | ⟨he, -⟩⟩ | ⟨rfl, ⟨he, -⟩ | ⟨-, rfl, rfl, hno⟩⟩
  · cases hr
    have hM1 : MRep A1 G := hM.same hO
    refine ⟨hM1, fun v2 A2 J2 h2 => ?_⟩
    rcases h2 with ⟨rfl, rfl, rfl, hno⟩ | ⟨rfl, rfl, rfl, h3, h4⟩ | ⟨jq, rfl, rfl, rfl, hj, hj2, hR, hO2, hth⟩
    · exfalso; omega
    · exfalso; omega
    · rw [nI_toI (by omega)] at hC1 ⊢
      exact ⟨0, _, mSend G jq, rfl, rfl, hth, by decide, fun _ => J49, (hC1.j49 _).mo hO2, hR⟩
  · refine ⟨hM, fun v2 A2 J2 h2 => ?_⟩
    rcases h2 with ⟨rfl, rfl, rfl, hno2⟩ | ⟨rfl, rfl, rfl, h3, h4⟩ | ⟨jq, rfl, rfl, rfl, hj, hj2, hR, hO2, hth⟩
    · exact ⟨1, _, G, rfl, rfl, A34, by decide, fun z => absurd z (by decide), hC.th _, hM.th _⟩
    · exfalso; omega
    · exfalso; rw [nI_toI (by omega)] at hno; omega
  · exact absurd he (by decide)
  · exact absurd he (by decide)
  · refine ⟨hM, fun v2 A2 J2 h2 => ?_⟩
    rcases h2 with ⟨rfl, rfl, rfl, hno2⟩ | ⟨rfl, rfl, rfl, h3, h4⟩ | ⟨jq, rfl, rfl, rfl, hj, hj2, hR, hO2, hth⟩
    · exfalso; omega
    · exact ⟨2, _, G, rfl, rfl, A34, by decide, fun z => absurd z (by decide), hC.th _, hM.th _⟩
    · exfalso; rw [nI_toI (by omega)] at hno; omega
theorem br_flip (hC : CAll n A J G) (hM : MRep A G) (hq : qL1 (PX9_flip ad A J G n x.toInt) (EX9_flip ad A J G n x.toInt) "java/lang/IndexOutOfBoundsException" v A1 J1) : MRep A1 G ∧ ∀ v2 A2 J2, PX10_flip ad A1 J1 G x v2 A2 J2 → brOk n G v J1 v2 A2 J2 := by
  obtain ⟨hct, hn, hT, hFs, hpr, hz, hU, hD, hso, hse, hli, hsy, hde, hcd, hok, hdv, hdr, hsn, hol, hln⟩ := id hC
  have hta := hok.2.2.1
  rcases hq with ⟨r, J3, ⟨hr, rfl, hin, hC1, hO⟩, rfl, rfl⟩ | ⟨rfl, -, rfl, rfl, hno⟩
  · cases hr
    have hM1 : MRep A1 G := hM.same (fun k a b => hO k (by omega))
    refine ⟨hM1, fun v2 A2 J2 h2 => ?_⟩
    rcases h2 with ⟨jq, rfl, rfl, rfl, rfl, hj⟩ | ⟨rfl, rfl, rfl, hno⟩
    · rw [nI_toI (by omega)] at hC1 ⊢
      refine ⟨0, _, gu G 37 jq (1 - G 37 jq), rfl, rfl, ?_, by decide, fun _ => J49, (hC1.j49 _).of (fun k hk => ?_), (hM1.th _).up 37 jq _⟩
      · rw [gu_ne _ _ _ (by decide)]; exact A34
      · rw [gu_ne _ _ _ (by omega), gu_ne _ _ _ (by omega)]
    · exfalso; omega
  · refine ⟨hM, fun v2 A2 J2 h2 => ?_⟩
    rcases h2 with ⟨jq, rfl, rfl, rfl, rfl, hj⟩ | ⟨rfl, rfl, rfl, hno2⟩
    · exfalso; rw [nI_toI (by omega)] at hno; omega
    · exact ⟨1, _, G, rfl, rfl, A34, by decide, fun z => absurd z (by decide), hC.th _, hM.th _⟩
theorem br_cut (hC : CAll n A J G) (hM : MRep A G) {y : Int32} (hq : qL2 (PX9_cut ad A J G n x.toInt y.toInt) (EX9_cut ad A J G n x.toInt y.toInt) "java/lang/IllegalArgumentException" "java/lang/IndexOutOfBoundsException" v A1 J1) : MRep A1 G ∧ ∀ v2 A2 J2, PX10_cut ad A1 J1 G x y v2 A2 J2 → brOk n G v J1 v2 A2 J2 := by
  obtain ⟨hct, hn, hT, hFs, hpr, hz, hU, hD, hso, hse, hli, hsy, hde, hcd, hok, hdv, hdr, hsn, hol, hln⟩ := id hC
  have hta := hok.2.2.1
  rcases hq with ⟨r, J3, ⟨hr, rfl, hin, hC1, hO⟩, rfl, rfl⟩ | ⟨rfl, ⟨-, rfl, rfl, hno⟩ | ⟨he, -⟩⟩ | ⟨rfl, ⟨he, -⟩ | ⟨-, rfl, rfl, hno⟩⟩
  · cases hr
    have hM1 : MRep A1 G := hM.same (fun k a _ => hO k a)
    refine ⟨hM1, fun v2 A2 J2 h2 => ?_⟩
    rcases h2 with ⟨rfl, rfl, rfl, hno⟩ | ⟨rfl, rfl, rfl, h3, h4⟩ | ⟨ixq, cnq, rfl, rfl, rfl, rfl, hc1, hc2, hR, hO2, hth⟩
    · exfalso; omega
    · exfalso; omega
    · rw [nI_toI (by omega), nI_toI (by omega)] at hC1
      rw [nI_toI (j := cnq) (by omega)]
      exact ⟨0, _, mDrop G ixq cnq (G 28 10 - (cnq : Int)).toNat, rfl, rfl, hth, by decide, fun _ => J49, (hC1.j49 _).mo hO2, hR⟩
  · refine ⟨hM, fun v2 A2 J2 h2 => ?_⟩
    rcases h2 with ⟨rfl, rfl, rfl, hno2⟩ | ⟨rfl, rfl, rfl, h3, h4⟩ | ⟨ixq, cnq, rfl, rfl, rfl, rfl, hc1, hc2, hR, hO2, hth⟩
    · exact ⟨1, _, G, rfl, rfl, A34, by decide, fun z => absurd z (by decide), hC.th _, hM.th _⟩
    · exfalso; omega
    · exfalso; rw [nI_toI (by omega)] at hno; omega
  · exact absurd he (by decide)
  · exact absurd he (by decide)
  · refine ⟨hM, fun v2 A2 J2 h2 => ?_⟩
    rcases h2 with ⟨rfl, rfl, rfl, hno2⟩ | ⟨rfl, rfl, rfl, h3, h4⟩ | ⟨ixq, cnq, rfl, rfl, rfl, rfl, hc1, hc2, hR, hO2, hth⟩
    · exfalso; omega
    · exact ⟨2, _, G, rfl, rfl, A34, by decide, fun z => absurd z (by decide), hC.th _, hM.th _⟩
    · exfalso; rw [nI_toI (by omega), nI_toI (by omega)] at hno; omega
theorem br_receive (hC : CAll n A J G) (hM : MRep A G) (hq : qL1 (PX9_receive ad A J G n x.toInt) (EX9_receive ad A J G n x.toInt) "java/lang/IllegalArgumentException" v A1 J1) : MRep A1 G ∧ ∀ v2 A2 J2, PX10_receive ad A1 J1 G x v2 A2 J2 → brOk n G v J1 v2 A2 J2 := by
  obtain ⟨hct, hn, hT, hFs, hpr, hz, hU, hD, hso, hse, hli, hsy, hde, hcd, hok, hdv, hdr, hsn, hol, hln⟩ := id hC
  have hta := hok.2.2.1
  rcases hq with ⟨r, J3, ⟨mq, hr, hin, hmq, hC1, hO⟩, rfl, rfl⟩ | ⟨rfl, -, rfl, rfl, hno⟩
  · cases hr
    have hM1 : MRep A1 G := hM.same hO
    refine ⟨hM1, fun v2 A2 J2 h2 => ?_⟩
    rcases h2 with ⟨rfl, rfl, rfl, hno⟩ | ⟨jq, mp, rfl, rfl, rfl, hj, hD2, hR, hO2, hth⟩
    · exfalso; omega
    · rw [nI_toI (by omega)] at hmq
      obtain rfl : mq = mp := by omega
      exact ⟨0, _, mDrop (mRcv G mq) 0 mq (G 28 10 - (mq : Int)).toNat, rfl, rfl, hth, by decide, fun _ => J49, (hC1.j49 _).mo hO2, hR⟩
  · refine ⟨hM, fun v2 A2 J2 h2 => ?_⟩
    rcases h2 with ⟨rfl, rfl, rfl, hno2⟩ | ⟨jq, mp, rfl, rfl, rfl, hj, hD2, hR, hO2, hth⟩
    · exact ⟨1, _, G, rfl, rfl, A34, by decide, fun z => absurd z (by decide), hC.th _, hM.th _⟩
    · exfalso; rw [nI_toI (by omega)] at hno; omega
theorem br_derivedValue (hC : CAll n A J G) (hM : MRep A G) (hq : qL2 (PX9_derivedValue ad A J G n x.toInt) (EX9_derivedValue ad A J G n x.toInt) "java/lang/IllegalArgumentException" "java/util/NoSuchElementException" v A1 J1) : MRep A1 G ∧ ∀ v2 A2 J2, PX10_derivedValue ad A1 J1 G x v2 A2 J2 → brOk n G v J1 v2 A2 J2 := by
  obtain ⟨hct, hn, hT, hFs, hpr, hz, hU, hD, hso, hse, hli, hsy, hde, hcd, hok, hdv, hdr, hsn, hol, hln⟩ := id hC
  have hta := hok.2.2.1
  rcases hq with ⟨r, J3, ⟨iq, hr, rfl, hiq, hO⟩, rfl, rfl⟩ | ⟨rfl, ⟨-, rfl, rfl, hno⟩ | ⟨he, -⟩⟩ | ⟨rfl, ⟨he, -⟩ | ⟨-, rfl, hno, hO⟩⟩
  · obtain rfl := Value.int.inj (Option.some.inj hr)
    have hM1 : MRep A1 G := hM.same (fun k a _ => hO k (by omega))
    have hC1 : CAll n A1 J (mDers G) := hC.ders hO
    refine ⟨hM1, fun v2 A2 J2 h2 => ?_⟩
    rcases h2 with ⟨jq, rfl, rfl, rfl, hj, hj2, hR, hO2, hth⟩ | ⟨rfl, rfl, hno, hR, hO2, hth⟩ | ⟨jq, rfl, rfl, rfl, hj, hj2, hR, hO2, hth⟩
    · rw [nI_toI (by omega)] at hiq
      obtain rfl : iq = jq := by omega
      exact ⟨0, _, mDers G, rfl, rfl, hth, by decide, fun _ => J49, (hC1.j49 _).mo hO2, hR⟩
    · exfalso; omega
    · exfalso
      rw [nI_toI (by omega)] at hiq
      obtain rfl : iq = jq := by omega
      rw [hiq.2.2] at hj2
      exact absurd hj2 (by decide)
  · have hC1 : CAll n A J (mDers G) := hC.ders (fun _ _ => rfl)
    refine ⟨hM, fun v2 A2 J2 h2 => ?_⟩
    rcases h2 with ⟨jq, rfl, rfl, rfl, hj, hj2, hR, hO2, hth⟩ | ⟨rfl, rfl, hno2, hR, hO2, hth⟩ | ⟨jq, rfl, rfl, rfl, hj, hj2, hR, hO2, hth⟩
    · exfalso; rw [nI_toI (by omega)] at hno; omega
    · exact ⟨1, _, mDers G, rfl, rfl, hth, by decide, fun z => absurd z (by decide), hC1.mo hO2, hR⟩
    · exfalso; rw [nI_toI (by omega)] at hno; omega
  · exact absurd he (by decide)
  · exact absurd he (by decide)
  · have hM1 : MRep A1 G := hM.same (fun k a _ => hO k (by omega))
    have hC1 : CAll n A1 J (mDers G) := hC.ders hO
    refine ⟨hM1, fun v2 A2 J2 h2 => ?_⟩
    rcases h2 with ⟨jq, rfl, rfl, rfl, hj, hj2, hR, hO2, hth⟩ | ⟨rfl, rfl, hno2, hR, hO2, hth⟩ | ⟨jq, rfl, rfl, rfl, hj, hj2, hR, hO2, hth⟩
    · exfalso
      rw [nI_toI (by omega)] at hno
      have h9 := hno.2.2
      rw [show ((jq : Int)).toNat = jq from by omega, hj2] at h9
      exact absurd h9 (by decide)
    · exfalso; omega
    · exact ⟨2, _, mDers G, rfl, rfl, hth, by decide, fun z => absurd z (by decide), hC1.mo hO2, hR⟩
theorem br_derivedTime (hC : CAll n A J G) (hM : MRep A G) (hq : qL2 (PX9_derivedTime ad A J G n x.toInt) (EX9_derivedTime ad A J G n x.toInt) "java/lang/IllegalArgumentException" "java/util/NoSuchElementException" v A1 J1) : MRep A1 G ∧ ∀ v2 A2 J2, PX10_derivedTime ad A1 J1 G x v2 A2 J2 → brOk n G v J1 v2 A2 J2 := by
  obtain ⟨hct, hn, hT, hFs, hpr, hz, hU, hD, hso, hse, hli, hsy, hde, hcd, hok, hdv, hdr, hsn, hol, hln⟩ := id hC
  have hta := hok.2.2.1
  rcases hq with ⟨r, J3, ⟨iq, hr, rfl, hiq, hO⟩, rfl, rfl⟩ | ⟨rfl, ⟨-, rfl, rfl, hno⟩ | ⟨he, -⟩⟩ | ⟨rfl, ⟨he, -⟩ | ⟨-, rfl, hno, hO⟩⟩
  · obtain rfl := Value.int.inj (Option.some.inj hr)
    have hM1 : MRep A1 G := hM.same (fun k a _ => hO k (by omega))
    have hC1 : CAll n A1 J (mDers G) := hC.ders hO
    refine ⟨hM1, fun v2 A2 J2 h2 => ?_⟩
    rcases h2 with ⟨jq, rfl, rfl, rfl, hj, hj2, hR, hO2, hth⟩ | ⟨rfl, rfl, hno, hR, hO2, hth⟩ | ⟨jq, rfl, rfl, rfl, hj, hj2, hR, hO2, hth⟩
    · rw [nI_toI (by omega)] at hiq
      obtain rfl : iq = jq := by omega
      exact ⟨0, _, mDers G, rfl, rfl, hth, by decide, fun _ => J49, (hC1.j49 _).mo hO2, hR⟩
    · exfalso; omega
    · exfalso
      rw [nI_toI (by omega)] at hiq
      obtain rfl : iq = jq := by omega
      rw [hiq.2.2] at hj2
      exact absurd hj2 (by decide)
  · have hC1 : CAll n A J (mDers G) := hC.ders (fun _ _ => rfl)
    refine ⟨hM, fun v2 A2 J2 h2 => ?_⟩
    rcases h2 with ⟨jq, rfl, rfl, rfl, hj, hj2, hR, hO2, hth⟩ | ⟨rfl, rfl, hno2, hR, hO2, hth⟩ | ⟨jq, rfl, rfl, rfl, hj, hj2, hR, hO2, hth⟩
    · exfalso; rw [nI_toI (by omega)] at hno; omega
    · exact ⟨1, _, mDers G, rfl, rfl, hth, by decide, fun z => absurd z (by decide), hC1.mo hO2, hR⟩
    · exfalso; rw [nI_toI (by omega)] at hno; omega
  · exact absurd he (by decide)
  · exact absurd he (by decide)
  · have hM1 : MRep A1 G := hM.same (fun k a _ => hO k (by omega))
    have hC1 : CAll n A1 J (mDers G) := hC.ders hO
    refine ⟨hM1, fun v2 A2 J2 h2 => ?_⟩
    rcases h2 with ⟨jq, rfl, rfl, rfl, hj, hj2, hR, hO2, hth⟩ | ⟨rfl, rfl, hno2, hR, hO2, hth⟩ | ⟨jq, rfl, rfl, rfl, hj, hj2, hR, hO2, hth⟩
    · exfalso
      rw [nI_toI (by omega)] at hno
      have h9 := hno.2.2
      rw [show ((jq : Int)).toNat = jq from by omega, hj2] at h9
      exact absurd h9 (by decide)
    · exfalso; omega
    · exact ⟨2, _, mDers G, rfl, rfl, hth, by decide, fun z => absurd z (by decide), hC1.mo hO2, hR⟩
theorem br_derive {x y z u : Int32} (hC : CAll n A J G) (hM : MRep A G) (hq : (v = some (.int (nI 0)) ∧ PX9_derive ad A J G n x.toInt y.toInt z.toInt u.toInt none A1 J1) ∨ (v = some (.int (nI 1)) ∧ EX9_derive ad A J G n x.toInt y.toInt z.toInt u.toInt "java/lang/IllegalArgumentException" A1 J1) ∨ (v = some (.int (nI 2)) ∧ EX9_derive ad A J G n x.toInt y.toInt z.toInt u.toInt "java/lang/IllegalStateException" A1 J1)) :
    MRep A1 G ∧ ∀ v2 A2 J2, PX10_derive ad A1 J1 G x.toInt y.toInt z.toInt u.toInt v2 A2 J2 → ∃ (k : Nat) (G1 : Nat → Nat → Int), v = some (.int (nI k)) ∧ v2 = none ∧ A2 28 34 = nI k ∧ k ≤ 2 ∧ CAll n A2 J2 G1 ∧ MRep A2 G1 := by
  rcases hq with ⟨rfl, -, rfl, hg, hnr, hC1, hO⟩ | ⟨rfl, ⟨-, rfl, rfl, hno⟩ | ⟨he, -⟩⟩ | ⟨rfl, ⟨he, -⟩ | ⟨-, rfl, rfl, hg, hre⟩⟩
  · have hM1 : MRep A1 G := hM.same (fun k a _ => hO k a)
    refine ⟨hM1, fun v2 A2 J2 h2 => ?_⟩
    rcases h2 with ⟨rfl, rfl, rfl, h3⟩ | ⟨rfl, rfl, rfl, h3, h4⟩ | ⟨rfl, rfl, rfl, h3, h4⟩
    · exact absurd hg h3
    · exact absurd h4 hnr
    · refine ⟨0, _, rfl, rfl, ?_, by decide, hC1.of (fun k hk => ?_), (((hM1.th _).up 43 _ _).up 44 _ _).up 45 _ _⟩
      · rw [gu_ne _ _ _ (by decide), gu_ne _ _ _ (by decide), gu_ne _ _ _ (by decide)]; exact A34
      · rw [gu_ne _ _ _ (by omega), gu_ne _ _ _ (by omega), gu_ne _ _ _ (by omega), gu_ne _ _ _ (by omega)]
  · refine ⟨hM, fun v2 A2 J2 h2 => ?_⟩
    rcases h2 with ⟨rfl, rfl, rfl, h3⟩ | ⟨rfl, rfl, rfl, h3, h4⟩ | ⟨rfl, rfl, rfl, h3, h4⟩
    · exact ⟨1, G, rfl, rfl, A34, by decide, hC.th _, hM.th _⟩
    · exact absurd h3 hno
    · exact absurd h3 hno
  · exact absurd he (by decide)
  · exact absurd he (by decide)
  · refine ⟨hM, fun v2 A2 J2 h2 => ?_⟩
    rcases h2 with ⟨rfl, rfl, rfl, h3⟩ | ⟨rfl, rfl, rfl, h3, h4⟩ | ⟨rfl, rfl, rfl, h3, h4⟩
    · exact absurd hg h3
    · exact ⟨2, G, rfl, rfl, A34, by decide, hC.th _, hM.th _⟩
    · exact absurd hre h4
end BR

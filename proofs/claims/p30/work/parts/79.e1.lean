abbrev PX9_isPointAllowed (ad : Nat → Nat) (A : Nat → Nat → Int32) (J : Nat → Nat → Int64) (wq cq pq : Int) (tq : Nat) : Option Value → (Nat → Nat → Int32) → (Nat → Nat → Int64) → Prop := fun v_ A1 J1 => (v_ = some (.int (nI 1)) ∧ A = A1 ∧ J = J1 ∧ (mGood wq cq pq tq)) ∨ (v_ = some (.int (nI 0)) ∧ A = A1 ∧ J = J1 ∧ (¬ (mGood wq cq pq tq)))
set_option maxHeartbeats 4000000 in
set_option maxRecDepth 100000 in
theorem cX9_isPointAllowedC (l : Launch) (D : va_G) (cy : Nat → ClassId) (base : Nat) (ad : Nat → Nat) (n : Nat) (A : Nat → Nat → Int32) (J : Nat → Nat → Int64) (wq cq pq : Int) (tq : Nat) (hwq9 : -2147483648 ≤ wq ∧ wq < 2147483648) (hcq9 : -2147483648 ≤ cq ∧ cq < 2147483648) (hpq9 : -2147483648 ≤ pq ∧ pq < 2147483648) (htq : tq ≤ 1) : gMet l yX9_isPointAllowed wsX9_isPointAllowed ({ frames := 0, cells := 0, slots := 0, locals := 0 } : Room) D cy base ad n A J [.int (zI wq), .int (zI cq), .int (zI pq), .int (nI tq)] (PX9_isPointAllowed ad A J wq cq pq tq) := by
  refine g_ofW (cc := cX9_isPointAllowed) (maxL := 5) (ret := (some .boolean)) (by decide) rfl (Nat.le_of_ble_eq_true rfl) ?_
  intro pM eM sM mM aM bM methM cM H locs ls hx hb hr hts hown hlocks hml hE hG hl
  have hl : lv_has ls 5 [(0, .int (zI wq)), (1, .int (zI cq)), (2, .int (zI pq)), (3, .int (nI tq))] := hl
  refine lv_iload_n hx hb dX9_isPointAllowed_0 rfl (lv_at hl 1 rfl) ?_
  refine lv_if_lt (tgt := 9) hx hb dX9_isPointAllowed_1 (by decide) (fun c1 => ?_) (fun c1 => ?_)
  · skip
    have c1 : (zI cq) < nI 0 := c1
    have c1 : cq < ((0 : Nat) : Int) := (cmp_lt (zI_toInt (by omega) (by omega)) (nI_toInt (by omega))).mp c1
    refine lv_iconst (v := nI 0) hx hb dX9_isPointAllowed_9 (by decide) ?_
    exact g_zret hx hb hr hlocks hG rfl (by first | exact Or.inl ⟨rfl, rfl, rfl, (by first | omega | (unfold mGood; omega))⟩ | exact Or.inr (⟨rfl, rfl, rfl, (by first | omega | (unfold mGood; omega))⟩)) dX9_isPointAllowed_10
  · skip
    have c1 : ¬ ((zI cq) < nI 0) := c1
    have c1 : ¬ (cq < ((0 : Nat) : Int)) := fun z9 => c1 ((cmp_lt (zI_toInt (by omega) (by omega)) (nI_toInt (by omega))).mpr z9)
    refine lv_iload_n hx hb dX9_isPointAllowed_4 rfl (lv_at hl 1 rfl) ?_
    refine lv_iconst (v := nI 3) hx hb dX9_isPointAllowed_5 (by decide) ?_
    refine lv_icmp_le (tgt := 11) hx hb dX9_isPointAllowed_6 (by decide) (fun c6 => ?_) (fun c6 => ?_)
    · skip
      have c6 : cq ≤ ((3 : Nat) : Int) := (cmp_le (zI_toInt (by omega) (by omega)) (nI_toInt (by omega))).mp c6
      refine lv_iload_n hx hb dX9_isPointAllowed_11 rfl (lv_at hl 1 rfl) ?_
      refine lv_if_ne (tgt := 19) hx hb dX9_isPointAllowed_12 (by decide) (fun c12 => ?_) (fun c12 => ?_)
      · skip
        have c12 : ¬ ((zI cq) = nI 0) := c12
        have c12 : ¬ (cq = ((0 : Nat) : Int)) := fun z9 => c12 ((cmp_eq (zI_toInt (by omega) (by omega)) (nI_toInt (by omega))).mpr z9)
        refine lv_iconst (v := nI 2) hx hb dX9_isPointAllowed_19 (by decide) ?_
        refine lv_istore (lv' := [(4, .int (nI 2)), (0, .int (zI wq)), (1, .int (zI cq)), (2, .int (zI pq)), (3, .int (nI tq))]) hx hb dX9_isPointAllowed_20 hl (by decide) rfl (fun ls hl => ?_)
        refine lv_iload_n hx hb dX9_isPointAllowed_22 rfl (lv_at hl 1 rfl) ?_
        refine lv_iload hx hb dX9_isPointAllowed_23 (lv_at hl 0 rfl) ?_
        refine lv_icmp_lt (tgt := 34) hx hb dX9_isPointAllowed_25 (by decide) (fun c25 => ?_) (fun c25 => ?_)
        · skip
          have c25 : wq < ((2 : Nat) : Int) := (cmp_lt (zI_toInt (by omega) (by omega)) (nI_toInt (by omega))).mp c25
          refine lv_iconst (v := nI 0) hx hb dX9_isPointAllowed_34 (by decide) ?_
          exact g_zret hx hb hr hlocks hG rfl (by first | exact Or.inl ⟨rfl, rfl, rfl, (by first | omega | (unfold mGood; omega))⟩ | exact Or.inr (⟨rfl, rfl, rfl, (by first | omega | (unfold mGood; omega))⟩)) dX9_isPointAllowed_35
        · skip
          have c25 : ¬ (wq < ((2 : Nat) : Int)) := fun z9 => c25 ((cmp_lt (zI_toInt (by omega) (by omega)) (nI_toInt (by omega))).mpr z9)
          refine lv_iload_n hx hb dX9_isPointAllowed_28 rfl (lv_at hl 1 rfl) ?_
          refine lv_bipush (v := nI 12) hx hb dX9_isPointAllowed_29 (by decide) ?_
          refine lv_icmp_le (tgt := 36) hx hb dX9_isPointAllowed_31 (by decide) (fun c31 => ?_) (fun c31 => ?_)
          · skip
            have c31 : wq ≤ ((12 : Nat) : Int) := (cmp_le (zI_toInt (by omega) (by omega)) (nI_toInt (by omega))).mp c31
            refine lv_iload_n hx hb dX9_isPointAllowed_36 rfl (lv_at hl 3 rfl) ?_
            refine lv_iconst (v := nI 1) hx hb dX9_isPointAllowed_37 (by decide) ?_
            refine lv_icmp_eq (tgt := 55) hx hb dX9_isPointAllowed_38 (by decide) (fun c38 => ?_) (fun c38 => ?_)
            · skip
              have c38 : pq = ((1 : Nat) : Int) := (cmp_eq (zI_toInt (by omega) (by omega)) (nI_toInt (by omega))).mp c38
              refine lv_iconst (v := nI 1) hx hb dX9_isPointAllowed_55 (by decide) ?_
              refine lv_goto (tgt := 60) hx hb dX9_isPointAllowed_56 (by decide) ?_
              exact g_zret hx hb hr hlocks hG rfl (by first | exact Or.inl ⟨rfl, rfl, rfl, (by first | omega | (unfold mGood; omega))⟩ | exact Or.inr (⟨rfl, rfl, rfl, (by first | omega | (unfold mGood; omega))⟩)) dX9_isPointAllowed_60
            · skip
              have c38 : ¬ (pq = ((1 : Nat) : Int)) := fun z9 => c38 ((cmp_eq (zI_toInt (by omega) (by omega)) (nI_toInt (by omega))).mpr z9)
              refine lv_iload_n hx hb dX9_isPointAllowed_41 rfl (lv_at hl 4 rfl) ?_
              refine lv_if_ne (tgt := 59) hx hb dX9_isPointAllowed_42 (by decide) (fun c42 => ?_) (fun c42 => ?_)
              · skip
                have c42 : ¬ ((nI tq) = nI 0) := c42
                have c42 : ¬ (tq = 0) := fun z9 => c42 ((nI_eq (by omega) (by omega)).mpr z9)
                refine lv_iconst (v := nI 0) hx hb dX9_isPointAllowed_59 (by decide) ?_
                exact g_zret hx hb hr hlocks hG rfl (by first | exact Or.inl ⟨rfl, rfl, rfl, (by first | omega | (unfold mGood; omega))⟩ | exact Or.inr (⟨rfl, rfl, rfl, (by first | omega | (unfold mGood; omega))⟩)) dX9_isPointAllowed_60
              · skip
                have c42 : (nI tq) = nI 0 := c42
                have c42 : tq = 0 := (nI_eq (by omega) (by omega)).mp c42
                refine lv_iload_n hx hb dX9_isPointAllowed_45 rfl (lv_at hl 3 rfl) ?_
                refine lv_iconst (v := nI 2) hx hb dX9_isPointAllowed_46 (by decide) ?_
                refine lv_icmp_eq (tgt := 55) hx hb dX9_isPointAllowed_47 (by decide) (fun c47 => ?_) (fun c47 => ?_)
                · skip
                  have c47 : pq = ((2 : Nat) : Int) := (cmp_eq (zI_toInt (by omega) (by omega)) (nI_toInt (by omega))).mp c47
                  refine lv_iconst (v := nI 1) hx hb dX9_isPointAllowed_55 (by decide) ?_
                  refine lv_goto (tgt := 60) hx hb dX9_isPointAllowed_56 (by decide) ?_
                  exact g_zret hx hb hr hlocks hG rfl (by first | exact Or.inl ⟨rfl, rfl, rfl, (by first | omega | (unfold mGood; omega))⟩ | exact Or.inr (⟨rfl, rfl, rfl, (by first | omega | (unfold mGood; omega))⟩)) dX9_isPointAllowed_60
                · skip
                  have c47 : ¬ (pq = ((2 : Nat) : Int)) := fun z9 => c47 ((cmp_eq (zI_toInt (by omega) (by omega)) (nI_toInt (by omega))).mpr z9)
                  refine lv_iload_n hx hb dX9_isPointAllowed_50 rfl (lv_at hl 3 rfl) ?_
                  refine lv_iconst (v := nI 4) hx hb dX9_isPointAllowed_51 (by decide) ?_
                  refine lv_icmp_ne (tgt := 59) hx hb dX9_isPointAllowed_52 (by decide) (fun c52 => ?_) (fun c52 => ?_)
                  · skip
                    have c52 : ¬ (pq = ((4 : Nat) : Int)) := fun z9 => c52 ((cmp_eq (zI_toInt (by omega) (by omega)) (nI_toInt (by omega))).mpr z9)
                    refine lv_iconst (v := nI 0) hx hb dX9_isPointAllowed_59 (by decide) ?_
                    exact g_zret hx hb hr hlocks hG rfl (by first | exact Or.inl ⟨rfl, rfl, rfl, (by first | omega | (unfold mGood; omega))⟩ | exact Or.inr (⟨rfl, rfl, rfl, (by first | omega | (unfold mGood; omega))⟩)) dX9_isPointAllowed_60
                  · skip
                    have c52 : pq = ((4 : Nat) : Int) := (cmp_eq (zI_toInt (by omega) (by omega)) (nI_toInt (by omega))).mp c52
                    refine lv_iconst (v := nI 1) hx hb dX9_isPointAllowed_55 (by decide) ?_
                    refine lv_goto (tgt := 60) hx hb dX9_isPointAllowed_56 (by decide) ?_
                    exact g_zret hx hb hr hlocks hG rfl (by first | exact Or.inl ⟨rfl, rfl, rfl, (by first | omega | (unfold mGood; omega))⟩ | exact Or.inr (⟨rfl, rfl, rfl, (by first | omega | (unfold mGood; omega))⟩)) dX9_isPointAllowed_60
          · skip
            have c31 : ¬ (wq ≤ ((12 : Nat) : Int)) := fun z9 => c31 ((cmp_le (zI_toInt (by omega) (by omega)) (nI_toInt (by omega))).mpr z9)
            refine lv_iconst (v := nI 0) hx hb dX9_isPointAllowed_34 (by decide) ?_
            exact g_zret hx hb hr hlocks hG rfl (by first | exact Or.inl ⟨rfl, rfl, rfl, (by first | omega | (unfold mGood; omega))⟩ | exact Or.inr (⟨rfl, rfl, rfl, (by first | omega | (unfold mGood; omega))⟩)) dX9_isPointAllowed_35
      · skip
        have c12 : (zI cq) = nI 0 := c12
        have c12 : cq = ((0 : Nat) : Int) := (cmp_eq (zI_toInt (by omega) (by omega)) (nI_toInt (by omega))).mp c12
        refine lv_iconst (v := nI 1) hx hb dX9_isPointAllowed_15 (by decide) ?_
        refine lv_goto (tgt := 20) hx hb dX9_isPointAllowed_16 (by decide) ?_
        refine lv_istore (lv' := [(4, .int (nI 1)), (0, .int (zI wq)), (1, .int (zI cq)), (2, .int (zI pq)), (3, .int (nI tq))]) hx hb dX9_isPointAllowed_20 hl (by decide) rfl (fun ls hl => ?_)
        refine lv_iload_n hx hb dX9_isPointAllowed_22 rfl (lv_at hl 1 rfl) ?_
        refine lv_iload hx hb dX9_isPointAllowed_23 (lv_at hl 0 rfl) ?_
        refine lv_icmp_lt (tgt := 34) hx hb dX9_isPointAllowed_25 (by decide) (fun c25 => ?_) (fun c25 => ?_)
        · skip
          have c25 : wq < ((1 : Nat) : Int) := (cmp_lt (zI_toInt (by omega) (by omega)) (nI_toInt (by omega))).mp c25
          refine lv_iconst (v := nI 0) hx hb dX9_isPointAllowed_34 (by decide) ?_
          exact g_zret hx hb hr hlocks hG rfl (by first | exact Or.inl ⟨rfl, rfl, rfl, (by first | omega | (unfold mGood; omega))⟩ | exact Or.inr (⟨rfl, rfl, rfl, (by first | omega | (unfold mGood; omega))⟩)) dX9_isPointAllowed_35
        · skip
          have c25 : ¬ (wq < ((1 : Nat) : Int)) := fun z9 => c25 ((cmp_lt (zI_toInt (by omega) (by omega)) (nI_toInt (by omega))).mpr z9)
          refine lv_iload_n hx hb dX9_isPointAllowed_28 rfl (lv_at hl 1 rfl) ?_
          refine lv_bipush (v := nI 12) hx hb dX9_isPointAllowed_29 (by decide) ?_
          refine lv_icmp_le (tgt := 36) hx hb dX9_isPointAllowed_31 (by decide) (fun c31 => ?_) (fun c31 => ?_)
          · skip
            have c31 : wq ≤ ((12 : Nat) : Int) := (cmp_le (zI_toInt (by omega) (by omega)) (nI_toInt (by omega))).mp c31
            refine lv_iload_n hx hb dX9_isPointAllowed_36 rfl (lv_at hl 3 rfl) ?_
            refine lv_iconst (v := nI 1) hx hb dX9_isPointAllowed_37 (by decide) ?_
            refine lv_icmp_eq (tgt := 55) hx hb dX9_isPointAllowed_38 (by decide) (fun c38 => ?_) (fun c38 => ?_)
            · skip
              have c38 : pq = ((1 : Nat) : Int) := (cmp_eq (zI_toInt (by omega) (by omega)) (nI_toInt (by omega))).mp c38
              refine lv_iconst (v := nI 1) hx hb dX9_isPointAllowed_55 (by decide) ?_
              refine lv_goto (tgt := 60) hx hb dX9_isPointAllowed_56 (by decide) ?_
              exact g_zret hx hb hr hlocks hG rfl (by first | exact Or.inl ⟨rfl, rfl, rfl, (by first | omega | (unfold mGood; omega))⟩ | exact Or.inr (⟨rfl, rfl, rfl, (by first | omega | (unfold mGood; omega))⟩)) dX9_isPointAllowed_60
            · skip
              have c38 : ¬ (pq = ((1 : Nat) : Int)) := fun z9 => c38 ((cmp_eq (zI_toInt (by omega) (by omega)) (nI_toInt (by omega))).mpr z9)
              refine lv_iload_n hx hb dX9_isPointAllowed_41 rfl (lv_at hl 4 rfl) ?_
              refine lv_if_ne (tgt := 59) hx hb dX9_isPointAllowed_42 (by decide) (fun c42 => ?_) (fun c42 => ?_)
              · skip
                have c42 : ¬ ((nI tq) = nI 0) := c42
                have c42 : ¬ (tq = 0) := fun z9 => c42 ((nI_eq (by omega) (by omega)).mpr z9)
                refine lv_iconst (v := nI 0) hx hb dX9_isPointAllowed_59 (by decide) ?_
                exact g_zret hx hb hr hlocks hG rfl (by first | exact Or.inl ⟨rfl, rfl, rfl, (by first | omega | (unfold mGood; omega))⟩ | exact Or.inr (⟨rfl, rfl, rfl, (by first | omega | (unfold mGood; omega))⟩)) dX9_isPointAllowed_60
              · skip
                have c42 : (nI tq) = nI 0 := c42
                have c42 : tq = 0 := (nI_eq (by omega) (by omega)).mp c42
                refine lv_iload_n hx hb dX9_isPointAllowed_45 rfl (lv_at hl 3 rfl) ?_
                refine lv_iconst (v := nI 2) hx hb dX9_isPointAllowed_46 (by decide) ?_
                refine lv_icmp_eq (tgt := 55) hx hb dX9_isPointAllowed_47 (by decide) (fun c47 => ?_) (fun c47 => ?_)
                · skip
                  have c47 : pq = ((2 : Nat) : Int) := (cmp_eq (zI_toInt (by omega) (by omega)) (nI_toInt (by omega))).mp c47
                  refine lv_iconst (v := nI 1) hx hb dX9_isPointAllowed_55 (by decide) ?_
                  refine lv_goto (tgt := 60) hx hb dX9_isPointAllowed_56 (by decide) ?_
                  exact g_zret hx hb hr hlocks hG rfl (by first | exact Or.inl ⟨rfl, rfl, rfl, (by first | omega | (unfold mGood; omega))⟩ | exact Or.inr (⟨rfl, rfl, rfl, (by first | omega | (unfold mGood; omega))⟩)) dX9_isPointAllowed_60
                · skip
                  have c47 : ¬ (pq = ((2 : Nat) : Int)) := fun z9 => c47 ((cmp_eq (zI_toInt (by omega) (by omega)) (nI_toInt (by omega))).mpr z9)
                  refine lv_iload_n hx hb dX9_isPointAllowed_50 rfl (lv_at hl 3 rfl) ?_
                  refine lv_iconst (v := nI 4) hx hb dX9_isPointAllowed_51 (by decide) ?_
                  refine lv_icmp_ne (tgt := 59) hx hb dX9_isPointAllowed_52 (by decide) (fun c52 => ?_) (fun c52 => ?_)
                  · skip
                    have c52 : ¬ (pq = ((4 : Nat) : Int)) := fun z9 => c52 ((cmp_eq (zI_toInt (by omega) (by omega)) (nI_toInt (by omega))).mpr z9)
                    refine lv_iconst (v := nI 0) hx hb dX9_isPointAllowed_59 (by decide) ?_
                    exact g_zret hx hb hr hlocks hG rfl (by first | exact Or.inl ⟨rfl, rfl, rfl, (by first | omega | (unfold mGood; omega))⟩ | exact Or.inr (⟨rfl, rfl, rfl, (by first | omega | (unfold mGood; omega))⟩)) dX9_isPointAllowed_60
                  · skip
                    have c52 : pq = ((4 : Nat) : Int) := (cmp_eq (zI_toInt (by omega) (by omega)) (nI_toInt (by omega))).mp c52
                    refine lv_iconst (v := nI 1) hx hb dX9_isPointAllowed_55 (by decide) ?_
                    refine lv_goto (tgt := 60) hx hb dX9_isPointAllowed_56 (by decide) ?_
                    exact g_zret hx hb hr hlocks hG rfl (by first | exact Or.inl ⟨rfl, rfl, rfl, (by first | omega | (unfold mGood; omega))⟩ | exact Or.inr (⟨rfl, rfl, rfl, (by first | omega | (unfold mGood; omega))⟩)) dX9_isPointAllowed_60
          · skip
            have c31 : ¬ (wq ≤ ((12 : Nat) : Int)) := fun z9 => c31 ((cmp_le (zI_toInt (by omega) (by omega)) (nI_toInt (by omega))).mpr z9)
            refine lv_iconst (v := nI 0) hx hb dX9_isPointAllowed_34 (by decide) ?_
            exact g_zret hx hb hr hlocks hG rfl (by first | exact Or.inl ⟨rfl, rfl, rfl, (by first | omega | (unfold mGood; omega))⟩ | exact Or.inr (⟨rfl, rfl, rfl, (by first | omega | (unfold mGood; omega))⟩)) dX9_isPointAllowed_35
    · skip
      have c6 : ¬ (cq ≤ ((3 : Nat) : Int)) := fun z9 => c6 ((cmp_le (zI_toInt (by omega) (by omega)) (nI_toInt (by omega))).mpr z9)
      refine lv_iconst (v := nI 0) hx hb dX9_isPointAllowed_9 (by decide) ?_
      exact g_zret hx hb hr hlocks hG rfl (by first | exact Or.inl ⟨rfl, rfl, rfl, (by first | omega | (unfold mGood; omega))⟩ | exact Or.inr (⟨rfl, rfl, rfl, (by first | omega | (unfold mGood; omega))⟩)) dX9_isPointAllowed_10

abbrev PX9_isDerived (ad : Nat → Nat) (A : Nat → Nat → Int32) (J : Nat → Nat → Int64) (zq : Int) : Option Value → (Nat → Nat → Int32) → (Nat → Nat → Int64) → Prop := fun v_ A1 J1 => (v_ = some (.int (nI 1)) ∧ A = A1 ∧ J = J1 ∧ (0 ≤ zq ∧ zq < 8)) ∨ (v_ = some (.int (nI 0)) ∧ A = A1 ∧ J = J1 ∧ (¬ (0 ≤ zq ∧ zq < 8)))
set_option maxHeartbeats 4000000 in
set_option maxRecDepth 100000 in
theorem cX9_isDerivedC (l : Launch) (D : va_G) (cy : Nat → ClassId) (base : Nat) (ad : Nat → Nat) (n : Nat) (A : Nat → Nat → Int32) (J : Nat → Nat → Int64) (zq : Int) (hzq9 : -2147483648 ≤ zq ∧ zq < 2147483648) : gMet l yX9_isDerived wsX9_isDerived ({ frames := 0, cells := 0, slots := 0, locals := 0 } : Room) D cy base ad n A J [.int (zI zq)] (PX9_isDerived ad A J zq) := by
  refine g_ofW (cc := cX9_isDerived) (maxL := 1) (ret := (some .boolean)) (by decide) rfl (Nat.le_of_ble_eq_true rfl) ?_
  intro pM eM sM mM aM bM methM cM H locs ls hx hb hr hts hown hlocks hml hE hG hl
  have hl : lv_has ls 1 [(0, .int (zI zq))] := hl
  refine lv_iload_n hx hb dX9_isDerived_0 rfl (lv_at hl 0 rfl) ?_
  refine lv_if_lt (tgt := 14) hx hb dX9_isDerived_1 (by decide) (fun c1 => ?_) (fun c1 => ?_)
  · skip
    have c1 : (zI zq) < nI 0 := c1
    have c1 : zq < ((0 : Nat) : Int) := (cmp_lt (zI_toInt (by omega) (by omega)) (nI_toInt (by omega))).mp c1
    refine lv_iconst (v := nI 0) hx hb dX9_isDerived_14 (by decide) ?_
    exact g_zret hx hb hr hlocks hG rfl (by first | exact Or.inl ⟨rfl, rfl, rfl, (by first | omega | rfl | assumption)⟩ | exact Or.inr (⟨rfl, rfl, rfl, (by first | omega | rfl | assumption)⟩)) dX9_isDerived_15
  · skip
    have c1 : ¬ ((zI zq) < nI 0) := c1
    have c1 : ¬ (zq < ((0 : Nat) : Int)) := fun z9 => c1 ((cmp_lt (zI_toInt (by omega) (by omega)) (nI_toInt (by omega))).mpr z9)
    refine lv_iload_n hx hb dX9_isDerived_4 rfl (lv_at hl 0 rfl) ?_
    refine lv_bipush (v := nI 8) hx hb dX9_isDerived_5 (by decide) ?_
    refine lv_icmp_ge (tgt := 14) hx hb dX9_isDerived_7 (by decide) (fun c7 => ?_) (fun c7 => ?_)
    · skip
      have c7 : ((8 : Nat) : Int) ≤ zq := (cmp_le (nI_toInt (by omega)) (zI_toInt (by omega) (by omega))).mp c7
      refine lv_iconst (v := nI 0) hx hb dX9_isDerived_14 (by decide) ?_
      exact g_zret hx hb hr hlocks hG rfl (by first | exact Or.inl ⟨rfl, rfl, rfl, (by first | omega | rfl | assumption)⟩ | exact Or.inr (⟨rfl, rfl, rfl, (by first | omega | rfl | assumption)⟩)) dX9_isDerived_15
    · skip
      have c7 : ¬ (((8 : Nat) : Int) ≤ zq) := fun z9 => c7 ((cmp_le (nI_toInt (by omega)) (zI_toInt (by omega) (by omega))).mpr z9)
      refine lv_iconst (v := nI 1) hx hb dX9_isDerived_10 (by decide) ?_
      refine lv_goto (tgt := 15) hx hb dX9_isDerived_11 (by decide) ?_
      exact g_zret hx hb hr hlocks hG rfl (by first | exact Or.inl ⟨rfl, rfl, rfl, (by first | omega | rfl | assumption)⟩ | exact Or.inr (⟨rfl, rfl, rfl, (by first | omega | rfl | assumption)⟩)) dX9_isDerived_15

theorem zI_s100 {z : Int} (h : -2147483648 ≤ z ∧ z < 2147483648) : (0 ≤ (zI (z - 100)).toInt ∧ (zI (z - 100)).toInt < 8) ↔ (100 ≤ z ∧ z < 108) := by
  by_cases hz : -2147483548 ≤ z
  · rw [zI_toInt (by omega) (by omega)]; omega
  · have e : (zI (z - 100)).toInt = z - 100 + 4294967296 := by
      unfold zI
      rw [Int32.toInt_ofInt]
      show Int.bmod (z - 100) 4294967296 = _
      show (if (z - 100) % (4294967296 : Int) < (4294967296 + 1) / 2 then (z - 100) % (4294967296 : Int) else (z - 100) % (4294967296 : Int) - 4294967296) = _
      split <;> omega
    rw [e]; omega
abbrev PX9_isDerived_raw (ad : Nat → Nat) (A : Nat → Nat → Int32) (J : Nat → Nat → Int64) (x : Int32) : Option Value → (Nat → Nat → Int32) → (Nat → Nat → Int64) → Prop := fun v_ A1 J1 => (v_ = some (.int (nI 1)) ∧ A = A1 ∧ J = J1 ∧ (0 ≤ x.toInt ∧ x.toInt < 8)) ∨ (v_ = some (.int (nI 0)) ∧ A = A1 ∧ J = J1 ∧ (¬ (0 ≤ x.toInt ∧ x.toInt < 8)))
set_option maxHeartbeats 4000000 in
set_option maxRecDepth 100000 in
theorem cX9_isDerived_rawC (l : Launch) (D : va_G) (cy : Nat → ClassId) (base : Nat) (ad : Nat → Nat) (n : Nat) (A : Nat → Nat → Int32) (J : Nat → Nat → Int64) (x : Int32)  : gMet l yX9_isDerived wsX9_isDerived ({ frames := 0, cells := 0, slots := 0, locals := 0 } : Room) D cy base ad n A J [.int x] (PX9_isDerived_raw ad A J x) := by
  refine g_ofW (cc := cX9_isDerived) (maxL := 1) (ret := (some .boolean)) (by decide) rfl (Nat.le_of_ble_eq_true rfl) ?_
  intro pM eM sM mM aM bM methM cM H locs ls hx hb hr hts hown hlocks hml hE hG hl
  have hl : lv_has ls 1 [(0, .int x)] := hl
  refine lv_iload_n hx hb dX9_isDerived_0 rfl (lv_at hl 0 rfl) ?_
  refine lv_if_lt (tgt := 14) hx hb dX9_isDerived_1 (by decide) (fun c1 => ?_) (fun c1 => ?_)
  · skip
    have c1 : x < nI 0 := c1
    have c1 : x.toInt < ((0 : Nat) : Int) := (cmp_lt rfl (nI_toInt (by omega))).mp c1
    refine lv_iconst (v := nI 0) hx hb dX9_isDerived_14 (by decide) ?_
    exact g_zret hx hb hr hlocks hG rfl (by first | exact Or.inl ⟨rfl, rfl, rfl, (by first | omega | rfl | assumption)⟩ | exact Or.inr (⟨rfl, rfl, rfl, (by first | omega | rfl | assumption)⟩)) dX9_isDerived_15
  · skip
    have c1 : ¬ (x < nI 0) := c1
    have c1 : ¬ (x.toInt < ((0 : Nat) : Int)) := fun z9 => c1 ((cmp_lt rfl (nI_toInt (by omega))).mpr z9)
    refine lv_iload_n hx hb dX9_isDerived_4 rfl (lv_at hl 0 rfl) ?_
    refine lv_bipush (v := nI 8) hx hb dX9_isDerived_5 (by decide) ?_
    refine lv_icmp_ge (tgt := 14) hx hb dX9_isDerived_7 (by decide) (fun c7 => ?_) (fun c7 => ?_)
    · skip
      have c7 : ((8 : Nat) : Int) ≤ x.toInt := (cmp_le (nI_toInt (by omega)) rfl).mp c7
      refine lv_iconst (v := nI 0) hx hb dX9_isDerived_14 (by decide) ?_
      exact g_zret hx hb hr hlocks hG rfl (by first | exact Or.inl ⟨rfl, rfl, rfl, (by first | omega | rfl | assumption)⟩ | exact Or.inr (⟨rfl, rfl, rfl, (by first | omega | rfl | assumption)⟩)) dX9_isDerived_15
    · skip
      have c7 : ¬ (((8 : Nat) : Int) ≤ x.toInt) := fun z9 => c7 ((cmp_le (nI_toInt (by omega)) rfl).mpr z9)
      refine lv_iconst (v := nI 1) hx hb dX9_isDerived_10 (by decide) ?_
      refine lv_goto (tgt := 15) hx hb dX9_isDerived_11 (by decide) ?_
      exact g_zret hx hb hr hlocks hG rfl (by first | exact Or.inl ⟨rfl, rfl, rfl, (by first | omega | rfl | assumption)⟩ | exact Or.inr (⟨rfl, rfl, rfl, (by first | omega | rfl | assumption)⟩)) dX9_isDerived_15

abbrev PX9_isOperand (ad : Nat → Nat) (A : Nat → Nat → Int32) (J : Nat → Nat → Int64) (zq : Int) : Option Value → (Nat → Nat → Int32) → (Nat → Nat → Int64) → Prop := fun v_ A1 J1 => (v_ = some (.int (nI 1)) ∧ A = A1 ∧ J = J1 ∧ (isOp zq)) ∨ (v_ = some (.int (nI 0)) ∧ A = A1 ∧ J = J1 ∧ (¬ (isOp zq)))
set_option maxHeartbeats 4000000 in
set_option maxRecDepth 100000 in
theorem cX9_isOperandC (l : Launch) (D : va_G) (cy : Nat → ClassId) (base : Nat) (ad : Nat → Nat) (n : Nat) (A : Nat → Nat → Int32) (J : Nat → Nat → Int64) (zq : Int) (hzq9 : -2147483648 ≤ zq ∧ zq < 2147483648) : gMet l yX9_isOperand wsX9_isOperand ({ frames := 1, cells := 0, slots := 0, locals := 20 } : Room) D cy base ad n A J [.int (zI zq)] (PX9_isOperand ad A J zq) := by
  refine g_ofW (cc := cX9_isOperand) (maxL := 1) (ret := (some .boolean)) (by decide) rfl (Nat.le_of_ble_eq_true rfl) ?_
  intro pM eM sM mM aM bM methM cM H locs ls hx hb hr hts hown hlocks hml hE hG hl
  have hl : lv_has ls 1 [(0, .int (zI zq))] := hl
  refine lv_iload_n hx hb dX9_isOperand_0 rfl (lv_at hl 0 rfl) ?_
  refine lv_if_lt (tgt := 10) hx hb dX9_isOperand_1 (by decide) (fun c1 => ?_) (fun c1 => ?_)
  · skip
    have c1 : (zI zq) < nI 0 := c1
    have c1 : zq < ((0 : Nat) : Int) := (cmp_lt (zI_toInt (by omega) (by omega)) (nI_toInt (by omega))).mp c1
    refine lv_iload_n hx hb dX9_isOperand_10 rfl (lv_at hl 0 rfl) ?_
    refine lv_bipush (v := nI 100) hx hb dX9_isOperand_11 (by decide) ?_
    refine lv_isub hx hb dX9_isOperand_13 ?_
    refine g_top (y := zI (zq - 100)) (zI_sub_in _ _) ?_
    refine g_callS (As := [.int (zI (zq - 100))]) (rest := []) ⟨hx, hb, hml, hown, hts⟩ hE hG (cX9_isDerived_rawC l D cy base ad n A J (zI (zq - 100))) (va_cwS 1 hts gX9_isOperand_X9_isDerived rfl rfl rfl (by decide +kernel) ⟨Nat.le_of_ble_eq_true rfl, Nat.le_of_ble_eq_true rfl⟩) rfl hl.1 rfl (Nat.le_of_ble_eq_true rfl) dX9_isOperand_14 ⟨Nat.zero_le _, Nat.zero_le _⟩ (fun v_ A14 J14 H locs hp hG => ?_)
    rcases hp with ⟨rfl, rfl, rfl, hC_14⟩ | ⟨rfl, rfl, rfl, hC_14⟩
    · refine W.eq (g2 := F0 mM 17 ls [.int (nI 1)]) rfl ?_
      rw [zI_s100 hzq9] at hC_14
      refine lv_if_eq (tgt := 24) hx hb dX9_isOperand_17 (by decide) (fun c17 => ?_) (fun c17 => ?_)
      · skip
        exact absurd c17 (by decide)
      · skip
        refine lv_iconst (v := nI 1) hx hb dX9_isOperand_20 (by decide) ?_
        refine lv_goto (tgt := 25) hx hb dX9_isOperand_21 (by decide) ?_
        exact g_zret hx hb hr hlocks hG rfl (by first | exact Or.inl ⟨rfl, rfl, rfl, (by first | omega | (unfold isOp; omega))⟩ | exact Or.inr (⟨rfl, rfl, rfl, (by first | omega | (unfold isOp; omega))⟩)) dX9_isOperand_25
    · refine W.eq (g2 := F0 mM 17 ls [.int (nI 0)]) rfl ?_
      rw [zI_s100 hzq9] at hC_14
      refine lv_if_eq (tgt := 24) hx hb dX9_isOperand_17 (by decide) (fun c17 => ?_) (fun c17 => ?_)
      · skip
        refine lv_iconst (v := nI 0) hx hb dX9_isOperand_24 (by decide) ?_
        exact g_zret hx hb hr hlocks hG rfl (by first | exact Or.inl ⟨rfl, rfl, rfl, (by first | omega | (unfold isOp; omega))⟩ | exact Or.inr (⟨rfl, rfl, rfl, (by first | omega | (unfold isOp; omega))⟩)) dX9_isOperand_25
      · skip
        exact absurd c17 (by decide)
  · skip
    have c1 : ¬ ((zI zq) < nI 0) := c1
    have c1 : ¬ (zq < ((0 : Nat) : Int)) := fun z9 => c1 ((cmp_lt (zI_toInt (by omega) (by omega)) (nI_toInt (by omega))).mpr z9)
    refine lv_iload_n hx hb dX9_isOperand_4 rfl (lv_at hl 0 rfl) ?_
    refine lv_bipush (v := nI 12) hx hb dX9_isOperand_5 (by decide) ?_
    refine lv_icmp_lt (tgt := 20) hx hb dX9_isOperand_7 (by decide) (fun c7 => ?_) (fun c7 => ?_)
    · skip
      have c7 : zq < ((12 : Nat) : Int) := (cmp_lt (zI_toInt (by omega) (by omega)) (nI_toInt (by omega))).mp c7
      refine lv_iconst (v := nI 1) hx hb dX9_isOperand_20 (by decide) ?_
      refine lv_goto (tgt := 25) hx hb dX9_isOperand_21 (by decide) ?_
      exact g_zret hx hb hr hlocks hG rfl (by first | exact Or.inl ⟨rfl, rfl, rfl, (by first | omega | (unfold isOp; omega))⟩ | exact Or.inr (⟨rfl, rfl, rfl, (by first | omega | (unfold isOp; omega))⟩)) dX9_isOperand_25
    · skip
      have c7 : ¬ (zq < ((12 : Nat) : Int)) := fun z9 => c7 ((cmp_lt (zI_toInt (by omega) (by omega)) (nI_toInt (by omega))).mpr z9)
      refine lv_iload_n hx hb dX9_isOperand_10 rfl (lv_at hl 0 rfl) ?_
      refine lv_bipush (v := nI 100) hx hb dX9_isOperand_11 (by decide) ?_
      refine lv_isub hx hb dX9_isOperand_13 ?_
      refine g_top (y := zI (zq - 100)) (zI_sub_in _ _) ?_
      refine g_callS (As := [.int (zI (zq - 100))]) (rest := []) ⟨hx, hb, hml, hown, hts⟩ hE hG (cX9_isDerived_rawC l D cy base ad n A J (zI (zq - 100))) (va_cwS 1 hts gX9_isOperand_X9_isDerived rfl rfl rfl (by decide +kernel) ⟨Nat.le_of_ble_eq_true rfl, Nat.le_of_ble_eq_true rfl⟩) rfl hl.1 rfl (Nat.le_of_ble_eq_true rfl) dX9_isOperand_14 ⟨Nat.zero_le _, Nat.zero_le _⟩ (fun v_ A14 J14 H locs hp hG => ?_)
      rcases hp with ⟨rfl, rfl, rfl, hC_14⟩ | ⟨rfl, rfl, rfl, hC_14⟩
      · refine W.eq (g2 := F0 mM 17 ls [.int (nI 1)]) rfl ?_
        rw [zI_s100 hzq9] at hC_14
        refine lv_if_eq (tgt := 24) hx hb dX9_isOperand_17 (by decide) (fun c17 => ?_) (fun c17 => ?_)
        · skip
          exact absurd c17 (by decide)
        · skip
          refine lv_iconst (v := nI 1) hx hb dX9_isOperand_20 (by decide) ?_
          refine lv_goto (tgt := 25) hx hb dX9_isOperand_21 (by decide) ?_
          exact g_zret hx hb hr hlocks hG rfl (by first | exact Or.inl ⟨rfl, rfl, rfl, (by first | omega | (unfold isOp; omega))⟩ | exact Or.inr (⟨rfl, rfl, rfl, (by first | omega | (unfold isOp; omega))⟩)) dX9_isOperand_25
      · refine W.eq (g2 := F0 mM 17 ls [.int (nI 0)]) rfl ?_
        rw [zI_s100 hzq9] at hC_14
        refine lv_if_eq (tgt := 24) hx hb dX9_isOperand_17 (by decide) (fun c17 => ?_) (fun c17 => ?_)
        · skip
          refine lv_iconst (v := nI 0) hx hb dX9_isOperand_24 (by decide) ?_
          exact g_zret hx hb hr hlocks hG rfl (by first | exact Or.inl ⟨rfl, rfl, rfl, (by first | omega | (unfold isOp; omega))⟩ | exact Or.inr (⟨rfl, rfl, rfl, (by first | omega | (unfold isOp; omega))⟩)) dX9_isOperand_25
        · skip
          exact absurd c17 (by decide)

abbrev PX9_existingPoint (ad : Nat → Nat) (A : Nat → Nat → Int32) (J : Nat → Nat → Int64) (nq : Nat) (zq : Int) : Option Value → (Nat → Nat → Int32) → (Nat → Nat → Int64) → Prop := fun v_ A1 J1 => (∃ (iq : Nat), v_ = some (.ref (ad (33 + 2 * iq))) ∧ A = A1 ∧ J = J1 ∧ (iq < nq ∧ zq = (iq : Int)))
abbrev EX9_existingPoint (ad : Nat → Nat) (A : Nat → Nat → Int32) (J : Nat → Nat → Int64) (nq : Nat) (zq : Int) : String → (Nat → Nat → Int32) → (Nat → Nat → Int64) → Prop := fun e_ A1 J1 => (e_ = "java/lang/IndexOutOfBoundsException" ∧ A = A1 ∧ J = J1 ∧ (¬ (0 ≤ zq ∧ zq < (nq : Int))))
set_option maxHeartbeats 4000000 in
set_option maxRecDepth 100000 in
theorem cX9_existingPointC (l : Launch) (D : va_G) (cy : Nat → ClassId) (base : Nat) (ad : Nat → Nat) (n : Nat) (A : Nat → Nat → Int32) (J : Nat → Nat → Int64) (nq : Nat) (zq : Int) (hst : l.stackTraces = false) (hct : A 1 1 = nI n ∧ n ≤ 12) (hnq : nq = n) (hzq : -2147483648 ≤ zq ∧ zq < 2147483648) : gMetX l yX9_existingPoint wsX9_existingPoint ({ frames := 6, cells := 1, slots := 6, locals := 100 } : Room) D cy base ad n A J [.ref (ad 0), .int (zI zq)] (PX9_existingPoint ad A J nq zq) (EX9_existingPoint ad A J nq zq) 1 6 := by
  refine gx_ofW (cc := cX9_existingPoint) (maxL := 3) (ret := (some (.object "Commutator$Point"))) (by decide) rfl (Nat.le_of_ble_eq_true rfl) ?_
  intro pM eM sM mM aM bM methM cM H locs ls hx hb hr hts hown hlocks hml hout hE hG hl
  have hl : lv_has ls 3 [(0, .ref (ad 0)), (1, .int (zI zq))] := hl
  have hinX5 : ∀ w ∈ u_ws RX5 TX5 3, w ∈ wsX9_existingPoint := by decide +kernel
  have hinX9 : ∀ w ∈ u_ws RX9 TX9 6, w ∈ wsX9_existingPoint := by decide +kernel
  refine lv_aload_n hx hb dX9_existingPoint_0 rfl (lv_at hl 0 rfl) ?_
  refine g_get (C := RX9) (T := TX9) (NN := 6) (ci := 9) hx hb hts hinX9 hown hE hG (k := 0) (by omega) rfl rfl 0 (by decide) (hts (.fieldLink RX9 10 "Commutator" "table" "LCommutator$PointTable;") (List.mem_of_getElem? (i := 3) rfl)) rfl (v := .ref (ad 1)) rfl dX9_existingPoint_1 ?_
  refine lv_iload_n hx hb dX9_existingPoint_4 rfl (lv_at hl 1 rfl) ?_
  refine g_callV (As := [.int (zI zq)]) (rest := []) (r := (RX5, TX5, 3)) ⟨hx, hb, hml, hown, hts⟩ hE hG (cX5_atC l D cy base ad n A J n zq (by first | assumption | omega) (by first | assumption | omega) (by first | assumption | omega)) (cwV 1 hts gX9_existingPoint_X5_at rfl rfl rfl (by decide +kernel) ⟨Nat.le_of_ble_eq_true rfl, Nat.le_of_ble_eq_true rfl⟩) (by omega) rfl rfl rfl hl.1 rfl (Nat.le_of_ble_eq_true rfl) dX9_existingPoint_5 ⟨(Nat.le_of_ble_eq_true rfl), (Nat.le_of_ble_eq_true rfl)⟩ (fun v_ A5 J5 H locs hp hG => ?_)
  rcases hp with ⟨iq_5, rfl, rfl, rfl, hiq_5⟩ | ⟨rfl, rfl, rfl, hnn_5⟩
  · refine W.eq (g2 := F0 mM 8 ls [.ref (ad (33 + 2 * iq_5))]) rfl ?_
    refine lv_astore_n (lv' := [(2, .ref (ad (33 + 2 * iq_5))), (0, .ref (ad 0)), (1, .int (zI zq))]) hx hb dX9_existingPoint_8 rfl hl (by decide) rfl (fun ls hl => ?_)
    refine lv_aload_n hx hb dX9_existingPoint_9 rfl (lv_at hl 0 rfl) ?_
    refine lv_ifnonnull (tgt := 21) hx hb dX9_existingPoint_10 (by decide) ?_
    refine lv_aload_n hx hb dX9_existingPoint_21 rfl (lv_at hl 0 rfl) ?_
    exact gx_aret hx hb hr hlocks (Or.inr ⟨_, rfl⟩) hG (Nat.le_of_ble_eq_true rfl) (Nat.le_of_ble_eq_true rfl) ⟨_, rfl, rfl, rfl, (by first | omega | rfl | assumption)⟩ dX9_existingPoint_22
  · refine W.eq (g2 := F0 mM 8 ls [.null]) rfl ?_
    refine lv_astore_nN (lv' := [(2, .null), (0, .ref (ad 0)), (1, .int (zI zq))]) hx hb dX9_existingPoint_8 rfl hl (by decide) rfl (fun ls hl => ?_)
    refine lv_aload_nN hx hb dX9_existingPoint_9 rfl (lv_at hl 0 rfl) ?_
    refine lv_ifnonnullN hx hb dX9_existingPoint_10 ?_
    exact gx_throw (cls := "java/lang/IndexOutOfBoundsException") (ik := 107) (ic := 109) hx hb hst hown (by decide +kernel) (hts (.classLink RX9 107 "java/lang/IndexOutOfBoundsException") (List.mem_of_getElem? (i := 1) rfl)) (hts (.initialized "java/lang/IndexOutOfBoundsException") (List.mem_of_getElem? (i := 2) rfl)) (vxg_IO (fun w9 h9 => hts w9 (List.mem_cons_of_mem _ (List.mem_append_right _ h9)))) vxo_IO hE hG (hl.1.trans hml.symm) dX9_existingPoint_13 dX9_existingPoint_16 dX9_existingPoint_17 dX9_existingPoint_20 hout (Nat.le_of_ble_eq_true rfl) (Nat.le_of_ble_eq_true rfl) (Nat.le_of_ble_eq_true rfl) (Nat.le_of_ble_eq_true rfl) hlocks ⟨rfl, rfl, rfl, (by first | assumption | omega)⟩ (Nat.le_of_ble_eq_true rfl) (Nat.le_of_ble_eq_true rfl)

abbrev PX9_points (ad : Nat → Nat) (A : Nat → Nat → Int32) (J : Nat → Nat → Int64) (nq : Nat) : Option Value → (Nat → Nat → Int32) → (Nat → Nat → Int64) → Prop := fun v_ A1 J1 => (v_ = some (.int (nI nq)) ∧ A = A1 ∧ J = J1)
set_option maxHeartbeats 4000000 in
set_option maxRecDepth 100000 in
theorem cX9_pointsC (l : Launch) (D : va_G) (cy : Nat → ClassId) (base : Nat) (ad : Nat → Nat) (n : Nat) (A : Nat → Nat → Int32) (J : Nat → Nat → Int64) (nq : Nat) (hct : A 1 1 = nI n ∧ n ≤ 12) (hnq : nq = n) : gMet l yX9_points wsX9_points ({ frames := 0, cells := 0, slots := 0, locals := 0 } : Room) D cy base ad n A J [.ref (ad 0)] (PX9_points ad A J nq) := by
  refine g_ofW (cc := cX9_points) (maxL := 1) (ret := (some .int)) (by decide) rfl (Nat.le_of_ble_eq_true rfl) ?_
  intro pM eM sM mM aM bM methM cM H locs ls hx hb hr hts hown hlocks hml hE hG hl
  have hl : lv_has ls 1 [(0, .ref (ad 0))] := hl
  have hinX5 : ∀ w ∈ u_ws RX5 TX5 3, w ∈ wsX9_points := by decide +kernel
  have hinX9 : ∀ w ∈ u_ws RX9 TX9 6, w ∈ wsX9_points := by decide +kernel
  refine lv_aload_n hx hb dX9_points_0 rfl (lv_at hl 0 rfl) ?_
  refine g_get (C := RX9) (T := TX9) (NN := 6) (ci := 9) hx hb hts hinX9 hown hE hG (k := 0) (by omega) rfl rfl 0 (by decide) (hts (.fieldLink RX9 10 "Commutator" "table" "LCommutator$PointTable;") (List.mem_of_getElem? (i := 1) rfl)) rfl (v := .ref (ad 1)) rfl dX9_points_1 ?_
  refine g_getN (C := RX5) (T := TX5) (NN := 3) (ci := 5) hx hb hts hinX5 hown hE hG (k := 1) (by omega) rfl rfl 1 (by decide) 1 rfl rfl (v := .int (A 1 1)) rfl dX9_points_4 ?_
  refine g_top (y := nI n) (hct.1) ?_
  exact g_iret hx hb hr hlocks hG ⟨(by rw [hnq]), rfl, rfl⟩ dX9_points_7

abbrev PX9_place (ad : Nat → Nat) (A : Nat → Nat → Int32) (J : Nat → Nat → Int64) (G : Nat → Nat → Int) (nq : Nat) (zq : Int) : Option Value → (Nat → Nat → Int32) → (Nat → Nat → Int64) → Prop := fun v_ A1 J1 => (∃ (iq : Nat), v_ = some (.int (zI (100 * G 33 iq + G 34 iq))) ∧ A = A1 ∧ J = J1 ∧ (iq < nq ∧ zq = (iq : Int)))
abbrev EX9_place (ad : Nat → Nat) (A : Nat → Nat → Int32) (J : Nat → Nat → Int64) (G : Nat → Nat → Int) (nq : Nat) (zq : Int) : String → (Nat → Nat → Int32) → (Nat → Nat → Int64) → Prop := fun e_ A1 J1 => (e_ = "java/lang/IndexOutOfBoundsException" ∧ A = A1 ∧ J = J1 ∧ (¬ (0 ≤ zq ∧ zq < (nq : Int))))
set_option maxHeartbeats 4000000 in
set_option maxRecDepth 100000 in
theorem cX9_placeC (l : Launch) (D : va_G) (cy : Nat → ClassId) (base : Nat) (ad : Nat → Nat) (n : Nat) (A : Nat → Nat → Int32) (J : Nat → Nat → Int64) (G : Nat → Nat → Int) (nq : Nat) (zq : Int) (hst : l.stackTraces = false) (hnq : nq = n) (hC : CAll nq A J G) (hzq : -2147483648 ≤ zq ∧ zq < 2147483648) : gMetX l yX9_place wsX9_place ({ frames := 7, cells := 1, slots := 6, locals := 122 } : Room) D cy base ad n A J [.ref (ad 0), .int (zI zq)] (PX9_place ad A J G nq zq) (EX9_place ad A J G nq zq) 1 6 := by
  refine gx_ofW (cc := cX9_place) (maxL := 3) (ret := (some .int)) (by decide) rfl (Nat.le_of_ble_eq_true rfl) ?_
  intro pM eM sM mM aM bM methM cM H locs ls hx hb hr hts hown hlocks hml hout hE hG hl
  have hl : lv_has ls 3 [(0, .ref (ad 0)), (1, .int (zI zq))] := hl
  have hinX4 : ∀ w ∈ u_ws RX4 TX4 10, w ∈ wsX9_place := by decide +kernel
  have hinX5 : ∀ w ∈ u_ws RX5 TX5 3, w ∈ wsX9_place := by decide +kernel
  have hinX9 : ∀ w ∈ u_ws RX9 TX9 6, w ∈ wsX9_place := by decide +kernel
  have hC0 := hC
  rw [hnq] at hC
  obtain ⟨hct, hn, hT, hFs, hpr, hz, hU, hD, hso, hse, hli, hsy, hde, hcd, hok, hdv, hdr, hsn, hol, hln⟩ := id hC
  refine lv_aload_n hx hb dX9_place_0 rfl (lv_at hl 0 rfl) ?_
  refine lv_iload_n hx hb dX9_place_1 rfl (lv_at hl 1 rfl) ?_
  refine gx_callV (As := [.int (zI zq)]) (rest := []) (r := (RX9, TX9, 6)) ⟨hx, hb, hml, hown, hts⟩ hE hG (cX9_existingPointC l D cy base ad n A J n zq (by first | assumption | omega) (by first | assumption | omega) (by first | assumption | omega) (by first | assumption | omega)) (cwV 1 hts gX9_place_X9_existingPoint rfl rfl rfl (by decide +kernel) ⟨Nat.le_of_ble_eq_true rfl, Nat.le_of_ble_eq_true rfl⟩) (by omega) rfl rfl rfl hl.1 rfl (Nat.le_of_ble_eq_true rfl) dX9_place_2 ⟨(Nat.le_of_ble_eq_true rfl), (Nat.le_of_ble_eq_true rfl)⟩ hout hlocks (fun e_ A_ J_ hz => by
    rcases hz with ⟨he_, hA_, hJ_, hf0_⟩
    · exact ⟨he_, hA_, hJ_, (by first | assumption | omega)⟩) (Nat.le_of_ble_eq_true rfl) (Nat.le_of_ble_eq_true rfl) (fun v_ A2 J2 H locs hp hG => ?_)
  obtain ⟨iq_2, rfl, rfl, rfl, hiq_2⟩ := hp
  refine W.eq (g2 := F0 mM 5 ls [.ref (ad (33 + 2 * iq_2))]) rfl ?_
  have hF := hFs iq_2 (by omega)
  refine lv_astore_n (lv' := [(2, .ref (ad (33 + 2 * iq_2))), (0, .ref (ad 0)), (1, .int (zI zq))]) hx hb dX9_place_5 rfl hl (by decide) rfl (fun ls hl => ?_)
  refine lv_bipush (v := nI 100) hx hb dX9_place_6 (by decide) ?_
  refine lv_aload_n hx hb dX9_place_8 rfl (lv_at hl 0 rfl) ?_
  refine g_getN (C := RX4) (T := TX4) (NN := 10) (ci := 4) hx hb hts hinX4 hown hE hG (k := 33 + 2 * iq_2) (by omega) (gw_pt cy ad n _ _ iq_2) rfl 4 (by decide) 30 rfl rfl (v := .int (A (33 + 2 * iq_2) 4)) rfl dX9_place_9 ?_
  refine g_top (y := zI (G 33 iq_2)) (hF.1.2.2.2.2.1) ?_
  refine lv_imul hx hb dX9_place_12 ?_
  refine g_top (y := zI (100 * (G 33 iq_2))) (zI_mul_ni _ _) ?_
  refine lv_aload_n hx hb dX9_place_13 rfl (lv_at hl 0 rfl) ?_
  refine g_getN (C := RX4) (T := TX4) (NN := 10) (ci := 4) hx hb hts hinX4 hown hE hG (k := 33 + 2 * iq_2) (by omega) (gw_pt cy ad n _ _ iq_2) rfl 5 (by decide) 31 rfl rfl (v := .int (A (33 + 2 * iq_2) 5)) rfl dX9_place_14 ?_
  refine g_top (y := zI (G 34 iq_2)) (hF.1.2.2.2.2.2) ?_
  refine lv_iadd hx hb dX9_place_17 ?_
  refine g_top (y := zI ((100 * (G 33 iq_2)) + (G 34 iq_2))) (zI_add _ _) ?_
  exact gx_iret hx hb hr hlocks hG (Nat.le_of_ble_eq_true rfl) (Nat.le_of_ble_eq_true rfl) ⟨_, rfl, rfl, rfl, (by first | omega | rfl | assumption)⟩ dX9_place_18

abbrev PX9_samples (ad : Nat → Nat) (A : Nat → Nat → Int32) (J : Nat → Nat → Int64) (G : Nat → Nat → Int) (nq : Nat) (zq : Int) : Option Value → (Nat → Nat → Int32) → (Nat → Nat → Int64) → Prop := fun v_ A1 J1 => (∃ (iq : Nat), v_ = some (.int (zI (G 41 iq))) ∧ A = A1 ∧ J = J1 ∧ (iq < nq ∧ zq = (iq : Int)))
abbrev EX9_samples (ad : Nat → Nat) (A : Nat → Nat → Int32) (J : Nat → Nat → Int64) (G : Nat → Nat → Int) (nq : Nat) (zq : Int) : String → (Nat → Nat → Int32) → (Nat → Nat → Int64) → Prop := fun e_ A1 J1 => (e_ = "java/lang/IndexOutOfBoundsException" ∧ A = A1 ∧ J = J1 ∧ (¬ (0 ≤ zq ∧ zq < (nq : Int))))
set_option maxHeartbeats 4000000 in
set_option maxRecDepth 100000 in
theorem cX9_samplesC (l : Launch) (D : va_G) (cy : Nat → ClassId) (base : Nat) (ad : Nat → Nat) (n : Nat) (A : Nat → Nat → Int32) (J : Nat → Nat → Int64) (G : Nat → Nat → Int) (nq : Nat) (zq : Int) (hst : l.stackTraces = false) (hnq : nq = n) (hC : CAll nq A J G) (hzq : -2147483648 ≤ zq ∧ zq < 2147483648) : gMetX l yX9_samples wsX9_samples ({ frames := 7, cells := 1, slots := 6, locals := 122 } : Room) D cy base ad n A J [.ref (ad 0), .int (zI zq)] (PX9_samples ad A J G nq zq) (EX9_samples ad A J G nq zq) 1 6 := by
  refine gx_ofW (cc := cX9_samples) (maxL := 2) (ret := (some .int)) (by decide) rfl (Nat.le_of_ble_eq_true rfl) ?_
  intro pM eM sM mM aM bM methM cM H locs ls hx hb hr hts hown hlocks hml hout hE hG hl
  have hl : lv_has ls 2 [(0, .ref (ad 0)), (1, .int (zI zq))] := hl
  have hinX4 : ∀ w ∈ u_ws RX4 TX4 10, w ∈ wsX9_samples := by decide +kernel
  have hinX5 : ∀ w ∈ u_ws RX5 TX5 3, w ∈ wsX9_samples := by decide +kernel
  have hinX9 : ∀ w ∈ u_ws RX9 TX9 6, w ∈ wsX9_samples := by decide +kernel
  have hC0 := hC
  rw [hnq] at hC
  obtain ⟨hct, hn, hT, hFs, hpr, hz, hU, hD, hso, hse, hli, hsy, hde, hcd, hok, hdv, hdr, hsn, hol, hln⟩ := id hC
  refine lv_aload_n hx hb dX9_samples_0 rfl (lv_at hl 0 rfl) ?_
  refine lv_iload_n hx hb dX9_samples_1 rfl (lv_at hl 1 rfl) ?_
  refine gx_callV (As := [.int (zI zq)]) (rest := []) (r := (RX9, TX9, 6)) ⟨hx, hb, hml, hown, hts⟩ hE hG (cX9_existingPointC l D cy base ad n A J n zq (by first | assumption | omega) (by first | assumption | omega) (by first | assumption | omega) (by first | assumption | omega)) (cwV 1 hts gX9_samples_X9_existingPoint rfl rfl rfl (by decide +kernel) ⟨Nat.le_of_ble_eq_true rfl, Nat.le_of_ble_eq_true rfl⟩) (by omega) rfl rfl rfl hl.1 rfl (Nat.le_of_ble_eq_true rfl) dX9_samples_2 ⟨(Nat.le_of_ble_eq_true rfl), (Nat.le_of_ble_eq_true rfl)⟩ hout hlocks (fun e_ A_ J_ hz => by
    rcases hz with ⟨he_, hA_, hJ_, hf0_⟩
    · exact ⟨he_, hA_, hJ_, (by first | assumption | omega)⟩) (Nat.le_of_ble_eq_true rfl) (Nat.le_of_ble_eq_true rfl) (fun v_ A2 J2 H locs hp hG => ?_)
  obtain ⟨iq_2, rfl, rfl, rfl, hiq_2⟩ := hp
  refine W.eq (g2 := F0 mM 5 ls [.ref (ad (33 + 2 * iq_2))]) rfl ?_
  have hF := hFs iq_2 (by omega)
  refine g_getN (C := RX4) (T := TX4) (NN := 10) (ci := 4) hx hb hts hinX4 hown hE hG (k := 33 + 2 * iq_2) (by omega) (gw_pt cy ad n _ _ iq_2) rfl 8 (by decide) 36 rfl rfl (v := .int (A (33 + 2 * iq_2) 8)) rfl dX9_samples_5 ?_
  refine g_top (y := zI (G 41 iq_2)) (hF.2.2.1) ?_
  exact gx_iret hx hb hr hlocks hG (Nat.le_of_ble_eq_true rfl) (Nat.le_of_ble_eq_true rfl) ⟨_, rfl, rfl, rfl, (by first | omega | rfl | assumption)⟩ dX9_samples_8

abbrev PX9_missing (ad : Nat → Nat) (A : Nat → Nat → Int32) (J : Nat → Nat → Int64) (G : Nat → Nat → Int) (nq : Nat) (zq : Int) : Option Value → (Nat → Nat → Int32) → (Nat → Nat → Int64) → Prop := fun v_ A1 J1 => (∃ (iq : Nat), v_ = some (.int (zI (G 42 iq))) ∧ A = A1 ∧ J = J1 ∧ (iq < nq ∧ zq = (iq : Int)))
abbrev EX9_missing (ad : Nat → Nat) (A : Nat → Nat → Int32) (J : Nat → Nat → Int64) (G : Nat → Nat → Int) (nq : Nat) (zq : Int) : String → (Nat → Nat → Int32) → (Nat → Nat → Int64) → Prop := fun e_ A1 J1 => (e_ = "java/lang/IndexOutOfBoundsException" ∧ A = A1 ∧ J = J1 ∧ (¬ (0 ≤ zq ∧ zq < (nq : Int))))
set_option maxHeartbeats 4000000 in
set_option maxRecDepth 100000 in
theorem cX9_missingC (l : Launch) (D : va_G) (cy : Nat → ClassId) (base : Nat) (ad : Nat → Nat) (n : Nat) (A : Nat → Nat → Int32) (J : Nat → Nat → Int64) (G : Nat → Nat → Int) (nq : Nat) (zq : Int) (hst : l.stackTraces = false) (hnq : nq = n) (hC : CAll nq A J G) (hzq : -2147483648 ≤ zq ∧ zq < 2147483648) : gMetX l yX9_missing wsX9_missing ({ frames := 7, cells := 1, slots := 6, locals := 122 } : Room) D cy base ad n A J [.ref (ad 0), .int (zI zq)] (PX9_missing ad A J G nq zq) (EX9_missing ad A J G nq zq) 1 6 := by
  refine gx_ofW (cc := cX9_missing) (maxL := 2) (ret := (some .int)) (by decide) rfl (Nat.le_of_ble_eq_true rfl) ?_
  intro pM eM sM mM aM bM methM cM H locs ls hx hb hr hts hown hlocks hml hout hE hG hl
  have hl : lv_has ls 2 [(0, .ref (ad 0)), (1, .int (zI zq))] := hl
  have hinX4 : ∀ w ∈ u_ws RX4 TX4 10, w ∈ wsX9_missing := by decide +kernel
  have hinX5 : ∀ w ∈ u_ws RX5 TX5 3, w ∈ wsX9_missing := by decide +kernel
  have hinX9 : ∀ w ∈ u_ws RX9 TX9 6, w ∈ wsX9_missing := by decide +kernel
  have hC0 := hC
  rw [hnq] at hC
  obtain ⟨hct, hn, hT, hFs, hpr, hz, hU, hD, hso, hse, hli, hsy, hde, hcd, hok, hdv, hdr, hsn, hol, hln⟩ := id hC
  refine lv_aload_n hx hb dX9_missing_0 rfl (lv_at hl 0 rfl) ?_
  refine lv_iload_n hx hb dX9_missing_1 rfl (lv_at hl 1 rfl) ?_
  refine gx_callV (As := [.int (zI zq)]) (rest := []) (r := (RX9, TX9, 6)) ⟨hx, hb, hml, hown, hts⟩ hE hG (cX9_existingPointC l D cy base ad n A J n zq (by first | assumption | omega) (by first | assumption | omega) (by first | assumption | omega) (by first | assumption | omega)) (cwV 1 hts gX9_missing_X9_existingPoint rfl rfl rfl (by decide +kernel) ⟨Nat.le_of_ble_eq_true rfl, Nat.le_of_ble_eq_true rfl⟩) (by omega) rfl rfl rfl hl.1 rfl (Nat.le_of_ble_eq_true rfl) dX9_missing_2 ⟨(Nat.le_of_ble_eq_true rfl), (Nat.le_of_ble_eq_true rfl)⟩ hout hlocks (fun e_ A_ J_ hz => by
    rcases hz with ⟨he_, hA_, hJ_, hf0_⟩
    · exact ⟨he_, hA_, hJ_, (by first | assumption | omega)⟩) (Nat.le_of_ble_eq_true rfl) (Nat.le_of_ble_eq_true rfl) (fun v_ A2 J2 H locs hp hG => ?_)
  obtain ⟨iq_2, rfl, rfl, rfl, hiq_2⟩ := hp
  refine W.eq (g2 := F0 mM 5 ls [.ref (ad (33 + 2 * iq_2))]) rfl ?_
  have hF := hFs iq_2 (by omega)
  refine g_getN (C := RX4) (T := TX4) (NN := 10) (ci := 4) hx hb hts hinX4 hown hE hG (k := 33 + 2 * iq_2) (by omega) (gw_pt cy ad n _ _ iq_2) rfl 9 (by decide) 37 rfl rfl (v := .int (A (33 + 2 * iq_2) 9)) rfl dX9_missing_5 ?_
  refine g_top (y := zI (G 42 iq_2)) (hF.2.2.2.1) ?_
  exact gx_iret hx hb hr hlocks hG (Nat.le_of_ble_eq_true rfl) (Nat.le_of_ble_eq_true rfl) ⟨_, rfl, rfl, rfl, (by first | omega | rfl | assumption)⟩ dX9_missing_8

abbrev PX9_put (ad : Nat → Nat) (A : Nat → Nat → Int32) (J : Nat → Nat → Int64) (G : Nat → Nat → Int) (nq : Nat) (zq vq : Int) : Option Value → (Nat → Nat → Int32) → (Nat → Nat → Int64) → Prop := fun v_ A1 J1 => (∃ (iq : Nat), v_ = some (.int (zI (G 35 iq))) ∧ J = J1 ∧ (iq < nq ∧ zq = (iq : Int) ∧ gLo (G 30 iq) (G 29 iq) ≤ vq ∧ vq ≤ gHi (G 30 iq) (G 29 iq)) ∧ (CAll nq A1 J1 (gu G 35 iq vq)) ∧ (∀ k, k < 33 → A1 k = A k))
abbrev EX9_put (ad : Nat → Nat) (A : Nat → Nat → Int32) (J : Nat → Nat → Int64) (G : Nat → Nat → Int) (nq : Nat) (zq vq : Int) : String → (Nat → Nat → Int32) → (Nat → Nat → Int64) → Prop := fun e_ A1 J1 => (e_ = "java/lang/IndexOutOfBoundsException" ∧ A = A1 ∧ J = J1 ∧ (¬ (0 ≤ zq ∧ zq < (nq : Int)))) ∨ (e_ = "java/lang/IllegalArgumentException" ∧ A = A1 ∧ J = J1 ∧ (∃ iq : Nat, iq < nq ∧ zq = (iq : Int) ∧ ¬ (gLo (G 30 iq) (G 29 iq) ≤ vq ∧ vq ≤ gHi (G 30 iq) (G 29 iq))))
set_option maxHeartbeats 4000000 in
set_option maxRecDepth 100000 in
theorem cX9_putC (l : Launch) (D : va_G) (cy : Nat → ClassId) (base : Nat) (ad : Nat → Nat) (n : Nat) (A : Nat → Nat → Int32) (J : Nat → Nat → Int64) (G : Nat → Nat → Int) (nq : Nat) (zq vq : Int) (hst : l.stackTraces = false) (hnq : nq = n) (hC : CAll nq A J G) (hzq : -2147483648 ≤ zq ∧ zq < 2147483648) (hvq : -2147483648 ≤ vq ∧ vq < 2147483648) : gMetX l yX9_put wsX9_put ({ frames := 7, cells := 2, slots := 12, locals := 122 } : Room) D cy base ad n A J [.ref (ad 0), .int (zI zq), .int (zI vq)] (PX9_put ad A J G nq zq vq) (EX9_put ad A J G nq zq vq) 2 12 := by
  refine gx_ofW (cc := cX9_put) (maxL := 5) (ret := (some .int)) (by decide) rfl (Nat.le_of_ble_eq_true rfl) ?_
  intro pM eM sM mM aM bM methM cM H locs ls hx hb hr hts hown hlocks hml hout hE hG hl
  have hl : lv_has ls 5 [(0, .ref (ad 0)), (1, .int (zI zq)), (2, .int (zI vq))] := hl
  have hinX4 : ∀ w ∈ u_ws RX4 TX4 10, w ∈ wsX9_put := by decide +kernel
  have hinX5 : ∀ w ∈ u_ws RX5 TX5 3, w ∈ wsX9_put := by decide +kernel
  have hinX9 : ∀ w ∈ u_ws RX9 TX9 6, w ∈ wsX9_put := by decide +kernel
  have hC0 := hC
  rw [hnq] at hC
  obtain ⟨hct, hn, hT, hFs, hpr, hz, hU, hD, hso, hse, hli, hsy, hde, hcd, hok, hdv, hdr, hsn, hol, hln⟩ := id hC
  refine lv_aload_n hx hb dX9_put_0 rfl (lv_at hl 0 rfl) ?_
  refine lv_iload_n hx hb dX9_put_1 rfl (lv_at hl 1 rfl) ?_
  refine gx_callV (As := [.int (zI zq)]) (rest := []) (r := (RX9, TX9, 6)) ⟨hx, hb, hml, hown, hts⟩ hE hG (cX9_existingPointC l D cy base ad n A J n zq (by first | assumption | omega) (by first | assumption | omega) (by first | assumption | omega) (by first | assumption | omega)) (cwV 1 hts gX9_put_X9_existingPoint rfl rfl rfl (by decide +kernel) ⟨Nat.le_of_ble_eq_true rfl, Nat.le_of_ble_eq_true rfl⟩) (by omega) rfl rfl rfl hl.1 rfl (Nat.le_of_ble_eq_true rfl) dX9_put_2 ⟨(Nat.le_of_ble_eq_true rfl), (Nat.le_of_ble_eq_true rfl)⟩ hout hlocks (fun e_ A_ J_ hz => by
    rcases hz with ⟨he_, hA_, hJ_, hf0_⟩
    · exact Or.inl ⟨he_, hA_, hJ_, (by first | assumption | omega)⟩) (Nat.le_of_ble_eq_true rfl) (Nat.le_of_ble_eq_true rfl) (fun v_ A2 J2 H locs hp hG => ?_)
  obtain ⟨iq_2, rfl, rfl, rfl, hiq_2⟩ := hp
  refine W.eq (g2 := F0 mM 5 ls [.ref (ad (33 + 2 * iq_2))]) rfl ?_
  have hF := hFs iq_2 (by omega)
  have hTi := hT.2.2 iq_2 (by omega)
  have hlo := gLo_range (cv := G 30 iq_2) hTi.1 hTi.2.1
  have hhi := gHi_range (cv := G 30 iq_2) hTi.1 hTi.2.1
  refine lv_astore_n (lv' := [(3, .ref (ad (33 + 2 * iq_2))), (0, .ref (ad 0)), (1, .int (zI zq)), (2, .int (zI vq))]) hx hb dX9_put_5 rfl hl (by decide) rfl (fun ls hl => ?_)
  refine lv_iload_n hx hb dX9_put_6 rfl (lv_at hl 3 rfl) ?_
  refine lv_aload_n hx hb dX9_put_7 rfl (lv_at hl 0 rfl) ?_
  refine g_callV (As := []) (rest := [.int (zI vq)]) (r := (RX4, TX4, 10)) ⟨hx, hb, hml, hown, hts⟩ hE hG (cX4_lowestC l D cy base ad n A J G iq_2 (by first | assumption | omega) hF.1 hTi) (cwV 0 hts gX9_put_X4_lowest rfl rfl rfl (by decide +kernel) ⟨Nat.le_of_ble_eq_true rfl, Nat.le_of_ble_eq_true rfl⟩) (by omega) (gw_pt cy ad n _ _ iq_2) rfl rfl hl.1 rfl (Nat.le_of_ble_eq_true rfl) dX9_put_8 ⟨(Nat.le_of_ble_eq_true rfl), (Nat.le_of_ble_eq_true rfl)⟩ (fun v_ A8 J8 H locs hp hG => ?_)
  obtain ⟨rfl, rfl, rfl⟩ := hp
  refine W.eq (g2 := F0 mM 11 ls [.int (zI (gLo (G 30 iq_2) (G 29 iq_2))), .int (zI vq)]) rfl ?_
  refine lv_icmp_lt (tgt := 22) hx hb dX9_put_11 (by decide) (fun c11 => ?_) (fun c11 => ?_)
  · skip
    have c11 : vq < (gLo (G 30 iq_2) (G 29 iq_2)) := (cmp_lt (zI_toInt (by omega) (by omega)) (zI_toInt (by omega) (by omega))).mp c11
    exact gx_throw (cls := "java/lang/IllegalArgumentException") (ik := 55) (ic := 57) hx hb hst hown (by decide +kernel) (hts (.classLink RX9 55 "java/lang/IllegalArgumentException") (List.mem_of_getElem? (i := 1) rfl)) (hts (.initialized "java/lang/IllegalArgumentException") (List.mem_of_getElem? (i := 2) rfl)) (vxg_IA (fun w9 h9 => hts w9 (List.mem_cons_of_mem _ (List.mem_append_left _ (List.mem_append_right _ h9))))) vxo_IA hE hG (hl.1.trans hml.symm) dX9_put_22 dX9_put_25 dX9_put_26 dX9_put_29 hout (Nat.le_of_ble_eq_true rfl) (Nat.le_of_ble_eq_true rfl) (Nat.le_of_ble_eq_true rfl) (Nat.le_of_ble_eq_true rfl) hlocks (Or.inr ⟨rfl, rfl, rfl, ⟨iq_2, by omega, by omega, by omega⟩⟩) (Nat.le_of_ble_eq_true rfl) (Nat.le_of_ble_eq_true rfl)
  · skip
    have c11 : ¬ (vq < (gLo (G 30 iq_2) (G 29 iq_2))) := fun z9 => c11 ((cmp_lt (zI_toInt (by omega) (by omega)) (zI_toInt (by omega) (by omega))).mpr z9)
    refine lv_iload_n hx hb dX9_put_14 rfl (lv_at hl 3 rfl) ?_
    refine lv_aload_n hx hb dX9_put_15 rfl (lv_at hl 0 rfl) ?_
    refine g_callV (As := []) (rest := [.int (zI vq)]) (r := (RX4, TX4, 10)) ⟨hx, hb, hml, hown, hts⟩ hE hG (cX4_highestC l D cy base ad n A J G iq_2 (by first | assumption | omega) hF.1 hTi) (cwV 0 hts gX9_put_X4_highest rfl rfl rfl (by decide +kernel) ⟨Nat.le_of_ble_eq_true rfl, Nat.le_of_ble_eq_true rfl⟩) (by omega) (gw_pt cy ad n _ _ iq_2) rfl rfl hl.1 rfl (Nat.le_of_ble_eq_true rfl) dX9_put_16 ⟨(Nat.le_of_ble_eq_true rfl), (Nat.le_of_ble_eq_true rfl)⟩ (fun v_ A16 J16 H locs hp hG => ?_)
    obtain ⟨rfl, rfl, rfl⟩ := hp
    refine W.eq (g2 := F0 mM 19 ls [.int (zI (gHi (G 30 iq_2) (G 29 iq_2))), .int (zI vq)]) rfl ?_
    refine lv_icmp_le (tgt := 30) hx hb dX9_put_19 (by decide) (fun c19 => ?_) (fun c19 => ?_)
    · skip
      have c19 : vq ≤ (gHi (G 30 iq_2) (G 29 iq_2)) := (cmp_le (zI_toInt (by omega) (by omega)) (zI_toInt (by omega) (by omega))).mp c19
      refine lv_aload_n hx hb dX9_put_30 rfl (lv_at hl 0 rfl) ?_
      refine g_getN (C := RX4) (T := TX4) (NN := 10) (ci := 4) hx hb hts hinX4 hown hE hG (k := 33 + 2 * iq_2) (by omega) (gw_pt cy ad n _ _ iq_2) rfl 6 (by decide) 33 rfl rfl (v := .int (A (33 + 2 * iq_2) 6)) rfl dX9_put_31 ?_
      refine g_top (y := zI (G 35 iq_2)) (hF.2.1) ?_
      refine lv_istore (lv' := [(4, .int (zI (G 35 iq_2))), (3, .ref (ad (33 + 2 * iq_2))), (0, .ref (ad 0)), (1, .int (zI zq)), (2, .int (zI vq))]) hx hb dX9_put_34 hl (by decide) rfl (fun ls hl => ?_)
      refine lv_aload_n hx hb dX9_put_36 rfl (lv_at hl 1 rfl) ?_
      refine lv_iload_n hx hb dX9_put_37 rfl (lv_at hl 4 rfl) ?_
      refine g_putiN (C := RX4) (T := TX4) (NN := 10) (ci := 4) hx hb hts hinX4 tyX4 tyX4_ok nmX4 hown hE hG (k := 33 + 2 * iq_2) (by omega) (gw_pt cy ad n _ _ iq_2) rfl 6 (by decide) 33 rfl rfl rfl (ty := .int) (v := zI vq) (by decide +kernel) rfl rfl (Nat.le_of_ble_eq_true rfl) ((gC_pt cy ad n iq_2 _ _).trans rfl) dX9_put_38 (fun H locs hG => ?_)
      refine lv_iload hx hb dX9_put_41 (lv_at hl 0 rfl) ?_
      exact gx_iret hx hb hr hlocks hG (Nat.le_of_ble_eq_true rfl) (Nat.le_of_ble_eq_true rfl) ⟨_, rfl, rfl, ⟨by omega, by omega, by omega, by omega⟩, (by rw [hnq]; exact hC.put (by omega) ⟨by omega, by omega⟩), fun k hk => gu_ne _ _ _ (by omega)⟩ dX9_put_43
    · skip
      have c19 : ¬ (vq ≤ (gHi (G 30 iq_2) (G 29 iq_2))) := fun z9 => c19 ((cmp_le (zI_toInt (by omega) (by omega)) (zI_toInt (by omega) (by omega))).mpr z9)
      exact gx_throw (cls := "java/lang/IllegalArgumentException") (ik := 55) (ic := 57) hx hb hst hown (by decide +kernel) (hts (.classLink RX9 55 "java/lang/IllegalArgumentException") (List.mem_of_getElem? (i := 1) rfl)) (hts (.initialized "java/lang/IllegalArgumentException") (List.mem_of_getElem? (i := 2) rfl)) (vxg_IA (fun w9 h9 => hts w9 (List.mem_cons_of_mem _ (List.mem_append_left _ (List.mem_append_right _ h9))))) vxo_IA hE hG (hl.1.trans hml.symm) dX9_put_22 dX9_put_25 dX9_put_26 dX9_put_29 hout (Nat.le_of_ble_eq_true rfl) (Nat.le_of_ble_eq_true rfl) (Nat.le_of_ble_eq_true rfl) (Nat.le_of_ble_eq_true rfl) hlocks (Or.inr ⟨rfl, rfl, rfl, ⟨iq_2, by omega, by omega, by omega⟩⟩) (Nat.le_of_ble_eq_true rfl) (Nat.le_of_ble_eq_true rfl)

/-! WHAT A STATEMENT DOES. -/
def dgV (c : Nat → Int) (L i : Int) : Int := if 0 ≤ i ∧ i < L then wr (c i.toNat - 48) else 0
def twV (c : Nat → Int) (L i : Int) : Int := wr (wr (10 * dgV c L i) + dgV c L (wr (i + 1)))

theorem sb_X2_digit_0 (n : Nat) (s : Nat → Nat → Int) (Q : List Vl → Sto → Prop) (a0 : Int) (hR : refs s)
    (h : (a0 < 0 → Q [(1, 0)] (n, s)) ∧ (0 ≤ a0 → (s 115 1 ≤ a0 → Q [(1, 0)] (n, s)) ∧ (a0 < s 115 1 → (0 ≤ a0 ∧ a0 < 96) ∧ (Q [(1, wr ((s 116 a0.toNat) - 48))] (n, s))))) :
    G 2 120 11 0 [(3, 115), (1, a0)] [] (n, s) Q := by
  refine G_go rfl rfl ?_
  refine G_lt rfl rfl (fun c1 => ?_) (fun c1 => ?_)
  · have h := h.1 c1
    refine G_go rfl rfl ?_
    exact G_ret rfl rfl h
  · have h := h.2 c1
    refine G_go rfl rfl ?_
    refine G_go rfl rfl ?_
    refine G_rd rfl rfl (by decide) ?_
    refine G_ge rfl rfl (fun c2 => ?_) (fun c2 => ?_)
    · have h := h.1 c2
      refine G_go rfl rfl ?_
      exact G_ret rfl rfl h
    · have h := h.2 c2
      refine G_go rfl rfl ?_
      refine G_rf rfl rfl (by decide) (hR 115 0 116 rfl) ?_
      refine G_go rfl rfl ?_
      obtain ⟨g3, h⟩ := h
      refine G_ir (n := 96) rfl rfl (by decide) (by decide) g3 ?_
      refine G_go rfl rfl ?_
      refine G_go rfl rfl ?_
      refine G_go rfl rfl ?_
      exact G_ret rfl rfl h
theorem c_digit (n : Nat) (s : Nat → Nat → Int) (Q : List Vl → Sto → Prop) (i : Int) (hR : refs s) (hL : s 115 1 ≤ 96) (hq : Q [(1, dgV (s 116) (s 115 1) i)] (n, s)) : G 2 120 11 0 [(3, 115), (1, i)] [] (n, s) Q := by
  unfold dgV at hq
  refine sb_X2_digit_0 n s Q i hR ⟨fun e => ?_, fun e => ⟨fun f => ?_, fun f => ⟨by omega, ?_⟩⟩⟩
  · rw [if_neg (by omega)] at hq
    exact hq
  · rw [if_neg (by omega)] at hq
    exact hq
  · rw [if_pos ⟨e, f⟩] at hq
    exact hq

theorem sb_X2_twoDigits_0 (n : Nat) (s : Nat → Nat → Int) (Q : List Vl → Sto → Prop) (a0 : Int) (hR : refs s)
    (h : (s 115 1 ≤ 96) ∧ (Q [(1, wr ((wr (10 * (dgV (s 116) (s 115 1) a0))) + (dgV (s 116) (s 115 1) (wr (a0 + 1)))))] (n, s))) :
    G 2 120 12 0 [(3, 115), (1, a0)] [] (n, s) Q := by
  refine G_go rfl rfl ?_
  refine G_go rfl rfl ?_
  refine G_go rfl rfl ?_
  refine G_call rfl rfl ?_
  obtain ⟨g1, h⟩ := h
  refine c_digit n _ _ a0 hR g1 ?_
  refine G_go rfl rfl ?_
  refine G_go rfl rfl ?_
  refine G_go rfl rfl ?_
  refine G_go rfl rfl ?_
  refine G_go rfl rfl ?_
  refine G_call rfl rfl ?_
  refine c_digit n _ _ (wr (a0 + 1)) hR g1 ?_
  refine G_go rfl rfl ?_
  exact G_ret rfl rfl h
theorem c_two (n : Nat) (s : Nat → Nat → Int) (Q : List Vl → Sto → Prop) (i : Int) (hR : refs s) (hL : s 115 1 ≤ 96) (hq : Q [(1, twV (s 116) (s 115 1) i)] (n, s)) : G 2 120 12 0 [(3, 115), (1, i)] [] (n, s) Q := sb_X2_twoDigits_0 n s Q i hR ⟨hL, hq⟩
theorem sb_X2_comesPerson_0 (n : Nat) (s : Nat → Nat → Int) (Q : List Vl → Sto → Prop) (a1 : Int) (a2 : Int) (a3 : Int) (hR : refs s)
    (h : (5 < a1 → Q [(1, 0)] (n, s)) ∧ (a1 ≤ 5 → (s 13 9 < 6 → (0 ≤ s 13 9 ∧ s 13 9 < 6) ∧ (Q [(1, 1)] (n, upS (upS (upS (upS (upS (upS (upS (upS (upS s 14 ((s 13 9).toNat) a1) 15 ((s 13 9).toNat) a2) 16 ((s 13 9).toNat) a3) 17 ((s 13 9).toNat) 0) 18 ((s 13 9).toNat) 50) 19 ((s 13 9).toNat) 0) 20 ((s 13 9).toNat) 0) 21 ((s 13 9).toNat) (-1)) 13 9 (wr ((s 13 9) + 1))))) ∧ (6 ≤ s 13 9 → Q [(1, 0)] (n, s)))) :
    G 2 120 15 0 [(3, 13), (1, a1), (1, a2), (1, a3)] [] (n, s) Q := by
  refine G_go rfl rfl ?_
  refine G_go rfl rfl ?_
  refine G_gt rfl rfl (fun c1 => ?_) (fun c1 => ?_)
  · have h := h.1 c1
    refine G_go rfl rfl ?_
    exact G_ret rfl rfl h
  · have h := h.2 c1
    refine G_go rfl rfl ?_
    refine G_call rfl rfl ?_
    refine G_go rfl rfl ?_
    refine G_rd rfl rfl (by decide) ?_
    refine G_go rfl rfl ?_
    refine G_lt rfl rfl (fun c2 => ?_) (fun c2 => ?_)
    · have h := h.1 c2
      refine G_go rfl rfl ?_
      refine G_ret rfl rfl ?_
      refine G_brT rfl rfl rfl ?_
      refine G_go rfl rfl ?_
      refine G_go rfl rfl ?_
      refine G_go rfl rfl ?_
      refine G_go rfl rfl ?_
      refine G_call rfl rfl ?_
      refine G_go rfl rfl ?_
      refine G_call rfl rfl ?_
      refine G_go rfl rfl ?_
      refine G_rd rfl rfl (by decide) ?_
      refine G_go rfl rfl ?_
      refine G_lt rfl rfl (fun _ => ?_) (fun hc => absurd (show 6 ≤ s 13 9 from hc) (by omega))
      refine G_go rfl rfl ?_
      refine G_ret rfl rfl ?_
      refine G_brT rfl rfl rfl ?_
      refine G_go rfl rfl ?_
      refine G_rf rfl rfl (by decide) (hR 13 0 14 rfl) ?_
      refine G_go rfl rfl ?_
      refine G_rd rfl rfl (by decide) ?_
      refine G_go rfl rfl ?_
      obtain ⟨g3, h⟩ := h
      refine G_iw (n := 6) rfl rfl (by decide) (by decide) g3 ?_
      have hR := refs_up (a := 14) (k := (s 13 9).toNat) (x := a1) hR rfl
      refine G_go rfl rfl ?_
      refine G_rf rfl rfl (by decide) (hR 13 1 15 rfl) ?_
      refine G_go rfl rfl ?_
      refine G_rd rfl rfl (by decide) ?_
      refine G_go rfl rfl ?_
      refine G_iw (n := 6) rfl rfl (by decide) (by decide) g3 ?_
      have hR := refs_up (a := 15) (k := (s 13 9).toNat) (x := a2) hR rfl
      refine G_go rfl rfl ?_
      refine G_rf rfl rfl (by decide) (hR 13 2 16 rfl) ?_
      refine G_go rfl rfl ?_
      refine G_rd rfl rfl (by decide) ?_
      refine G_go rfl rfl ?_
      refine G_iw (n := 6) rfl rfl (by decide) (by decide) g3 ?_
      have hR := refs_up (a := 16) (k := (s 13 9).toNat) (x := a3) hR rfl
      refine G_go rfl rfl ?_
      refine G_rf rfl rfl (by decide) (hR 13 3 17 rfl) ?_
      refine G_go rfl rfl ?_
      refine G_rd rfl rfl (by decide) ?_
      refine G_go rfl rfl ?_
      refine G_iw (n := 6) rfl rfl (by decide) (by decide) g3 ?_
      have hR := refs_up (a := 17) (k := (s 13 9).toNat) (x := 0) hR rfl
      refine G_go rfl rfl ?_
      refine G_rf rfl rfl (by decide) (hR 13 4 18 rfl) ?_
      refine G_go rfl rfl ?_
      refine G_rd rfl rfl (by decide) ?_
      refine G_go rfl rfl ?_
      refine G_iw (n := 6) rfl rfl (by decide) (by decide) g3 ?_
      have hR := refs_up (a := 18) (k := (s 13 9).toNat) (x := 50) hR rfl
      refine G_go rfl rfl ?_
      refine G_rf rfl rfl (by decide) (hR 13 5 19 rfl) ?_
      refine G_go rfl rfl ?_
      refine G_rd rfl rfl (by decide) ?_
      refine G_go rfl rfl ?_
      refine G_zw (n := 6) rfl rfl (by decide) (by decide) g3 (by decide) ?_
      have hR := refs_up (a := 19) (k := (s 13 9).toNat) (x := 0) hR rfl
      refine G_go rfl rfl ?_
      refine G_rf rfl rfl (by decide) (hR 13 6 20 rfl) ?_
      refine G_go rfl rfl ?_
      refine G_rd rfl rfl (by decide) ?_
      refine G_go rfl rfl ?_
      refine G_iw (n := 6) rfl rfl (by decide) (by decide) g3 ?_
      have hR := refs_up (a := 20) (k := (s 13 9).toNat) (x := 0) hR rfl
      refine G_go rfl rfl ?_
      refine G_rf rfl rfl (by decide) (hR 13 7 21 rfl) ?_
      refine G_go rfl rfl ?_
      refine G_rd rfl rfl (by decide) ?_
      refine G_go rfl rfl ?_
      refine G_iw (n := 6) rfl rfl (by decide) (by decide) g3 ?_
      have hR := refs_up (a := 21) (k := (s 13 9).toNat) (x := (-1)) hR rfl
      refine G_go rfl rfl ?_
      refine G_go rfl rfl ?_
      refine G_rd rfl rfl (by decide) ?_
      refine G_go rfl rfl ?_
      refine G_go rfl rfl ?_
      refine G_wr rfl rfl (by decide) ?_
      have hR := refs_up (a := 13) (k := 9) (x := wr ((s 13 9) + 1)) hR rfl
      refine G_ret rfl rfl ?_
      refine G_go rfl rfl ?_
      exact G_ret rfl rfl h
    · have h := h.2 c2
      refine G_go rfl rfl ?_
      refine G_go rfl rfl ?_
      refine G_ret rfl rfl ?_
      refine G_brF rfl rfl rfl ?_
      refine G_go rfl rfl ?_
      exact G_ret rfl rfl h
theorem sb_X2_comesHides_0 (n : Nat) (s : Nat → Nat → Int) (Q : List Vl → Sto → Prop) (a1 : Int) (a2 : Int) (hR : refs s)
    (h : (a1 < 0 → Q [(1, 0)] (n, s)) ∧ (0 ≤ a1 → (s 13 9 ≤ a1 → Q [(1, 0)] (n, s)) ∧ (a1 < s 13 9 → (0 ≤ a1 ∧ a1 < 6) ∧ (Q [(1, 1)] (n, upS s 17 a1.toNat a2))))) :
    G 2 120 17 0 [(3, 13), (1, a1), (1, a2)] [] (n, s) Q := by
  refine G_go rfl rfl ?_
  refine G_go rfl rfl ?_
  refine G_call rfl rfl ?_
  refine G_go rfl rfl ?_
  refine G_lt rfl rfl (fun c1 => ?_) (fun c1 => ?_)
  · have h := h.1 c1
    refine G_go rfl rfl ?_
    refine G_ret rfl rfl ?_
    refine G_brF rfl rfl rfl ?_
    refine G_go rfl rfl ?_
    exact G_ret rfl rfl h
  · have h := h.2 c1
    refine G_go rfl rfl ?_
    refine G_go rfl rfl ?_
    refine G_rd rfl rfl (by decide) ?_
    refine G_ge rfl rfl (fun c2 => ?_) (fun c2 => ?_)
    · have h := h.1 c2
      refine G_go rfl rfl ?_
      refine G_ret rfl rfl ?_
      refine G_brF rfl rfl rfl ?_
      refine G_go rfl rfl ?_
      exact G_ret rfl rfl h
    · have h := h.2 c2
      refine G_go rfl rfl ?_
      refine G_go rfl rfl ?_
      refine G_ret rfl rfl ?_
      refine G_brT rfl rfl rfl ?_
      refine G_go rfl rfl ?_
      refine G_rf rfl rfl (by decide) (hR 13 3 17 rfl) ?_
      refine G_go rfl rfl ?_
      refine G_go rfl rfl ?_
      obtain ⟨g3, h⟩ := h
      refine G_iw (n := 6) rfl rfl (by decide) (by decide) g3 ?_
      have hR := refs_up (a := 17) (k := a1.toNat) (x := a2) hR rfl
      refine G_go rfl rfl ?_
      exact G_ret rfl rfl h
theorem sb_X2_comesCandle_0 (n : Nat) (s : Nat → Nat → Int) (Q : List Vl → Sto → Prop) (a1 : Int) (a2 : Int) (hR : refs s)
    (h : (a1 < 0 → Q [(1, 0)] (n, s)) ∧ (0 ≤ a1 → (s 13 9 ≤ a1 → Q [(1, 0)] (n, s)) ∧ (a1 < s 13 9 → (0 ≤ a1 ∧ a1 < 6) ∧ ((a2 ≠ 0 → Q [(1, 1)] (n, upS s 18 a1.toNat a2)) ∧ (a2 = 0 → Q [(1, 1)] (n, upS (upS s 18 a1.toNat a2) 19 a1.toNat 0)))))) :
    G 2 120 19 0 [(3, 13), (1, a1), (1, a2)] [] (n, s) Q := by
  refine G_go rfl rfl ?_
  refine G_go rfl rfl ?_
  refine G_call rfl rfl ?_
  refine G_go rfl rfl ?_
  refine G_lt rfl rfl (fun c1 => ?_) (fun c1 => ?_)
  · have h := h.1 c1
    refine G_go rfl rfl ?_
    refine G_ret rfl rfl ?_
    refine G_brF rfl rfl rfl ?_
    refine G_go rfl rfl ?_
    exact G_ret rfl rfl h
  · have h := h.2 c1
    refine G_go rfl rfl ?_
    refine G_go rfl rfl ?_
    refine G_rd rfl rfl (by decide) ?_
    refine G_ge rfl rfl (fun c2 => ?_) (fun c2 => ?_)
    · have h := h.1 c2
      refine G_go rfl rfl ?_
      refine G_ret rfl rfl ?_
      refine G_brF rfl rfl rfl ?_
      refine G_go rfl rfl ?_
      exact G_ret rfl rfl h
    · have h := h.2 c2
      refine G_go rfl rfl ?_
      refine G_go rfl rfl ?_
      refine G_ret rfl rfl ?_
      refine G_brT rfl rfl rfl ?_
      refine G_go rfl rfl ?_
      refine G_go rfl rfl ?_
      refine G_go rfl rfl ?_
      refine G_call rfl rfl ?_
      refine G_go rfl rfl ?_
      refine G_rf rfl rfl (by decide) (hR 13 4 18 rfl) ?_
      refine G_go rfl rfl ?_
      refine G_go rfl rfl ?_
      obtain ⟨g3, h⟩ := h
      refine G_iw (n := 6) rfl rfl (by decide) (by decide) g3 ?_
      have hR := refs_up (a := 18) (k := a1.toNat) (x := a2) hR rfl
      refine G_go rfl rfl ?_
      refine G_ne rfl rfl (fun c4 => ?_) (fun c4 => ?_)
      · have h := h.1 c4
        refine G_ret rfl rfl ?_
        refine G_go rfl rfl ?_
        exact G_ret rfl rfl h
      · have h := h.2 c4
        refine G_go rfl rfl ?_
        refine G_rf rfl rfl (by decide) (hR 13 5 19 rfl) ?_
        refine G_go rfl rfl ?_
        refine G_go rfl rfl ?_
        refine G_zw (n := 6) rfl rfl (by decide) (by decide) g3 (by decide) ?_
        have hR := refs_up (a := 19) (k := a1.toNat) (x := 0) hR rfl
        refine G_ret rfl rfl ?_
        refine G_go rfl rfl ?_
        exact G_ret rfl rfl h
theorem sb_X2_comesCousin_0 (n : Nat) (s : Nat → Nat → Int) (Q : List Vl → Sto → Prop) (a1 : Int) (a2 : Int) (hR : refs s)
    (h : (a1 < 0 → Q [(1, 0)] (n, s)) ∧ (0 ≤ a1 → (s 13 9 ≤ a1 → Q [(1, 0)] (n, s)) ∧ (a1 < s 13 9 → (a2 < 0 → Q [(1, 0)] (n, s)) ∧ (0 ≤ a2 → (s 13 9 ≤ a2 → Q [(1, 0)] (n, s)) ∧ (a2 < s 13 9 → (a1 ≠ a2 → (0 ≤ a1 ∧ a1 < 6) ∧ ((s 21 a1.toNat ≠ a2 → Q [(1, 1)] (n, upS s 21 a1.toNat a2)) ∧ (s 21 a1.toNat = a2 → Q [(1, 1)] (n, upS s 21 a1.toNat (-1))))) ∧ (a1 = a2 → Q [(1, 0)] (n, s))))))) :
    G 2 120 21 0 [(3, 13), (1, a1), (1, a2)] [] (n, s) Q := by
  refine G_go rfl rfl ?_
  refine G_go rfl rfl ?_
  refine G_call rfl rfl ?_
  refine G_go rfl rfl ?_
  refine G_lt rfl rfl (fun c1 => ?_) (fun c1 => ?_)
  · have h := h.1 c1
    refine G_go rfl rfl ?_
    refine G_ret rfl rfl ?_
    refine G_brT rfl rfl rfl ?_
    refine G_go rfl rfl ?_
    exact G_ret rfl rfl h
  · have h := h.2 c1
    refine G_go rfl rfl ?_
    refine G_go rfl rfl ?_
    refine G_rd rfl rfl (by decide) ?_
    refine G_ge rfl rfl (fun c2 => ?_) (fun c2 => ?_)
    · have h := h.1 c2
      refine G_go rfl rfl ?_
      refine G_ret rfl rfl ?_
      refine G_brT rfl rfl rfl ?_
      refine G_go rfl rfl ?_
      exact G_ret rfl rfl h
    · have h := h.2 c2
      refine G_go rfl rfl ?_
      refine G_go rfl rfl ?_
      refine G_ret rfl rfl ?_
      refine G_brF rfl rfl rfl ?_
      refine G_go rfl rfl ?_
      refine G_go rfl rfl ?_
      refine G_call rfl rfl ?_
      refine G_go rfl rfl ?_
      refine G_lt rfl rfl (fun c3 => ?_) (fun c3 => ?_)
      · have h := h.1 c3
        refine G_go rfl rfl ?_
        refine G_ret rfl rfl ?_
        refine G_brT rfl rfl rfl ?_
        refine G_go rfl rfl ?_
        exact G_ret rfl rfl h
      · have h := h.2 c3
        refine G_go rfl rfl ?_
        refine G_go rfl rfl ?_
        refine G_rd rfl rfl (by decide) ?_
        refine G_ge rfl rfl (fun c4 => ?_) (fun c4 => ?_)
        · have h := h.1 c4
          refine G_go rfl rfl ?_
          refine G_ret rfl rfl ?_
          refine G_brT rfl rfl rfl ?_
          refine G_go rfl rfl ?_
          exact G_ret rfl rfl h
        · have h := h.2 c4
          refine G_go rfl rfl ?_
          refine G_go rfl rfl ?_
          refine G_ret rfl rfl ?_
          refine G_brF rfl rfl rfl ?_
          refine G_go rfl rfl ?_
          refine G_go rfl rfl ?_
          refine G_ne rfl rfl (fun c5 => ?_) (fun c5 => ?_)
          · have h := h.1 c5
            refine G_go rfl rfl ?_
            refine G_go rfl rfl ?_
            refine G_go rfl rfl ?_
            refine G_call rfl rfl ?_
            refine G_go rfl rfl ?_
            refine G_rf rfl rfl (by decide) (hR 13 7 21 rfl) ?_
            refine G_go rfl rfl ?_
            refine G_go rfl rfl ?_
            refine G_rf rfl rfl (by decide) (hR 13 7 21 rfl) ?_
            refine G_go rfl rfl ?_
            obtain ⟨g6, h⟩ := h
            refine G_ir (n := 6) rfl rfl (by decide) (by decide) g6 ?_
            refine G_go rfl rfl ?_
            refine G_ne rfl rfl (fun c7 => ?_) (fun c7 => ?_)
            · have h := h.1 c7
              refine G_go rfl rfl ?_
              refine G_iw (n := 6) rfl rfl (by decide) (by decide) g6 ?_
              have hR := refs_up (a := 21) (k := a1.toNat) (x := a2) hR rfl
              refine G_ret rfl rfl ?_
              refine G_go rfl rfl ?_
              exact G_ret rfl rfl h
            · have h := h.2 c7
              refine G_go rfl rfl ?_
              refine G_go rfl rfl ?_
              refine G_iw (n := 6) rfl rfl (by decide) (by decide) g6 ?_
              have hR := refs_up (a := 21) (k := a1.toNat) (x := (-1)) hR rfl
              refine G_ret rfl rfl ?_
              refine G_go rfl rfl ?_
              exact G_ret rfl rfl h
          · have h := h.2 c5
            refine G_go rfl rfl ?_
            exact G_ret rfl rfl h
theorem sb_X2_comesLight_0 (n : Nat) (s : Nat → Nat → Int) (Q : List Vl → Sto → Prop) (a1 : Int) (hR : refs s)
    (h : (a1 < 0 → Q [(1, 0)] (n, s)) ∧ (0 ≤ a1 → (s 13 9 ≤ a1 → Q [(1, 0)] (n, s)) ∧ (a1 < s 13 9 → (0 ≤ a1 ∧ a1 < 6) ∧ ((s 18 a1.toNat ≠ 0 → (s 19 a1.toNat ≠ 0 → Q [(1, 1)] (n, upS s 19 a1.toNat 0)) ∧ (s 19 a1.toNat = 0 → Q [(1, 1)] (n, upS s 19 a1.toNat 1))) ∧ (s 18 a1.toNat = 0 → Q [(1, 0)] (n, s)))))) :
    G 2 120 22 0 [(3, 13), (1, a1)] [] (n, s) Q := by
  refine G_go rfl rfl ?_
  refine G_go rfl rfl ?_
  refine G_call rfl rfl ?_
  refine G_go rfl rfl ?_
  refine G_lt rfl rfl (fun c1 => ?_) (fun c1 => ?_)
  · have h := h.1 c1
    refine G_go rfl rfl ?_
    refine G_ret rfl rfl ?_
    refine G_brT rfl rfl rfl ?_
    refine G_go rfl rfl ?_
    exact G_ret rfl rfl h
  · have h := h.2 c1
    refine G_go rfl rfl ?_
    refine G_go rfl rfl ?_
    refine G_rd rfl rfl (by decide) ?_
    refine G_ge rfl rfl (fun c2 => ?_) (fun c2 => ?_)
    · have h := h.1 c2
      refine G_go rfl rfl ?_
      refine G_ret rfl rfl ?_
      refine G_brT rfl rfl rfl ?_
      refine G_go rfl rfl ?_
      exact G_ret rfl rfl h
    · have h := h.2 c2
      refine G_go rfl rfl ?_
      refine G_go rfl rfl ?_
      refine G_ret rfl rfl ?_
      refine G_brF rfl rfl rfl ?_
      refine G_go rfl rfl ?_
      refine G_rf rfl rfl (by decide) (hR 13 4 18 rfl) ?_
      refine G_go rfl rfl ?_
      obtain ⟨g3, h⟩ := h
      refine G_ir (n := 6) rfl rfl (by decide) (by decide) g3 ?_
      refine G_ne rfl rfl (fun c4 => ?_) (fun c4 => ?_)
      · have h := h.1 c4
        refine G_go rfl rfl ?_
        refine G_rf rfl rfl (by decide) (hR 13 5 19 rfl) ?_
        refine G_go rfl rfl ?_
        refine G_go rfl rfl ?_
        refine G_rf rfl rfl (by decide) (hR 13 5 19 rfl) ?_
        refine G_go rfl rfl ?_
        refine G_zr (n := 6) rfl rfl (by decide) (by decide) g3 ?_
        refine G_ne rfl rfl (fun c5 => ?_) (fun c5 => ?_)
        · have h := h.1 c5
          refine G_go rfl rfl ?_
          refine G_zw (n := 6) rfl rfl (by decide) (by decide) g3 (by decide) ?_
          have hR := refs_up (a := 19) (k := a1.toNat) (x := 0) hR rfl
          refine G_go rfl rfl ?_
          exact G_ret rfl rfl h
        · have h := h.2 c5
          refine G_go rfl rfl ?_
          refine G_go rfl rfl ?_
          refine G_zw (n := 6) rfl rfl (by decide) (by decide) g3 (by decide) ?_
          have hR := refs_up (a := 19) (k := a1.toNat) (x := 1) hR rfl
          refine G_go rfl rfl ?_
          exact G_ret rfl rfl h
      · have h := h.2 c4
        refine G_go rfl rfl ?_
        exact G_ret rfl rfl h
theorem sb_X2_comes_0 (n : Nat) (s : Nat → Nat → Int) (Q : List Vl → Sto → Prop) (a1 : Int) (hR : refs s)
    (h : (s 115 1 ≤ 96) ∧ ((a1 < 0 → (twV (s 116) (s 115 1) (wr (a1 + 1)) < 1 → Q [(1, 0)] (n, s)) ∧ (1 ≤ twV (s 116) (s 115 1) (wr (a1 + 1)) → (12 < twV (s 116) (s 115 1) (wr (a1 + 1)) → Q [(1, 0)] (n, s)) ∧ (twV (s 116) (s 115 1) (wr (a1 + 1)) ≤ 12 → (wr (999 - (s 13 10)) < twV (s 116) (s 115 1) (wr (a1 + 1)) → Q [(1, 0)] (n, s)) ∧ (twV (s 116) (s 115 1) (wr (a1 + 1)) ≤ wr (999 - (s 13 10)) → G 2 120 30 0 [(3, 13), (1, twV (s 116) (s 115 1) (wr (a1 + 1))), (0, 0)] [] (n, s) (fun r s1 => G 2 120 31 184 [(3, 115), (3, 13), (1, a1), (1, dgV (s 116) (s 115 1) (wr (a1 + 1))), (1, twV (s 116) (s 115 1) (wr (a1 + 1)))] (r ++ []) s1 Q))))) ∧ (0 ≤ a1 → (s 115 1 ≤ a1 → (twV (s 116) (s 115 1) (wr (a1 + 1)) < 1 → Q [(1, 0)] (n, s)) ∧ (1 ≤ twV (s 116) (s 115 1) (wr (a1 + 1)) → (12 < twV (s 116) (s 115 1) (wr (a1 + 1)) → Q [(1, 0)] (n, s)) ∧ (twV (s 116) (s 115 1) (wr (a1 + 1)) ≤ 12 → (wr (999 - (s 13 10)) < twV (s 116) (s 115 1) (wr (a1 + 1)) → Q [(1, 0)] (n, s)) ∧ (twV (s 116) (s 115 1) (wr (a1 + 1)) ≤ wr (999 - (s 13 10)) → G 2 120 30 0 [(3, 13), (1, twV (s 116) (s 115 1) (wr (a1 + 1))), (0, 0)] [] (n, s) (fun r s1 => G 2 120 31 184 [(3, 115), (3, 13), (1, a1), (1, dgV (s 116) (s 115 1) (wr (a1 + 1))), (1, twV (s 116) (s 115 1) (wr (a1 + 1)))] (r ++ []) s1 Q))))) ∧ (a1 < s 115 1 → (0 ≤ a1 ∧ a1 < 96) ∧ ((s 116 a1.toNat = 99 → G 2 120 19 0 [(3, 13), (1, dgV (s 116) (s 115 1) (wr (a1 + 1))), (1, twV (s 116) (s 115 1) (wr (a1 + 2)))] [] (n, s) (fun r s1 => G 2 120 31 125 [(3, 115), (3, 13), (1, a1), (1, dgV (s 116) (s 115 1) (wr (a1 + 1))), (0, 0)] (r ++ []) s1 Q)) ∧ (s 116 a1.toNat = 104 → G 2 120 17 0 [(3, 13), (1, dgV (s 116) (s 115 1) (wr (a1 + 1))), (1, twV (s 116) (s 115 1) (wr (a1 + 2)))] [] (n, s) (fun r s1 => G 2 120 31 112 [(3, 115), (3, 13), (1, a1), (1, dgV (s 116) (s 115 1) (wr (a1 + 1))), (0, 0)] (r ++ []) s1 Q)) ∧ (s 116 a1.toNat = 108 → G 2 120 22 0 [(3, 13), (1, dgV (s 116) (s 115 1) (wr (a1 + 1)))] [] (n, s) (fun r s1 => G 2 120 31 144 [(3, 115), (3, 13), (1, a1), (1, dgV (s 116) (s 115 1) (wr (a1 + 1))), (0, 0)] (r ++ []) s1 Q)) ∧ (s 116 a1.toNat = 112 → G 2 120 15 0 [(3, 13), (1, dgV (s 116) (s 115 1) (wr (a1 + 1))), (1, dgV (s 116) (s 115 1) (wr (a1 + 2))), (1, twV (s 116) (s 115 1) (wr (a1 + 3)))] [] (n, s) (fun r s1 => G 2 120 31 99 [(3, 115), (3, 13), (1, a1), (1, dgV (s 116) (s 115 1) (wr (a1 + 1))), (0, 0)] (r ++ []) s1 Q)) ∧ (s 116 a1.toNat = 116 → G 2 120 21 0 [(3, 13), (1, dgV (s 116) (s 115 1) (wr (a1 + 1))), (1, dgV (s 116) (s 115 1) (wr (a1 + 2)))] [] (n, s) (fun r s1 => G 2 120 31 138 [(3, 115), (3, 13), (1, a1), (1, dgV (s 116) (s 115 1) (wr (a1 + 1))), (0, 0)] (r ++ []) s1 Q)) ∧ (s 116 a1.toNat ≠ 99 ∧ s 116 a1.toNat ≠ 104 ∧ s 116 a1.toNat ≠ 108 ∧ s 116 a1.toNat ≠ 112 ∧ s 116 a1.toNat ≠ 116 → (twV (s 116) (s 115 1) (wr (a1 + 1)) < 1 → Q [(1, 0)] (n, s)) ∧ (1 ≤ twV (s 116) (s 115 1) (wr (a1 + 1)) → (12 < twV (s 116) (s 115 1) (wr (a1 + 1)) → Q [(1, 0)] (n, s)) ∧ (twV (s 116) (s 115 1) (wr (a1 + 1)) ≤ 12 → (wr (999 - (s 13 10)) < twV (s 116) (s 115 1) (wr (a1 + 1)) → Q [(1, 0)] (n, s)) ∧ (twV (s 116) (s 115 1) (wr (a1 + 1)) ≤ wr (999 - (s 13 10)) → G 2 120 30 0 [(3, 13), (1, twV (s 116) (s 115 1) (wr (a1 + 1))), (0, 0)] [] (n, s) (fun r s1 => G 2 120 31 184 [(3, 115), (3, 13), (1, a1), (1, dgV (s 116) (s 115 1) (wr (a1 + 1))), (1, twV (s 116) (s 115 1) (wr (a1 + 1)))] (r ++ []) s1 Q)))))))))) :
    G 2 120 31 0 [(3, 115), (3, 13), (1, a1), (0, 0), (0, 0)] [] (n, s) Q := by
  refine G_go rfl rfl ?_
  refine G_go rfl rfl ?_
  refine G_go rfl rfl ?_
  refine G_go rfl rfl ?_
  refine G_call rfl rfl ?_
  obtain ⟨g1, h⟩ := h
  refine c_digit n _ _ (wr (a1 + 1)) hR g1 ?_
  refine G_go rfl rfl ?_
  show G 2 120 31 8 [(3, 115), (3, 13), (1, a1), (1, dgV (s 116) (s 115 1) (wr (a1 + 1))), (0, 0)] [] (n, s) Q
  refine G_go rfl rfl ?_
  refine G_lt rfl rfl (fun c2 => ?_) (fun c2 => ?_)
  · have h := h.1 c2
    refine G_go rfl rfl ?_
    refine G_go rfl rfl ?_
    refine G_go rfl rfl ?_
    refine G_go rfl rfl ?_
    refine G_go rfl rfl ?_
    refine G_go rfl rfl ?_
    refine G_call rfl rfl ?_
    refine c_two n _ _ (wr (a1 + 1)) hR g1 ?_
    refine G_go rfl rfl ?_
    show G 2 120 31 154 [(3, 115), (3, 13), (1, a1), (1, dgV (s 116) (s 115 1) (wr (a1 + 1))), (1, twV (s 116) (s 115 1) (wr (a1 + 1)))] [] (n, s) Q
    refine G_go rfl rfl ?_
    refine G_go rfl rfl ?_
    refine G_lt rfl rfl (fun c3 => ?_) (fun c3 => ?_)
    · have h := h.1 c3
      refine G_go rfl rfl ?_
      exact G_ret rfl rfl h
    · have h := h.2 c3
      refine G_go rfl rfl ?_
      refine G_go rfl rfl ?_
      refine G_gt rfl rfl (fun c4 => ?_) (fun c4 => ?_)
      · have h := h.1 c4
        refine G_go rfl rfl ?_
        exact G_ret rfl rfl h
      · have h := h.2 c4
        refine G_go rfl rfl ?_
        refine G_go rfl rfl ?_
        refine G_call rfl rfl ?_
        refine G_go rfl rfl ?_
        refine G_go rfl rfl ?_
        refine G_go rfl rfl ?_
        refine G_rd rfl rfl (by decide) ?_
        refine G_go rfl rfl ?_
        refine G_gt rfl rfl (fun c5 => ?_) (fun c5 => ?_)
        · have h := h.1 c5
          refine G_go rfl rfl ?_
          refine G_ret rfl rfl ?_
          refine G_brF rfl rfl rfl ?_
          refine G_go rfl rfl ?_
          exact G_ret rfl rfl h
        · have h := h.2 c5
          refine G_go rfl rfl ?_
          refine G_go rfl rfl ?_
          refine G_ret rfl rfl ?_
          refine G_brT rfl rfl rfl ?_
          refine G_go rfl rfl ?_
          refine G_go rfl rfl ?_
          exact G_call rfl rfl h
  · have h := h.2 c2
    refine G_go rfl rfl ?_
    refine G_go rfl rfl ?_
    refine G_rd rfl rfl (by decide) ?_
    refine G_ge rfl rfl (fun c6 => ?_) (fun c6 => ?_)
    · have h := h.1 c6
      refine G_go rfl rfl ?_
      refine G_go rfl rfl ?_
      refine G_go rfl rfl ?_
      refine G_go rfl rfl ?_
      refine G_go rfl rfl ?_
      refine G_go rfl rfl ?_
      refine G_call rfl rfl ?_
      refine c_two n _ _ (wr (a1 + 1)) hR g1 ?_
      refine G_go rfl rfl ?_
      show G 2 120 31 154 [(3, 115), (3, 13), (1, a1), (1, dgV (s 116) (s 115 1) (wr (a1 + 1))), (1, twV (s 116) (s 115 1) (wr (a1 + 1)))] [] (n, s) Q
      refine G_go rfl rfl ?_
      refine G_go rfl rfl ?_
      refine G_lt rfl rfl (fun c7 => ?_) (fun c7 => ?_)
      · have h := h.1 c7
        refine G_go rfl rfl ?_
        exact G_ret rfl rfl h
      · have h := h.2 c7
        refine G_go rfl rfl ?_
        refine G_go rfl rfl ?_
        refine G_gt rfl rfl (fun c8 => ?_) (fun c8 => ?_)
        · have h := h.1 c8
          refine G_go rfl rfl ?_
          exact G_ret rfl rfl h
        · have h := h.2 c8
          refine G_go rfl rfl ?_
          refine G_go rfl rfl ?_
          refine G_call rfl rfl ?_
          refine G_go rfl rfl ?_
          refine G_go rfl rfl ?_
          refine G_go rfl rfl ?_
          refine G_rd rfl rfl (by decide) ?_
          refine G_go rfl rfl ?_
          refine G_gt rfl rfl (fun c9 => ?_) (fun c9 => ?_)
          · have h := h.1 c9
            refine G_go rfl rfl ?_
            refine G_ret rfl rfl ?_
            refine G_brF rfl rfl rfl ?_
            refine G_go rfl rfl ?_
            exact G_ret rfl rfl h
          · have h := h.2 c9
            refine G_go rfl rfl ?_
            refine G_go rfl rfl ?_
            refine G_ret rfl rfl ?_
            refine G_brT rfl rfl rfl ?_
            refine G_go rfl rfl ?_
            refine G_go rfl rfl ?_
            exact G_call rfl rfl h
    · have h := h.2 c6
      refine G_go rfl rfl ?_
      refine G_rf rfl rfl (by decide) (hR 115 0 116 rfl) ?_
      refine G_go rfl rfl ?_
      obtain ⟨g10, h⟩ := h
      refine G_ir (n := 96) rfl rfl (by decide) (by decide) g10 ?_
      refine G_go rfl rfl ?_
      by_cases hs30_0 : s 116 a1.toNat = 99
      · refine G_k hs30_0 rfl rfl ?_
        have h := h.1 hs30_0
        refine G_go rfl rfl ?_
        refine G_go rfl rfl ?_
        refine G_go rfl rfl ?_
        refine G_go rfl rfl ?_
        refine G_go rfl rfl ?_
        refine G_go rfl rfl ?_
        refine G_call rfl rfl ?_
        refine c_two n _ _ (wr (a1 + 2)) hR g1 ?_
        exact G_call rfl rfl h
      replace h := h.2
      by_cases hs30_1 : s 116 a1.toNat = 104
      · refine G_k hs30_1 rfl rfl ?_
        have h := h.1 hs30_1
        refine G_go rfl rfl ?_
        refine G_go rfl rfl ?_
        refine G_go rfl rfl ?_
        refine G_go rfl rfl ?_
        refine G_go rfl rfl ?_
        refine G_go rfl rfl ?_
        refine G_call rfl rfl ?_
        refine c_two n _ _ (wr (a1 + 2)) hR g1 ?_
        exact G_call rfl rfl h
      replace h := h.2
      by_cases hs30_2 : s 116 a1.toNat = 108
      · refine G_k hs30_2 rfl rfl ?_
        have h := h.1 hs30_2
        refine G_go rfl rfl ?_
        refine G_go rfl rfl ?_
        exact G_call rfl rfl h
      replace h := h.2
      by_cases hs30_3 : s 116 a1.toNat = 112
      · refine G_k hs30_3 rfl rfl ?_
        have h := h.1 hs30_3
        refine G_go rfl rfl ?_
        refine G_go rfl rfl ?_
        refine G_go rfl rfl ?_
        refine G_go rfl rfl ?_
        refine G_go rfl rfl ?_
        refine G_go rfl rfl ?_
        refine G_call rfl rfl ?_
        refine c_digit n _ _ (wr (a1 + 2)) hR g1 ?_
        refine G_go rfl rfl ?_
        refine G_go rfl rfl ?_
        refine G_go rfl rfl ?_
        refine G_go rfl rfl ?_
        refine G_call rfl rfl ?_
        refine c_two n _ _ (wr (a1 + 3)) hR g1 ?_
        exact G_call rfl rfl h
      replace h := h.2
      by_cases hs30_4 : s 116 a1.toNat = 116
      · refine G_k hs30_4 rfl rfl ?_
        have h := h.1 hs30_4
        refine G_go rfl rfl ?_
        refine G_go rfl rfl ?_
        refine G_go rfl rfl ?_
        refine G_go rfl rfl ?_
        refine G_go rfl rfl ?_
        refine G_go rfl rfl ?_
        refine G_call rfl rfl ?_
        refine c_digit n _ _ (wr (a1 + 2)) hR g1 ?_
        exact G_call rfl rfl h
      replace h := h.2
      have hd30 : s 116 a1.toNat ≠ 99 ∧ s 116 a1.toNat ≠ 104 ∧ s 116 a1.toNat ≠ 108 ∧ s 116 a1.toNat ≠ 112 ∧ s 116 a1.toNat ≠ 116 := ⟨hs30_0, hs30_1, hs30_2, hs30_3, hs30_4⟩
      refine G_lkd rfl (by simp [Op.lookupswitch.offset, Ne.symm hs30_0, Ne.symm hs30_1, Ne.symm hs30_2, Ne.symm hs30_3, Ne.symm hs30_4]) rfl ?_
      replace h := h hd30
      refine G_go rfl rfl ?_
      refine G_go rfl rfl ?_
      refine G_go rfl rfl ?_
      refine G_go rfl rfl ?_
      refine G_call rfl rfl ?_
      refine c_two n _ _ (wr (a1 + 1)) hR g1 ?_
      refine G_go rfl rfl ?_
      show G 2 120 31 154 [(3, 115), (3, 13), (1, a1), (1, dgV (s 116) (s 115 1) (wr (a1 + 1))), (1, twV (s 116) (s 115 1) (wr (a1 + 1)))] [] (n, s) Q
      refine G_go rfl rfl ?_
      refine G_go rfl rfl ?_
      refine G_lt rfl rfl (fun c11 => ?_) (fun c11 => ?_)
      · have h := h.1 c11
        refine G_go rfl rfl ?_
        exact G_ret rfl rfl h
      · have h := h.2 c11
        refine G_go rfl rfl ?_
        refine G_go rfl rfl ?_
        refine G_gt rfl rfl (fun c12 => ?_) (fun c12 => ?_)
        · have h := h.1 c12
          refine G_go rfl rfl ?_
          exact G_ret rfl rfl h
        · have h := h.2 c12
          refine G_go rfl rfl ?_
          refine G_go rfl rfl ?_
          refine G_call rfl rfl ?_
          refine G_go rfl rfl ?_
          refine G_go rfl rfl ?_
          refine G_go rfl rfl ?_
          refine G_rd rfl rfl (by decide) ?_
          refine G_go rfl rfl ?_
          refine G_gt rfl rfl (fun c13 => ?_) (fun c13 => ?_)
          · have h := h.1 c13
            refine G_go rfl rfl ?_
            refine G_ret rfl rfl ?_
            refine G_brF rfl rfl rfl ?_
            refine G_go rfl rfl ?_
            exact G_ret rfl rfl h
          · have h := h.2 c13
            refine G_go rfl rfl ?_
            refine G_go rfl rfl ?_
            refine G_ret rfl rfl ?_
            refine G_brT rfl rfl rfl ?_
            refine G_go rfl rfl ?_
            refine G_go rfl rfl ?_
            exact G_call rfl rfl h
theorem sb_X2_comes_99 (n : Nat) (s : Nat → Nat → Int) (Q : List Vl → Sto → Prop) (x2 : Int) (x3 : Int) (y0 : Int) (hR : refs s)
    (h : (y0 = 0 ∨ y0 = 1) ∧ (Q [(1, y0)] (n, s))) :
    G 2 120 31 99 [(3, 115), (3, 13), (1, x2), (1, x3), (0, 0)] [(1, y0)] (n, s) Q := by
  obtain ⟨g1, h⟩ := h
  exact G_retZ rfl rfl g1 h
theorem sb_X2_comes_112 (n : Nat) (s : Nat → Nat → Int) (Q : List Vl → Sto → Prop) (x2 : Int) (x3 : Int) (y0 : Int) (hR : refs s)
    (h : (y0 = 0 ∨ y0 = 1) ∧ (Q [(1, y0)] (n, s))) :
    G 2 120 31 112 [(3, 115), (3, 13), (1, x2), (1, x3), (0, 0)] [(1, y0)] (n, s) Q := by
  obtain ⟨g1, h⟩ := h
  exact G_retZ rfl rfl g1 h
theorem sb_X2_comes_125 (n : Nat) (s : Nat → Nat → Int) (Q : List Vl → Sto → Prop) (x2 : Int) (x3 : Int) (y0 : Int) (hR : refs s)
    (h : (y0 = 0 ∨ y0 = 1) ∧ (Q [(1, y0)] (n, s))) :
    G 2 120 31 125 [(3, 115), (3, 13), (1, x2), (1, x3), (0, 0)] [(1, y0)] (n, s) Q := by
  obtain ⟨g1, h⟩ := h
  exact G_retZ rfl rfl g1 h
theorem sb_X2_comes_138 (n : Nat) (s : Nat → Nat → Int) (Q : List Vl → Sto → Prop) (x2 : Int) (x3 : Int) (y0 : Int) (hR : refs s)
    (h : (y0 = 0 ∨ y0 = 1) ∧ (Q [(1, y0)] (n, s))) :
    G 2 120 31 138 [(3, 115), (3, 13), (1, x2), (1, x3), (0, 0)] [(1, y0)] (n, s) Q := by
  obtain ⟨g1, h⟩ := h
  exact G_retZ rfl rfl g1 h
theorem sb_X2_comes_144 (n : Nat) (s : Nat → Nat → Int) (Q : List Vl → Sto → Prop) (x2 : Int) (x3 : Int) (y0 : Int) (hR : refs s)
    (h : (y0 = 0 ∨ y0 = 1) ∧ (Q [(1, y0)] (n, s))) :
    G 2 120 31 144 [(3, 115), (3, 13), (1, x2), (1, x3), (0, 0)] [(1, y0)] (n, s) Q := by
  obtain ⟨g1, h⟩ := h
  exact G_retZ rfl rfl g1 h
theorem sb_X2_comes_184 (n : Nat) (s : Nat → Nat → Int) (Q : List Vl → Sto → Prop) (x2 : Int) (x3 : Int) (x4 : Int) (hR : refs s)
    (h : Q [(1, 1)] (n, s)) :
    G 2 120 31 184 [(3, 115), (3, 13), (1, x2), (1, x3), (1, x4)] [] (n, s) Q := by
  refine G_go rfl rfl ?_
  exact G_ret rfl rfl h
def two (c : Nat → Int) (q : Nat) : Int := 10 * (c q - 48) + (c (q + 1) - 48)
def tvA (c : Nat → Int) (p : Nat) : Int := if c p = 110 then two c (p + 1) else c (p + 1) - 48
def tvB (c : Nat → Int) (p : Nat) : Int := if c p = 104 ∨ c p = 99 then two c (p + 2) else c (p + 2) - 48
def tvC (c : Nat → Int) (p : Nat) : Int := two c (p + 3)
theorem dgV_at {c : Nat → Int} {L q : Nat} (g : goodD c L q) : dgV c (L : Int) (q : Int) = c q - 48 := by
  obtain ⟨g1, g2, g3⟩ := g
  unfold dgV
  rw [if_pos ⟨by omega, by omega⟩, Int.toNat_natCast, wr_id (by omega) (by omega)]
theorem twV_at {c : Nat → Int} {L q : Nat} (hL : L ≤ 96) (g : goodD c L q) (f : goodD c L (q + 1)) : twV c (L : Int) (q : Int) = two c q := by
  have g1 := g.2
  have f1 := f.2
  have f0 := f.1
  unfold twV two
  rw [wr_s (show q < 96 by omega) (by omega), dgV_at g, dgV_at f, wr_id (x := 10 * (c q - 48)) (by omega) (by omega), wr_id (by omega) (by omega)]
def adV (m : Nat) (a b v : Int) (V : Nat → Nat → Int) : Nat → Nat → Int := upS (upS (upS (upS (upS (upS (upS (upS V 0 m a) 1 m b) 2 m v) 3 m 0) 4 m 50) 5 m 0) 6 m 0) 7 m (-9)
abbrev Twn : Type := Nat × Int × (Nat → Nat → Int)
def exS (l a b v : Int) (m : Nat) (h : Int) (V : Nat → Nat → Int) : Option Twn :=
  if l = 112 then (if a ≤ 5 ∧ m < 6 then some (m + 1, h, adV m a b v V) else none)
  else if l = 104 then (if a < m then some (m, h, upS V 3 a.toNat b) else none)
  else if l = 99 then (if a < m then some (m, h, if b = 0 then upS (upS V 4 a.toNat b) 5 a.toNat 0 else upS V 4 a.toNat b) else none)
  else if l = 116 then (if a < m ∧ b < m ∧ a ≠ b then some (m, h, upS V 7 a.toNat (tuC V a.toNat b)) else none)
  else if l = 108 then (if a < m ∧ 0 < V 4 a.toNat then some (m, h, upS V 5 a.toNat (1 - V 5 a.toNat)) else none)
  else (if 1 ≤ a ∧ a ≤ 12 ∧ h + a ≤ 999 then some (m, (hrN a.toNat h (ltV m (dkV m V))).1, ntV m a.toNat h V) else none)
theorem twC_add {s : Nat → Nat → Int} {m : Nat} {h a b v : Int} {V : Nat → Nat → Int} (ht : twC 13 s m h V) : twC 13 (upS (upS (upS (upS (upS (upS (upS (upS (upS s 14 m a) 15 m b) 16 m v) 17 m 0) 18 m 50) 19 m 0) 20 m 0) 21 m (-1)) 13 9 ((m + 1 : Nat) : Int)) ((m + 1 : Nat) : Int) h (adV m a b v V) := by
  obtain ⟨t1, t2, t3⟩ := ht
  refine ⟨upS_eq, t2, fun p hp => ?_⟩
  by_cases e : p = m
  · subst e
    refine ⟨?_, ?_, ?_, ?_, ?_, ?_, ?_, Or.inl ⟨?_, ?_⟩⟩
    all_goals simp [vw, adV, upS]
  · have g := t3 p (by omega)
    have r : ∀ j, j < 8 → vw 14 (upS (upS (upS (upS (upS (upS (upS (upS (upS s 14 m a) 15 m b) 16 m v) 17 m 0) 18 m 50) 19 m 0) 20 m 0) 21 m (-1)) 13 9 ((m + 1 : Nat) : Int)) j p = vw 14 s j p := fun j hj => by
      unfold vw
      rw [upS_1 (by omega), upS_2 e, upS_2 e, upS_2 e, upS_2 e, upS_2 e, upS_2 e, upS_2 e, upS_2 e]
    have q : ∀ j, adV m a b v V j p = V j p := fun j => by
      unfold adV
      rw [upS_2 e, upS_2 e, upS_2 e, upS_2 e, upS_2 e, upS_2 e, upS_2 e, upS_2 e]
    show eqP (vw 14 _) (adV m a b v V) p
    unfold eqP
    rw [r 0 (by decide), r 1 (by decide), r 2 (by decide), r 3 (by decide), r 4 (by decide), r 5 (by decide), r 6 (by decide), r 7 (by decide), q, q, q, q, q, q, q, q]
    exact g
theorem ok_add {m : Nat} {a b v : Int} {V : Nat → Nat → Int} (o : okT (m : Int) V) (hm : m < 6) (ha : 0 ≤ a ∧ a ≤ 5) (hb : 0 ≤ b ∧ b ≤ 9) (hv : 0 ≤ v ∧ v ≤ 99) : okT ((m + 1 : Nat) : Int) (adV m a b v V) := by
  refine ⟨by omega, fun p hp => ?_⟩
  by_cases e : p = m
  · subst e
    refine ⟨?_, ?_, ?_, ?_, ?_, ?_, ?_, Or.inl ?_⟩
    all_goals simp [adV, upS]
    all_goals omega
  · have g := o.2 p (by omega)
    have q : ∀ j, adV m a b v V j p = V j p := fun j => by
      unfold adV
      rw [upS_2 e, upS_2 e, upS_2 e, upS_2 e, upS_2 e, upS_2 e, upS_2 e, upS_2 e]
    rw [q, q, q, q, q, q, q, q]
    obtain ⟨g0, g1, g2, g3, g4, g5, g6, g7⟩ := g
    exact ⟨g0, g1, g2, g3, g4, g5, g6, by omega⟩
theorem exS_p {a b v : Int} {m : Nat} {h : Int} {V : Nat → Nat → Int} : exS 112 a b v m h V = if a ≤ 5 ∧ m < 6 then some (m + 1, h, adV m a b v V) else none := rfl
theorem exS_h {a b v : Int} {m : Nat} {h : Int} {V : Nat → Nat → Int} : exS 104 a b v m h V = if a < m then some (m, h, upS V 3 a.toNat b) else none := rfl
theorem exS_c {a b v : Int} {m : Nat} {h : Int} {V : Nat → Nat → Int} : exS 99 a b v m h V = if a < m then some (m, h, if b = 0 then upS (upS V 4 a.toNat b) 5 a.toNat 0 else upS V 4 a.toNat b) else none := rfl
theorem exS_t {a b v : Int} {m : Nat} {h : Int} {V : Nat → Nat → Int} : exS 116 a b v m h V = if a < m ∧ b < m ∧ a ≠ b then some (m, h, upS V 7 a.toNat (tuC V a.toNat b)) else none := rfl
theorem exS_l {a b v : Int} {m : Nat} {h : Int} {V : Nat → Nat → Int} : exS 108 a b v m h V = if a < m ∧ 0 < V 4 a.toNat then some (m, h, upS V 5 a.toNat (1 - V 5 a.toNat)) else none := rfl
theorem exS_n {a b v : Int} {m : Nat} {h : Int} {V : Nat → Nat → Int} : exS 110 a b v m h V = if 1 ≤ a ∧ a ≤ 12 ∧ h + a ≤ 999 then some (m, (hrN a.toNat h (ltV m (dkV m V))).1, ntV m a.toNat h V) else none := rfl
theorem wr_n {p : Nat} (k : Nat) (h : p < 200) (hk : k < 10) : wr ((p : Int) + (k : Int)) = ((p + k : Nat) : Int) := by
  rw [wr_id (by omega) (by omega)]
  omega
theorem wr_3 {k : Nat} (h : k < 100) : wr (3 * (k : Int)) = ((3 * k : Nat) : Int) := by
  rw [wr_id (by omega) (by omega)]
  omega
theorem dg_lt {a : Int} (h : 1 ≤ dgO a) : a = 112 ∨ a = 104 ∨ a = 99 ∨ a = 116 ∨ a = 108 ∨ a = 110 := by
  unfold dgO at h
  repeat' split at h
  all_goals omega
theorem c_comes (n : Nat) (s : Nat → Nat → Int) (Q : List Vl → Sto → Prop) (hR : refs s) (L p m : Nat) (h : Int) (V : Nat → Nat → Int) (hL : s 115 1 = (L : Int)) (hL2 : L ≤ 96) (w : wfS (s 116) L p) (o : okT (m : Int) V) (hh : 0 ≤ h ∧ h ≤ 999) (ht : twC 13 s m h V) (h0 : exS (s 116 p) (tvA (s 116) p) (tvB (s 116) p) (tvC (s 116) p) m h V = none → Q [(1, 0)] (n, s)) (h1 : ∀ T : Twn, exS (s 116 p) (tvA (s 116) p) (tvB (s 116) p) (tvC (s 116) p) m h V = some T → ∀ s1, refs s1 → frT 13 s s1 → twC 13 s1 T.1 T.2.1 T.2.2 → Q [(1, 1)] (n, s1)) : G 2 120 31 0 [(3, 115), (3, 13), (1, (p : Int)), (0, 0), (0, 0)] [] (n, s) Q := by
  obtain ⟨w1, w2, w3, w4⟩ := w
  obtain ⟨d1, d2, d3⟩ := dgN_rg w1
  have hm : (m : Int) ≤ 6 := o.1.2
  have e9 : s 13 9 = (m : Int) := ht.1
  have e10 : s 13 10 = h := ht.2.1
  have p200 : p < 200 := by omega
  have eh : wr (999 - h) = 999 - h := wr_id (by omega) (by omega)
  have p1 : wr ((p : Int) + 1) = ((p + 1 : Nat) : Int) := wr_n 1 p200 (by decide)
  have p2 : wr ((p : Int) + 2) = ((p + 2 : Nat) : Int) := wr_n 2 p200 (by decide)
  have p3 : wr ((p : Int) + 3) = ((p + 3 : Nat) : Int) := wr_n 3 p200 (by decide)
  refine sb_X2_comes_0 n s Q p hR ?_
  rw [hL, Int.toNat_natCast, e10, eh, p1, p2, p3]
  clear eh p1 p2 p3
  have g1 : goodD (s 116) L (p + 1) := w2 0 (by omega)
  have g2 : 2 ≤ dgN (s 116) p → goodD (s 116) L (p + 2) := fun k => w2 1 (by omega)
  have g3 : 3 ≤ dgN (s 116) p → goodD (s 116) L (p + 3) := fun k => w2 2 (by omega)
  have g4 : 4 ≤ dgN (s 116) p → goodD (s 116) L (p + 4) := fun k => w2 3 (by omega)
  have r1 := g1.2
  have no : ∀ {x : Int}, dgO (s 116 p) = x → ((dgN (s 116) p : Nat) : Int) = x := fun k => by rw [d3, k]
  refine ⟨by omega, fun k => by omega, fun _ => ⟨fun k => by omega, fun _ => ⟨by omega, fun e => ?_, fun e => ?_, fun e => ?_, fun e => ?_, fun e => ?_, fun e => ?_⟩⟩⟩
  · have q := no (x := 3) (by rw [e]; rfl)
    have b2 := (g2 (by omega)).2
    have b3 := (g3 (by omega)).2
    have ea : tvA (s 116) p = s 116 (p + 1) - 48 := if_neg (by omega)
    have eb : tvB (s 116) p = two (s 116) (p + 2) := if_pos (Or.inr e)
    have et : two (s 116) (p + 2) = 10 * (s 116 (p + 2) - 48) + (s 116 (p + 3) - 48) := rfl
    rw [dgV_at g1, twV_at hL2 (g2 (by omega)) (g3 (by omega))]
    rw [e, ea, eb, exS_c] at h0 h1
    refine sb_X2_comesCandle_0 n s _ _ _ hR ⟨fun k => by omega, fun _ => ⟨fun k => ?_, fun k => ⟨by omega, fun z => ?_, fun z => ?_⟩⟩⟩
    · exact sb_X2_comes_125 n s Q _ _ 0 hR ⟨Or.inl rfl, h0 (if_neg (by omega))⟩
    · refine sb_X2_comes_125 n _ Q _ _ 1 (refs_up hR rfl) ⟨Or.inr rfl, h1 (m, h, upS V 4 (s 116 (p + 1) - 48).toNat (two (s 116) (p + 2))) ?_ _ (refs_up hR rfl) (frT_up (by decide) (by decide)) (twC_set (j := 4) ht (by decide))⟩
      rw [if_pos (by omega), if_neg z]
    · refine sb_X2_comes_125 n _ Q _ _ 1 (refs_up (refs_up hR rfl) rfl) ⟨Or.inr rfl, h1 (m, h, upS (upS V 4 (s 116 (p + 1) - 48).toNat (two (s 116) (p + 2))) 5 (s 116 (p + 1) - 48).toNat 0) ?_ _ (refs_up (refs_up hR rfl) rfl) (frT_trans (frT_up (c := 18) (k := (s 116 (p + 1) - 48).toNat) (x := two (s 116) (p + 2)) (by decide) (by decide)) (frT_up (by decide) (by decide))) (twC_set (j := 5) (twC_set (j := 4) ht (by decide)) (by decide))⟩
      rw [if_pos (by omega), if_pos z]
  · have q := no (x := 3) (by rw [e]; rfl)
    have ea : tvA (s 116) p = s 116 (p + 1) - 48 := if_neg (by omega)
    have eb : tvB (s 116) p = two (s 116) (p + 2) := if_pos (Or.inl e)
    rw [dgV_at g1, twV_at hL2 (g2 (by omega)) (g3 (by omega))]
    rw [e, ea, eb, exS_h] at h0 h1
    refine sb_X2_comesHides_0 n s _ _ _ hR ⟨fun k => by omega, fun _ => ⟨fun k => ?_, fun k => ⟨by omega, ?_⟩⟩⟩
    · exact sb_X2_comes_112 n s Q _ _ 0 hR ⟨Or.inl rfl, h0 (if_neg (by omega))⟩
    · refine sb_X2_comes_112 n _ Q _ _ 1 (refs_up hR rfl) ⟨Or.inr rfl, h1 (m, h, upS V 3 (s 116 (p + 1) - 48).toNat (two (s 116) (p + 2))) ?_ _ (refs_up hR rfl) (frT_up (by decide) (by decide)) (twC_set (j := 3) ht (by decide))⟩
      rw [if_pos (by omega)]
  · have q := no (x := 1) (by rw [e]; rfl)
    have ea : tvA (s 116) p = s 116 (p + 1) - 48 := if_neg (by omega)
    rw [dgV_at g1]
    rw [e, ea, exS_l] at h0 h1
    refine sb_X2_comesLight_0 n s _ _ hR ⟨fun k => by omega, fun _ => ⟨fun k => ?_, fun k => ⟨by omega, fun z => ?_, fun z => ?_⟩⟩⟩
    · exact sb_X2_comes_144 n s Q _ _ 0 hR ⟨Or.inl rfl, h0 (if_neg (by omega))⟩
    · have e5 : s 19 (s 116 (p + 1) - 48).toNat = V 5 (s 116 (p + 1) - 48).toNat := (ht.2.2 _ (by omega)).2.2.2.2.2.1
      have e4 : s 18 (s 116 (p + 1) - 48).toNat = V 4 (s 116 (p + 1) - 48).toNat := (ht.2.2 _ (by omega)).2.2.2.2.1
      have o5 := (o.2 (s 116 (p + 1) - 48).toNat (by omega)).2.2.2.2.2.1
      have o4 := (o.2 (s 116 (p + 1) - 48).toNat (by omega)).2.2.2.2.1
      refine ⟨fun y => ?_, fun y => ?_⟩
      · refine sb_X2_comes_144 n _ Q _ _ 1 (refs_up hR rfl) ⟨Or.inr rfl, h1 (m, h, upS V 5 (s 116 (p + 1) - 48).toNat 0) ?_ _ (refs_up hR rfl) (frT_up (by decide) (by decide)) (twC_set (j := 5) ht (by decide))⟩
        rw [if_pos (by omega), show V 5 (s 116 (p + 1) - 48).toNat = 1 by omega]
        rfl
      · refine sb_X2_comes_144 n _ Q _ _ 1 (refs_up hR rfl) ⟨Or.inr rfl, h1 (m, h, upS V 5 (s 116 (p + 1) - 48).toNat 1) ?_ _ (refs_up hR rfl) (frT_up (by decide) (by decide)) (twC_set (j := 5) ht (by decide))⟩
        rw [if_pos (by omega), show V 5 (s 116 (p + 1) - 48).toNat = 0 by omega]
        rfl
    · have e4 : s 18 (s 116 (p + 1) - 48).toNat = V 4 (s 116 (p + 1) - 48).toNat := (ht.2.2 _ (by omega)).2.2.2.2.1
      exact sb_X2_comes_144 n s Q _ _ 0 hR ⟨Or.inl rfl, h0 (if_neg (by omega))⟩
  · have q := no (x := 4) (by rw [e]; rfl)
    have ea : tvA (s 116) p = s 116 (p + 1) - 48 := if_neg (by omega)
    have eb : tvB (s 116) p = s 116 (p + 2) - 48 := if_neg (by omega)
    have ec : tvC (s 116) p = two (s 116) (p + 3) := rfl
    rw [dgV_at g1, dgV_at (g2 (by omega)), twV_at hL2 (g3 (by omega)) (g4 (by omega))]
    rw [e, ea, eb, ec, exS_p] at h0 h1
    refine sb_X2_comesPerson_0 n s _ _ _ _ hR ⟨fun k => ?_, fun k => ⟨fun z => ⟨by omega, ?_⟩, fun z => ?_⟩⟩
    · exact sb_X2_comes_99 n s Q _ _ 0 hR ⟨Or.inl rfl, h0 (if_neg (by omega))⟩
    · rw [e9, Int.toNat_natCast, wr_s (show m < 6 by omega) (by decide)]
      have rr : refs (upS (upS (upS (upS (upS (upS (upS (upS (upS s 14 m (s 116 (p + 1) - 48)) 15 m (s 116 (p + 2) - 48)) 16 m (two (s 116) (p + 3))) 17 m 0) 18 m 50) 19 m 0) 20 m 0) 21 m (-1)) 13 9 ((m + 1 : Nat) : Int)) := by
        repeat first | exact hR | refine refs_up ?_ rfl
      refine sb_X2_comes_99 n _ Q _ _ 1 rr ⟨Or.inr rfl, h1 (m + 1, h, adV m (s 116 (p + 1) - 48) (s 116 (p + 2) - 48) (two (s 116) (p + 3)) V) ?_ _ rr (fun c hc => ?_) (twC_add ht)⟩
      · rw [if_pos ⟨by omega, by omega⟩]
      · rw [upS_row (by omega), upS_row (by omega), upS_row (by omega), upS_row (by omega), upS_row (by omega), upS_row (by omega), upS_row (by omega), upS_row (by omega), upS_row (by omega)]
    · exact sb_X2_comes_99 n s Q _ _ 0 hR ⟨Or.inl rfl, h0 (if_neg (by omega))⟩
  · have q := no (x := 2) (by rw [e]; rfl)
    have b2 := (g2 (by omega)).2
    have ea : tvA (s 116) p = s 116 (p + 1) - 48 := if_neg (by omega)
    have eb : tvB (s 116) p = s 116 (p + 2) - 48 := if_neg (by omega)
    rw [dgV_at g1, dgV_at (g2 (by omega))]
    rw [e, ea, eb, exS_t] at h0 h1
    refine sb_X2_comesCousin_0 n s _ _ _ hR ⟨fun k => by omega, fun _ => ⟨fun k => ?_, fun k => ⟨fun z => by omega, fun _ => ⟨fun z => ?_, fun z => ⟨fun y => ⟨by omega, ?_⟩, fun y => ?_⟩⟩⟩⟩⟩
    · exact sb_X2_comes_138 n s Q _ _ 0 hR ⟨Or.inl rfl, h0 (if_neg (by omega))⟩
    · exact sb_X2_comes_138 n s Q _ _ 0 hR ⟨Or.inl rfl, h0 (if_neg (by omega))⟩
    · have e7 : (V 7 (s 116 (p + 1) - 48).toNat = -9 ∧ s 21 (s 116 (p + 1) - 48).toNat = -1) ∨ (0 ≤ V 7 (s 116 (p + 1) - 48).toNat ∧ s 21 (s 116 (p + 1) - 48).toNat = V 7 (s 116 (p + 1) - 48).toNat) := (ht.2.2 _ (by omega)).2.2.2.2.2.2.2
      refine ⟨fun x => ?_, fun x => ?_⟩
      · refine sb_X2_comes_138 n _ Q _ _ 1 (refs_up hR rfl) ⟨Or.inr rfl, h1 (m, h, upS V 7 (s 116 (p + 1) - 48).toNat (s 116 (p + 2) - 48)) ?_ _ (refs_up hR rfl) (frT_up (by decide) (by decide)) (twC_set7 ht (Or.inr ⟨by omega, rfl⟩))⟩
        unfold tuC
        rw [if_pos ⟨by omega, by omega, y⟩, if_neg (by omega)]
      · refine sb_X2_comes_138 n _ Q _ _ 1 (refs_up hR rfl) ⟨Or.inr rfl, h1 (m, h, upS V 7 (s 116 (p + 1) - 48).toNat (-9)) ?_ _ (refs_up hR rfl) (frT_up (by decide) (by decide)) (twC_set7 ht (Or.inl ⟨rfl, rfl⟩))⟩
        unfold tuC
        rw [if_pos ⟨by omega, by omega, y⟩, if_pos (by omega)]
    · exact sb_X2_comes_138 n s Q _ _ 0 hR ⟨Or.inl rfl, h0 (if_neg (by omega))⟩
  · have e : s 116 p = 110 := by
      have := dg_lt w1
      omega
    have q := no (x := 2) (by rw [e]; rfl)
    have b2 := (g2 (by omega)).2
    have ea : tvA (s 116) p = two (s 116) (p + 1) := if_pos e
    have et : two (s 116) (p + 1) = 10 * (s 116 (p + 1) - 48) + (s 116 (p + 2) - 48) := rfl
    obtain ⟨N, hN⟩ : ∃ N : Nat, two (s 116) (p + 1) = (N : Int) := ⟨(two (s 116) (p + 1)).toNat, by omega⟩
    rw [twV_at hL2 g1 (g2 (by omega)), hN]
    rw [e, ea, hN, exS_n, Int.toNat_natCast] at h0 h1
    have no : (∀ k : ¬ (1 ≤ (N : Int) ∧ (N : Int) ≤ 12 ∧ h + (N : Int) ≤ 999), Q [(1, 0)] (n, s)) := fun k => h0 (if_neg k)
    refine ⟨fun k => no (by omega), fun k => ⟨fun z => no (by omega), fun z => ⟨fun y => no (by omega), fun y => ?_⟩⟩⟩
    refine c_passNight_13 n s _ m h V N (by omega) hR o ht (fun s1 q1 f1 t1 => ?_)
    exact sb_X2_comes_184 n s1 Q _ _ _ q1 (h1 (m, _, _) (if_pos ⟨by omega, by omega, by omega⟩) s1 q1 f1 t1)

theorem sb_X7_readDigits_0 (n : Nat) (s : Nat → Nat → Int) (Q : List Vl → Sto → Prop) (a0 : Int) (hR : refs s)
    (h : G 120 140 204 4 [(3, 120), (1, a0), (1, 0), (1, 0)] [] (n, s) Q) :
    G 120 140 204 0 [(3, 120), (1, a0), (0, 0), (0, 0)] [] (n, s) Q := by
  refine G_go rfl rfl ?_
  refine G_go rfl rfl ?_
  show G 120 140 204 2 [(3, 120), (1, a0), (1, 0), (0, 0)] [] (n, s) Q
  refine G_go rfl rfl ?_
  refine G_go rfl rfl ?_
  show G 120 140 204 4 [(3, 120), (1, a0), (1, 0), (1, 0)] [] (n, s) Q
  exact h
theorem sb_X7_readDigits_4 (n : Nat) (s : Nat → Nat → Int) (Q : List Vl → Sto → Prop) (x1 : Int) (x2 : Int) (x3 : Int) (hR : refs s)
    (h : (x1 ≤ x3 → Q [(1, x2)] (n, s)) ∧ (x3 < x1 → (s 120 16 ≠ 0 → G 120 140 204 4 [(3, 120), (1, x1), (1, 0), (1, wr (x3 + 1))] [] (n, upS (upS s 120 16 1) 120 15 (wr ((s 120 15) + 0))) Q) ∧ (s 120 16 = 0 → (s 120 14 ≤ s 120 15 → G 120 140 204 4 [(3, 120), (1, x1), (1, 0), (1, wr (x3 + 1))] [] (n, upS (upS s 120 16 1) 120 15 (wr ((s 120 15) + 0))) Q) ∧ (s 120 15 < s 120 14 → (0 ≤ s 120 15 ∧ s 120 15 < 96) ∧ ((s 131 ((s 120 15).toNat) < 48 → G 120 140 204 4 [(3, 120), (1, x1), (1, 0), (1, wr (x3 + 1))] [] (n, upS (upS s 120 16 1) 120 15 (wr ((s 120 15) + 0))) Q) ∧ (s 131 ((s 120 15).toNat) ≥ 48 → (s 131 ((s 120 15).toNat) > 57 → G 120 140 204 4 [(3, 120), (1, x1), (1, 0), (1, wr (x3 + 1))] [] (n, upS (upS s 120 16 1) 120 15 (wr ((s 120 15) + 0))) Q) ∧ (s 131 ((s 120 15).toNat) ≤ 57 → G 120 140 204 4 [(3, 120), (1, x1), (1, wr ((wr ((wr (10 * x2)) + (s 131 ((s 120 15).toNat)))) - 48)), (1, wr (x3 + 1))] [] (n, upS (upS s 120 16 0) 120 15 (wr ((s 120 15) + 1))) Q))))))) :
    G 120 140 204 4 [(3, 120), (1, x1), (1, x2), (1, x3)] [] (n, s) Q := by
  refine G_go rfl rfl ?_
  refine G_go rfl rfl ?_
  refine G_ge rfl rfl (fun c1 => ?_) (fun c1 => ?_)
  · have h := h.1 c1
    refine G_go rfl rfl ?_
    exact G_ret rfl rfl h
  · have h := h.2 c1
    refine G_go rfl rfl ?_
    refine G_go rfl rfl ?_
    refine G_rd rfl rfl (by decide) ?_
    refine G_ne rfl rfl (fun c2 => ?_) (fun c2 => ?_)
    · have h := h.1 c2
      refine G_go rfl rfl ?_
      refine G_go rfl rfl ?_
      refine G_wr rfl rfl (by decide) ?_
      have hR := refs_up (a := 120) (k := 16) (x := 1) hR rfl
      refine G_go rfl rfl ?_
      refine G_rdv (v := 1) rfl rfl (by decide) (by simp [upS]) ?_
      refine G_brF rfl rfl rfl ?_
      refine G_go rfl rfl ?_
      refine G_go rfl rfl ?_
      refine G_go rfl rfl ?_
      show G 120 140 204 71 [(3, 120), (1, x1), (1, 0), (1, x3)] [] (n, upS s 120 16 1) Q
      refine G_go rfl rfl ?_
      refine G_go rfl rfl ?_
      refine G_rd rfl rfl (by decide) ?_
      refine G_go rfl rfl ?_
      refine G_rdv (v := 1) rfl rfl (by decide) (by simp [upS]) ?_
      refine G_brF rfl rfl rfl ?_
      refine G_go rfl rfl ?_
      refine G_go rfl rfl ?_
      refine G_go rfl rfl ?_
      refine G_wr rfl rfl (by decide) ?_
      have hR := refs_up (a := 120) (k := 15) (x := wr ((s 120 15) + 0)) hR rfl
      refine G_go rfl rfl ?_
      refine G_go rfl rfl ?_
      exact h
    · have h := h.2 c2
      refine G_go rfl rfl ?_
      refine G_call rfl rfl ?_
      refine G_go rfl rfl ?_
      refine G_rd rfl rfl (by decide) ?_
      refine G_go rfl rfl ?_
      refine G_rd rfl rfl (by decide) ?_
      refine G_ge rfl rfl (fun c3 => ?_) (fun c3 => ?_)
      · have h := h.1 c3
        refine G_go rfl rfl ?_
        refine G_ret rfl rfl ?_
        refine G_go rfl rfl ?_
        refine G_go rfl rfl ?_
        refine G_go rfl rfl ?_
        refine G_call rfl rfl ?_
        refine G_go rfl rfl ?_
        refine G_go rfl rfl ?_
        refine G_go rfl rfl ?_
        refine G_brT rfl rfl rfl ?_
        refine G_go rfl rfl ?_
        refine G_ret rfl rfl ?_
        refine G_brF rfl rfl rfl ?_
        refine G_go rfl rfl ?_
        refine G_go rfl rfl ?_
        refine G_wr rfl rfl (by decide) ?_
        have hR := refs_up (a := 120) (k := 16) (x := 1) hR rfl
        refine G_go rfl rfl ?_
        refine G_rdv (v := 1) rfl rfl (by decide) (by simp [upS]) ?_
        refine G_brF rfl rfl rfl ?_
        refine G_go rfl rfl ?_
        refine G_go rfl rfl ?_
        refine G_go rfl rfl ?_
        show G 120 140 204 71 [(3, 120), (1, x1), (1, 0), (1, x3)] [] (n, upS s 120 16 1) Q
        refine G_go rfl rfl ?_
        refine G_go rfl rfl ?_
        refine G_rd rfl rfl (by decide) ?_
        refine G_go rfl rfl ?_
        refine G_rdv (v := 1) rfl rfl (by decide) (by simp [upS]) ?_
        refine G_brF rfl rfl rfl ?_
        refine G_go rfl rfl ?_
        refine G_go rfl rfl ?_
        refine G_go rfl rfl ?_
        refine G_wr rfl rfl (by decide) ?_
        have hR := refs_up (a := 120) (k := 15) (x := wr ((s 120 15) + 0)) hR rfl
        refine G_go rfl rfl ?_
        refine G_go rfl rfl ?_
        exact h
      · have h := h.2 c3
        refine G_go rfl rfl ?_
        refine G_rf rfl rfl (by decide) (hR 120 13 131 rfl) ?_
        refine G_go rfl rfl ?_
        refine G_rd rfl rfl (by decide) ?_
        obtain ⟨g4, h⟩ := h
        refine G_ir (n := 96) rfl rfl (by decide) (by decide) g4 ?_
        refine G_go rfl rfl ?_
        refine G_ret rfl rfl ?_
        refine G_go rfl rfl ?_
        refine G_go rfl rfl ?_
        refine G_go rfl rfl ?_
        refine G_call rfl rfl ?_
        refine G_go rfl rfl ?_
        refine G_go rfl rfl ?_
        refine G_go rfl rfl ?_
        refine G_lt rfl rfl (fun c5 => ?_) (fun c5 => ?_)
        · have c5 := xl_lt c5
          have h := h.1 c5
          refine G_go rfl rfl ?_
          refine G_ret rfl rfl ?_
          refine G_brF rfl rfl rfl ?_
          refine G_go rfl rfl ?_
          refine G_go rfl rfl ?_
          refine G_wr rfl rfl (by decide) ?_
          have hR := refs_up (a := 120) (k := 16) (x := 1) hR rfl
          refine G_go rfl rfl ?_
          refine G_rdv (v := 1) rfl rfl (by decide) (by simp [upS]) ?_
          refine G_brF rfl rfl rfl ?_
          refine G_go rfl rfl ?_
          refine G_go rfl rfl ?_
          refine G_go rfl rfl ?_
          show G 120 140 204 71 [(3, 120), (1, x1), (1, 0), (1, x3)] [] (n, upS s 120 16 1) Q
          refine G_go rfl rfl ?_
          refine G_go rfl rfl ?_
          refine G_rd rfl rfl (by decide) ?_
          refine G_go rfl rfl ?_
          refine G_rdv (v := 1) rfl rfl (by decide) (by simp [upS]) ?_
          refine G_brF rfl rfl rfl ?_
          refine G_go rfl rfl ?_
          refine G_go rfl rfl ?_
          refine G_go rfl rfl ?_
          refine G_wr rfl rfl (by decide) ?_
          have hR := refs_up (a := 120) (k := 15) (x := wr ((s 120 15) + 0)) hR rfl
          refine G_go rfl rfl ?_
          refine G_go rfl rfl ?_
          exact h
        · have c5 := xl_ge c5
          have h := h.2 c5
          refine G_go rfl rfl ?_
          refine G_go rfl rfl ?_
          refine G_go rfl rfl ?_
          refine G_gt rfl rfl (fun c6 => ?_) (fun c6 => ?_)
          · have c6 := xl_gt c6
            have h := h.1 c6
            refine G_go rfl rfl ?_
            refine G_ret rfl rfl ?_
            refine G_brF rfl rfl rfl ?_
            refine G_go rfl rfl ?_
            refine G_go rfl rfl ?_
            refine G_wr rfl rfl (by decide) ?_
            have hR := refs_up (a := 120) (k := 16) (x := 1) hR rfl
            refine G_go rfl rfl ?_
            refine G_rdv (v := 1) rfl rfl (by decide) (by simp [upS]) ?_
            refine G_brF rfl rfl rfl ?_
            refine G_go rfl rfl ?_
            refine G_go rfl rfl ?_
            refine G_go rfl rfl ?_
            show G 120 140 204 71 [(3, 120), (1, x1), (1, 0), (1, x3)] [] (n, upS s 120 16 1) Q
            refine G_go rfl rfl ?_
            refine G_go rfl rfl ?_
            refine G_rd rfl rfl (by decide) ?_
            refine G_go rfl rfl ?_
            refine G_rdv (v := 1) rfl rfl (by decide) (by simp [upS]) ?_
            refine G_brF rfl rfl rfl ?_
            refine G_go rfl rfl ?_
            refine G_go rfl rfl ?_
            refine G_go rfl rfl ?_
            refine G_wr rfl rfl (by decide) ?_
            have hR := refs_up (a := 120) (k := 15) (x := wr ((s 120 15) + 0)) hR rfl
            refine G_go rfl rfl ?_
            refine G_go rfl rfl ?_
            exact h
          · have c6 := xl_le c6
            have h := h.2 c6
            refine G_go rfl rfl ?_
            refine G_go rfl rfl ?_
            refine G_ret rfl rfl ?_
            refine G_brT rfl rfl rfl ?_
            refine G_go rfl rfl ?_
            refine G_wr rfl rfl (by decide) ?_
            have hR := refs_up (a := 120) (k := 16) (x := 0) hR rfl
            refine G_go rfl rfl ?_
            refine G_rdv (v := 0) rfl rfl (by decide) (by simp [upS]) ?_
            refine G_brT rfl rfl rfl ?_
            refine G_go rfl rfl ?_
            refine G_go rfl rfl ?_
            refine G_go rfl rfl ?_
            refine G_go rfl rfl ?_
            refine G_rf rfl rfl (by decide) (hR 120 13 131 rfl) ?_
            refine G_go rfl rfl ?_
            refine G_rd rfl rfl (by decide) ?_
            refine G_ir (n := 96) rfl rfl (by decide) (by decide) g4 ?_
            refine G_go rfl rfl ?_
            refine G_go rfl rfl ?_
            refine G_go rfl rfl ?_
            refine G_go rfl rfl ?_
            show G 120 140 204 71 [(3, 120), (1, x1), (1, wr ((wr ((wr (10 * x2)) + (s 131 ((s 120 15).toNat)))) - 48)), (1, x3)] [] (n, upS s 120 16 0) Q
            refine G_go rfl rfl ?_
            refine G_go rfl rfl ?_
            refine G_rd rfl rfl (by decide) ?_
            refine G_go rfl rfl ?_
            refine G_rdv (v := 0) rfl rfl (by decide) (by simp [upS]) ?_
            refine G_brT rfl rfl rfl ?_
            refine G_go rfl rfl ?_
            refine G_go rfl rfl ?_
            refine G_wr rfl rfl (by decide) ?_
            have hR := refs_up (a := 120) (k := 15) (x := wr ((s 120 15) + 1)) hR rfl
            refine G_go rfl rfl ?_
            refine G_go rfl rfl ?_
            exact h
theorem sb_X7_readNumbers_0 (n : Nat) (s : Nat → Nat → Int) (Q : List Vl → Sto → Prop) (a0 : Int) (a1 : Int) (hR : refs s)
    (h : (a0 ≠ 110 → G 120 140 204 0 [(3, 120), (1, 1), (0, 0), (0, 0)] [] (n, s) (fun r s1 => G 120 140 205 20 [(3, 120), (1, a0), (1, a1)] (r ++ [(1, a1), (3, 134)]) s1 Q)) ∧ (a0 = 110 → G 120 140 204 0 [(3, 120), (1, 2), (0, 0), (0, 0)] [] (n, s) (fun r s1 => G 120 140 205 20 [(3, 120), (1, a0), (1, a1)] (r ++ [(1, a1), (3, 134)]) s1 Q))) :
    G 120 140 205 0 [(3, 120), (1, a0), (1, a1)] [] (n, s) Q := by
  refine G_go rfl rfl ?_
  refine G_rf rfl rfl (by decide) (hR 120 20 134 rfl) ?_
  refine G_go rfl rfl ?_
  refine G_go rfl rfl ?_
  refine G_go rfl rfl ?_
  refine G_go rfl rfl ?_
  refine G_ne rfl rfl (fun c1 => ?_) (fun c1 => ?_)
  · have h := h.1 c1
    refine G_go rfl rfl ?_
    exact G_call rfl rfl h
  · have h := h.2 c1
    refine G_go rfl rfl ?_
    refine G_go rfl rfl ?_
    exact G_call rfl rfl h
theorem sb_X7_readNumbers_20 (n : Nat) (s : Nat → Nat → Int) (Q : List Vl → Sto → Prop) (x1 : Int) (x2 : Int) (y0 : Int) (y1 : Int) (hR : refs s)
    (h : (0 ≤ y1 ∧ y1 < 147) ∧ ((x1 ≠ 112 → (x1 ≠ 116 → (x1 = 104 → G 120 140 204 0 [(3, 120), (1, 2), (0, 0), (0, 0)] [] (n, upS s 134 y1.toNat y0) (fun r s1 => G 120 140 205 102 [(3, 120), (1, x1), (1, x2)] (r ++ [(1, wr (x2 + 1)), (3, 134)]) s1 Q)) ∧ (x1 ≠ 104 → (x1 ≠ 99 → Q [] (n, upS s 134 y1.toNat y0)) ∧ (x1 = 99 → G 120 140 204 0 [(3, 120), (1, 2), (0, 0), (0, 0)] [] (n, upS s 134 y1.toNat y0) (fun r s1 => G 120 140 205 102 [(3, 120), (1, x1), (1, x2)] (r ++ [(1, wr (x2 + 1)), (3, 134)]) s1 Q)))) ∧ (x1 = 116 → G 120 140 204 0 [(3, 120), (1, 1), (0, 0), (0, 0)] [] (n, upS s 134 y1.toNat y0) (fun r s1 => G 120 140 205 74 [(3, 120), (1, x1), (1, x2)] (r ++ [(1, wr (x2 + 1)), (3, 134)]) s1 Q))) ∧ (x1 = 112 → G 120 140 204 0 [(3, 120), (1, 1), (0, 0), (0, 0)] [] (n, upS s 134 y1.toNat y0) (fun r s1 => G 120 140 205 39 [(3, 120), (1, x1), (1, x2)] (r ++ [(1, wr (x2 + 1)), (3, 134)]) s1 Q)))) :
    G 120 140 205 20 [(3, 120), (1, x1), (1, x2)] [(1, y0), (1, y1), (3, 134)] (n, s) Q := by
  obtain ⟨g1, h⟩ := h
  refine G_iw (n := 147) rfl rfl (by decide) (by decide) g1 ?_
  have hR := refs_up (a := 134) (k := y1.toNat) (x := y0) hR rfl
  refine G_go rfl rfl ?_
  refine G_go rfl rfl ?_
  refine G_ne rfl rfl (fun c2 => ?_) (fun c2 => ?_)
  · have h := h.1 c2
    refine G_go rfl rfl ?_
    refine G_go rfl rfl ?_
    refine G_ne rfl rfl (fun c3 => ?_) (fun c3 => ?_)
    · have h := h.1 c3
      refine G_go rfl rfl ?_
      refine G_go rfl rfl ?_
      refine G_eq rfl rfl (fun c4 => ?_) (fun c4 => ?_)
      · have h := h.1 c4
        refine G_go rfl rfl ?_
        refine G_rf rfl rfl (by decide) (hR 120 20 134 rfl) ?_
        refine G_go rfl rfl ?_
        refine G_go rfl rfl ?_
        refine G_go rfl rfl ?_
        refine G_go rfl rfl ?_
        refine G_go rfl rfl ?_
        exact G_call rfl rfl h
      · have h := h.2 c4
        refine G_go rfl rfl ?_
        refine G_go rfl rfl ?_
        refine G_ne rfl rfl (fun c5 => ?_) (fun c5 => ?_)
        · have h := h.1 c5
          exact G_ret rfl rfl h
        · have h := h.2 c5
          refine G_go rfl rfl ?_
          refine G_rf rfl rfl (by decide) (hR 120 20 134 rfl) ?_
          refine G_go rfl rfl ?_
          refine G_go rfl rfl ?_
          refine G_go rfl rfl ?_
          refine G_go rfl rfl ?_
          refine G_go rfl rfl ?_
          exact G_call rfl rfl h
    · have h := h.2 c3
      refine G_go rfl rfl ?_
      refine G_rf rfl rfl (by decide) (hR 120 20 134 rfl) ?_
      refine G_go rfl rfl ?_
      refine G_go rfl rfl ?_
      refine G_go rfl rfl ?_
      refine G_go rfl rfl ?_
      refine G_go rfl rfl ?_
      exact G_call rfl rfl h
  · have h := h.2 c2
    refine G_go rfl rfl ?_
    refine G_rf rfl rfl (by decide) (hR 120 20 134 rfl) ?_
    refine G_go rfl rfl ?_
    refine G_go rfl rfl ?_
    refine G_go rfl rfl ?_
    refine G_go rfl rfl ?_
    refine G_go rfl rfl ?_
    exact G_call rfl rfl h
theorem sb_X7_readNumbers_39 (n : Nat) (s : Nat → Nat → Int) (Q : List Vl → Sto → Prop) (x1 : Int) (x2 : Int) (y0 : Int) (y1 : Int) (hR : refs s)
    (h : (0 ≤ y1 ∧ y1 < 147) ∧ (G 120 140 204 0 [(3, 120), (1, 2), (0, 0), (0, 0)] [] (n, upS s 134 y1.toNat y0) (fun r s1 => G 120 140 205 52 [(3, 120), (1, x1), (1, x2)] (r ++ [(1, wr (x2 + 2)), (3, 134)]) s1 Q))) :
    G 120 140 205 39 [(3, 120), (1, x1), (1, x2)] [(1, y0), (1, y1), (3, 134)] (n, s) Q := by
  obtain ⟨g1, h⟩ := h
  refine G_iw (n := 147) rfl rfl (by decide) (by decide) g1 ?_
  have hR := refs_up (a := 134) (k := y1.toNat) (x := y0) hR rfl
  refine G_go rfl rfl ?_
  refine G_rf rfl rfl (by decide) (hR 120 20 134 rfl) ?_
  refine G_go rfl rfl ?_
  refine G_go rfl rfl ?_
  refine G_go rfl rfl ?_
  refine G_go rfl rfl ?_
  refine G_go rfl rfl ?_
  exact G_call rfl rfl h
theorem sb_X7_readNumbers_52 (n : Nat) (s : Nat → Nat → Int) (Q : List Vl → Sto → Prop) (x1 : Int) (x2 : Int) (y0 : Int) (y1 : Int) (hR : refs s)
    (h : (0 ≤ y1 ∧ y1 < 147) ∧ (Q [] (n, upS s 134 y1.toNat y0))) :
    G 120 140 205 52 [(3, 120), (1, x1), (1, x2)] [(1, y0), (1, y1), (3, 134)] (n, s) Q := by
  obtain ⟨g1, h⟩ := h
  refine G_iw (n := 147) rfl rfl (by decide) (by decide) g1 ?_
  have hR := refs_up (a := 134) (k := y1.toNat) (x := y0) hR rfl
  refine G_go rfl rfl ?_
  exact G_ret rfl rfl h
theorem sb_X7_readNumbers_74 (n : Nat) (s : Nat → Nat → Int) (Q : List Vl → Sto → Prop) (x1 : Int) (x2 : Int) (y0 : Int) (y1 : Int) (hR : refs s)
    (h : (0 ≤ y1 ∧ y1 < 147) ∧ (Q [] (n, upS s 134 y1.toNat y0))) :
    G 120 140 205 74 [(3, 120), (1, x1), (1, x2)] [(1, y0), (1, y1), (3, 134)] (n, s) Q := by
  obtain ⟨g1, h⟩ := h
  refine G_iw (n := 147) rfl rfl (by decide) (by decide) g1 ?_
  have hR := refs_up (a := 134) (k := y1.toNat) (x := y0) hR rfl
  refine G_go rfl rfl ?_
  exact G_ret rfl rfl h
theorem sb_X7_readNumbers_102 (n : Nat) (s : Nat → Nat → Int) (Q : List Vl → Sto → Prop) (x1 : Int) (x2 : Int) (y0 : Int) (y1 : Int) (hR : refs s)
    (h : (0 ≤ y1 ∧ y1 < 147) ∧ (Q [] (n, upS s 134 y1.toNat y0))) :
    G 120 140 205 102 [(3, 120), (1, x1), (1, x2)] [(1, y0), (1, y1), (3, 134)] (n, s) Q := by
  obtain ⟨g1, h⟩ := h
  refine G_iw (n := 147) rfl rfl (by decide) (by decide) g1 ?_
  have hR := refs_up (a := 134) (k := y1.toNat) (x := y0) hR rfl
  exact G_ret rfl rfl h
/-! THE REFERENCE READS THE LETTERS. -/
def rdS (c : Nat → Int) (L : Nat) (x : Int × Nat) : Int × Nat := if x.1 = 0 ∧ x.2 < L ∧ 48 ≤ c x.2 ∧ c x.2 ≤ 57 then (0, x.2 + 1) else (1, x.2)
def rdI (c : Nat → Int) (L : Nat) : Nat → Int × Nat → Int × Nat
  | 0, x => x
  | k + 1, x => rdS c L (rdI c L k x)
theorem rdS_0 {c : Nat → Int} {L : Nat} {x : Int × Nat} (h : (rdS c L x).1 = 0) : x.1 = 0 ∧ goodD c L x.2 ∧ rdS c L x = (0, x.2 + 1) := by
  by_cases g : x.1 = 0 ∧ x.2 < L ∧ 48 ≤ c x.2 ∧ c x.2 ≤ 57
  · exact ⟨g.1, g.2, if_pos g⟩
  · rw [show rdS c L x = (1, x.2) from if_neg g] at h
    exact absurd h (show ¬ (1 : Int) = 0 by decide)
theorem rdS_rg {c : Nat → Int} {L : Nat} {x : Int × Nat} (h : x.2 ≤ L) : (rdS c L x).2 ≤ L := by
  by_cases g : x.1 = 0 ∧ x.2 < L ∧ 48 ≤ c x.2 ∧ c x.2 ≤ 57
  · rw [show rdS c L x = (0, x.2 + 1) from if_pos g]
    exact g.2.1
  · rw [show rdS c L x = (1, x.2) from if_neg g]
    exact h
theorem rdI_rg {c : Nat → Int} {L : Nat} {x : Int × Nat} (h : x.2 ≤ L) : ∀ k, (rdI c L k x).2 ≤ L
  | 0 => h
  | k + 1 => rdS_rg (rdI_rg h k)
theorem rdS_good {c : Nat → Int} {L q : Nat} (g : goodD c L q) : rdS c L (0, q) = (0, q + 1) := if_pos ⟨rfl, g⟩
theorem rdS_bad {c : Nat → Int} {L q : Nat} (g : ¬ goodD c L q) : rdS c L (0, q) = (1, q) := if_neg (fun h => g h.2)
theorem rdS_1 {c : Nat → Int} {L q : Nat} : rdS c L (1, q) = (1, q) := if_neg (fun h => absurd h.1 (show ¬ (1 : Int) = 0 by decide))
theorem rdI_good {c : Nat → Int} {L q : Nat} : ∀ k, (∀ i, i < k → goodD c L (q + i)) → rdI c L k (0, q) = (0, q + k)
  | 0, _ => rfl
  | k + 1, h => by
    show rdS c L (rdI c L k (0, q)) = _
    rw [rdI_good k (fun i hi => h i (by omega)), rdS_good (h k (by omega))]
    rfl
theorem rdI_bad {c : Nat → Int} {L q j : Nat} (g : ∀ i, i < j → goodD c L (q + i)) (b : ¬ goodD c L (q + j)) : ∀ k, j < k → rdI c L k (0, q) = (1, q + j)
  | 0, h => absurd h (by omega)
  | k + 1, h => by
    show rdS c L (rdI c L k (0, q)) = _
    by_cases e : j = k
    · subst e
      rw [rdI_good j g, rdS_bad b]
    · rw [rdI_bad g b k (by omega), rdS_1]
def frD (t t1 : Nat → Nat → Int) : Prop := (∀ a, a ≠ 120 → t1 a = t a) ∧ ∀ i, i ≠ 15 → i ≠ 16 → t1 120 i = t 120 i
theorem frD_rfl {t : Nat → Nat → Int} : frD t t := ⟨fun _ _ => rfl, fun _ _ _ => rfl⟩
theorem frD_trans {t t1 t2 : Nat → Nat → Int} (h : frD t t1) (g : frD t1 t2) : frD t t2 := ⟨fun a ha => by rw [g.1 a ha, h.1 a ha], fun i h1 h2 => by rw [g.2 i h1 h2, h.2 i h1 h2]⟩
theorem frD_up {t : Nat → Nat → Int} {x y : Int} : frD t (upS (upS t 120 16 x) 120 15 y) := ⟨fun a ha => by rw [upS_row ha, upS_row ha], fun i h1 h2 => by rw [upS_2 h1, upS_2 h2]⟩
def rdv (c : Nat → Int) (L : Nat) (x : Int × Nat) (v : Int) : Int := if (rdS c L x).1 = 0 then 10 * v + (c x.2 - 48) else 0
theorem rd_step (n : Nat) (t : Nat → Nat → Int) (Q : List Vl → Sto → Prop) (hR : refs t) (c : Nat → Int) (L : Nat) (hc : ∀ k, k < L → t 131 k = c k) (hL : t 120 14 = (L : Int)) (hL2 : L ≤ 96) (x : Int × Nat) (hb : t 120 16 = x.1) (hq : t 120 15 = (x.2 : Int)) (hx : x.2 ≤ L) (x1 v : Int) (k : Nat) (hk : (k : Int) < x1) (hx1 : x1 ≤ 2) (hv : 0 ≤ v ∧ v ≤ 9)
    (K : ∀ t1, refs t1 → frD t t1 → t1 120 16 = (rdS c L x).1 → t1 120 15 = ((rdS c L x).2 : Int) → G 120 140 204 4 [(3, 120), (1, x1), (1, rdv c L x v), (1, ((k + 1 : Nat) : Int))] [] (n, t1) Q) : G 120 140 204 4 [(3, 120), (1, x1), (1, v), (1, (k : Int))] [] (n, t) Q := by
  obtain ⟨b, q⟩ := x
  have hb : t 120 16 = b := hb
  have hq : t 120 15 = (q : Int) := hq
  have hx : q ≤ L := hx
  refine sb_X7_readDigits_4 n t Q x1 v k hR ?_
  rw [hb, hq, hL, Int.toNat_natCast, wr_s (show k < 96 by omega) (by decide), wr_s (show q < 97 by omega) (by decide), show wr ((q : Int) + 0) = (q : Int) by rw [Int.add_zero]; exact wr_id (by omega) (by omega)]
  have bad : ¬ (b = 0 ∧ q < L ∧ 48 ≤ c q ∧ c q ≤ 57) → G 120 140 204 4 [(3, 120), (1, x1), (1, 0), (1, ((k + 1 : Nat) : Int))] [] (n, upS (upS t 120 16 1) 120 15 (q : Int)) Q := by
    intro g
    have e : rdS c L (b, q) = (1, q) := if_neg g
    have ev : rdv c L (b, q) v = 0 := by
      unfold rdv
      rw [e]
      rfl
    rw [e, ev] at K
    exact K (upS (upS t 120 16 1) 120 15 (q : Int)) (refs_up (refs_up hR rfl) rfl) frD_up (by rw [upS_2 (by decide), upS_eq]) (by rw [upS_eq])
  by_cases ql : q < L
  · rw [hc q ql]
    by_cases g : b = 0 ∧ q < L ∧ 48 ≤ c q ∧ c q ≤ 57
    · have e : rdS c L (b, q) = (0, q + 1) := if_pos g
      have ev : rdv c L (b, q) v = 10 * v + (c q - 48) := by
        unfold rdv
        rw [e]
        rfl
      obtain ⟨g1, g2, g3, g4⟩ := g
      rw [e, ev] at K
      have z := K (upS (upS t 120 16 0) 120 15 ((q + 1 : Nat) : Int)) (refs_up (refs_up hR rfl) rfl) frD_up (by rw [upS_2 (by decide), upS_eq]) (by rw [upS_eq])
      rw [wr_id (x := 10 * v) (by omega) (by omega), wr_id (x := 10 * v + c q) (by omega) (by omega), wr_id (x := 10 * v + c q - 48) (by omega) (by omega), show 10 * v + c q - 48 = 10 * v + (c q - 48) by omega]
      exact ⟨fun y => by omega, fun _ => ⟨fun y => by omega, fun _ => ⟨fun y => by omega, fun _ => ⟨by omega, fun y => by omega, fun _ => ⟨fun y => by omega, fun _ => z⟩⟩⟩⟩⟩
    · have z := bad g
      exact ⟨fun y => by omega, fun _ => ⟨fun _ => z, fun y1 => ⟨fun _ => z, fun y2 => ⟨by omega, fun _ => z, fun y3 => ⟨fun _ => z, fun y4 => absurd ⟨y1, ql, by omega, by omega⟩ g⟩⟩⟩⟩⟩
  · have z := bad (fun g => ql g.2.1)
    exact ⟨fun y => by omega, fun _ => ⟨fun _ => z, fun y1 => ⟨fun _ => z, fun y2 => by omega⟩⟩⟩
theorem c_rd1 (n : Nat) (t : Nat → Nat → Int) (Q : List Vl → Sto → Prop) (hR : refs t) (c : Nat → Int) (L : Nat) (hc : ∀ k, k < L → t 131 k = c k) (hL : t 120 14 = (L : Int)) (hL2 : L ≤ 96) (x : Int × Nat) (hb : t 120 16 = x.1) (hq : t 120 15 = (x.2 : Int)) (hx : x.2 ≤ L)
    (K : ∀ t1 v, refs t1 → frD t t1 → t1 120 16 = (rdI c L 1 x).1 → t1 120 15 = ((rdI c L 1 x).2 : Int) → ((rdI c L 1 x).1 = 0 → v = c x.2 - 48) → Q [(1, v)] (n, t1)) : G 120 140 204 0 [(3, 120), (1, 1), (0, 0), (0, 0)] [] (n, t) Q := by
  refine sb_X7_readDigits_0 n t Q 1 hR ?_
  refine rd_step n t Q hR c L hc hL hL2 x hb hq hx 1 0 0 (by decide) (by decide) (by decide) (fun t1 r1 f1 b1 q1 => ?_)
  refine sb_X7_readDigits_4 n t1 Q 1 _ 1 r1 ⟨fun _ => K t1 _ r1 f1 b1 q1 (fun e => ?_), fun y => absurd y (by decide)⟩
  have e : (rdS c L x).1 = 0 := e
  unfold rdv
  rw [if_pos e]
  omega
theorem c_rd2 (n : Nat) (t : Nat → Nat → Int) (Q : List Vl → Sto → Prop) (hR : refs t) (c : Nat → Int) (L : Nat) (hc : ∀ k, k < L → t 131 k = c k) (hL : t 120 14 = (L : Int)) (hL2 : L ≤ 96) (x : Int × Nat) (hb : t 120 16 = x.1) (hq : t 120 15 = (x.2 : Int)) (hx : x.2 ≤ L)
    (K : ∀ t1 v, refs t1 → frD t t1 → t1 120 16 = (rdI c L 2 x).1 → t1 120 15 = ((rdI c L 2 x).2 : Int) → ((rdI c L 2 x).1 = 0 → v = two c x.2) → Q [(1, v)] (n, t1)) : G 120 140 204 0 [(3, 120), (1, 2), (0, 0), (0, 0)] [] (n, t) Q := by
  refine sb_X7_readDigits_0 n t Q 2 hR ?_
  have hv : 0 ≤ rdv c L x 0 ∧ rdv c L x 0 ≤ 9 := by
    unfold rdv
    split
    · rename_i h
      have := (rdS_0 h).2.1.2
      omega
    · decide
  refine rd_step n t Q hR c L hc hL hL2 x hb hq hx 2 0 0 (by decide) (by decide) (by decide) (fun t1 r1 f1 b1 q1 => ?_)
  refine rd_step n t1 Q r1 c L (by rw [f1.1 131 (by decide)]; exact hc) (by rw [f1.2 14 (by decide) (by decide)]; exact hL) hL2 (rdS c L x) b1 q1 (rdS_rg hx) 2 _ 1 (by decide) (by decide) hv (fun t2 r2 f2 b2 q2 => ?_)
  refine sb_X7_readDigits_4 n t2 Q 2 _ 2 r2 ⟨fun _ => K t2 _ r2 (frD_trans f1 f2) b2 q2 (fun e => ?_), fun y => absurd y (by decide)⟩
  have e : (rdS c L (rdS c L x)).1 = 0 := e
  have e1 := rdS_0 e
  have e2 := rdS_0 e1.1
  unfold rdv two
  rw [if_pos e, if_pos e1.1, e2.2.2]
  dsimp only
  omega
/-- what readNumbers leaves alone -/
def frN (i : Nat) (t t1 : Nat → Nat → Int) : Prop := (∀ a, a ≠ 120 → a ≠ 134 → t1 a = t a) ∧ (∀ j, j ≠ 15 → j ≠ 16 → t1 120 j = t 120 j) ∧ ∀ j, j < i → t1 134 j = t 134 j
theorem frN_rfl {i : Nat} {t : Nat → Nat → Int} : frN i t t := ⟨fun _ _ _ => rfl, fun _ _ _ => rfl, fun _ _ => rfl⟩
theorem frN_D {i : Nat} {t t1 t2 : Nat → Nat → Int} (h : frN i t t1) (g : frD t1 t2) : frN i t t2 := ⟨fun a h1 h2 => by rw [g.1 a h1, h.1 a h1 h2], fun j h1 h2 => by rw [g.2 j h1 h2, h.2.1 j h1 h2], fun j hj => by rw [g.1 134 (by decide), h.2.2 j hj]⟩
theorem frN_up {i k : Nat} {x : Int} {t t1 : Nat → Nat → Int} (h : frN i t t1) (hk : i ≤ k) : frN i t (upS t1 134 k x) := ⟨fun a h1 h2 => by rw [upS_row h2, h.1 a h1 h2], fun j h1 h2 => by rw [upS_row (by decide), h.2.1 j h1 h2], fun j hj => by rw [upS_2 (by omega), h.2.2 j hj]⟩
def nA (c : Nat → Int) (l : Int) (q : Nat) : Int := if l = 110 then two c q else c q - 48
def nB (c : Nat → Int) (l : Int) (q : Nat) : Int := if l = 104 ∨ l = 99 then two c (q + 1) else c (q + 1) - 48
/-- what has been told of a statement -/
def tdN (c : Nat → Int) (l : Int) (q i : Nat) (t : Nat → Nat → Int) : Prop := t 134 i = nA c l q ∧ (l ≠ 108 → l ≠ 110 → t 134 (i + 1) = nB c l q) ∧ (l = 112 → t 134 (i + 2) = two c (q + 2))

theorem c_rn_p (n : Nat) (t : Nat → Nat → Int) (Q : List Vl → Sto → Prop) (hR : refs t) (c : Nat → Int) (L : Nat) (hc : ∀ k, k < L → t 131 k = c k) (hL : t 120 14 = (L : Int)) (hL2 : L ≤ 96) (x : Int × Nat) (hb : t 120 16 = x.1) (hq : t 120 15 = (x.2 : Int)) (hx : x.2 ≤ L) (i : Nat) (hi : i ≤ 144)
    (K : ∀ t1, refs t1 → frN i t t1 → t1 120 16 = (rdI c L 4 x).1 → t1 120 15 = ((rdI c L 4 x).2 : Int) → ((rdI c L 4 x).1 = 0 → tdN c 112 x.2 i t1) → Q [] (n, t1)) : G 120 140 205 0 [(3, 120), (1, 112), (1, (i : Int))] [] (n, t) Q := by
  have i200 : i < 200 := by omega
  have w1 : wr ((i : Int) + 1) = ((i + 1 : Nat) : Int) := wr_n 1 i200 (by decide)
  have w2 : wr ((i : Int) + 2) = ((i + 2 : Nat) : Int) := wr_n 2 i200 (by decide)
  refine sb_X7_readNumbers_0 n t Q 112 i hR ⟨fun _ => ?_, fun e => absurd e (by decide)⟩
  refine c_rd1 n t _ hR c L hc hL hL2 x hb hq hx (fun t1 v1 r1 f1 b1 q1 e1 => ?_)
  have F1 : frN i t t1 := frN_D frN_rfl f1
  refine sb_X7_readNumbers_20 n t1 Q 112 i _ _ r1 ⟨⟨by omega, by omega⟩, ?_⟩
  rw [Int.toNat_natCast, w1]
  refine ⟨fun e => absurd rfl e, fun _ => ?_⟩
  have u1r : refs (upS t1 134 i v1) := refs_up r1 rfl
  have u1c : ∀ k, k < L → (upS t1 134 i v1) 131 k = c k := by rw [upS_row (by decide), F1.1 131 (by decide) (by decide)]; exact hc
  have u1L : (upS t1 134 i v1) 120 14 = (L : Int) := by rw [upS_row (by decide), F1.2.1 14 (by decide) (by decide)]; exact hL
  have u1b : (upS t1 134 i v1) 120 16 = (rdI c L 1 x).1 := by rw [upS_row (by decide)]; exact b1
  have u1q : (upS t1 134 i v1) 120 15 = ((rdI c L 1 x).2 : Int) := by rw [upS_row (by decide)]; exact q1
  refine c_rd1 n _ _ u1r c L u1c u1L hL2 (rdI c L 1 x) u1b u1q (rdI_rg hx 1) (fun t2 v2 r2 f2 b2 q2 e2 => ?_)
  have F2 : frN i t t2 := frN_D (frN_up F1 (by omega)) f2
  refine sb_X7_readNumbers_39 n t2 Q 112 i _ _ r2 ⟨⟨by omega, by omega⟩, ?_⟩
  rw [Int.toNat_natCast, w2]
  have u2r : refs (upS t2 134 (i + 1) v2) := refs_up r2 rfl
  have u2c : ∀ k, k < L → (upS t2 134 (i + 1) v2) 131 k = c k := by rw [upS_row (by decide), F2.1 131 (by decide) (by decide)]; exact hc
  have u2L : (upS t2 134 (i + 1) v2) 120 14 = (L : Int) := by rw [upS_row (by decide), F2.2.1 14 (by decide) (by decide)]; exact hL
  have u2b : (upS t2 134 (i + 1) v2) 120 16 = (rdI c L 2 x).1 := by rw [upS_row (by decide)]; exact b2
  have u2q : (upS t2 134 (i + 1) v2) 120 15 = ((rdI c L 2 x).2 : Int) := by rw [upS_row (by decide)]; exact q2
  refine c_rd2 n _ _ u2r c L u2c u2L hL2 (rdI c L 2 x) u2b u2q (rdI_rg hx 2) (fun t3 v3 r3 f3 b3 q3 e3 => ?_)
  have F3 : frN i t t3 := frN_D (frN_up F2 (by omega)) f3
  refine sb_X7_readNumbers_52 n t3 Q 112 i _ _ r3 ⟨⟨by omega, by omega⟩, ?_⟩
  rw [Int.toNat_natCast]
  refine K _ (refs_up r3 rfl) (frN_up F3 (by omega)) (by rw [upS_row (by decide)]; exact b3) (by rw [upS_row (by decide)]; exact q3) (fun e => ?_)
  have z3 := rdS_0 e
  have z2 := rdS_0 z3.1
  have z1 := rdS_0 z2.1
  have z0 := rdS_0 z1.1
  have y0 : rdI c L 0 x = x := rfl
  have y1 : (rdI c L 1 x).2 = x.2 + 1 := by
    rw [show rdI c L 1 x = _ from z0.2.2]
    rfl
  have y2 : (rdI c L 2 x).2 = x.2 + 2 := by
    rw [show rdI c L 2 x = _ from z1.2.2]
    show (rdI c L 1 x).2 + 1 = _
    rw [y1]
  have y3 : (rdI c L 3 x).2 = x.2 + 3 := by
    rw [show rdI c L 3 x = _ from z2.2.2]
    show (rdI c L 2 x).2 + 1 = _
    rw [y2]
  have k1 := e1 z1.1
  have k2 := e2 z2.1
  rw [y1] at k2
  have k3 := e3 e
  rw [y2] at k3
  have m1 : (upS t3 134 (i + 2) v3) 134 i = v1 := by rw [upS_2 (by omega), f3.1 134 (by decide), upS_2 (by omega), f2.1 134 (by decide), upS_eq]
  have m2 : (upS t3 134 (i + 2) v3) 134 (i + 1) = v2 := by rw [upS_2 (by omega), f3.1 134 (by decide), upS_eq]
  have m3 : (upS t3 134 (i + 2) v3) 134 (i + 2) = v3 := upS_eq
  exact ⟨by rw [m1, k1]; rfl, fun _ _ => by rw [m2, k2]; rfl, fun _ => by rw [m3, k3]⟩
theorem c_rn_h (n : Nat) (t : Nat → Nat → Int) (Q : List Vl → Sto → Prop) (hR : refs t) (c : Nat → Int) (L : Nat) (hc : ∀ k, k < L → t 131 k = c k) (hL : t 120 14 = (L : Int)) (hL2 : L ≤ 96) (x : Int × Nat) (hb : t 120 16 = x.1) (hq : t 120 15 = (x.2 : Int)) (hx : x.2 ≤ L) (i : Nat) (hi : i ≤ 144)
    (K : ∀ t1, refs t1 → frN i t t1 → t1 120 16 = (rdI c L 3 x).1 → t1 120 15 = ((rdI c L 3 x).2 : Int) → ((rdI c L 3 x).1 = 0 → tdN c 104 x.2 i t1) → Q [] (n, t1)) : G 120 140 205 0 [(3, 120), (1, 104), (1, (i : Int))] [] (n, t) Q := by
  have i200 : i < 200 := by omega
  have w1 : wr ((i : Int) + 1) = ((i + 1 : Nat) : Int) := wr_n 1 i200 (by decide)
  refine sb_X7_readNumbers_0 n t Q 104 i hR ⟨fun _ => ?_, fun e => absurd e (by decide)⟩
  refine c_rd1 n t _ hR c L hc hL hL2 x hb hq hx (fun t1 v1 r1 f1 b1 q1 e1 => ?_)
  have F1 : frN i t t1 := frN_D frN_rfl f1
  refine sb_X7_readNumbers_20 n t1 Q 104 i _ _ r1 ⟨⟨by omega, by omega⟩, ?_⟩
  rw [Int.toNat_natCast, w1]
  refine ⟨fun _ => ⟨fun _ => ⟨fun _ => ?_, fun e => absurd rfl e⟩, fun e => absurd e (by decide)⟩, fun e => absurd e (by decide)⟩
  have u1r : refs (upS t1 134 i v1) := refs_up r1 rfl
  have u1c : ∀ k, k < L → (upS t1 134 i v1) 131 k = c k := by rw [upS_row (by decide), F1.1 131 (by decide) (by decide)]; exact hc
  have u1L : (upS t1 134 i v1) 120 14 = (L : Int) := by rw [upS_row (by decide), F1.2.1 14 (by decide) (by decide)]; exact hL
  have u1b : (upS t1 134 i v1) 120 16 = (rdI c L 1 x).1 := by rw [upS_row (by decide)]; exact b1
  have u1q : (upS t1 134 i v1) 120 15 = ((rdI c L 1 x).2 : Int) := by rw [upS_row (by decide)]; exact q1
  refine c_rd2 n _ _ u1r c L u1c u1L hL2 (rdI c L 1 x) u1b u1q (rdI_rg hx 1) (fun t2 v2 r2 f2 b2 q2 e2 => ?_)
  have F2 : frN i t t2 := frN_D (frN_up F1 (by omega)) f2
  refine sb_X7_readNumbers_102 n t2 Q 104 i _ _ r2 ⟨⟨by omega, by omega⟩, ?_⟩
  rw [Int.toNat_natCast]
  refine K _ (refs_up r2 rfl) (frN_up F2 (by omega)) (by rw [upS_row (by decide)]; exact b2) (by rw [upS_row (by decide)]; exact q2) (fun e => ?_)
  have z2 := rdS_0 e
  have z1 := rdS_0 z2.1
  have z0 := rdS_0 z1.1
  have y0 : rdI c L 0 x = x := rfl
  have y1 : (rdI c L 1 x).2 = x.2 + 1 := by
    rw [show rdI c L 1 x = _ from z0.2.2]
    rfl
  have y2 : (rdI c L 2 x).2 = x.2 + 2 := by
    rw [show rdI c L 2 x = _ from z1.2.2]
    show (rdI c L 1 x).2 + 1 = _
    rw [y1]
  have k1 := e1 z1.1
  have k2 := e2 e
  rw [y1] at k2
  have m1 : (upS t2 134 (i + 1) v2) 134 i = v1 := by rw [upS_2 (by omega), f2.1 134 (by decide), upS_eq]
  have m2 : (upS t2 134 (i + 1) v2) 134 (i + 1) = v2 := upS_eq
  exact ⟨by rw [m1, k1]; rfl, fun _ _ => by rw [m2, k2]; rfl, fun h => absurd h (by decide)⟩
theorem c_rn_c (n : Nat) (t : Nat → Nat → Int) (Q : List Vl → Sto → Prop) (hR : refs t) (c : Nat → Int) (L : Nat) (hc : ∀ k, k < L → t 131 k = c k) (hL : t 120 14 = (L : Int)) (hL2 : L ≤ 96) (x : Int × Nat) (hb : t 120 16 = x.1) (hq : t 120 15 = (x.2 : Int)) (hx : x.2 ≤ L) (i : Nat) (hi : i ≤ 144)
    (K : ∀ t1, refs t1 → frN i t t1 → t1 120 16 = (rdI c L 3 x).1 → t1 120 15 = ((rdI c L 3 x).2 : Int) → ((rdI c L 3 x).1 = 0 → tdN c 99 x.2 i t1) → Q [] (n, t1)) : G 120 140 205 0 [(3, 120), (1, 99), (1, (i : Int))] [] (n, t) Q := by
  have i200 : i < 200 := by omega
  have w1 : wr ((i : Int) + 1) = ((i + 1 : Nat) : Int) := wr_n 1 i200 (by decide)
  refine sb_X7_readNumbers_0 n t Q 99 i hR ⟨fun _ => ?_, fun e => absurd e (by decide)⟩
  refine c_rd1 n t _ hR c L hc hL hL2 x hb hq hx (fun t1 v1 r1 f1 b1 q1 e1 => ?_)
  have F1 : frN i t t1 := frN_D frN_rfl f1
  refine sb_X7_readNumbers_20 n t1 Q 99 i _ _ r1 ⟨⟨by omega, by omega⟩, ?_⟩
  rw [Int.toNat_natCast, w1]
  refine ⟨fun _ => ⟨fun _ => ⟨fun e => absurd e (by decide), fun _ => ⟨fun e => absurd rfl e, fun _ => ?_⟩⟩, fun e => absurd e (by decide)⟩, fun e => absurd e (by decide)⟩
  have u1r : refs (upS t1 134 i v1) := refs_up r1 rfl
  have u1c : ∀ k, k < L → (upS t1 134 i v1) 131 k = c k := by rw [upS_row (by decide), F1.1 131 (by decide) (by decide)]; exact hc
  have u1L : (upS t1 134 i v1) 120 14 = (L : Int) := by rw [upS_row (by decide), F1.2.1 14 (by decide) (by decide)]; exact hL
  have u1b : (upS t1 134 i v1) 120 16 = (rdI c L 1 x).1 := by rw [upS_row (by decide)]; exact b1
  have u1q : (upS t1 134 i v1) 120 15 = ((rdI c L 1 x).2 : Int) := by rw [upS_row (by decide)]; exact q1
  refine c_rd2 n _ _ u1r c L u1c u1L hL2 (rdI c L 1 x) u1b u1q (rdI_rg hx 1) (fun t2 v2 r2 f2 b2 q2 e2 => ?_)
  have F2 : frN i t t2 := frN_D (frN_up F1 (by omega)) f2
  refine sb_X7_readNumbers_102 n t2 Q 99 i _ _ r2 ⟨⟨by omega, by omega⟩, ?_⟩
  rw [Int.toNat_natCast]
  refine K _ (refs_up r2 rfl) (frN_up F2 (by omega)) (by rw [upS_row (by decide)]; exact b2) (by rw [upS_row (by decide)]; exact q2) (fun e => ?_)
  have z2 := rdS_0 e
  have z1 := rdS_0 z2.1
  have z0 := rdS_0 z1.1
  have y0 : rdI c L 0 x = x := rfl
  have y1 : (rdI c L 1 x).2 = x.2 + 1 := by
    rw [show rdI c L 1 x = _ from z0.2.2]
    rfl
  have y2 : (rdI c L 2 x).2 = x.2 + 2 := by
    rw [show rdI c L 2 x = _ from z1.2.2]
    show (rdI c L 1 x).2 + 1 = _
    rw [y1]
  have k1 := e1 z1.1
  have k2 := e2 e
  rw [y1] at k2
  have m1 : (upS t2 134 (i + 1) v2) 134 i = v1 := by rw [upS_2 (by omega), f2.1 134 (by decide), upS_eq]
  have m2 : (upS t2 134 (i + 1) v2) 134 (i + 1) = v2 := upS_eq
  exact ⟨by rw [m1, k1]; rfl, fun _ _ => by rw [m2, k2]; rfl, fun h => absurd h (by decide)⟩
theorem c_rn_t (n : Nat) (t : Nat → Nat → Int) (Q : List Vl → Sto → Prop) (hR : refs t) (c : Nat → Int) (L : Nat) (hc : ∀ k, k < L → t 131 k = c k) (hL : t 120 14 = (L : Int)) (hL2 : L ≤ 96) (x : Int × Nat) (hb : t 120 16 = x.1) (hq : t 120 15 = (x.2 : Int)) (hx : x.2 ≤ L) (i : Nat) (hi : i ≤ 144)
    (K : ∀ t1, refs t1 → frN i t t1 → t1 120 16 = (rdI c L 2 x).1 → t1 120 15 = ((rdI c L 2 x).2 : Int) → ((rdI c L 2 x).1 = 0 → tdN c 116 x.2 i t1) → Q [] (n, t1)) : G 120 140 205 0 [(3, 120), (1, 116), (1, (i : Int))] [] (n, t) Q := by
  have i200 : i < 200 := by omega
  have w1 : wr ((i : Int) + 1) = ((i + 1 : Nat) : Int) := wr_n 1 i200 (by decide)
  refine sb_X7_readNumbers_0 n t Q 116 i hR ⟨fun _ => ?_, fun e => absurd e (by decide)⟩
  refine c_rd1 n t _ hR c L hc hL hL2 x hb hq hx (fun t1 v1 r1 f1 b1 q1 e1 => ?_)
  have F1 : frN i t t1 := frN_D frN_rfl f1
  refine sb_X7_readNumbers_20 n t1 Q 116 i _ _ r1 ⟨⟨by omega, by omega⟩, ?_⟩
  rw [Int.toNat_natCast, w1]
  refine ⟨fun _ => ⟨fun e => absurd rfl e, fun _ => ?_⟩, fun e => absurd e (by decide)⟩
  have u1r : refs (upS t1 134 i v1) := refs_up r1 rfl
  have u1c : ∀ k, k < L → (upS t1 134 i v1) 131 k = c k := by rw [upS_row (by decide), F1.1 131 (by decide) (by decide)]; exact hc
  have u1L : (upS t1 134 i v1) 120 14 = (L : Int) := by rw [upS_row (by decide), F1.2.1 14 (by decide) (by decide)]; exact hL
  have u1b : (upS t1 134 i v1) 120 16 = (rdI c L 1 x).1 := by rw [upS_row (by decide)]; exact b1
  have u1q : (upS t1 134 i v1) 120 15 = ((rdI c L 1 x).2 : Int) := by rw [upS_row (by decide)]; exact q1
  refine c_rd1 n _ _ u1r c L u1c u1L hL2 (rdI c L 1 x) u1b u1q (rdI_rg hx 1) (fun t2 v2 r2 f2 b2 q2 e2 => ?_)
  have F2 : frN i t t2 := frN_D (frN_up F1 (by omega)) f2
  refine sb_X7_readNumbers_74 n t2 Q 116 i _ _ r2 ⟨⟨by omega, by omega⟩, ?_⟩
  rw [Int.toNat_natCast]
  refine K _ (refs_up r2 rfl) (frN_up F2 (by omega)) (by rw [upS_row (by decide)]; exact b2) (by rw [upS_row (by decide)]; exact q2) (fun e => ?_)
  have z1 := rdS_0 e
  have z0 := rdS_0 z1.1
  have y0 : rdI c L 0 x = x := rfl
  have y1 : (rdI c L 1 x).2 = x.2 + 1 := by
    rw [show rdI c L 1 x = _ from z0.2.2]
    rfl
  have k1 := e1 z1.1
  have k2 := e2 e
  rw [y1] at k2
  have m1 : (upS t2 134 (i + 1) v2) 134 i = v1 := by rw [upS_2 (by omega), f2.1 134 (by decide), upS_eq]
  have m2 : (upS t2 134 (i + 1) v2) 134 (i + 1) = v2 := upS_eq
  exact ⟨by rw [m1, k1]; rfl, fun _ _ => by rw [m2, k2]; rfl, fun h => absurd h (by decide)⟩
theorem c_rn_l (n : Nat) (t : Nat → Nat → Int) (Q : List Vl → Sto → Prop) (hR : refs t) (c : Nat → Int) (L : Nat) (hc : ∀ k, k < L → t 131 k = c k) (hL : t 120 14 = (L : Int)) (hL2 : L ≤ 96) (x : Int × Nat) (hb : t 120 16 = x.1) (hq : t 120 15 = (x.2 : Int)) (hx : x.2 ≤ L) (i : Nat) (hi : i ≤ 144)
    (K : ∀ t1, refs t1 → frN i t t1 → t1 120 16 = (rdI c L 1 x).1 → t1 120 15 = ((rdI c L 1 x).2 : Int) → ((rdI c L 1 x).1 = 0 → tdN c 108 x.2 i t1) → Q [] (n, t1)) : G 120 140 205 0 [(3, 120), (1, 108), (1, (i : Int))] [] (n, t) Q := by
  have i200 : i < 200 := by omega
  have w1 : wr ((i : Int) + 1) = ((i + 1 : Nat) : Int) := wr_n 1 i200 (by decide)
  refine sb_X7_readNumbers_0 n t Q 108 i hR ⟨fun _ => ?_, fun e => absurd e (by decide)⟩
  refine c_rd1 n t _ hR c L hc hL hL2 x hb hq hx (fun t1 v1 r1 f1 b1 q1 e1 => ?_)
  have F1 : frN i t t1 := frN_D frN_rfl f1
  refine sb_X7_readNumbers_20 n t1 Q 108 i _ _ r1 ⟨⟨by omega, by omega⟩, ?_⟩
  rw [Int.toNat_natCast]
  refine ⟨fun _ => ⟨fun _ => ⟨fun e => absurd e (by decide), fun _ => ⟨fun _ => ?_, fun e => absurd e (by decide)⟩⟩, fun e => absurd e (by decide)⟩, fun e => absurd e (by decide)⟩
  refine K _ (refs_up r1 rfl) (frN_up F1 (by omega)) (by rw [upS_row (by decide)]; exact b1) (by rw [upS_row (by decide)]; exact q1) (fun e => ?_)
  have z0 := rdS_0 e
  have y0 : rdI c L 0 x = x := rfl
  have k1 := e1 e
  have m1 : (upS t1 134 i v1) 134 i = v1 := upS_eq
  exact ⟨by rw [m1, k1]; rfl, fun h1 h2 => absurd rfl h1, fun h => absurd h (by decide)⟩
theorem c_rn_n (n : Nat) (t : Nat → Nat → Int) (Q : List Vl → Sto → Prop) (hR : refs t) (c : Nat → Int) (L : Nat) (hc : ∀ k, k < L → t 131 k = c k) (hL : t 120 14 = (L : Int)) (hL2 : L ≤ 96) (x : Int × Nat) (hb : t 120 16 = x.1) (hq : t 120 15 = (x.2 : Int)) (hx : x.2 ≤ L) (i : Nat) (hi : i ≤ 144)
    (K : ∀ t1, refs t1 → frN i t t1 → t1 120 16 = (rdI c L 2 x).1 → t1 120 15 = ((rdI c L 2 x).2 : Int) → ((rdI c L 2 x).1 = 0 → tdN c 110 x.2 i t1) → Q [] (n, t1)) : G 120 140 205 0 [(3, 120), (1, 110), (1, (i : Int))] [] (n, t) Q := by
  have i200 : i < 200 := by omega
  have w1 : wr ((i : Int) + 1) = ((i + 1 : Nat) : Int) := wr_n 1 i200 (by decide)
  refine sb_X7_readNumbers_0 n t Q 110 i hR ⟨fun e => absurd rfl e, fun _ => ?_⟩
  refine c_rd2 n t _ hR c L hc hL hL2 x hb hq hx (fun t1 v1 r1 f1 b1 q1 e1 => ?_)
  have F1 : frN i t t1 := frN_D frN_rfl f1
  refine sb_X7_readNumbers_20 n t1 Q 110 i _ _ r1 ⟨⟨by omega, by omega⟩, ?_⟩
  rw [Int.toNat_natCast]
  refine ⟨fun _ => ⟨fun _ => ⟨fun e => absurd e (by decide), fun _ => ⟨fun _ => ?_, fun e => absurd e (by decide)⟩⟩, fun e => absurd e (by decide)⟩, fun e => absurd e (by decide)⟩
  refine K _ (refs_up r1 rfl) (frN_up F1 (by omega)) (by rw [upS_row (by decide)]; exact b1) (by rw [upS_row (by decide)]; exact q1) (fun e => ?_)
  have z1 := rdS_0 e
  have z0 := rdS_0 z1.1
  have y0 : rdI c L 0 x = x := rfl
  have y1 : (rdI c L 1 x).2 = x.2 + 1 := by
    rw [show rdI c L 1 x = _ from z0.2.2]
    rfl
  have k1 := e1 e
  have m1 : (upS t1 134 i v1) 134 i = v1 := upS_eq
  exact ⟨by rw [m1, k1]; rfl, fun h1 h2 => absurd rfl h2, fun h => absurd h (by decide)⟩

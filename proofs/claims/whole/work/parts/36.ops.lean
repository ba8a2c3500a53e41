theorem sb_X6_nightTrusting_0 (n : Nat) (s : Nat → Nat → Int) (Q : List Vl → Sto → Prop) (a0 : Int) (a1 : Int) (a2 : Int) (hR : refs s)
    (h : G 2 120 7 0 [(3, 13), (3, 3), (0, 0)] [] (n, s) (fun r s1 => G 2 120 107 11 [(3, 2), (1, a0), (1, a1), (1, a2)] (r ++ []) s1 Q)) :
    G 2 120 107 0 [(3, 2), (1, a0), (1, a1), (1, a2)] [] (n, s) Q := by
  refine G_go rfl rfl ?_
  refine G_rf rfl rfl (by decide) (hR 2 1 13 rfl) ?_
  refine G_go rfl rfl ?_
  refine G_rf rfl rfl (by decide) (hR 2 0 3 rfl) ?_
  exact G_call rfl rfl h
theorem sb_X6_nightTrusting_11 (n : Nat) (s : Nat → Nat → Int) (Q : List Vl → Sto → Prop) (x1 : Int) (x2 : Int) (x3 : Int) (hR : refs s)
    (h : (0 ≤ x1 ∧ x1 < 6) ∧ (G 2 120 30 0 [(3, 13), (1, x3), (0, 0)] [] (n, upS s 21 x1.toNat x2) (fun r s1 => G 2 120 107 29 [(3, 2), (1, x1), (1, x2), (1, x3)] (r ++ []) s1 Q))) :
    G 2 120 107 11 [(3, 2), (1, x1), (1, x2), (1, x3)] [] (n, s) Q := by
  refine G_go rfl rfl ?_
  refine G_rf rfl rfl (by decide) (hR 2 1 13 rfl) ?_
  refine G_rf rfl rfl (by decide) (hR 13 7 21 rfl) ?_
  refine G_go rfl rfl ?_
  refine G_go rfl rfl ?_
  obtain ⟨g1, h⟩ := h
  refine G_iw (n := 6) rfl rfl (by decide) (by decide) g1 ?_
  have hR := refs_up (a := 21) (k := x1.toNat) (x := x2) hR rfl
  refine G_go rfl rfl ?_
  refine G_rf rfl rfl (by decide) (hR 2 1 13 rfl) ?_
  refine G_go rfl rfl ?_
  exact G_call rfl rfl h
theorem sb_X6_nightTrusting_29 (n : Nat) (s : Nat → Nat → Int) (Q : List Vl → Sto → Prop) (x1 : Int) (x2 : Int) (x3 : Int) (hR : refs s)
    (h : Q [] (n, s)) :
    G 2 120 107 29 [(3, 2), (1, x1), (1, x2), (1, x3)] [] (n, s) Q := by
  exact G_ret rfl rfl h
theorem sb_X6_pagesTrusting_0 (n : Nat) (s : Nat → Nat → Int) (Q : List Vl → Sto → Prop) (a0 : Int) (a1 : Int) (a2 : Int) (hR : refs s)
    (h : G 2 120 107 0 [(3, 2), (1, a0), (1, a1), (1, a2)] [] (n, s) (fun r s1 => G 2 120 114 7 [(3, 2), (1, a0), (1, a1), (1, a2)] (r ++ []) s1 Q)) :
    G 2 120 114 0 [(3, 2), (1, a0), (1, a1), (1, a2)] [] (n, s) Q := by
  refine G_go rfl rfl ?_
  refine G_go rfl rfl ?_
  refine G_go rfl rfl ?_
  refine G_go rfl rfl ?_
  exact G_call rfl rfl h
theorem sb_X6_pagesTrusting_7 (n : Nat) (s : Nat → Nat → Int) (Q : List Vl → Sto → Prop) (x1 : Int) (x2 : Int) (x3 : Int) (hR : refs s)
    (h : (0 ≤ x1 ∧ x1 < 6) ∧ (Q [(1, wr ((s 20 x1.toNat) - (s 10 x1.toNat)))] (n, s))) :
    G 2 120 114 7 [(3, 2), (1, x1), (1, x2), (1, x3)] [] (n, s) Q := by
  refine G_go rfl rfl ?_
  refine G_rf rfl rfl (by decide) (hR 2 1 13 rfl) ?_
  refine G_rf rfl rfl (by decide) (hR 13 6 20 rfl) ?_
  refine G_go rfl rfl ?_
  obtain ⟨g1, h⟩ := h
  refine G_ir (n := 6) rfl rfl (by decide) (by decide) g1 ?_
  refine G_go rfl rfl ?_
  refine G_rf rfl rfl (by decide) (hR 2 0 3 rfl) ?_
  refine G_rf rfl rfl (by decide) (hR 3 6 10 rfl) ?_
  refine G_go rfl rfl ?_
  refine G_ir (n := 6) rfl rfl (by decide) (by decide) g1 ?_
  refine G_go rfl rfl ?_
  exact G_ret rfl rfl h
theorem sb_X6_losesNothing_0 (n : Nat) (s : Nat → Nat → Int) (Q : List Vl → Sto → Prop) (a0 : Int) (a1 : Int) (a2 : Int) (hR : refs s)
    (h : G 2 120 107 0 [(3, 2), (1, a0), (1, a1), (1, a2)] [] (n, s) (fun r s1 => G 2 120 108 7 [(3, 2), (1, a0), (1, a1), (1, a2)] (r ++ []) s1 Q)) :
    G 2 120 108 0 [(3, 2), (1, a0), (1, a1), (1, a2)] [] (n, s) Q := by
  refine G_go rfl rfl ?_
  refine G_go rfl rfl ?_
  refine G_go rfl rfl ?_
  refine G_go rfl rfl ?_
  exact G_call rfl rfl h
theorem sb_X6_losesNothing_7 (n : Nat) (s : Nat → Nat → Int) (Q : List Vl → Sto → Prop) (x1 : Int) (x2 : Int) (x3 : Int) (hR : refs s)
    (h : (0 ≤ x1 ∧ x1 < 6) ∧ ((s 16 x1.toNat < s 6 x1.toNat → Q [(1, 0)] (n, s)) ∧ (s 6 x1.toNat ≤ s 16 x1.toNat → Q [(1, 1)] (n, s)))) :
    G 2 120 108 7 [(3, 2), (1, x1), (1, x2), (1, x3)] [] (n, s) Q := by
  refine G_go rfl rfl ?_
  refine G_rf rfl rfl (by decide) (hR 2 1 13 rfl) ?_
  refine G_rf rfl rfl (by decide) (hR 13 2 16 rfl) ?_
  refine G_go rfl rfl ?_
  obtain ⟨g1, h⟩ := h
  refine G_ir (n := 6) rfl rfl (by decide) (by decide) g1 ?_
  refine G_go rfl rfl ?_
  refine G_rf rfl rfl (by decide) (hR 2 0 3 rfl) ?_
  refine G_rf rfl rfl (by decide) (hR 3 2 6 rfl) ?_
  refine G_go rfl rfl ?_
  refine G_ir (n := 6) rfl rfl (by decide) (by decide) g1 ?_
  refine G_lt rfl rfl (fun c2 => ?_) (fun c2 => ?_)
  · have h := h.1 c2
    refine G_go rfl rfl ?_
    exact G_ret rfl rfl h
  · have h := h.2 c2
    refine G_go rfl rfl ?_
    refine G_go rfl rfl ?_
    exact G_ret rfl rfl h
theorem sb_X7_readsWith_0 (n : Nat) (s : Nat → Nat → Int) (Q : List Vl → Sto → Prop) (a0 : Int) (a1 : Int) (a2 : Int) (hR : refs s)
    (h : G 120 140 143 0 [(3, 120)] [] (n, s) (fun r s1 => G 120 140 207 4 [(3, 120), (1, a0), (1, a1), (1, a2), (0, 0), (0, 0)] (r ++ []) s1 Q)) :
    G 120 140 207 0 [(3, 120), (1, a0), (1, a1), (1, a2), (0, 0), (0, 0)] [] (n, s) Q := by
  refine G_go rfl rfl ?_
  exact G_call rfl rfl h
theorem sb_X7_readsWith_4 (n : Nat) (s : Nat → Nat → Int) (Q : List Vl → Sto → Prop) (x1 : Int) (x2 : Int) (x3 : Int) (hR : refs s)
    (h : (0 ≤ x1 ∧ x1 < 6) ∧ (G 120 140 168 0 [(3, 120), (1, x3), (0, 0), (0, 0), (0, 0)] [] (n, upS s 128 x1.toNat x2) (fun r s1 => G 120 140 207 24 [(3, 120), (1, x1), (1, x2), (1, x3), (1, s 127 x1.toNat), (0, 0)] (r ++ []) s1 Q))) :
    G 120 140 207 4 [(3, 120), (1, x1), (1, x2), (1, x3), (0, 0), (0, 0)] [] (n, s) Q := by
  refine G_go rfl rfl ?_
  refine G_rf rfl rfl (by decide) (hR 120 7 127 rfl) ?_
  refine G_go rfl rfl ?_
  obtain ⟨g1, h⟩ := h
  refine G_ir (n := 6) rfl rfl (by decide) (by decide) g1 ?_
  refine G_go rfl rfl ?_
  show G 120 140 207 12 [(3, 120), (1, x1), (1, x2), (1, x3), (1, s 127 x1.toNat), (0, 0)] [] (n, s) Q
  refine G_go rfl rfl ?_
  refine G_rf rfl rfl (by decide) (hR 120 8 128 rfl) ?_
  refine G_go rfl rfl ?_
  refine G_go rfl rfl ?_
  refine G_iw (n := 6) rfl rfl (by decide) (by decide) g1 ?_
  have hR := refs_up (a := 128) (k := x1.toNat) (x := x2) hR rfl
  refine G_go rfl rfl ?_
  refine G_go rfl rfl ?_
  exact G_call rfl rfl h
theorem sb_X7_readsWith_24 (n : Nat) (s : Nat → Nat → Int) (Q : List Vl → Sto → Prop) (x1 : Int) (x2 : Int) (x3 : Int) (x4 : Int) (hR : refs s)
    (h : (0 ≤ x1 ∧ x1 < 6) ∧ (G 120 140 140 0 [(3, 120)] [] (n, s) (fun r s1 => G 120 140 207 39 [(3, 120), (1, x1), (1, x2), (1, x3), (1, x4), (1, wr ((s 127 x1.toNat) - x4))] (r ++ []) s1 Q))) :
    G 120 140 207 24 [(3, 120), (1, x1), (1, x2), (1, x3), (1, x4), (0, 0)] [] (n, s) Q := by
  refine G_go rfl rfl ?_
  refine G_rf rfl rfl (by decide) (hR 120 7 127 rfl) ?_
  refine G_go rfl rfl ?_
  obtain ⟨g1, h⟩ := h
  refine G_ir (n := 6) rfl rfl (by decide) (by decide) g1 ?_
  refine G_go rfl rfl ?_
  refine G_go rfl rfl ?_
  refine G_go rfl rfl ?_
  show G 120 140 207 35 [(3, 120), (1, x1), (1, x2), (1, x3), (1, x4), (1, wr ((s 127 x1.toNat) - x4))] [] (n, s) Q
  refine G_go rfl rfl ?_
  exact G_call rfl rfl h
theorem sb_X7_readsWith_39 (n : Nat) (s : Nat → Nat → Int) (Q : List Vl → Sto → Prop) (x1 : Int) (x2 : Int) (x3 : Int) (x4 : Int) (x5 : Int) (hR : refs s)
    (h : Q [(1, x5)] (n, s)) :
    G 120 140 207 39 [(3, 120), (1, x1), (1, x2), (1, x3), (1, x4), (1, x5)] [] (n, s) Q := by
  refine G_go rfl rfl ?_
  exact G_ret rfl rfl h
theorem sb_X6_trust_0 (n : Nat) (s : Nat → Nat → Int) (Q : List Vl → Sto → Prop) (a0 : Int) (a1 : Int) (hR : refs s)
    (h : (a0 < 0 → (1 ≤ a1 → (a1 ≤ 12 → Q [(1, (-1))] (n, upS s 119 1 (wr ((s 119 1) + 1)))) ∧ (12 < a1 → Q [(1, (-1))] (n, upS s 119 1 (wr ((s 119 1) + 1))))) ∧ (a1 < 1 → Q [(1, (-1))] (n, upS s 119 1 (wr ((s 119 1) + 1))))) ∧ (0 ≤ a0 → (s 3 9 ≤ a0 → (1 ≤ a1 → (a1 ≤ 12 → Q [(1, (-1))] (n, upS s 119 1 (wr ((s 119 1) + 1)))) ∧ (12 < a1 → Q [(1, (-1))] (n, upS s 119 1 (wr ((s 119 1) + 1))))) ∧ (a1 < 1 → Q [(1, (-1))] (n, upS s 119 1 (wr ((s 119 1) + 1))))) ∧ (a0 < s 3 9 → (1 ≤ a1 → (a1 ≤ 12 → (2 ≤ s 3 9 → G 2 120 114 0 [(3, 2), (1, a0), (1, (-1)), (1, a1)] [] (n, s) (fun r s1 => G 2 120 128 51 [(3, 2), (1, a0), (1, a1), (1, 0), (1, 9), (0, 0), (0, 0), (0, 0)] (r ++ []) s1 Q)) ∧ (s 3 9 < 2 → Q [(1, (-9))] (n, s))) ∧ (12 < a1 → Q [(1, (-6))] (n, upS s 119 6 (wr ((s 119 6) + 1))))) ∧ (a1 < 1 → Q [(1, (-4))] (n, upS s 119 4 (wr ((s 119 4) + 1))))))) :
    G 2 120 128 0 [(3, 2), (1, a0), (1, a1), (0, 0), (0, 0), (0, 0), (0, 0), (0, 0)] [] (n, s) Q := by
  refine G_go rfl rfl ?_
  refine G_go rfl rfl ?_
  refine G_call rfl rfl ?_
  refine G_go rfl rfl ?_
  refine G_rf rfl rfl (by decide) (hR 2 0 3 rfl) ?_
  refine G_go rfl rfl ?_
  refine G_call rfl rfl ?_
  refine G_go rfl rfl ?_
  refine G_lt rfl rfl (fun c1 => ?_) (fun c1 => ?_)
  · have h := h.1 c1
    refine G_go rfl rfl ?_
    refine G_ret rfl rfl ?_
    refine G_brT rfl rfl rfl ?_
    refine G_go rfl rfl ?_
    refine G_ret rfl rfl ?_
    refine G_go rfl rfl ?_
    refine G_go rfl rfl ?_
    refine G_go rfl rfl ?_
    refine G_call rfl rfl ?_
    refine G_go rfl rfl ?_
    refine G_go rfl rfl ?_
    refine G_ge rfl rfl (fun c2 => ?_) (fun c2 => ?_)
    · have h := h.1 c2
      refine G_go rfl rfl ?_
      refine G_go rfl rfl ?_
      refine G_le rfl rfl (fun c3 => ?_) (fun c3 => ?_)
      · have h := h.1 c3
        refine G_go rfl rfl ?_
        refine G_ret rfl rfl ?_
        refine G_call rfl rfl ?_
        refine G_go rfl rfl ?_
        refine G_brF rfl rfl rfl ?_
        refine G_go rfl rfl ?_
        refine G_go rfl rfl ?_
        refine G_ret rfl rfl ?_
        refine G_go rfl rfl ?_
        show G 2 120 128 16 [(3, 2), (1, a0), (1, a1), (1, (-1)), (0, 0), (0, 0), (0, 0), (0, 0)] [] (n, s) Q
        refine G_go rfl rfl ?_
        refine G_brF rfl rfl rfl ?_
        refine G_go rfl rfl ?_
        refine G_go rfl rfl ?_
        refine G_call rfl rfl ?_
        refine G_go rfl rfl ?_
        refine G_go rfl rfl ?_
        refine G_go rfl rfl ?_
        refine G_go rfl rfl ?_
        refine G_brF rfl rfl rfl ?_
        refine G_go rfl rfl ?_
        refine G_go rfl rfl ?_
        refine G_rf rfl rfl (by decide) (hR 2 7 119 rfl) ?_
        refine G_go rfl rfl ?_
        refine G_brF rfl rfl rfl ?_
        refine G_go rfl rfl ?_
        refine G_rf rfl rfl (by decide) (hR 2 7 119 rfl) ?_
        refine G_go rfl rfl ?_
        refine G_go rfl rfl ?_
        refine G_ir (n := 7) rfl rfl (by decide) (by decide) (by decide) ?_
        refine G_go rfl rfl ?_
        refine G_go rfl rfl ?_
        refine G_iw (n := 7) rfl rfl (by decide) (by decide) (by decide) ?_
        have hR := refs_up (a := 119) (k := 1) (x := wr ((s 119 1) + 1)) hR rfl
        refine G_go rfl rfl ?_
        refine G_ret rfl rfl ?_
        exact G_ret rfl rfl h
      · have h := h.2 c3
        refine G_go rfl rfl ?_
        refine G_go rfl rfl ?_
        refine G_ret rfl rfl ?_
        refine G_call rfl rfl ?_
        refine G_go rfl rfl ?_
        refine G_brF rfl rfl rfl ?_
        refine G_go rfl rfl ?_
        refine G_go rfl rfl ?_
        refine G_ret rfl rfl ?_
        refine G_go rfl rfl ?_
        show G 2 120 128 16 [(3, 2), (1, a0), (1, a1), (1, (-1)), (0, 0), (0, 0), (0, 0), (0, 0)] [] (n, s) Q
        refine G_go rfl rfl ?_
        refine G_brF rfl rfl rfl ?_
        refine G_go rfl rfl ?_
        refine G_go rfl rfl ?_
        refine G_call rfl rfl ?_
        refine G_go rfl rfl ?_
        refine G_go rfl rfl ?_
        refine G_go rfl rfl ?_
        refine G_go rfl rfl ?_
        refine G_brF rfl rfl rfl ?_
        refine G_go rfl rfl ?_
        refine G_go rfl rfl ?_
        refine G_rf rfl rfl (by decide) (hR 2 7 119 rfl) ?_
        refine G_go rfl rfl ?_
        refine G_brF rfl rfl rfl ?_
        refine G_go rfl rfl ?_
        refine G_rf rfl rfl (by decide) (hR 2 7 119 rfl) ?_
        refine G_go rfl rfl ?_
        refine G_go rfl rfl ?_
        refine G_ir (n := 7) rfl rfl (by decide) (by decide) (by decide) ?_
        refine G_go rfl rfl ?_
        refine G_go rfl rfl ?_
        refine G_iw (n := 7) rfl rfl (by decide) (by decide) (by decide) ?_
        have hR := refs_up (a := 119) (k := 1) (x := wr ((s 119 1) + 1)) hR rfl
        refine G_go rfl rfl ?_
        refine G_ret rfl rfl ?_
        exact G_ret rfl rfl h
    · have h := h.2 c2
      refine G_go rfl rfl ?_
      refine G_ret rfl rfl ?_
      refine G_call rfl rfl ?_
      refine G_go rfl rfl ?_
      refine G_brF rfl rfl rfl ?_
      refine G_go rfl rfl ?_
      refine G_go rfl rfl ?_
      refine G_ret rfl rfl ?_
      refine G_go rfl rfl ?_
      show G 2 120 128 16 [(3, 2), (1, a0), (1, a1), (1, (-1)), (0, 0), (0, 0), (0, 0), (0, 0)] [] (n, s) Q
      refine G_go rfl rfl ?_
      refine G_brF rfl rfl rfl ?_
      refine G_go rfl rfl ?_
      refine G_go rfl rfl ?_
      refine G_call rfl rfl ?_
      refine G_go rfl rfl ?_
      refine G_go rfl rfl ?_
      refine G_go rfl rfl ?_
      refine G_go rfl rfl ?_
      refine G_brF rfl rfl rfl ?_
      refine G_go rfl rfl ?_
      refine G_go rfl rfl ?_
      refine G_rf rfl rfl (by decide) (hR 2 7 119 rfl) ?_
      refine G_go rfl rfl ?_
      refine G_brF rfl rfl rfl ?_
      refine G_go rfl rfl ?_
      refine G_rf rfl rfl (by decide) (hR 2 7 119 rfl) ?_
      refine G_go rfl rfl ?_
      refine G_go rfl rfl ?_
      refine G_ir (n := 7) rfl rfl (by decide) (by decide) (by decide) ?_
      refine G_go rfl rfl ?_
      refine G_go rfl rfl ?_
      refine G_iw (n := 7) rfl rfl (by decide) (by decide) (by decide) ?_
      have hR := refs_up (a := 119) (k := 1) (x := wr ((s 119 1) + 1)) hR rfl
      refine G_go rfl rfl ?_
      refine G_ret rfl rfl ?_
      exact G_ret rfl rfl h
  · have h := h.2 c1
    refine G_go rfl rfl ?_
    refine G_go rfl rfl ?_
    refine G_rd rfl rfl (by decide) ?_
    refine G_ge rfl rfl (fun c4 => ?_) (fun c4 => ?_)
    · have h := h.1 c4
      refine G_go rfl rfl ?_
      refine G_ret rfl rfl ?_
      refine G_brT rfl rfl rfl ?_
      refine G_go rfl rfl ?_
      refine G_ret rfl rfl ?_
      refine G_go rfl rfl ?_
      refine G_go rfl rfl ?_
      refine G_go rfl rfl ?_
      refine G_call rfl rfl ?_
      refine G_go rfl rfl ?_
      refine G_go rfl rfl ?_
      refine G_ge rfl rfl (fun c5 => ?_) (fun c5 => ?_)
      · have h := h.1 c5
        refine G_go rfl rfl ?_
        refine G_go rfl rfl ?_
        refine G_le rfl rfl (fun c6 => ?_) (fun c6 => ?_)
        · have h := h.1 c6
          refine G_go rfl rfl ?_
          refine G_ret rfl rfl ?_
          refine G_call rfl rfl ?_
          refine G_go rfl rfl ?_
          refine G_brF rfl rfl rfl ?_
          refine G_go rfl rfl ?_
          refine G_go rfl rfl ?_
          refine G_ret rfl rfl ?_
          refine G_go rfl rfl ?_
          show G 2 120 128 16 [(3, 2), (1, a0), (1, a1), (1, (-1)), (0, 0), (0, 0), (0, 0), (0, 0)] [] (n, s) Q
          refine G_go rfl rfl ?_
          refine G_brF rfl rfl rfl ?_
          refine G_go rfl rfl ?_
          refine G_go rfl rfl ?_
          refine G_call rfl rfl ?_
          refine G_go rfl rfl ?_
          refine G_go rfl rfl ?_
          refine G_go rfl rfl ?_
          refine G_go rfl rfl ?_
          refine G_brF rfl rfl rfl ?_
          refine G_go rfl rfl ?_
          refine G_go rfl rfl ?_
          refine G_rf rfl rfl (by decide) (hR 2 7 119 rfl) ?_
          refine G_go rfl rfl ?_
          refine G_brF rfl rfl rfl ?_
          refine G_go rfl rfl ?_
          refine G_rf rfl rfl (by decide) (hR 2 7 119 rfl) ?_
          refine G_go rfl rfl ?_
          refine G_go rfl rfl ?_
          refine G_ir (n := 7) rfl rfl (by decide) (by decide) (by decide) ?_
          refine G_go rfl rfl ?_
          refine G_go rfl rfl ?_
          refine G_iw (n := 7) rfl rfl (by decide) (by decide) (by decide) ?_
          have hR := refs_up (a := 119) (k := 1) (x := wr ((s 119 1) + 1)) hR rfl
          refine G_go rfl rfl ?_
          refine G_ret rfl rfl ?_
          exact G_ret rfl rfl h
        · have h := h.2 c6
          refine G_go rfl rfl ?_
          refine G_go rfl rfl ?_
          refine G_ret rfl rfl ?_
          refine G_call rfl rfl ?_
          refine G_go rfl rfl ?_
          refine G_brF rfl rfl rfl ?_
          refine G_go rfl rfl ?_
          refine G_go rfl rfl ?_
          refine G_ret rfl rfl ?_
          refine G_go rfl rfl ?_
          show G 2 120 128 16 [(3, 2), (1, a0), (1, a1), (1, (-1)), (0, 0), (0, 0), (0, 0), (0, 0)] [] (n, s) Q
          refine G_go rfl rfl ?_
          refine G_brF rfl rfl rfl ?_
          refine G_go rfl rfl ?_
          refine G_go rfl rfl ?_
          refine G_call rfl rfl ?_
          refine G_go rfl rfl ?_
          refine G_go rfl rfl ?_
          refine G_go rfl rfl ?_
          refine G_go rfl rfl ?_
          refine G_brF rfl rfl rfl ?_
          refine G_go rfl rfl ?_
          refine G_go rfl rfl ?_
          refine G_rf rfl rfl (by decide) (hR 2 7 119 rfl) ?_
          refine G_go rfl rfl ?_
          refine G_brF rfl rfl rfl ?_
          refine G_go rfl rfl ?_
          refine G_rf rfl rfl (by decide) (hR 2 7 119 rfl) ?_
          refine G_go rfl rfl ?_
          refine G_go rfl rfl ?_
          refine G_ir (n := 7) rfl rfl (by decide) (by decide) (by decide) ?_
          refine G_go rfl rfl ?_
          refine G_go rfl rfl ?_
          refine G_iw (n := 7) rfl rfl (by decide) (by decide) (by decide) ?_
          have hR := refs_up (a := 119) (k := 1) (x := wr ((s 119 1) + 1)) hR rfl
          refine G_go rfl rfl ?_
          refine G_ret rfl rfl ?_
          exact G_ret rfl rfl h
      · have h := h.2 c5
        refine G_go rfl rfl ?_
        refine G_ret rfl rfl ?_
        refine G_call rfl rfl ?_
        refine G_go rfl rfl ?_
        refine G_brF rfl rfl rfl ?_
        refine G_go rfl rfl ?_
        refine G_go rfl rfl ?_
        refine G_ret rfl rfl ?_
        refine G_go rfl rfl ?_
        show G 2 120 128 16 [(3, 2), (1, a0), (1, a1), (1, (-1)), (0, 0), (0, 0), (0, 0), (0, 0)] [] (n, s) Q
        refine G_go rfl rfl ?_
        refine G_brF rfl rfl rfl ?_
        refine G_go rfl rfl ?_
        refine G_go rfl rfl ?_
        refine G_call rfl rfl ?_
        refine G_go rfl rfl ?_
        refine G_go rfl rfl ?_
        refine G_go rfl rfl ?_
        refine G_go rfl rfl ?_
        refine G_brF rfl rfl rfl ?_
        refine G_go rfl rfl ?_
        refine G_go rfl rfl ?_
        refine G_rf rfl rfl (by decide) (hR 2 7 119 rfl) ?_
        refine G_go rfl rfl ?_
        refine G_brF rfl rfl rfl ?_
        refine G_go rfl rfl ?_
        refine G_rf rfl rfl (by decide) (hR 2 7 119 rfl) ?_
        refine G_go rfl rfl ?_
        refine G_go rfl rfl ?_
        refine G_ir (n := 7) rfl rfl (by decide) (by decide) (by decide) ?_
        refine G_go rfl rfl ?_
        refine G_go rfl rfl ?_
        refine G_iw (n := 7) rfl rfl (by decide) (by decide) (by decide) ?_
        have hR := refs_up (a := 119) (k := 1) (x := wr ((s 119 1) + 1)) hR rfl
        refine G_go rfl rfl ?_
        refine G_ret rfl rfl ?_
        exact G_ret rfl rfl h
    · have h := h.2 c4
      refine G_go rfl rfl ?_
      refine G_go rfl rfl ?_
      refine G_ret rfl rfl ?_
      refine G_brF rfl rfl rfl ?_
      refine G_go rfl rfl ?_
      refine G_go rfl rfl ?_
      refine G_ret rfl rfl ?_
      refine G_go rfl rfl ?_
      refine G_go rfl rfl ?_
      refine G_go rfl rfl ?_
      refine G_call rfl rfl ?_
      refine G_go rfl rfl ?_
      refine G_go rfl rfl ?_
      refine G_ge rfl rfl (fun c7 => ?_) (fun c7 => ?_)
      · have h := h.1 c7
        refine G_go rfl rfl ?_
        refine G_go rfl rfl ?_
        refine G_le rfl rfl (fun c8 => ?_) (fun c8 => ?_)
        · have h := h.1 c8
          refine G_go rfl rfl ?_
          refine G_ret rfl rfl ?_
          refine G_call rfl rfl ?_
          refine G_go rfl rfl ?_
          refine G_brT rfl rfl rfl ?_
          refine G_go rfl rfl ?_
          refine G_ret rfl rfl ?_
          refine G_go rfl rfl ?_
          show G 2 120 128 16 [(3, 2), (1, a0), (1, a1), (1, 0), (0, 0), (0, 0), (0, 0), (0, 0)] [] (n, s) Q
          refine G_go rfl rfl ?_
          refine G_brT rfl rfl rfl ?_
          refine G_go rfl rfl ?_
          refine G_rf rfl rfl (by decide) (hR 2 0 3 rfl) ?_
          refine G_rd rfl rfl (by decide) ?_
          refine G_go rfl rfl ?_
          refine G_ge rfl rfl (fun c9 => ?_) (fun c9 => ?_)
          · have h := h.1 c9
            refine G_go rfl rfl ?_
            refine G_go rfl rfl ?_
            show G 2 120 128 44 [(3, 2), (1, a0), (1, a1), (1, 0), (1, 9), (0, 0), (0, 0), (0, 0)] [] (n, s) Q
            refine G_go rfl rfl ?_
            refine G_go rfl rfl ?_
            refine G_go rfl rfl ?_
            refine G_go rfl rfl ?_
            exact G_call rfl rfl h
          · have h := h.2 c9
            refine G_go rfl rfl ?_
            exact G_ret rfl rfl h
        · have h := h.2 c8
          refine G_go rfl rfl ?_
          refine G_go rfl rfl ?_
          refine G_ret rfl rfl ?_
          refine G_call rfl rfl ?_
          refine G_go rfl rfl ?_
          refine G_brT rfl rfl rfl ?_
          refine G_go rfl rfl ?_
          refine G_ret rfl rfl ?_
          refine G_go rfl rfl ?_
          show G 2 120 128 16 [(3, 2), (1, a0), (1, a1), (1, (-6)), (0, 0), (0, 0), (0, 0), (0, 0)] [] (n, s) Q
          refine G_go rfl rfl ?_
          refine G_brF rfl rfl rfl ?_
          refine G_go rfl rfl ?_
          refine G_go rfl rfl ?_
          refine G_call rfl rfl ?_
          refine G_go rfl rfl ?_
          refine G_go rfl rfl ?_
          refine G_go rfl rfl ?_
          refine G_go rfl rfl ?_
          refine G_brF rfl rfl rfl ?_
          refine G_go rfl rfl ?_
          refine G_go rfl rfl ?_
          refine G_rf rfl rfl (by decide) (hR 2 7 119 rfl) ?_
          refine G_go rfl rfl ?_
          refine G_brF rfl rfl rfl ?_
          refine G_go rfl rfl ?_
          refine G_rf rfl rfl (by decide) (hR 2 7 119 rfl) ?_
          refine G_go rfl rfl ?_
          refine G_go rfl rfl ?_
          refine G_ir (n := 7) rfl rfl (by decide) (by decide) (by decide) ?_
          refine G_go rfl rfl ?_
          refine G_go rfl rfl ?_
          refine G_iw (n := 7) rfl rfl (by decide) (by decide) (by decide) ?_
          have hR := refs_up (a := 119) (k := 6) (x := wr ((s 119 6) + 1)) hR rfl
          refine G_go rfl rfl ?_
          refine G_ret rfl rfl ?_
          exact G_ret rfl rfl h
      · have h := h.2 c7
        refine G_go rfl rfl ?_
        refine G_ret rfl rfl ?_
        refine G_call rfl rfl ?_
        refine G_go rfl rfl ?_
        refine G_brT rfl rfl rfl ?_
        refine G_go rfl rfl ?_
        refine G_ret rfl rfl ?_
        refine G_go rfl rfl ?_
        show G 2 120 128 16 [(3, 2), (1, a0), (1, a1), (1, (-4)), (0, 0), (0, 0), (0, 0), (0, 0)] [] (n, s) Q
        refine G_go rfl rfl ?_
        refine G_brF rfl rfl rfl ?_
        refine G_go rfl rfl ?_
        refine G_go rfl rfl ?_
        refine G_call rfl rfl ?_
        refine G_go rfl rfl ?_
        refine G_go rfl rfl ?_
        refine G_go rfl rfl ?_
        refine G_go rfl rfl ?_
        refine G_brF rfl rfl rfl ?_
        refine G_go rfl rfl ?_
        refine G_go rfl rfl ?_
        refine G_rf rfl rfl (by decide) (hR 2 7 119 rfl) ?_
        refine G_go rfl rfl ?_
        refine G_brF rfl rfl rfl ?_
        refine G_go rfl rfl ?_
        refine G_rf rfl rfl (by decide) (hR 2 7 119 rfl) ?_
        refine G_go rfl rfl ?_
        refine G_go rfl rfl ?_
        refine G_ir (n := 7) rfl rfl (by decide) (by decide) (by decide) ?_
        refine G_go rfl rfl ?_
        refine G_go rfl rfl ?_
        refine G_iw (n := 7) rfl rfl (by decide) (by decide) (by decide) ?_
        have hR := refs_up (a := 119) (k := 4) (x := wr ((s 119 4) + 1)) hR rfl
        refine G_go rfl rfl ?_
        refine G_ret rfl rfl ?_
        exact G_ret rfl rfl h
theorem sb_X6_trust_51 (n : Nat) (s : Nat → Nat → Int) (Q : List Vl → Sto → Prop) (x1 : Int) (x2 : Int) (x3 : Int) (x4 : Int) (y0 : Int) (hR : refs s)
    (h : G 2 120 128 56 [(3, 2), (1, x1), (1, x2), (1, x3), (1, x4), (1, y0), (1, 0), (0, 0)] [] (n, s) Q) :
    G 2 120 128 51 [(3, 2), (1, x1), (1, x2), (1, x3), (1, x4), (0, 0), (0, 0), (0, 0)] [(1, y0)] (n, s) Q := by
  refine G_go rfl rfl ?_
  show G 2 120 128 53 [(3, 2), (1, x1), (1, x2), (1, x3), (1, x4), (1, y0), (0, 0), (0, 0)] [] (n, s) Q
  refine G_go rfl rfl ?_
  refine G_go rfl rfl ?_
  show G 2 120 128 56 [(3, 2), (1, x1), (1, x2), (1, x3), (1, x4), (1, y0), (1, 0), (0, 0)] [] (n, s) Q
  exact h
theorem sb_X6_trust_56 (n : Nat) (s : Nat → Nat → Int) (Q : List Vl → Sto → Prop) (x1 : Int) (x2 : Int) (x3 : Int) (x4 : Int) (x5 : Int) (x6 : Int) (w7 : Vl) (hR : refs s)
    (h : (s 3 9 ≤ x6 → Q [(1, x4)] (n, s)) ∧ (x6 < s 3 9 → (x6 ≠ x1 → G 2 120 114 0 [(3, 2), (1, x1), (1, x6), (1, x2)] [] (n, s) (fun r s1 => G 2 120 128 86 [(3, 2), (1, x1), (1, x2), (1, x3), (1, x4), (1, x5), (1, x6), w7] (r ++ []) s1 Q)) ∧ (x6 = x1 → ((-1) ≤ x5 → G 2 120 128 56 [(3, 2), (1, x1), (1, x2), (1, x3), (1, x4), (1, x5), (1, wr (x6 + 1)), (1, (-1))] [] (n, s) Q) ∧ (x5 < (-1) → G 2 120 128 56 [(3, 2), (1, x1), (1, x2), (1, x3), (1, x6), (1, (-1)), (1, wr (x6 + 1)), (1, (-1))] [] (n, s) Q)))) :
    G 2 120 128 56 [(3, 2), (1, x1), (1, x2), (1, x3), (1, x4), (1, x5), (1, x6), w7] [] (n, s) Q := by
  refine G_go rfl rfl ?_
  refine G_go rfl rfl ?_
  refine G_rf rfl rfl (by decide) (hR 2 0 3 rfl) ?_
  refine G_rd rfl rfl (by decide) ?_
  refine G_ge rfl rfl (fun c1 => ?_) (fun c1 => ?_)
  · have h := h.1 c1
    refine G_go rfl rfl ?_
    exact G_ret rfl rfl h
  · have h := h.2 c1
    refine G_go rfl rfl ?_
    refine G_go rfl rfl ?_
    refine G_ne rfl rfl (fun c2 => ?_) (fun c2 => ?_)
    · have h := h.1 c2
      refine G_go rfl rfl ?_
      refine G_go rfl rfl ?_
      refine G_go rfl rfl ?_
      refine G_go rfl rfl ?_
      exact G_call rfl rfl h
    · have h := h.2 c2
      refine G_go rfl rfl ?_
      refine G_go rfl rfl ?_
      refine G_go rfl rfl ?_
      show G 2 120 128 88 [(3, 2), (1, x1), (1, x2), (1, x3), (1, x4), (1, x5), (1, x6), (1, (-1))] [] (n, s) Q
      refine G_go rfl rfl ?_
      refine G_go rfl rfl ?_
      refine G_le rfl rfl (fun c3 => ?_) (fun c3 => ?_)
      · have h := h.1 c3
        refine G_go rfl rfl ?_
        refine G_go rfl rfl ?_
        exact h
      · have h := h.2 c3
        refine G_go rfl rfl ?_
        refine G_go rfl rfl ?_
        show G 2 120 128 99 [(3, 2), (1, x1), (1, x2), (1, x3), (1, x4), (1, (-1)), (1, x6), (1, (-1))] [] (n, s) Q
        refine G_go rfl rfl ?_
        refine G_go rfl rfl ?_
        show G 2 120 128 103 [(3, 2), (1, x1), (1, x2), (1, x3), (1, x6), (1, (-1)), (1, x6), (1, (-1))] [] (n, s) Q
        refine G_go rfl rfl ?_
        refine G_go rfl rfl ?_
        exact h
theorem sb_X6_trust_86 (n : Nat) (s : Nat → Nat → Int) (Q : List Vl → Sto → Prop) (x1 : Int) (x2 : Int) (x3 : Int) (x4 : Int) (x5 : Int) (x6 : Int) (y0 : Int) (w7 : Vl) (hR : refs s)
    (h : (y0 ≤ x5 → G 2 120 128 56 [(3, 2), (1, x1), (1, x2), (1, x3), (1, x4), (1, x5), (1, wr (x6 + 1)), (1, y0)] [] (n, s) Q) ∧ (x5 < y0 → G 2 120 128 56 [(3, 2), (1, x1), (1, x2), (1, x3), (1, x6), (1, y0), (1, wr (x6 + 1)), (1, y0)] [] (n, s) Q)) :
    G 2 120 128 86 [(3, 2), (1, x1), (1, x2), (1, x3), (1, x4), (1, x5), (1, x6), w7] [(1, y0)] (n, s) Q := by
  refine G_go rfl rfl ?_
  show G 2 120 128 88 [(3, 2), (1, x1), (1, x2), (1, x3), (1, x4), (1, x5), (1, x6), (1, y0)] [] (n, s) Q
  refine G_go rfl rfl ?_
  refine G_go rfl rfl ?_
  refine G_le rfl rfl (fun c1 => ?_) (fun c1 => ?_)
  · have h := h.1 c1
    refine G_go rfl rfl ?_
    refine G_go rfl rfl ?_
    exact h
  · have h := h.2 c1
    refine G_go rfl rfl ?_
    refine G_go rfl rfl ?_
    show G 2 120 128 99 [(3, 2), (1, x1), (1, x2), (1, x3), (1, x4), (1, y0), (1, x6), (1, y0)] [] (n, s) Q
    refine G_go rfl rfl ?_
    refine G_go rfl rfl ?_
    show G 2 120 128 103 [(3, 2), (1, x1), (1, x2), (1, x3), (1, x6), (1, y0), (1, x6), (1, y0)] [] (n, s) Q
    refine G_go rfl rfl ?_
    refine G_go rfl rfl ?_
    exact h
theorem sb_X7_trust_0 (n : Nat) (s : Nat → Nat → Int) (Q : List Vl → Sto → Prop) (a0 : Int) (a1 : Int) (hR : refs s)
    (h : (a0 < 0 → Q [(1, (-1))] (n, upS (upS s 120 10 0) 129 1 (wr ((s 129 1) + 1)))) ∧ (a0 ≥ 0 → (a0 > wr ((s 120 0) - 1) → Q [(1, (-1))] (n, upS (upS s 120 10 0) 129 1 (wr ((s 129 1) + 1)))) ∧ (a0 ≤ wr ((s 120 0) - 1) → (1 ≤ a1 → (a1 ≤ 12 → G 120 140 207 0 [(3, 120), (1, a0), (1, (-9)), (1, a1), (0, 0), (0, 0)] [] (n, upS s 120 10 0) (fun r s1 => G 120 140 219 47 [(3, 120), (1, a0), (1, a1), (1, 0), (1, 9), (0, 0), (0, 0), (0, 0)] (r ++ []) s1 Q)) ∧ (12 < a1 → Q [(1, (-6))] (n, upS (upS s 120 10 0) 129 6 (wr ((s 129 6) + 1))))) ∧ (a1 < 1 → Q [(1, (-4))] (n, upS (upS s 120 10 0) 129 4 (wr ((s 129 4) + 1))))))) :
    G 120 140 219 0 [(3, 120), (1, a0), (1, a1), (0, 0), (0, 0), (0, 0), (0, 0), (0, 0)] [] (n, s) Q := by
  refine G_go rfl rfl ?_
  refine G_go rfl rfl ?_
  refine G_wr rfl rfl (by decide) ?_
  have hR := refs_up (a := 120) (k := 10) (x := 0) hR rfl
  refine G_go rfl rfl ?_
  refine G_go rfl rfl ?_
  refine G_call rfl rfl ?_
  refine G_go rfl rfl ?_
  refine G_go rfl rfl ?_
  refine G_go rfl rfl ?_
  refine G_go rfl rfl ?_
  refine G_rd rfl rfl (by decide) ?_
  refine G_go rfl rfl ?_
  refine G_go rfl rfl ?_
  refine G_go rfl rfl ?_
  refine G_call rfl rfl ?_
  refine G_go rfl rfl ?_
  refine G_go rfl rfl ?_
  refine G_go rfl rfl ?_
  refine G_lt rfl rfl (fun c1 => ?_) (fun c1 => ?_)
  · have c1 := xl_lt c1
    have h := h.1 c1
    refine G_go rfl rfl ?_
    refine G_ret rfl rfl ?_
    refine G_ret rfl rfl ?_
    refine G_brT rfl rfl rfl ?_
    refine G_go rfl rfl ?_
    refine G_go rfl rfl ?_
    show G 120 140 219 25 [(3, 120), (1, a0), (1, a1), (1, (-1)), (0, 0), (0, 0), (0, 0), (0, 0)] [] (n, upS s 120 10 0) Q
    refine G_go rfl rfl ?_
    refine G_brF rfl rfl rfl ?_
    refine G_go rfl rfl ?_
    refine G_go rfl rfl ?_
    refine G_call rfl rfl ?_
    refine G_go rfl rfl ?_
    refine G_rf rfl rfl (by decide) (hR 120 11 129 rfl) ?_
    refine G_go rfl rfl ?_
    refine G_go rfl rfl ?_
    refine G_go rfl rfl ?_
    refine G_ir (n := 7) rfl rfl (by decide) (by decide) (by decide) ?_
    refine G_go rfl rfl ?_
    refine G_go rfl rfl ?_
    refine G_iw (n := 7) rfl rfl (by decide) (by decide) (by decide) ?_
    have hR := refs_up (a := 129) (k := 1) (x := wr ((s 129 1) + 1)) hR rfl
    refine G_go rfl rfl ?_
    refine G_ret rfl rfl ?_
    exact G_ret rfl rfl h
  · have c1 := xl_ge c1
    have h := h.2 c1
    refine G_go rfl rfl ?_
    refine G_go rfl rfl ?_
    refine G_go rfl rfl ?_
    refine G_gt rfl rfl (fun c2 => ?_) (fun c2 => ?_)
    · have c2 := xl_gt c2
      have h := h.1 c2
      refine G_go rfl rfl ?_
      refine G_ret rfl rfl ?_
      refine G_ret rfl rfl ?_
      refine G_brT rfl rfl rfl ?_
      refine G_go rfl rfl ?_
      refine G_go rfl rfl ?_
      show G 120 140 219 25 [(3, 120), (1, a0), (1, a1), (1, (-1)), (0, 0), (0, 0), (0, 0), (0, 0)] [] (n, upS s 120 10 0) Q
      refine G_go rfl rfl ?_
      refine G_brF rfl rfl rfl ?_
      refine G_go rfl rfl ?_
      refine G_go rfl rfl ?_
      refine G_call rfl rfl ?_
      refine G_go rfl rfl ?_
      refine G_rf rfl rfl (by decide) (hR 120 11 129 rfl) ?_
      refine G_go rfl rfl ?_
      refine G_go rfl rfl ?_
      refine G_go rfl rfl ?_
      refine G_ir (n := 7) rfl rfl (by decide) (by decide) (by decide) ?_
      refine G_go rfl rfl ?_
      refine G_go rfl rfl ?_
      refine G_iw (n := 7) rfl rfl (by decide) (by decide) (by decide) ?_
      have hR := refs_up (a := 129) (k := 1) (x := wr ((s 129 1) + 1)) hR rfl
      refine G_go rfl rfl ?_
      refine G_ret rfl rfl ?_
      exact G_ret rfl rfl h
    · have c2 := xl_le c2
      have h := h.2 c2
      refine G_go rfl rfl ?_
      refine G_go rfl rfl ?_
      refine G_ret rfl rfl ?_
      refine G_ret rfl rfl ?_
      refine G_brF rfl rfl rfl ?_
      refine G_go rfl rfl ?_
      refine G_go rfl rfl ?_
      refine G_go rfl rfl ?_
      refine G_call rfl rfl ?_
      refine G_go rfl rfl ?_
      refine G_go rfl rfl ?_
      refine G_ge rfl rfl (fun c3 => ?_) (fun c3 => ?_)
      · have h := h.1 c3
        refine G_go rfl rfl ?_
        refine G_go rfl rfl ?_
        refine G_le rfl rfl (fun c4 => ?_) (fun c4 => ?_)
        · have h := h.1 c4
          refine G_go rfl rfl ?_
          refine G_ret rfl rfl ?_
          refine G_go rfl rfl ?_
          refine G_go rfl rfl ?_
          show G 120 140 219 25 [(3, 120), (1, a0), (1, a1), (1, 0), (0, 0), (0, 0), (0, 0), (0, 0)] [] (n, upS s 120 10 0) Q
          refine G_go rfl rfl ?_
          refine G_brT rfl rfl rfl ?_
          refine G_go rfl rfl ?_
          refine G_go rfl rfl ?_
          show G 120 140 219 39 [(3, 120), (1, a0), (1, a1), (1, 0), (1, 9), (0, 0), (0, 0), (0, 0)] [] (n, upS s 120 10 0) Q
          refine G_go rfl rfl ?_
          refine G_go rfl rfl ?_
          refine G_go rfl rfl ?_
          refine G_go rfl rfl ?_
          exact G_call rfl rfl h
        · have h := h.2 c4
          refine G_go rfl rfl ?_
          refine G_go rfl rfl ?_
          refine G_ret rfl rfl ?_
          refine G_go rfl rfl ?_
          refine G_go rfl rfl ?_
          show G 120 140 219 25 [(3, 120), (1, a0), (1, a1), (1, (-6)), (0, 0), (0, 0), (0, 0), (0, 0)] [] (n, upS s 120 10 0) Q
          refine G_go rfl rfl ?_
          refine G_brF rfl rfl rfl ?_
          refine G_go rfl rfl ?_
          refine G_go rfl rfl ?_
          refine G_call rfl rfl ?_
          refine G_go rfl rfl ?_
          refine G_rf rfl rfl (by decide) (hR 120 11 129 rfl) ?_
          refine G_go rfl rfl ?_
          refine G_go rfl rfl ?_
          refine G_go rfl rfl ?_
          refine G_ir (n := 7) rfl rfl (by decide) (by decide) (by decide) ?_
          refine G_go rfl rfl ?_
          refine G_go rfl rfl ?_
          refine G_iw (n := 7) rfl rfl (by decide) (by decide) (by decide) ?_
          have hR := refs_up (a := 129) (k := 6) (x := wr ((s 129 6) + 1)) hR rfl
          refine G_go rfl rfl ?_
          refine G_ret rfl rfl ?_
          exact G_ret rfl rfl h
      · have h := h.2 c3
        refine G_go rfl rfl ?_
        refine G_go rfl rfl ?_
        refine G_ret rfl rfl ?_
        refine G_go rfl rfl ?_
        refine G_go rfl rfl ?_
        show G 120 140 219 25 [(3, 120), (1, a0), (1, a1), (1, (-4)), (0, 0), (0, 0), (0, 0), (0, 0)] [] (n, upS s 120 10 0) Q
        refine G_go rfl rfl ?_
        refine G_brF rfl rfl rfl ?_
        refine G_go rfl rfl ?_
        refine G_go rfl rfl ?_
        refine G_call rfl rfl ?_
        refine G_go rfl rfl ?_
        refine G_rf rfl rfl (by decide) (hR 120 11 129 rfl) ?_
        refine G_go rfl rfl ?_
        refine G_go rfl rfl ?_
        refine G_go rfl rfl ?_
        refine G_ir (n := 7) rfl rfl (by decide) (by decide) (by decide) ?_
        refine G_go rfl rfl ?_
        refine G_go rfl rfl ?_
        refine G_iw (n := 7) rfl rfl (by decide) (by decide) (by decide) ?_
        have hR := refs_up (a := 129) (k := 4) (x := wr ((s 129 4) + 1)) hR rfl
        refine G_go rfl rfl ?_
        refine G_ret rfl rfl ?_
        exact G_ret rfl rfl h
theorem sb_X7_trust_47 (n : Nat) (s : Nat → Nat → Int) (Q : List Vl → Sto → Prop) (x1 : Int) (x2 : Int) (x3 : Int) (x4 : Int) (y0 : Int) (hR : refs s)
    (h : G 120 140 219 52 [(3, 120), (1, x1), (1, x2), (1, x3), (1, x4), (1, y0), (1, 0), (0, 0)] [] (n, s) Q) :
    G 120 140 219 47 [(3, 120), (1, x1), (1, x2), (1, x3), (1, x4), (0, 0), (0, 0), (0, 0)] [(1, y0)] (n, s) Q := by
  refine G_go rfl rfl ?_
  show G 120 140 219 49 [(3, 120), (1, x1), (1, x2), (1, x3), (1, x4), (1, y0), (0, 0), (0, 0)] [] (n, s) Q
  refine G_go rfl rfl ?_
  refine G_go rfl rfl ?_
  show G 120 140 219 52 [(3, 120), (1, x1), (1, x2), (1, x3), (1, x4), (1, y0), (1, 0), (0, 0)] [] (n, s) Q
  exact h
theorem sb_X7_trust_52 (n : Nat) (s : Nat → Nat → Int) (Q : List Vl → Sto → Prop) (x1 : Int) (x2 : Int) (x3 : Int) (x4 : Int) (x5 : Int) (x6 : Int) (w7 : Vl) (hR : refs s)
    (h : (s 120 0 ≤ x6 → (s 120 0 ≠ 1 → Q [(1, x4)] (n, s)) ∧ (s 120 0 = 1 → Q [(1, (-9))] (n, s))) ∧ (x6 < s 120 0 → (x6 ≠ x1 → G 120 140 207 0 [(3, 120), (1, x1), (1, x6), (1, x2), (0, 0), (0, 0)] [] (n, s) (fun r s1 => G 120 140 219 79 [(3, 120), (1, x1), (1, x2), (1, x3), (1, x4), (1, x5), (1, x6), w7] (r ++ []) s1 Q)) ∧ (x6 = x1 → ((-1) ≤ x5 → G 120 140 219 52 [(3, 120), (1, x1), (1, x2), (1, x3), (1, x4), (1, x5), (1, wr (x6 + 1)), (1, (-1))] [] (n, s) Q) ∧ (x5 < (-1) → G 120 140 219 52 [(3, 120), (1, x1), (1, x2), (1, x3), (1, x6), (1, (-1)), (1, wr (x6 + 1)), (1, (-1))] [] (n, s) Q)))) :
    G 120 140 219 52 [(3, 120), (1, x1), (1, x2), (1, x3), (1, x4), (1, x5), (1, x6), w7] [] (n, s) Q := by
  refine G_go rfl rfl ?_
  refine G_go rfl rfl ?_
  refine G_rd rfl rfl (by decide) ?_
  refine G_ge rfl rfl (fun c1 => ?_) (fun c1 => ?_)
  · have h := h.1 c1
    refine G_go rfl rfl ?_
    refine G_rd rfl rfl (by decide) ?_
    refine G_go rfl rfl ?_
    refine G_ne rfl rfl (fun c2 => ?_) (fun c2 => ?_)
    · have h := h.1 c2
      refine G_go rfl rfl ?_
      exact G_ret rfl rfl h
    · have h := h.2 c2
      refine G_go rfl rfl ?_
      refine G_go rfl rfl ?_
      exact G_ret rfl rfl h
  · have h := h.2 c1
    refine G_go rfl rfl ?_
    refine G_go rfl rfl ?_
    refine G_ne rfl rfl (fun c3 => ?_) (fun c3 => ?_)
    · have h := h.1 c3
      refine G_go rfl rfl ?_
      refine G_go rfl rfl ?_
      refine G_go rfl rfl ?_
      refine G_go rfl rfl ?_
      exact G_call rfl rfl h
    · have h := h.2 c3
      refine G_go rfl rfl ?_
      refine G_go rfl rfl ?_
      refine G_go rfl rfl ?_
      show G 120 140 219 81 [(3, 120), (1, x1), (1, x2), (1, x3), (1, x4), (1, x5), (1, x6), (1, (-1))] [] (n, s) Q
      refine G_go rfl rfl ?_
      refine G_go rfl rfl ?_
      refine G_le rfl rfl (fun c4 => ?_) (fun c4 => ?_)
      · have h := h.1 c4
        refine G_go rfl rfl ?_
        refine G_go rfl rfl ?_
        show G 120 140 219 97 [(3, 120), (1, x1), (1, x2), (1, x3), (1, x4), (1, x5), (1, x6), (1, (-1))] [] (n, s) Q
        refine G_go rfl rfl ?_
        refine G_go rfl rfl ?_
        refine G_le rfl rfl (fun _ => ?_) (fun hc => absurd (show x5 < (-1) from hc) (by omega))
        refine G_go rfl rfl ?_
        refine G_go rfl rfl ?_
        show G 120 140 219 113 [(3, 120), (1, x1), (1, x2), (1, x3), (1, x4), (1, x5), (1, x6), (1, (-1))] [] (n, s) Q
        refine G_go rfl rfl ?_
        refine G_go rfl rfl ?_
        exact h
      · have h := h.2 c4
        refine G_go rfl rfl ?_
        refine G_go rfl rfl ?_
        refine G_go rfl rfl ?_
        show G 120 140 219 97 [(3, 120), (1, x1), (1, x2), (1, x3), (1, x6), (1, x5), (1, x6), (1, (-1))] [] (n, s) Q
        refine G_go rfl rfl ?_
        refine G_go rfl rfl ?_
        refine G_le rfl rfl (fun hc => absurd (show (-1) ≤ x5 from hc) (by omega)) (fun _ => ?_)
        refine G_go rfl rfl ?_
        refine G_go rfl rfl ?_
        refine G_go rfl rfl ?_
        show G 120 140 219 113 [(3, 120), (1, x1), (1, x2), (1, x3), (1, x6), (1, (-1)), (1, x6), (1, (-1))] [] (n, s) Q
        refine G_go rfl rfl ?_
        refine G_go rfl rfl ?_
        exact h
theorem sb_X7_trust_79 (n : Nat) (s : Nat → Nat → Int) (Q : List Vl → Sto → Prop) (x1 : Int) (x2 : Int) (x3 : Int) (x4 : Int) (x5 : Int) (x6 : Int) (y0 : Int) (w7 : Vl) (hR : refs s)
    (h : (y0 ≤ x5 → G 120 140 219 52 [(3, 120), (1, x1), (1, x2), (1, x3), (1, x4), (1, x5), (1, wr (x6 + 1)), (1, y0)] [] (n, s) Q) ∧ (x5 < y0 → G 120 140 219 52 [(3, 120), (1, x1), (1, x2), (1, x3), (1, x6), (1, y0), (1, wr (x6 + 1)), (1, y0)] [] (n, s) Q)) :
    G 120 140 219 79 [(3, 120), (1, x1), (1, x2), (1, x3), (1, x4), (1, x5), (1, x6), w7] [(1, y0)] (n, s) Q := by
  refine G_go rfl rfl ?_
  show G 120 140 219 81 [(3, 120), (1, x1), (1, x2), (1, x3), (1, x4), (1, x5), (1, x6), (1, y0)] [] (n, s) Q
  refine G_go rfl rfl ?_
  refine G_go rfl rfl ?_
  refine G_le rfl rfl (fun c1 => ?_) (fun c1 => ?_)
  · have h := h.1 c1
    refine G_go rfl rfl ?_
    refine G_go rfl rfl ?_
    show G 120 140 219 97 [(3, 120), (1, x1), (1, x2), (1, x3), (1, x4), (1, x5), (1, x6), (1, y0)] [] (n, s) Q
    refine G_go rfl rfl ?_
    refine G_go rfl rfl ?_
    refine G_le rfl rfl (fun _ => ?_) (fun hc => absurd (show x5 < y0 from hc) (by omega))
    refine G_go rfl rfl ?_
    refine G_go rfl rfl ?_
    show G 120 140 219 113 [(3, 120), (1, x1), (1, x2), (1, x3), (1, x4), (1, x5), (1, x6), (1, y0)] [] (n, s) Q
    refine G_go rfl rfl ?_
    refine G_go rfl rfl ?_
    exact h
  · have h := h.2 c1
    refine G_go rfl rfl ?_
    refine G_go rfl rfl ?_
    refine G_go rfl rfl ?_
    show G 120 140 219 97 [(3, 120), (1, x1), (1, x2), (1, x3), (1, x6), (1, x5), (1, x6), (1, y0)] [] (n, s) Q
    refine G_go rfl rfl ?_
    refine G_go rfl rfl ?_
    refine G_le rfl rfl (fun hc => absurd (show y0 ≤ x5 from hc) (by omega)) (fun _ => ?_)
    refine G_go rfl rfl ?_
    refine G_go rfl rfl ?_
    refine G_go rfl rfl ?_
    show G 120 140 219 113 [(3, 120), (1, x1), (1, x2), (1, x3), (1, x6), (1, y0), (1, x6), (1, y0)] [] (n, s) Q
    refine G_go rfl rfl ?_
    refine G_go rfl rfl ?_
    exact h
theorem sb_X6_safe_0 (n : Nat) (s : Nat → Nat → Int) (Q : List Vl → Sto → Prop) (a0 : Int) (a1 : Int) (hR : refs s)
    (h : (a0 < 0 → (1 ≤ a1 → (a1 ≤ 12 → Q [(1, (-1))] (n, upS s 119 1 (wr ((s 119 1) + 1)))) ∧ (12 < a1 → Q [(1, (-1))] (n, upS s 119 1 (wr ((s 119 1) + 1))))) ∧ (a1 < 1 → Q [(1, (-1))] (n, upS s 119 1 (wr ((s 119 1) + 1))))) ∧ (0 ≤ a0 → (s 3 9 ≤ a0 → (1 ≤ a1 → (a1 ≤ 12 → Q [(1, (-1))] (n, upS s 119 1 (wr ((s 119 1) + 1)))) ∧ (12 < a1 → Q [(1, (-1))] (n, upS s 119 1 (wr ((s 119 1) + 1))))) ∧ (a1 < 1 → Q [(1, (-1))] (n, upS s 119 1 (wr ((s 119 1) + 1))))) ∧ (a0 < s 3 9 → (1 ≤ a1 → (a1 ≤ 12 → G 2 120 122 32 [(3, 2), (1, a0), (1, a1), (1, 0), (1, 0), (1, 0)] [] (n, s) Q) ∧ (12 < a1 → Q [(1, (-6))] (n, upS s 119 6 (wr ((s 119 6) + 1))))) ∧ (a1 < 1 → Q [(1, (-4))] (n, upS s 119 4 (wr ((s 119 4) + 1))))))) :
    G 2 120 122 0 [(3, 2), (1, a0), (1, a1), (0, 0), (0, 0), (0, 0)] [] (n, s) Q := by
  refine G_go rfl rfl ?_
  refine G_go rfl rfl ?_
  refine G_call rfl rfl ?_
  refine G_go rfl rfl ?_
  refine G_rf rfl rfl (by decide) (hR 2 0 3 rfl) ?_
  refine G_go rfl rfl ?_
  refine G_call rfl rfl ?_
  refine G_go rfl rfl ?_
  refine G_lt rfl rfl (fun c1 => ?_) (fun c1 => ?_)
  · have h := h.1 c1
    refine G_go rfl rfl ?_
    refine G_ret rfl rfl ?_
    refine G_brT rfl rfl rfl ?_
    refine G_go rfl rfl ?_
    refine G_ret rfl rfl ?_
    refine G_go rfl rfl ?_
    refine G_go rfl rfl ?_
    refine G_go rfl rfl ?_
    refine G_call rfl rfl ?_
    refine G_go rfl rfl ?_
    refine G_go rfl rfl ?_
    refine G_ge rfl rfl (fun c2 => ?_) (fun c2 => ?_)
    · have h := h.1 c2
      refine G_go rfl rfl ?_
      refine G_go rfl rfl ?_
      refine G_le rfl rfl (fun c3 => ?_) (fun c3 => ?_)
      · have h := h.1 c3
        refine G_go rfl rfl ?_
        refine G_ret rfl rfl ?_
        refine G_call rfl rfl ?_
        refine G_go rfl rfl ?_
        refine G_brF rfl rfl rfl ?_
        refine G_go rfl rfl ?_
        refine G_go rfl rfl ?_
        refine G_ret rfl rfl ?_
        refine G_go rfl rfl ?_
        show G 2 120 122 16 [(3, 2), (1, a0), (1, a1), (1, (-1)), (0, 0), (0, 0)] [] (n, s) Q
        refine G_go rfl rfl ?_
        refine G_brF rfl rfl rfl ?_
        refine G_go rfl rfl ?_
        refine G_go rfl rfl ?_
        refine G_call rfl rfl ?_
        refine G_go rfl rfl ?_
        refine G_go rfl rfl ?_
        refine G_go rfl rfl ?_
        refine G_go rfl rfl ?_
        refine G_brF rfl rfl rfl ?_
        refine G_go rfl rfl ?_
        refine G_go rfl rfl ?_
        refine G_rf rfl rfl (by decide) (hR 2 7 119 rfl) ?_
        refine G_go rfl rfl ?_
        refine G_brF rfl rfl rfl ?_
        refine G_go rfl rfl ?_
        refine G_rf rfl rfl (by decide) (hR 2 7 119 rfl) ?_
        refine G_go rfl rfl ?_
        refine G_go rfl rfl ?_
        refine G_ir (n := 7) rfl rfl (by decide) (by decide) (by decide) ?_
        refine G_go rfl rfl ?_
        refine G_go rfl rfl ?_
        refine G_iw (n := 7) rfl rfl (by decide) (by decide) (by decide) ?_
        have hR := refs_up (a := 119) (k := 1) (x := wr ((s 119 1) + 1)) hR rfl
        refine G_go rfl rfl ?_
        refine G_ret rfl rfl ?_
        exact G_ret rfl rfl h
      · have h := h.2 c3
        refine G_go rfl rfl ?_
        refine G_go rfl rfl ?_
        refine G_ret rfl rfl ?_
        refine G_call rfl rfl ?_
        refine G_go rfl rfl ?_
        refine G_brF rfl rfl rfl ?_
        refine G_go rfl rfl ?_
        refine G_go rfl rfl ?_
        refine G_ret rfl rfl ?_
        refine G_go rfl rfl ?_
        show G 2 120 122 16 [(3, 2), (1, a0), (1, a1), (1, (-1)), (0, 0), (0, 0)] [] (n, s) Q
        refine G_go rfl rfl ?_
        refine G_brF rfl rfl rfl ?_
        refine G_go rfl rfl ?_
        refine G_go rfl rfl ?_
        refine G_call rfl rfl ?_
        refine G_go rfl rfl ?_
        refine G_go rfl rfl ?_
        refine G_go rfl rfl ?_
        refine G_go rfl rfl ?_
        refine G_brF rfl rfl rfl ?_
        refine G_go rfl rfl ?_
        refine G_go rfl rfl ?_
        refine G_rf rfl rfl (by decide) (hR 2 7 119 rfl) ?_
        refine G_go rfl rfl ?_
        refine G_brF rfl rfl rfl ?_
        refine G_go rfl rfl ?_
        refine G_rf rfl rfl (by decide) (hR 2 7 119 rfl) ?_
        refine G_go rfl rfl ?_
        refine G_go rfl rfl ?_
        refine G_ir (n := 7) rfl rfl (by decide) (by decide) (by decide) ?_
        refine G_go rfl rfl ?_
        refine G_go rfl rfl ?_
        refine G_iw (n := 7) rfl rfl (by decide) (by decide) (by decide) ?_
        have hR := refs_up (a := 119) (k := 1) (x := wr ((s 119 1) + 1)) hR rfl
        refine G_go rfl rfl ?_
        refine G_ret rfl rfl ?_
        exact G_ret rfl rfl h
    · have h := h.2 c2
      refine G_go rfl rfl ?_
      refine G_ret rfl rfl ?_
      refine G_call rfl rfl ?_
      refine G_go rfl rfl ?_
      refine G_brF rfl rfl rfl ?_
      refine G_go rfl rfl ?_
      refine G_go rfl rfl ?_
      refine G_ret rfl rfl ?_
      refine G_go rfl rfl ?_
      show G 2 120 122 16 [(3, 2), (1, a0), (1, a1), (1, (-1)), (0, 0), (0, 0)] [] (n, s) Q
      refine G_go rfl rfl ?_
      refine G_brF rfl rfl rfl ?_
      refine G_go rfl rfl ?_
      refine G_go rfl rfl ?_
      refine G_call rfl rfl ?_
      refine G_go rfl rfl ?_
      refine G_go rfl rfl ?_
      refine G_go rfl rfl ?_
      refine G_go rfl rfl ?_
      refine G_brF rfl rfl rfl ?_
      refine G_go rfl rfl ?_
      refine G_go rfl rfl ?_
      refine G_rf rfl rfl (by decide) (hR 2 7 119 rfl) ?_
      refine G_go rfl rfl ?_
      refine G_brF rfl rfl rfl ?_
      refine G_go rfl rfl ?_
      refine G_rf rfl rfl (by decide) (hR 2 7 119 rfl) ?_
      refine G_go rfl rfl ?_
      refine G_go rfl rfl ?_
      refine G_ir (n := 7) rfl rfl (by decide) (by decide) (by decide) ?_
      refine G_go rfl rfl ?_
      refine G_go rfl rfl ?_
      refine G_iw (n := 7) rfl rfl (by decide) (by decide) (by decide) ?_
      have hR := refs_up (a := 119) (k := 1) (x := wr ((s 119 1) + 1)) hR rfl
      refine G_go rfl rfl ?_
      refine G_ret rfl rfl ?_
      exact G_ret rfl rfl h
  · have h := h.2 c1
    refine G_go rfl rfl ?_
    refine G_go rfl rfl ?_
    refine G_rd rfl rfl (by decide) ?_
    refine G_ge rfl rfl (fun c4 => ?_) (fun c4 => ?_)
    · have h := h.1 c4
      refine G_go rfl rfl ?_
      refine G_ret rfl rfl ?_
      refine G_brT rfl rfl rfl ?_
      refine G_go rfl rfl ?_
      refine G_ret rfl rfl ?_
      refine G_go rfl rfl ?_
      refine G_go rfl rfl ?_
      refine G_go rfl rfl ?_
      refine G_call rfl rfl ?_
      refine G_go rfl rfl ?_
      refine G_go rfl rfl ?_
      refine G_ge rfl rfl (fun c5 => ?_) (fun c5 => ?_)
      · have h := h.1 c5
        refine G_go rfl rfl ?_
        refine G_go rfl rfl ?_
        refine G_le rfl rfl (fun c6 => ?_) (fun c6 => ?_)
        · have h := h.1 c6
          refine G_go rfl rfl ?_
          refine G_ret rfl rfl ?_
          refine G_call rfl rfl ?_
          refine G_go rfl rfl ?_
          refine G_brF rfl rfl rfl ?_
          refine G_go rfl rfl ?_
          refine G_go rfl rfl ?_
          refine G_ret rfl rfl ?_
          refine G_go rfl rfl ?_
          show G 2 120 122 16 [(3, 2), (1, a0), (1, a1), (1, (-1)), (0, 0), (0, 0)] [] (n, s) Q
          refine G_go rfl rfl ?_
          refine G_brF rfl rfl rfl ?_
          refine G_go rfl rfl ?_
          refine G_go rfl rfl ?_
          refine G_call rfl rfl ?_
          refine G_go rfl rfl ?_
          refine G_go rfl rfl ?_
          refine G_go rfl rfl ?_
          refine G_go rfl rfl ?_
          refine G_brF rfl rfl rfl ?_
          refine G_go rfl rfl ?_
          refine G_go rfl rfl ?_
          refine G_rf rfl rfl (by decide) (hR 2 7 119 rfl) ?_
          refine G_go rfl rfl ?_
          refine G_brF rfl rfl rfl ?_
          refine G_go rfl rfl ?_
          refine G_rf rfl rfl (by decide) (hR 2 7 119 rfl) ?_
          refine G_go rfl rfl ?_
          refine G_go rfl rfl ?_
          refine G_ir (n := 7) rfl rfl (by decide) (by decide) (by decide) ?_
          refine G_go rfl rfl ?_
          refine G_go rfl rfl ?_
          refine G_iw (n := 7) rfl rfl (by decide) (by decide) (by decide) ?_
          have hR := refs_up (a := 119) (k := 1) (x := wr ((s 119 1) + 1)) hR rfl
          refine G_go rfl rfl ?_
          refine G_ret rfl rfl ?_
          exact G_ret rfl rfl h
        · have h := h.2 c6
          refine G_go rfl rfl ?_
          refine G_go rfl rfl ?_
          refine G_ret rfl rfl ?_
          refine G_call rfl rfl ?_
          refine G_go rfl rfl ?_
          refine G_brF rfl rfl rfl ?_
          refine G_go rfl rfl ?_
          refine G_go rfl rfl ?_
          refine G_ret rfl rfl ?_
          refine G_go rfl rfl ?_
          show G 2 120 122 16 [(3, 2), (1, a0), (1, a1), (1, (-1)), (0, 0), (0, 0)] [] (n, s) Q
          refine G_go rfl rfl ?_
          refine G_brF rfl rfl rfl ?_
          refine G_go rfl rfl ?_
          refine G_go rfl rfl ?_
          refine G_call rfl rfl ?_
          refine G_go rfl rfl ?_
          refine G_go rfl rfl ?_
          refine G_go rfl rfl ?_
          refine G_go rfl rfl ?_
          refine G_brF rfl rfl rfl ?_
          refine G_go rfl rfl ?_
          refine G_go rfl rfl ?_
          refine G_rf rfl rfl (by decide) (hR 2 7 119 rfl) ?_
          refine G_go rfl rfl ?_
          refine G_brF rfl rfl rfl ?_
          refine G_go rfl rfl ?_
          refine G_rf rfl rfl (by decide) (hR 2 7 119 rfl) ?_
          refine G_go rfl rfl ?_
          refine G_go rfl rfl ?_
          refine G_ir (n := 7) rfl rfl (by decide) (by decide) (by decide) ?_
          refine G_go rfl rfl ?_
          refine G_go rfl rfl ?_
          refine G_iw (n := 7) rfl rfl (by decide) (by decide) (by decide) ?_
          have hR := refs_up (a := 119) (k := 1) (x := wr ((s 119 1) + 1)) hR rfl
          refine G_go rfl rfl ?_
          refine G_ret rfl rfl ?_
          exact G_ret rfl rfl h
      · have h := h.2 c5
        refine G_go rfl rfl ?_
        refine G_ret rfl rfl ?_
        refine G_call rfl rfl ?_
        refine G_go rfl rfl ?_
        refine G_brF rfl rfl rfl ?_
        refine G_go rfl rfl ?_
        refine G_go rfl rfl ?_
        refine G_ret rfl rfl ?_
        refine G_go rfl rfl ?_
        show G 2 120 122 16 [(3, 2), (1, a0), (1, a1), (1, (-1)), (0, 0), (0, 0)] [] (n, s) Q
        refine G_go rfl rfl ?_
        refine G_brF rfl rfl rfl ?_
        refine G_go rfl rfl ?_
        refine G_go rfl rfl ?_
        refine G_call rfl rfl ?_
        refine G_go rfl rfl ?_
        refine G_go rfl rfl ?_
        refine G_go rfl rfl ?_
        refine G_go rfl rfl ?_
        refine G_brF rfl rfl rfl ?_
        refine G_go rfl rfl ?_
        refine G_go rfl rfl ?_
        refine G_rf rfl rfl (by decide) (hR 2 7 119 rfl) ?_
        refine G_go rfl rfl ?_
        refine G_brF rfl rfl rfl ?_
        refine G_go rfl rfl ?_
        refine G_rf rfl rfl (by decide) (hR 2 7 119 rfl) ?_
        refine G_go rfl rfl ?_
        refine G_go rfl rfl ?_
        refine G_ir (n := 7) rfl rfl (by decide) (by decide) (by decide) ?_
        refine G_go rfl rfl ?_
        refine G_go rfl rfl ?_
        refine G_iw (n := 7) rfl rfl (by decide) (by decide) (by decide) ?_
        have hR := refs_up (a := 119) (k := 1) (x := wr ((s 119 1) + 1)) hR rfl
        refine G_go rfl rfl ?_
        refine G_ret rfl rfl ?_
        exact G_ret rfl rfl h
    · have h := h.2 c4
      refine G_go rfl rfl ?_
      refine G_go rfl rfl ?_
      refine G_ret rfl rfl ?_
      refine G_brF rfl rfl rfl ?_
      refine G_go rfl rfl ?_
      refine G_go rfl rfl ?_
      refine G_ret rfl rfl ?_
      refine G_go rfl rfl ?_
      refine G_go rfl rfl ?_
      refine G_go rfl rfl ?_
      refine G_call rfl rfl ?_
      refine G_go rfl rfl ?_
      refine G_go rfl rfl ?_
      refine G_ge rfl rfl (fun c7 => ?_) (fun c7 => ?_)
      · have h := h.1 c7
        refine G_go rfl rfl ?_
        refine G_go rfl rfl ?_
        refine G_le rfl rfl (fun c8 => ?_) (fun c8 => ?_)
        · have h := h.1 c8
          refine G_go rfl rfl ?_
          refine G_ret rfl rfl ?_
          refine G_call rfl rfl ?_
          refine G_go rfl rfl ?_
          refine G_brT rfl rfl rfl ?_
          refine G_go rfl rfl ?_
          refine G_ret rfl rfl ?_
          refine G_go rfl rfl ?_
          show G 2 120 122 16 [(3, 2), (1, a0), (1, a1), (1, 0), (0, 0), (0, 0)] [] (n, s) Q
          refine G_go rfl rfl ?_
          refine G_brT rfl rfl rfl ?_
          refine G_go rfl rfl ?_
          refine G_go rfl rfl ?_
          show G 2 120 122 29 [(3, 2), (1, a0), (1, a1), (1, 0), (1, 0), (0, 0)] [] (n, s) Q
          refine G_go rfl rfl ?_
          refine G_go rfl rfl ?_
          show G 2 120 122 32 [(3, 2), (1, a0), (1, a1), (1, 0), (1, 0), (1, 0)] [] (n, s) Q
          exact h
        · have h := h.2 c8
          refine G_go rfl rfl ?_
          refine G_go rfl rfl ?_
          refine G_ret rfl rfl ?_
          refine G_call rfl rfl ?_
          refine G_go rfl rfl ?_
          refine G_brT rfl rfl rfl ?_
          refine G_go rfl rfl ?_
          refine G_ret rfl rfl ?_
          refine G_go rfl rfl ?_
          show G 2 120 122 16 [(3, 2), (1, a0), (1, a1), (1, (-6)), (0, 0), (0, 0)] [] (n, s) Q
          refine G_go rfl rfl ?_
          refine G_brF rfl rfl rfl ?_
          refine G_go rfl rfl ?_
          refine G_go rfl rfl ?_
          refine G_call rfl rfl ?_
          refine G_go rfl rfl ?_
          refine G_go rfl rfl ?_
          refine G_go rfl rfl ?_
          refine G_go rfl rfl ?_
          refine G_brF rfl rfl rfl ?_
          refine G_go rfl rfl ?_
          refine G_go rfl rfl ?_
          refine G_rf rfl rfl (by decide) (hR 2 7 119 rfl) ?_
          refine G_go rfl rfl ?_
          refine G_brF rfl rfl rfl ?_
          refine G_go rfl rfl ?_
          refine G_rf rfl rfl (by decide) (hR 2 7 119 rfl) ?_
          refine G_go rfl rfl ?_
          refine G_go rfl rfl ?_
          refine G_ir (n := 7) rfl rfl (by decide) (by decide) (by decide) ?_
          refine G_go rfl rfl ?_
          refine G_go rfl rfl ?_
          refine G_iw (n := 7) rfl rfl (by decide) (by decide) (by decide) ?_
          have hR := refs_up (a := 119) (k := 6) (x := wr ((s 119 6) + 1)) hR rfl
          refine G_go rfl rfl ?_
          refine G_ret rfl rfl ?_
          exact G_ret rfl rfl h
      · have h := h.2 c7
        refine G_go rfl rfl ?_
        refine G_ret rfl rfl ?_
        refine G_call rfl rfl ?_
        refine G_go rfl rfl ?_
        refine G_brT rfl rfl rfl ?_
        refine G_go rfl rfl ?_
        refine G_ret rfl rfl ?_
        refine G_go rfl rfl ?_
        show G 2 120 122 16 [(3, 2), (1, a0), (1, a1), (1, (-4)), (0, 0), (0, 0)] [] (n, s) Q
        refine G_go rfl rfl ?_
        refine G_brF rfl rfl rfl ?_
        refine G_go rfl rfl ?_
        refine G_go rfl rfl ?_
        refine G_call rfl rfl ?_
        refine G_go rfl rfl ?_
        refine G_go rfl rfl ?_
        refine G_go rfl rfl ?_
        refine G_go rfl rfl ?_
        refine G_brF rfl rfl rfl ?_
        refine G_go rfl rfl ?_
        refine G_go rfl rfl ?_
        refine G_rf rfl rfl (by decide) (hR 2 7 119 rfl) ?_
        refine G_go rfl rfl ?_
        refine G_brF rfl rfl rfl ?_
        refine G_go rfl rfl ?_
        refine G_rf rfl rfl (by decide) (hR 2 7 119 rfl) ?_
        refine G_go rfl rfl ?_
        refine G_go rfl rfl ?_
        refine G_ir (n := 7) rfl rfl (by decide) (by decide) (by decide) ?_
        refine G_go rfl rfl ?_
        refine G_go rfl rfl ?_
        refine G_iw (n := 7) rfl rfl (by decide) (by decide) (by decide) ?_
        have hR := refs_up (a := 119) (k := 4) (x := wr ((s 119 4) + 1)) hR rfl
        refine G_go rfl rfl ?_
        refine G_ret rfl rfl ?_
        exact G_ret rfl rfl h
theorem sb_X6_safe_32 (n : Nat) (s : Nat → Nat → Int) (Q : List Vl → Sto → Prop) (x1 : Int) (x2 : Int) (x3 : Int) (x4 : Int) (x5 : Int) (hR : refs s)
    (h : (s 3 9 ≤ x5 → Q [(1, x4)] (n, s)) ∧ (x5 < s 3 9 → (x5 = x1 → G 2 120 122 32 [(3, 2), (1, x1), (1, x2), (1, x3), (1, x4), (1, wr (x5 + 1))] [] (n, s) Q) ∧ (x5 ≠ x1 → G 2 120 108 0 [(3, 2), (1, x1), (1, x5), (1, x2)] [] (n, s) (fun r s1 => G 2 120 122 58 [(3, 2), (1, x1), (1, x2), (1, x3), (1, x4), (1, x5)] (r ++ []) s1 Q)))) :
    G 2 120 122 32 [(3, 2), (1, x1), (1, x2), (1, x3), (1, x4), (1, x5)] [] (n, s) Q := by
  refine G_go rfl rfl ?_
  refine G_go rfl rfl ?_
  refine G_rf rfl rfl (by decide) (hR 2 0 3 rfl) ?_
  refine G_rd rfl rfl (by decide) ?_
  refine G_ge rfl rfl (fun c1 => ?_) (fun c1 => ?_)
  · have h := h.1 c1
    refine G_go rfl rfl ?_
    exact G_ret rfl rfl h
  · have h := h.2 c1
    refine G_go rfl rfl ?_
    refine G_go rfl rfl ?_
    refine G_eq rfl rfl (fun c2 => ?_) (fun c2 => ?_)
    · have h := h.1 c2
      refine G_go rfl rfl ?_
      refine G_go rfl rfl ?_
      exact h
    · have h := h.2 c2
      refine G_go rfl rfl ?_
      refine G_go rfl rfl ?_
      refine G_go rfl rfl ?_
      refine G_go rfl rfl ?_
      exact G_call rfl rfl h
theorem sb_X6_safe_58 (n : Nat) (s : Nat → Nat → Int) (Q : List Vl → Sto → Prop) (x1 : Int) (x2 : Int) (x3 : Int) (x4 : Int) (x5 : Int) (y0 : Int) (hR : refs s)
    (h : (y0 = 0 → G 2 120 122 32 [(3, 2), (1, x1), (1, x2), (1, x3), (1, x4), (1, wr (x5 + 1))] [] (n, s) Q) ∧ (y0 ≠ 0 → G 2 120 122 32 [(3, 2), (1, x1), (1, x2), (1, x3), (1, xor_ x4 (xshl 1 x5)), (1, wr (x5 + 1))] [] (n, s) Q)) :
    G 2 120 122 58 [(3, 2), (1, x1), (1, x2), (1, x3), (1, x4), (1, x5)] [(1, y0)] (n, s) Q := by
  refine G_eq rfl rfl (fun c1 => ?_) (fun c1 => ?_)
  · have h := h.1 c1
    refine G_go rfl rfl ?_
    refine G_go rfl rfl ?_
    exact h
  · have h := h.2 c1
    refine G_go rfl rfl ?_
    refine G_go rfl rfl ?_
    refine G_go rfl rfl ?_
    refine G_go rfl rfl ?_
    refine G_go rfl rfl ?_
    refine G_go rfl rfl ?_
    show G 2 120 122 70 [(3, 2), (1, x1), (1, x2), (1, x3), (1, xor_ x4 (xshl 1 x5)), (1, x5)] [] (n, s) Q
    refine G_go rfl rfl ?_
    refine G_go rfl rfl ?_
    exact h
theorem sb_X7_safe_0 (n : Nat) (s : Nat → Nat → Int) (Q : List Vl → Sto → Prop) (a0 : Int) (a1 : Int) (hR : refs s)
    (h : (a0 < 0 → Q [(1, (-1))] (n, upS (upS s 120 10 0) 129 1 (wr ((s 129 1) + 1)))) ∧ (a0 ≥ 0 → (a0 > wr ((s 120 0) - 1) → Q [(1, (-1))] (n, upS (upS s 120 10 0) 129 1 (wr ((s 129 1) + 1)))) ∧ (a0 ≤ wr ((s 120 0) - 1) → (1 ≤ a1 → (a1 ≤ 12 → (0 ≤ a0 ∧ a0 < 6) ∧ (G 120 140 143 0 [(3, 120)] [] (n, upS s 120 10 0) (fun r s1 => G 120 140 213 50 [(3, 120), (1, a0), (1, a1), (1, 0), (1, 0), (1, s 123 a0.toNat), (0, 0)] (r ++ []) s1 Q))) ∧ (12 < a1 → Q [(1, (-6))] (n, upS (upS s 120 10 0) 129 6 (wr ((s 129 6) + 1))))) ∧ (a1 < 1 → Q [(1, (-4))] (n, upS (upS s 120 10 0) 129 4 (wr ((s 129 4) + 1))))))) :
    G 120 140 213 0 [(3, 120), (1, a0), (1, a1), (0, 0), (0, 0), (0, 0), (0, 0)] [] (n, s) Q := by
  refine G_go rfl rfl ?_
  refine G_go rfl rfl ?_
  refine G_wr rfl rfl (by decide) ?_
  have hR := refs_up (a := 120) (k := 10) (x := 0) hR rfl
  refine G_go rfl rfl ?_
  refine G_go rfl rfl ?_
  refine G_call rfl rfl ?_
  refine G_go rfl rfl ?_
  refine G_go rfl rfl ?_
  refine G_go rfl rfl ?_
  refine G_go rfl rfl ?_
  refine G_rd rfl rfl (by decide) ?_
  refine G_go rfl rfl ?_
  refine G_go rfl rfl ?_
  refine G_go rfl rfl ?_
  refine G_call rfl rfl ?_
  refine G_go rfl rfl ?_
  refine G_go rfl rfl ?_
  refine G_go rfl rfl ?_
  refine G_lt rfl rfl (fun c1 => ?_) (fun c1 => ?_)
  · have c1 := xl_lt c1
    have h := h.1 c1
    refine G_go rfl rfl ?_
    refine G_ret rfl rfl ?_
    refine G_ret rfl rfl ?_
    refine G_brT rfl rfl rfl ?_
    refine G_go rfl rfl ?_
    refine G_go rfl rfl ?_
    show G 120 140 213 25 [(3, 120), (1, a0), (1, a1), (1, (-1)), (0, 0), (0, 0), (0, 0)] [] (n, upS s 120 10 0) Q
    refine G_go rfl rfl ?_
    refine G_brF rfl rfl rfl ?_
    refine G_go rfl rfl ?_
    refine G_go rfl rfl ?_
    refine G_call rfl rfl ?_
    refine G_go rfl rfl ?_
    refine G_rf rfl rfl (by decide) (hR 120 11 129 rfl) ?_
    refine G_go rfl rfl ?_
    refine G_go rfl rfl ?_
    refine G_go rfl rfl ?_
    refine G_ir (n := 7) rfl rfl (by decide) (by decide) (by decide) ?_
    refine G_go rfl rfl ?_
    refine G_go rfl rfl ?_
    refine G_iw (n := 7) rfl rfl (by decide) (by decide) (by decide) ?_
    have hR := refs_up (a := 129) (k := 1) (x := wr ((s 129 1) + 1)) hR rfl
    refine G_go rfl rfl ?_
    refine G_ret rfl rfl ?_
    exact G_ret rfl rfl h
  · have c1 := xl_ge c1
    have h := h.2 c1
    refine G_go rfl rfl ?_
    refine G_go rfl rfl ?_
    refine G_go rfl rfl ?_
    refine G_gt rfl rfl (fun c2 => ?_) (fun c2 => ?_)
    · have c2 := xl_gt c2
      have h := h.1 c2
      refine G_go rfl rfl ?_
      refine G_ret rfl rfl ?_
      refine G_ret rfl rfl ?_
      refine G_brT rfl rfl rfl ?_
      refine G_go rfl rfl ?_
      refine G_go rfl rfl ?_
      show G 120 140 213 25 [(3, 120), (1, a0), (1, a1), (1, (-1)), (0, 0), (0, 0), (0, 0)] [] (n, upS s 120 10 0) Q
      refine G_go rfl rfl ?_
      refine G_brF rfl rfl rfl ?_
      refine G_go rfl rfl ?_
      refine G_go rfl rfl ?_
      refine G_call rfl rfl ?_
      refine G_go rfl rfl ?_
      refine G_rf rfl rfl (by decide) (hR 120 11 129 rfl) ?_
      refine G_go rfl rfl ?_
      refine G_go rfl rfl ?_
      refine G_go rfl rfl ?_
      refine G_ir (n := 7) rfl rfl (by decide) (by decide) (by decide) ?_
      refine G_go rfl rfl ?_
      refine G_go rfl rfl ?_
      refine G_iw (n := 7) rfl rfl (by decide) (by decide) (by decide) ?_
      have hR := refs_up (a := 129) (k := 1) (x := wr ((s 129 1) + 1)) hR rfl
      refine G_go rfl rfl ?_
      refine G_ret rfl rfl ?_
      exact G_ret rfl rfl h
    · have c2 := xl_le c2
      have h := h.2 c2
      refine G_go rfl rfl ?_
      refine G_go rfl rfl ?_
      refine G_ret rfl rfl ?_
      refine G_ret rfl rfl ?_
      refine G_brF rfl rfl rfl ?_
      refine G_go rfl rfl ?_
      refine G_go rfl rfl ?_
      refine G_go rfl rfl ?_
      refine G_call rfl rfl ?_
      refine G_go rfl rfl ?_
      refine G_go rfl rfl ?_
      refine G_ge rfl rfl (fun c3 => ?_) (fun c3 => ?_)
      · have h := h.1 c3
        refine G_go rfl rfl ?_
        refine G_go rfl rfl ?_
        refine G_le rfl rfl (fun c4 => ?_) (fun c4 => ?_)
        · have h := h.1 c4
          refine G_go rfl rfl ?_
          refine G_ret rfl rfl ?_
          refine G_go rfl rfl ?_
          refine G_go rfl rfl ?_
          show G 120 140 213 25 [(3, 120), (1, a0), (1, a1), (1, 0), (0, 0), (0, 0), (0, 0)] [] (n, upS s 120 10 0) Q
          refine G_go rfl rfl ?_
          refine G_brT rfl rfl rfl ?_
          refine G_go rfl rfl ?_
          refine G_go rfl rfl ?_
          show G 120 140 213 38 [(3, 120), (1, a0), (1, a1), (1, 0), (1, 0), (0, 0), (0, 0)] [] (n, upS s 120 10 0) Q
          refine G_go rfl rfl ?_
          refine G_rf rfl rfl (by decide) (hR 120 3 123 rfl) ?_
          refine G_go rfl rfl ?_
          obtain ⟨g5, h⟩ := h
          refine G_ir (n := 6) rfl rfl (by decide) (by decide) g5 ?_
          refine G_go rfl rfl ?_
          show G 120 140 213 46 [(3, 120), (1, a0), (1, a1), (1, 0), (1, 0), (1, s 123 a0.toNat), (0, 0)] [] (n, upS s 120 10 0) Q
          refine G_go rfl rfl ?_
          exact G_call rfl rfl h
        · have h := h.2 c4
          refine G_go rfl rfl ?_
          refine G_go rfl rfl ?_
          refine G_ret rfl rfl ?_
          refine G_go rfl rfl ?_
          refine G_go rfl rfl ?_
          show G 120 140 213 25 [(3, 120), (1, a0), (1, a1), (1, (-6)), (0, 0), (0, 0), (0, 0)] [] (n, upS s 120 10 0) Q
          refine G_go rfl rfl ?_
          refine G_brF rfl rfl rfl ?_
          refine G_go rfl rfl ?_
          refine G_go rfl rfl ?_
          refine G_call rfl rfl ?_
          refine G_go rfl rfl ?_
          refine G_rf rfl rfl (by decide) (hR 120 11 129 rfl) ?_
          refine G_go rfl rfl ?_
          refine G_go rfl rfl ?_
          refine G_go rfl rfl ?_
          refine G_ir (n := 7) rfl rfl (by decide) (by decide) (by decide) ?_
          refine G_go rfl rfl ?_
          refine G_go rfl rfl ?_
          refine G_iw (n := 7) rfl rfl (by decide) (by decide) (by decide) ?_
          have hR := refs_up (a := 129) (k := 6) (x := wr ((s 129 6) + 1)) hR rfl
          refine G_go rfl rfl ?_
          refine G_ret rfl rfl ?_
          exact G_ret rfl rfl h
      · have h := h.2 c3
        refine G_go rfl rfl ?_
        refine G_go rfl rfl ?_
        refine G_ret rfl rfl ?_
        refine G_go rfl rfl ?_
        refine G_go rfl rfl ?_
        show G 120 140 213 25 [(3, 120), (1, a0), (1, a1), (1, (-4)), (0, 0), (0, 0), (0, 0)] [] (n, upS s 120 10 0) Q
        refine G_go rfl rfl ?_
        refine G_brF rfl rfl rfl ?_
        refine G_go rfl rfl ?_
        refine G_go rfl rfl ?_
        refine G_call rfl rfl ?_
        refine G_go rfl rfl ?_
        refine G_rf rfl rfl (by decide) (hR 120 11 129 rfl) ?_
        refine G_go rfl rfl ?_
        refine G_go rfl rfl ?_
        refine G_go rfl rfl ?_
        refine G_ir (n := 7) rfl rfl (by decide) (by decide) (by decide) ?_
        refine G_go rfl rfl ?_
        refine G_go rfl rfl ?_
        refine G_iw (n := 7) rfl rfl (by decide) (by decide) (by decide) ?_
        have hR := refs_up (a := 129) (k := 4) (x := wr ((s 129 4) + 1)) hR rfl
        refine G_go rfl rfl ?_
        refine G_ret rfl rfl ?_
        exact G_ret rfl rfl h
theorem sb_X7_safe_50 (n : Nat) (s : Nat → Nat → Int) (Q : List Vl → Sto → Prop) (x1 : Int) (x2 : Int) (x3 : Int) (x4 : Int) (x5 : Int) (hR : refs s)
    (h : G 120 140 213 53 [(3, 120), (1, x1), (1, x2), (1, x3), (1, x4), (1, x5), (1, 0)] [] (n, s) Q) :
    G 120 140 213 50 [(3, 120), (1, x1), (1, x2), (1, x3), (1, x4), (1, x5), (0, 0)] [] (n, s) Q := by
  refine G_go rfl rfl ?_
  refine G_go rfl rfl ?_
  show G 120 140 213 53 [(3, 120), (1, x1), (1, x2), (1, x3), (1, x4), (1, x5), (1, 0)] [] (n, s) Q
  exact h
theorem sb_X7_safe_53 (n : Nat) (s : Nat → Nat → Int) (Q : List Vl → Sto → Prop) (x1 : Int) (x2 : Int) (x3 : Int) (x4 : Int) (x5 : Int) (x6 : Int) (hR : refs s)
    (h : (s 120 0 ≤ x6 → Q [(1, x4)] (n, s)) ∧ (x6 < s 120 0 → (x6 = x1 → G 120 140 213 53 [(3, 120), (1, x1), (1, x2), (1, x3), (1, x4), (1, x5), (1, wr (x6 + 1))] [] (n, s) Q) ∧ (x6 ≠ x1 → (0 ≤ x1 ∧ x1 < 6) ∧ (G 120 140 168 0 [(3, 120), (1, x2), (0, 0), (0, 0), (0, 0)] [] (n, upS s 128 x1.toNat x6) (fun r s1 => G 120 140 213 81 [(3, 120), (1, x1), (1, x2), (1, x3), (1, x4), (1, x5), (1, x6)] (r ++ []) s1 Q))))) :
    G 120 140 213 53 [(3, 120), (1, x1), (1, x2), (1, x3), (1, x4), (1, x5), (1, x6)] [] (n, s) Q := by
  refine G_go rfl rfl ?_
  refine G_go rfl rfl ?_
  refine G_rd rfl rfl (by decide) ?_
  refine G_ge rfl rfl (fun c1 => ?_) (fun c1 => ?_)
  · have h := h.1 c1
    refine G_go rfl rfl ?_
    exact G_ret rfl rfl h
  · have h := h.2 c1
    refine G_go rfl rfl ?_
    refine G_go rfl rfl ?_
    refine G_eq rfl rfl (fun c2 => ?_) (fun c2 => ?_)
    · have h := h.1 c2
      refine G_go rfl rfl ?_
      refine G_go rfl rfl ?_
      exact h
    · have h := h.2 c2
      refine G_go rfl rfl ?_
      refine G_rf rfl rfl (by decide) (hR 120 8 128 rfl) ?_
      refine G_go rfl rfl ?_
      refine G_go rfl rfl ?_
      obtain ⟨g3, h⟩ := h
      refine G_iw (n := 6) rfl rfl (by decide) (by decide) g3 ?_
      have hR := refs_up (a := 128) (k := x1.toNat) (x := x6) hR rfl
      refine G_go rfl rfl ?_
      refine G_go rfl rfl ?_
      exact G_call rfl rfl h
theorem sb_X7_safe_81 (n : Nat) (s : Nat → Nat → Int) (Q : List Vl → Sto → Prop) (x1 : Int) (x2 : Int) (x3 : Int) (x4 : Int) (x5 : Int) (x6 : Int) (hR : refs s)
    (h : (0 ≤ x1 ∧ x1 < 6) ∧ ((s 123 x1.toNat < x5 → G 120 140 140 0 [(3, 120)] [] (n, s) (fun r s1 => G 120 140 213 109 [(3, 120), (1, x1), (1, x2), (1, x3), (1, xor_ x4 0), (1, x5), (1, x6)] (r ++ []) s1 Q)) ∧ (x5 ≤ s 123 x1.toNat → G 120 140 140 0 [(3, 120)] [] (n, s) (fun r s1 => G 120 140 213 109 [(3, 120), (1, x1), (1, x2), (1, x3), (1, xor_ x4 (xshl 1 x6)), (1, x5), (1, x6)] (r ++ []) s1 Q)))) :
    G 120 140 213 81 [(3, 120), (1, x1), (1, x2), (1, x3), (1, x4), (1, x5), (1, x6)] [] (n, s) Q := by
  refine G_go rfl rfl ?_
  refine G_go rfl rfl ?_
  refine G_rf rfl rfl (by decide) (hR 120 3 123 rfl) ?_
  refine G_go rfl rfl ?_
  obtain ⟨g1, h⟩ := h
  refine G_ir (n := 6) rfl rfl (by decide) (by decide) g1 ?_
  refine G_go rfl rfl ?_
  refine G_lt rfl rfl (fun c2 => ?_) (fun c2 => ?_)
  · have h := h.1 c2
    refine G_go rfl rfl ?_
    refine G_go rfl rfl ?_
    refine G_go rfl rfl ?_
    show G 120 140 213 105 [(3, 120), (1, x1), (1, x2), (1, x3), (1, xor_ x4 0), (1, x5), (1, x6)] [] (n, s) Q
    refine G_go rfl rfl ?_
    exact G_call rfl rfl h
  · have h := h.2 c2
    refine G_go rfl rfl ?_
    refine G_go rfl rfl ?_
    refine G_go rfl rfl ?_
    refine G_go rfl rfl ?_
    refine G_go rfl rfl ?_
    refine G_go rfl rfl ?_
    show G 120 140 213 105 [(3, 120), (1, x1), (1, x2), (1, x3), (1, xor_ x4 (xshl 1 x6)), (1, x5), (1, x6)] [] (n, s) Q
    refine G_go rfl rfl ?_
    exact G_call rfl rfl h
theorem sb_X7_safe_109 (n : Nat) (s : Nat → Nat → Int) (Q : List Vl → Sto → Prop) (x1 : Int) (x2 : Int) (x3 : Int) (x4 : Int) (x5 : Int) (x6 : Int) (hR : refs s)
    (h : G 120 140 213 53 [(3, 120), (1, x1), (1, x2), (1, x3), (1, x4), (1, x5), (1, wr (x6 + 1))] [] (n, s) Q) :
    G 120 140 213 109 [(3, 120), (1, x1), (1, x2), (1, x3), (1, x4), (1, x5), (1, x6)] [] (n, s) Q := by
  refine G_go rfl rfl ?_
  refine G_go rfl rfl ?_
  exact h
/-! ONE NUMBER OF A TOWN PUT OTHERWISE; WHOM TO TRUST, WHO IS SAFE. -/
theorem upS_row {V : Nat → Nat → Int} {a b p : Nat} {x : Int} (h : b ≠ a) : upS V a p x b = V b := by
  funext q
  exact upS_1 h
theorem frX_up {X a p : Nat} {x : Int} {t : Nat → Nat → Int} (h1 : 120 < a) (h2 : a ≤ 128) : frX X t (upS t a p x) := ⟨fun b b1 _ _ => upS_row (by omega), fun i _ _ _ _ _ => upS_1 (by omega)⟩
theorem vw_set {a j p : Nat} {s : Nat → Nat → Int} {x : Int} : vw (a + 1) (upS s (a + 1 + j) p x) = upS (vw (a + 1) s) j p x := by
  funext i q
  unfold vw upS
  by_cases c : i = j ∧ q = p
  · rw [if_pos ⟨by omega, c.2⟩, if_pos c]
  · rw [if_neg (fun e => c ⟨by omega, e.2⟩), if_neg c]
theorem eqV_set {np : Int} {C V : Nat → Nat → Int} {j p : Nat} {x : Int} (h : eqV np C V) (hj : j < 7) : eqV np (upS C j p x) (upS V j p x) := by
  refine eqV_put p h (fun q _ hq i _ => ⟨upS_2 hq, upS_2 hq⟩) (fun hp => ?_)
  obtain ⟨e0, e1, e2, e3, e4, e5, e6, e7⟩ := h p hp
  have : j = 0 ∨ j = 1 ∨ j = 2 ∨ j = 3 ∨ j = 4 ∨ j = 5 ∨ j = 6 := by omega
  rcases this with rfl | rfl | rfl | rfl | rfl | rfl | rfl
  all_goals simp only [eqP, upS]
  all_goals simp [e0, e1, e2, e3, e4, e5, e6]
  all_goals exact e7
theorem eqV_set7 {np : Int} {C V : Nat → Nat → Int} {p : Nat} {x c : Int} (h : eqV np C V) (g : (c = -9 ∧ x = -1) ∨ (0 ≤ c ∧ x = c)) : eqV np (upS C 7 p x) (upS V 7 p c) := by
  refine eqV_put p h (fun q _ hq i _ => ⟨upS_2 hq, upS_2 hq⟩) (fun hp => ?_)
  obtain ⟨e0, e1, e2, e3, e4, e5, e6, e7⟩ := h p hp
  simp only [eqP, upS]
  simp [e0, e1, e2, e3, e4, e5, e6]
  exact g
theorem twC_set {a j p : Nat} {s : Nat → Nat → Int} {np h x : Int} {V : Nat → Nat → Int} (ht : twC a s np h V) (hj : j < 7) : twC a (upS s (a + 1 + j) p x) np h (upS V j p x) := by
  obtain ⟨t1, t2, t3⟩ := ht
  refine ⟨by rw [upS_1 (by omega)]; exact t1, by rw [upS_1 (by omega)]; exact t2, ?_⟩
  rw [vw_set]
  exact eqV_set t3 hj
theorem twC_set7 {a p : Nat} {s : Nat → Nat → Int} {np h x c : Int} {V : Nat → Nat → Int} (ht : twC a s np h V) (g : (c = -9 ∧ x = -1) ∨ (0 ≤ c ∧ x = c)) : twC a (upS s (a + 1 + 7) p x) np h (upS V 7 p c) := by
  obtain ⟨t1, t2, t3⟩ := ht
  refine ⟨by rw [upS_1 (by omega)]; exact t1, by rw [upS_1 (by omega)]; exact t2, ?_⟩
  rw [vw_set]
  exact eqV_set7 t3 g
theorem twR_set {j p : Nat} {t : Nat → Nat → Int} {np h x : Int} {V : Nat → Nat → Int} (ht : twR t np h V) : twR (upS t (121 + j) p x) np h (upS V j p x) := by
  obtain ⟨t1, t2, t3⟩ := ht
  refine ⟨by rw [upS_1 (by omega)]; exact t1, by rw [upS_1 (by omega)]; exact t2, fun i hi q hq => ?_⟩
  unfold upS
  by_cases c : i = j ∧ q = p
  · rw [if_pos ⟨by omega, c.2⟩, if_pos c]
  · rw [if_neg (fun e => c ⟨by omega, e.2⟩), if_neg c]
    exact t3 i hi q hq
theorem okV_set {np : Int} {V : Nat → Nat → Int} {j p : Nat} {x : Int} (h : okV np V) (g : (j = 0 ∧ 0 ≤ x ∧ x ≤ 5) ∨ (j = 1 ∧ 0 ≤ x ∧ x ≤ 9) ∨ (j = 2 ∧ 0 ≤ x ∧ x ≤ 999) ∨ (j = 3 ∧ 0 ≤ x ∧ x ≤ 99) ∨ (j = 4 ∧ 0 ≤ x ∧ x ≤ 99) ∨ (j = 5 ∧ (x = 0 ∨ x = 1)) ∨ (j = 6 ∧ 0 ≤ x ∧ x ≤ 999) ∨ (j = 7 ∧ (x = -9 ∨ (0 ≤ x ∧ x < np ∧ x ≠ (p : Int))))) : okV np (upS V j p x) := by
  intro q hq
  have e := h q hq
  by_cases c : q = p
  · subst c
    obtain ⟨e0, e1, e2, e3, e4, e5, e6, e7⟩ := e
    rcases g with ⟨rfl, g⟩ | ⟨rfl, g⟩ | ⟨rfl, g⟩ | ⟨rfl, g⟩ | ⟨rfl, g⟩ | ⟨rfl, g⟩ | ⟨rfl, g⟩ | ⟨rfl, g⟩
    all_goals rw [upS_eq]
    all_goals first | exact ⟨g, e1, e2, e3, e4, e5, e6, e7⟩ | exact ⟨e0, g, e2, e3, e4, e5, e6, e7⟩ | exact ⟨e0, e1, g, e3, e4, e5, e6, e7⟩ | exact ⟨e0, e1, e2, g, e4, e5, e6, e7⟩ | exact ⟨e0, e1, e2, e3, g, e5, e6, e7⟩ | exact ⟨e0, e1, e2, e3, e4, g, e6, e7⟩ | exact ⟨e0, e1, e2, e3, e4, e5, g, e7⟩ | exact ⟨e0, e1, e2, e3, e4, e5, e6, g⟩
  · simp only [upS_2 c]
    exact e
theorem REL_m1 {s t s1 : Nat → Nat → Int} (h : REL s t) (r1 : refs s1) (f : frT 13 s s1) : REL s1 t := REL_mind h r1 f h.2.1 frX_rfl h.w
def coV (m : Nat) (N : Nat) (h : Int) (V : Nat → Nat → Int) (p : Nat) (c : Int) : Nat → Nat → Int := ntV m N h (upS V 7 p c)
def rcV (m : Nat) (N : Nat) (h : Int) (V : Nat → Nat → Int) (p : Nat) (c : Int) : Int := wr (coV m N h V p c 6 p - V 6 p)
theorem c_nightTrusting (n : Nat) (s t : Nat → Nat → Int) (h : REL s t) (m p N : Nat) (hm : t 120 0 = (m : Int)) (hp : (p : Int) < m) (hN : N ≤ 99) (c x : Int) (g : (c = -9 ∧ x = -1) ∨ (0 ≤ c ∧ x = c)) (gc : c = -9 ∨ (0 ≤ c ∧ c < m ∧ c ≠ (p : Int))) (Q : List Vl → Sto → Prop) (hQ : ∀ s1, refs s1 → frT 13 s s1 → s1 20 p = coV m N (t 120 9) (vw 121 t) p c 6 p → s1 16 p = coV m N (t 120 9) (vw 121 t) p c 2 p → Q [] (n, s1)) : G 2 120 107 0 [(3, 2), (1, (p : Int)), (1, x), (1, (N : Int))] [] (n, s) Q := by
  obtain ⟨hn1, hn2, hn3, hn4⟩ := h.np
  refine sb_X6_nightTrusting_0 n s Q p x N h.1 ?_
  refine c_mind n s t h _ (fun s1 r1 f1 u1 => ?_)
  refine sb_X6_nightTrusting_11 n s1 Q p x N r1 ⟨by omega, ?_⟩
  rw [Int.toNat_natCast]
  have o := h.o
  rw [hm] at u1 o
  refine c_passNight_13 n _ _ m _ _ N hN (refs_up r1 rfl) ⟨o.1, okV_set o.2 (by omega)⟩ (twC_set7 u1 g) (fun s2 r2 f2 u2 => ?_)
  refine sb_X6_nightTrusting_29 n s2 Q p x N r2 ?_
  have e := u2.2.2 p hp
  refine hQ s2 r2 (frT_trans f1 (frT_trans (fun b hb => ?_) f2)) e.2.2.2.2.2.2.1 e.2.2.1
  funext z
  exact upS_1 (by omega)
theorem c_pagesTrusting (n : Nat) (s t : Nat → Nat → Int) (h : REL s t) (m p N : Nat) (hm : t 120 0 = (m : Int)) (hp : (p : Int) < m) (hN : N ≤ 99) (c x : Int) (g : (c = -9 ∧ x = -1) ∨ (0 ≤ c ∧ x = c)) (gc : c = -9 ∨ (0 ≤ c ∧ c < m ∧ c ≠ (p : Int))) (Q : List Vl → Sto → Prop) (hQ : ∀ s1, refs s1 → frT 13 s s1 → Q [(1, rcV m N (t 120 9) (vw 121 t) p c)] (n, s1)) : G 2 120 114 0 [(3, 2), (1, (p : Int)), (1, x), (1, (N : Int))] [] (n, s) Q := by
  obtain ⟨hn1, hn2, hn3, hn4⟩ := h.np
  refine sb_X6_pagesTrusting_0 n s Q p x N h.1 ?_
  refine c_nightTrusting n s t h m p N hm hp hN c x g gc _ (fun s1 r1 f1 e1 _ => ?_)
  refine sb_X6_pagesTrusting_7 n s1 Q p x N r1 ⟨by omega, ?_⟩
  have q := hQ s1 r1 f1
  rw [Int.toNat_natCast, e1, f1 10 (by omega), (h.s p (by omega)).2.2.2.2.2.2.1]
  exact q
theorem c_readsWith (n : Nat) (t : Nat → Nat → Int) (m p N : Nat) (h : Int) (V : Nat → Nat → Int) (hR : refs t) (ok : okT (m : Int) V) (ht : twR t m h V) (hp : (p : Int) < m) (hN : N ≤ 99) (c : Int) (gc : c = -9 ∨ (0 ≤ c ∧ c < m ∧ c ≠ (p : Int))) (Q : List Vl → Sto → Prop) (hQ : ∀ t1, refs t1 → frX 135 t t1 → twR t1 m h V → Q [(1, rcV m N h V p c)] (n, t1)) : G 120 140 207 0 [(3, 120), (1, (p : Int)), (1, c), (1, (N : Int)), (0, 0), (0, 0)] [] (n, t) Q := by
  have hn := ok.1
  refine sb_X7_readsWith_0 n t Q p c N hR ?_
  refine c_think n t _ _ _ _ hR hn.2 ht (fun t1 r1 f1 u1 k1 => ?_)
  refine sb_X7_readsWith_4 n t1 Q p c N r1 ⟨by omega, ?_⟩
  rw [Int.toNat_natCast]
  have e6 : t1 127 p = V 6 p := u1.2.2 6 (by decide) p hp
  rw [e6]
  refine c_goNight n _ _ m _ _ N hN (refs_up r1 rfl) ⟨hn, okV_set ok.2 (by omega)⟩ (twR_set (j := 7) u1) (fun t2 r2 f2 u2 => ?_)
  have k2 := twK_fr k1 (t1 := t2) (by rw [f2.1 135 (by decide) (by decide) (by decide)]; funext z; exact upS_1 (by decide))
  refine sb_X7_readsWith_24 n t2 Q p c N _ r2 ⟨by omega, ?_⟩
  have e2 : t2 127 p = _ := u2.2.2 6 (by decide) p hp
  rw [Int.toNat_natCast, e2]
  refine c_again n t2 _ _ _ _ r2 hn.2 k2 (fun t3 r3 f3 u3 => ?_)
  refine sb_X7_readsWith_39 n t3 Q p c N _ _ r3 (hQ t3 r3 (frX_trans f1 (frX_trans ?_ (frX_trans (frX_w f2) (frX_w f3)))) u3)
  exact frX_up (by decide) (by decide)
def trG (m N : Nat) (h : Int) (V : Nat → Nat → Int) (p : Nat) (k : Nat) (b : Int × Int) : Int × Int := if b.2 < (if k = p then -1 else rcV m N h V p k) then ((k : Int), if k = p then -1 else rcV m N h V p k) else b
def trV (m N : Nat) (h : Int) (V : Nat → Nat → Int) (p : Nat) : Int := if m = 1 then -9 else (itr (trG m N h V p) (9, rcV m N h V p (-9)) m).1
theorem cl_trust (n : Nat) (s t : Nat → Nat → Int) (h : REL s t) (m p N : Nat) (hm : t 120 0 = (m : Int)) (hp : (p : Int) < m) (hN : N ≤ 99) (h2 : 2 ≤ m) (x3 : Int) (Q : List Vl → Sto → Prop) (hQ : ∀ s1, refs s1 → frT 13 s s1 → Q [(1, trV m N (t 120 9) (vw 121 t) p)] (n, s1)) : G 2 120 114 0 [(3, 2), (1, (p : Int)), (1, (-1)), (1, (N : Int))] [] (n, s) (fun r s1 => G 2 120 128 51 [(3, 2), (1, (p : Int)), (1, (N : Int)), (1, x3), (1, 9), (0, 0), (0, 0), (0, 0)] (r ++ []) s1 Q) := by
  obtain ⟨hn1, hn2, hn3, hn4⟩ := h.np
  refine c_pagesTrusting n s t h m p N hm hp hN (-9) (-1) (Or.inl ⟨rfl, rfl⟩) (Or.inl rfl) _ (fun s1 r1 f1 => ?_)
  refine sb_X6_trust_51 n s1 Q p N x3 9 _ r1 ?_
  refine G_up m (fun k b => ∀ w s2, refs s2 → frT 13 s s2 → G 2 120 128 56 [(3, 2), (1, (p : Int)), (1, (N : Int)), (1, x3), (1, b.1), (1, b.2), (1, (k : Int)), w] [] (n, s2) Q) (trG m N (t 120 9) (vw 121 t) p) (fun _ _ => True) (9, rcV m N (t 120 9) (vw 121 t) p (-9)) trivial (fun _ _ _ _ => trivial) (fun k b hk _ hg w s2 r2 f2 => ?_) (fun _ w s2 r2 f2 => ?_) (0, 0) s1 r1 f1
  · rw [← wr_s hk (by omega)] at hg
    have e3 : s2 3 9 = m := by rw [f2 3 (by omega), hn1, hm]
    refine sb_X6_trust_56 n s2 Q _ _ _ _ _ k w r2 ⟨fun e => by omega, fun _ => ⟨fun c => ?_, fun c => ?_⟩⟩
    · have c2 : k ≠ p := by omega
      unfold trG at hg
      rw [if_neg c2] at hg
      refine c_pagesTrusting n s2 t (REL_m1 h r2 f2) m p N hm hp hN k k (Or.inr ⟨by omega, rfl⟩) (Or.inr ⟨by omega, by omega, c⟩) _ (fun s3 r3 f3 => ?_)
      refine sb_X6_trust_86 n s3 Q _ _ _ _ _ k _ w r3 ⟨fun d => ?_, fun d => ?_⟩
      · rw [if_neg (by omega)] at hg
        exact hg _ s3 r3 (frT_trans f2 f3)
      · rw [if_pos d] at hg
        exact hg _ s3 r3 (frT_trans f2 f3)
    · have c2 : k = p := by omega
      unfold trG at hg
      rw [if_pos c2] at hg
      refine ⟨fun d => ?_, fun d => ?_⟩
      · rw [if_neg (by omega)] at hg
        exact hg _ s2 r2 f2
      · rw [if_pos d] at hg
        exact hg _ s2 r2 f2
  · have e3 : s2 3 9 = m := by rw [f2 3 (by omega), hn1, hm]
    have q := hQ s2 r2 f2
    unfold trV at q
    rw [if_neg (by omega)] at q
    exact sb_X6_trust_56 n s2 Q _ _ _ _ _ m w r2 ⟨fun _ => q, fun e => by omega⟩
theorem rl_trust (n : Nat) (s t : Nat → Nat → Int) (h : REL s t) (m p N : Nat) (hm : t 120 0 = (m : Int)) (hp : (p : Int) < m) (hN : N ≤ 99) (x3 : Int) (Q : List Vl → Sto → Prop) (hQ : ∀ t1, refs t1 → frX 135 t t1 → twR t1 (t 120 0) (t 120 9) (vw 121 t) → Q [(1, trV m N (t 120 9) (vw 121 t) p)] (n, t1)) : G 120 140 207 0 [(3, 120), (1, (p : Int)), (1, (-9)), (1, (N : Int)), (0, 0), (0, 0)] [] (n, t) (fun r s1 => G 120 140 219 47 [(3, 120), (1, (p : Int)), (1, (N : Int)), (1, x3), (1, 9), (0, 0), (0, 0), (0, 0)] (r ++ []) s1 Q) := by
  obtain ⟨hn1, hn2, hn3, hn4⟩ := h.np
  have o := h.o
  have w0 := h.w
  rw [hm] at o w0 hQ
  refine c_readsWith n t m p N _ _ h.2.1 o w0 hp hN (-9) (Or.inl rfl) _ (fun t1 r1 f1 u1 => ?_)
  refine sb_X7_trust_47 n t1 Q p N x3 9 _ r1 ?_
  refine G_up m (fun k b => ∀ w t2, refs t2 → (frX 135 t t2 ∧ twR t2 m (t 120 9) (vw 121 t)) → G 120 140 219 52 [(3, 120), (1, (p : Int)), (1, (N : Int)), (1, x3), (1, b.1), (1, b.2), (1, (k : Int)), w] [] (n, t2) Q) (trG m N (t 120 9) (vw 121 t) p) (fun _ _ => True) (9, rcV m N (t 120 9) (vw 121 t) p (-9)) trivial (fun _ _ _ _ => trivial) (fun k b hk _ hg w t2 r2 f2 => ?_) (fun _ w t2 r2 f2 => ?_) (0, 0) t1 r1 ⟨f1, u1⟩
  · rw [← wr_s hk (by omega)] at hg
    have e3 : t2 120 0 = m := f2.2.1
    refine sb_X7_trust_52 n t2 Q _ _ _ _ _ k w r2 ⟨fun e => by omega, fun _ => ⟨fun c => ?_, fun c => ?_⟩⟩
    · have c2 : k ≠ p := by omega
      unfold trG at hg
      rw [if_neg c2] at hg
      refine c_readsWith n t2 m p N _ _ r2 o f2.2 hp hN k (Or.inr ⟨by omega, by omega, c⟩) _ (fun t3 r3 f3 u3 => ?_)
      refine sb_X7_trust_79 n t3 Q _ _ _ _ _ k _ w r3 ⟨fun d => ?_, fun d => ?_⟩
      · rw [if_neg (by omega)] at hg
        exact hg _ t3 r3 ⟨frX_trans f2.1 f3, u3⟩
      · rw [if_pos d] at hg
        exact hg _ t3 r3 ⟨frX_trans f2.1 f3, u3⟩
    · have c2 : k = p := by omega
      unfold trG at hg
      rw [if_pos c2] at hg
      refine ⟨fun d => ?_, fun d => ?_⟩
      · rw [if_neg (by omega)] at hg
        exact hg _ t2 r2 f2
      · rw [if_pos d] at hg
        exact hg _ t2 r2 f2
  · have e3 : t2 120 0 = m := f2.2.1
    have q := hQ t2 r2 f2.1 f2.2
    unfold trV at q
    refine sb_X7_trust_52 n t2 Q _ _ _ _ _ m w r2 ⟨fun _ => ⟨fun c => ?_, fun c => ?_⟩, fun e => by omega⟩
    · rw [if_neg (by omega)] at q
      exact q
    · rw [if_pos (by omega)] at q
      exact q
def sfG (m N : Nat) (h : Int) (V : Nat → Nat → Int) (p : Nat) (k : Nat) (b : Int) : Int := if k = p then b else if coV m N h V p k 2 p < V 2 p then b else xor_ b (xshl 1 k)
theorem sfG_in {m N : Nat} {h : Int} {V : Nat → Nat → Int} {p : Nat} (k : Nat) (b : Int) (hb : inI k b) : inI (k + 1) (sfG m N h V p k b) := by
  unfold sfG
  repeat' split
  · exact hb
  · exact hb
  · exact xor_in _ _
theorem cl_safe (n : Nat) (s t : Nat → Nat → Int) (h : REL s t) (m p N : Nat) (hm : t 120 0 = (m : Int)) (hp : (p : Int) < m) (hN : N ≤ 99) (x3 : Int) (Q : List Vl → Sto → Prop) (hQ : ∀ s1, refs s1 → frT 13 s s1 → Q [(1, itr (sfG m N (t 120 9) (vw 121 t) p) 0 m)] (n, s1)) : G 2 120 122 32 [(3, 2), (1, (p : Int)), (1, (N : Int)), (1, x3), (1, 0), (1, 0)] [] (n, s) Q := by
  obtain ⟨hn1, hn2, hn3, hn4⟩ := h.np
  refine G_up m (fun k b => ∀ s2, refs s2 → frT 13 s s2 → G 2 120 122 32 [(3, 2), (1, (p : Int)), (1, (N : Int)), (1, x3), (1, b), (1, (k : Int))] [] (n, s2) Q) (sfG m N (t 120 9) (vw 121 t) p) (fun _ _ => True) 0 trivial (fun _ _ _ _ => trivial) (fun k b hk _ hg s2 r2 f2 => ?_) (fun _ s2 r2 f2 => ?_) s h.1 frT_rfl
  · rw [← wr_s hk (by omega)] at hg
    have e3 : s2 3 9 = m := by rw [f2 3 (by omega), hn1, hm]
    refine sb_X6_safe_32 n s2 Q _ _ _ _ k r2 ⟨fun e => by omega, fun _ => ⟨fun c => ?_, fun c => ?_⟩⟩
    · unfold sfG at hg
      rw [if_pos (by omega)] at hg
      exact hg s2 r2 f2
    · unfold sfG at hg
      rw [if_neg (by omega)] at hg
      refine sb_X6_losesNothing_0 n s2 _ p k N r2 ?_
      refine c_nightTrusting n s2 t (REL_m1 h r2 f2) m p N hm hp hN k k (Or.inr ⟨by omega, rfl⟩) (Or.inr ⟨by omega, by omega, c⟩) _ (fun s3 r3 f3 e6 e2 => ?_)
      refine sb_X6_losesNothing_7 n s3 _ p k N r3 ⟨by omega, ?_⟩
      have ef : s3 6 = s 6 := frT_trans f2 f3 6 (by omega)
      rw [Int.toNat_natCast, e2, ef, (h.s p (by omega)).2.2.1]
      refine ⟨fun d => ?_, fun d => ?_⟩
      · have d : coV m N (t 120 9) (vw 121 t) p k 2 p < vw 121 t 2 p := d
        rw [if_pos d] at hg
        exact sb_X6_safe_58 n s3 Q _ _ _ _ k _ r3 ⟨fun _ => hg s3 r3 (frT_trans f2 f3), fun e => absurd rfl e⟩
      · have d : ¬ coV m N (t 120 9) (vw 121 t) p k 2 p < vw 121 t 2 p := Int.not_lt.mpr d
        rw [if_neg d] at hg
        exact sb_X6_safe_58 n s3 Q _ _ _ _ k _ r3 ⟨fun e => absurd e (by decide), fun _ => hg s3 r3 (frT_trans f2 f3)⟩
  · have e3 : s2 3 9 = m := by rw [f2 3 (by omega), hn1, hm]
    exact sb_X6_safe_32 n s2 Q _ _ _ _ m r2 ⟨fun _ => hQ s2 r2 f2, fun e => by omega⟩
theorem rl_safe (n : Nat) (s t : Nat → Nat → Int) (h : REL s t) (m p N : Nat) (hm : t 120 0 = (m : Int)) (hp : (p : Int) < m) (hN : N ≤ 99) (x3 : Int) (Q : List Vl → Sto → Prop) (hQ : ∀ t1, refs t1 → frX 135 t t1 → twR t1 (t 120 0) (t 120 9) (vw 121 t) → Q [(1, itr (sfG m N (t 120 9) (vw 121 t) p) 0 m)] (n, t1)) : G 120 140 143 0 [(3, 120)] [] (n, t) (fun r s1 => G 120 140 213 50 [(3, 120), (1, (p : Int)), (1, (N : Int)), (1, x3), (1, 0), (1, t 123 p), (0, 0)] (r ++ []) s1 Q) := by
  obtain ⟨hn1, hn2, hn3, hn4⟩ := h.np
  have o := h.o
  have w0 := h.w
  rw [hm] at o w0 hQ
  refine c_think n t _ _ _ _ h.2.1 o.1.2 w0 (fun t1 r1 f1 u1 k1 => ?_)
  refine sb_X7_safe_50 n t1 Q _ _ _ _ _ r1 ?_
  refine G_up m (fun k b => ∀ t2, refs t2 → (frX 135 t t2 ∧ twR t2 m (t 120 9) (vw 121 t) ∧ twK 135 0 t2 m (t 120 9) (vw 121 t)) → G 120 140 213 53 [(3, 120), (1, (p : Int)), (1, (N : Int)), (1, x3), (1, b), (1, t 123 p), (1, (k : Int))] [] (n, t2) Q) (sfG m N (t 120 9) (vw 121 t) p) inI 0 (by unfold inI; omega) (fun k b _ hb => sfG_in k b hb) (fun k b hk hb hg t2 r2 f2 => ?_) (fun _ t2 r2 f2 => ?_) t1 r1 ⟨f1, u1, k1⟩
  · rw [← wr_s hk (by omega)] at hg
    obtain ⟨f2, u2, k2⟩ := f2
    have e3 : t2 120 0 = m := u2.1
    refine sb_X7_safe_53 n t2 Q _ _ _ _ _ k r2 ⟨fun e => by omega, fun _ => ⟨fun c => ?_, fun c => ⟨by omega, ?_⟩⟩⟩
    · unfold sfG at hg
      rw [if_pos (by omega)] at hg
      exact hg t2 r2 ⟨f2, u2, k2⟩
    · unfold sfG at hg
      rw [if_neg (by omega)] at hg
      rw [Int.toNat_natCast]
      refine c_goNight n _ _ m _ _ N hN (refs_up r2 rfl) ⟨o.1, okV_set o.2 (by omega)⟩ (twR_set (j := 7) u2) (fun t3 r3 f3 u3 => ?_)
      have k3 := twK_fr k2 (t1 := t3) (by rw [f3.1 135 (by decide) (by decide) (by decide)]; funext z; exact upS_1 (by decide))
      have e2 : t3 123 p = coV m N (t 120 9) (vw 121 t) p k 2 p := u3.2.2 2 (by decide) p hp
      have fin : ∀ b', inI 0 b' → (∀ t4, refs t4 → (frX 135 t t4 ∧ twR t4 m (t 120 9) (vw 121 t) ∧ twK 135 0 t4 m (t 120 9) (vw 121 t)) → G 120 140 213 53 [(3, 120), (1, (p : Int)), (1, (N : Int)), (1, x3), (1, b'), (1, t 123 p), (1, wr ((k : Int) + 1))] [] (n, t4) Q) → G 120 140 140 0 [(3, 120)] [] (n, t3) (fun r s1 => G 120 140 213 109 [(3, 120), (1, (p : Int)), (1, (N : Int)), (1, x3), (1, b'), (1, t 123 p), (1, (k : Int))] (r ++ []) s1 Q) := fun b' _ hg => c_again n t3 _ _ _ _ r3 o.1.2 k3 (fun t4 r4 f4 u4 => sb_X7_safe_109 n t4 Q _ _ _ _ _ _ r4 (hg t4 r4 ⟨frX_trans f2 (frX_trans (frX_up (a := 128) (p := p) (x := (k : Int)) (by decide) (by decide)) (frX_trans (frX_w f3) (frX_w f4))), u4, twK_fr k3 (f4.1 135 (by decide) (by decide) (by decide))⟩))
      refine sb_X7_safe_81 n t3 Q _ _ _ _ _ _ r3 ⟨by omega, ?_⟩
      rw [Int.toNat_natCast, e2]
      refine ⟨fun d => ?_, fun d => ?_⟩
      · rw [if_pos (show coV m N (t 120 9) (vw 121 t) p k 2 p < vw 121 t 2 p from d)] at hg
        rw [xor_0 hb]
        exact fin _ hb hg
      · have d : ¬ coV m N (t 120 9) (vw 121 t) p k 2 p < vw 121 t 2 p := Int.not_lt.mpr d
        rw [if_neg d] at hg
        exact fin _ (xor_in _ _) hg
  · have e3 : t2 120 0 = m := f2.2.1.1
    exact sb_X7_safe_53 n t2 Q _ _ _ _ _ m r2 ⟨fun _ => hQ t2 r2 f2.1 f2.2.1, fun e => by omega⟩

theorem op_trust (n : Nat) (s t : Nat → Nat → Int) (h : REL s t) (a0 : Int) (a1 : Int) : G 2 120 128 0 [(3, 2), (1, a0), (1, a1), (0, 0), (0, 0), (0, 0), (0, 0), (0, 0)] [] (n, s) (fun r s1 => G 120 140 219 0 [(3, 120), (1, a0), (1, a1), (0, 0), (0, 0), (0, 0), (0, 0), (0, 0)] [] (n, t) (Post n r s1)) := by
  obtain ⟨hn1, hn2, hn3, hn4⟩ := h.np
  have hw : wr (t 120 0 - 1) = t 120 0 - 1 := wr_id (by omega) (by omega)
  have h1 : ∀ z : Int, 0 ≤ z → z < t 120 0 → ∃ p : Nat, z = p ∧ (p : Int) < t 120 0 := fun z h1 h2 => ⟨z.toNat, by omega, by omega⟩
  have h2 : ∀ z : Int, 0 ≤ z → z ≤ 99 → ∃ p : Nat, z = p ∧ p ≤ 99 := fun z h1 h2 => ⟨z.toNat, by omega, by omega⟩
  obtain ⟨m, hm⟩ : ∃ m : Nat, t 120 0 = (m : Int) := ⟨(t 120 0).toNat, by omega⟩
  refine sb_X6_trust_0 n s _ a0 a1 h.1 ?_
  repeat' first | with_reducible refine And.intro ?_ ?_ | intro _
  all_goals first | omega | skip
  all_goals try (obtain ⟨p, rfl, hp⟩ := h1 a0 (by omega) (by omega); rw [hm] at hp; obtain ⟨N, rfl, hN⟩ := h2 a1 (by omega) (by omega); refine cl_trust n s _ h.up m p N hm hp hN (by omega) _ _ (fun s1 r1 f1 => ?_))
  all_goals refine sb_X7_trust_0 n t _ _ _ h.2.1 ?_
  all_goals repeat' first | with_reducible refine And.intro ?_ ?_ | intro _
  all_goals first | omega | exact post_ref h _ (by decide) | exact hn3.1 | exact hn3.2 | skip
  · exact rl_trust n s _ h.up m p N hm hp hN _ _ (fun t1 r2 f2 w => post_mind h.up r1 f1 r2 f2 w)
  · obtain ⟨p, rfl, hp⟩ := h1 a0 (by omega) (by omega)
    rw [hm] at hp
    obtain ⟨N, rfl, hN⟩ := h2 a1 (by omega) (by omega)
    refine rl_trust n s _ h.up m p N hm hp hN _ _ (fun t1 r2 f2 w => ?_)
    rw [show trV m N (upS t 120 10 0 120 9) (vw 121 (upS t 120 10 0)) p = -9 from if_pos (by omega)]
    exact post_mind h.up h.1 frT_rfl r2 f2 w
theorem op_safe (n : Nat) (s t : Nat → Nat → Int) (h : REL s t) (a0 : Int) (a1 : Int) : G 2 120 122 0 [(3, 2), (1, a0), (1, a1), (0, 0), (0, 0), (0, 0)] [] (n, s) (fun r s1 => G 120 140 213 0 [(3, 120), (1, a0), (1, a1), (0, 0), (0, 0), (0, 0), (0, 0)] [] (n, t) (Post n r s1)) := by
  obtain ⟨hn1, hn2, hn3, hn4⟩ := h.np
  have hw : wr (t 120 0 - 1) = t 120 0 - 1 := wr_id (by omega) (by omega)
  have h1 : ∀ z : Int, 0 ≤ z → z < t 120 0 → ∃ p : Nat, z = p ∧ (p : Int) < t 120 0 := fun z h1 h2 => ⟨z.toNat, by omega, by omega⟩
  have h2 : ∀ z : Int, 0 ≤ z → z ≤ 99 → ∃ p : Nat, z = p ∧ p ≤ 99 := fun z h1 h2 => ⟨z.toNat, by omega, by omega⟩
  obtain ⟨m, hm⟩ : ∃ m : Nat, t 120 0 = (m : Int) := ⟨(t 120 0).toNat, by omega⟩
  refine sb_X6_safe_0 n s _ a0 a1 h.1 ?_
  repeat' first | with_reducible refine And.intro ?_ ?_ | intro _
  all_goals first | omega | skip
  all_goals try (obtain ⟨p, rfl, hp⟩ := h1 a0 (by omega) (by omega); rw [hm] at hp; obtain ⟨N, rfl, hN⟩ := h2 a1 (by omega) (by omega); refine cl_safe n s _ h.up m p N hm hp hN _ _ (fun s1 r1 f1 => ?_))
  all_goals refine sb_X7_safe_0 n t _ _ _ h.2.1 ?_
  all_goals repeat' first | with_reducible refine And.intro ?_ ?_ | intro _
  all_goals first | omega | exact post_ref h _ (by decide) | exact hn3.1 | exact hn3.2 | skip
  exact rl_safe n s _ h.up m p N hm hp hN _ _ (fun t1 r2 f2 w => post_mind h.up r1 f1 r2 f2 w)

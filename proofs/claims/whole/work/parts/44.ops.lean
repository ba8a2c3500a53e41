theorem sb_X6_lots_0 (n : Nat) (s : Nat → Nat → Int) (Q : List Vl → Sto → Prop) (a0 : Int) (a1 : Int) (a2 : Int) (hR : refs s)
    (h : (1 ≤ a0 → (a0 ≤ 20 → (a2 < 0 → Q [(1, (-2))] (n, upS s 119 2 (wr ((s 119 2) + 1)))) ∧ (0 ≤ a2 → (a2 ≤ 1 → G 2 120 109 41 [(3, 2), (1, a0), (1, a1), (1, a2), (1, 0), (1, a1), (1, 0), (1, 0), (1, 0), (0, 0)] [] (n, s) Q) ∧ (1 < a2 → Q [(1, (-2))] (n, upS s 119 2 (wr ((s 119 2) + 1)))))) ∧ (20 < a0 → (a2 < 0 → Q [(1, (-6))] (n, upS s 119 6 (wr ((s 119 6) + 1)))) ∧ (0 ≤ a2 → (a2 ≤ 1 → Q [(1, (-6))] (n, upS s 119 6 (wr ((s 119 6) + 1)))) ∧ (1 < a2 → Q [(1, (-6))] (n, upS s 119 6 (wr ((s 119 6) + 1))))))) ∧ (a0 < 1 → (a2 < 0 → Q [(1, (-4))] (n, upS s 119 4 (wr ((s 119 4) + 1)))) ∧ (0 ≤ a2 → (a2 ≤ 1 → Q [(1, (-4))] (n, upS s 119 4 (wr ((s 119 4) + 1)))) ∧ (1 < a2 → Q [(1, (-4))] (n, upS s 119 4 (wr ((s 119 4) + 1))))))) :
    G 2 120 109 0 [(3, 2), (1, a0), (1, a1), (1, a2), (0, 0), (0, 0), (0, 0), (0, 0), (0, 0), (0, 0)] [] (n, s) Q := by
  refine G_go rfl rfl ?_
  refine G_go rfl rfl ?_
  refine G_go rfl rfl ?_
  refine G_call rfl rfl ?_
  refine G_go rfl rfl ?_
  refine G_go rfl rfl ?_
  refine G_ge rfl rfl (fun c1 => ?_) (fun c1 => ?_)
  · have h := h.1 c1
    refine G_go rfl rfl ?_
    refine G_go rfl rfl ?_
    refine G_le rfl rfl (fun c2 => ?_) (fun c2 => ?_)
    · have h := h.1 c2
      refine G_go rfl rfl ?_
      refine G_ret rfl rfl ?_
      refine G_go rfl rfl ?_
      refine G_go rfl rfl ?_
      refine G_call rfl rfl ?_
      refine G_go rfl rfl ?_
      refine G_lt rfl rfl (fun c3 => ?_) (fun c3 => ?_)
      · have h := h.1 c3
        refine G_go rfl rfl ?_
        refine G_go rfl rfl ?_
        refine G_ret rfl rfl ?_
        refine G_call rfl rfl ?_
        refine G_go rfl rfl ?_
        refine G_brT rfl rfl rfl ?_
        refine G_go rfl rfl ?_
        refine G_ret rfl rfl ?_
        refine G_go rfl rfl ?_
        show G 2 120 109 17 [(3, 2), (1, a0), (1, a1), (1, a2), (1, (-2)), (0, 0), (0, 0), (0, 0), (0, 0), (0, 0)] [] (n, s) Q
        refine G_go rfl rfl ?_
        refine G_brF rfl rfl rfl ?_
        refine G_go rfl rfl ?_
        refine G_go rfl rfl ?_
        refine G_call rfl rfl ?_
        refine G_go rfl rfl ?_
        refine G_go rfl rfl ?_
        refine G_go rfl rfl ?_
        refine G_go rfl rfl ?_
        refine G_brF rfl rfl rfl ?_
        refine G_go rfl rfl ?_
        refine G_go rfl rfl ?_
        refine G_rf rfl rfl (by decide) (hR 2 7 119 rfl) ?_
        refine G_go rfl rfl ?_
        refine G_brF rfl rfl rfl ?_
        refine G_go rfl rfl ?_
        refine G_rf rfl rfl (by decide) (hR 2 7 119 rfl) ?_
        refine G_go rfl rfl ?_
        refine G_go rfl rfl ?_
        refine G_ir (n := 7) rfl rfl (by decide) (by decide) (by decide) ?_
        refine G_go rfl rfl ?_
        refine G_go rfl rfl ?_
        refine G_iw (n := 7) rfl rfl (by decide) (by decide) (by decide) ?_
        have hR := refs_up (a := 119) (k := 2) (x := wr ((s 119 2) + 1)) hR rfl
        refine G_go rfl rfl ?_
        refine G_ret rfl rfl ?_
        exact G_ret rfl rfl h
      · have h := h.2 c3
        refine G_go rfl rfl ?_
        refine G_go rfl rfl ?_
        refine G_le rfl rfl (fun c4 => ?_) (fun c4 => ?_)
        · have h := h.1 c4
          refine G_go rfl rfl ?_
          refine G_ret rfl rfl ?_
          refine G_call rfl rfl ?_
          refine G_go rfl rfl ?_
          refine G_brT rfl rfl rfl ?_
          refine G_go rfl rfl ?_
          refine G_ret rfl rfl ?_
          refine G_go rfl rfl ?_
          show G 2 120 109 17 [(3, 2), (1, a0), (1, a1), (1, a2), (1, 0), (0, 0), (0, 0), (0, 0), (0, 0), (0, 0)] [] (n, s) Q
          refine G_go rfl rfl ?_
          refine G_brT rfl rfl rfl ?_
          refine G_go rfl rfl ?_
          refine G_go rfl rfl ?_
          show G 2 120 109 32 [(3, 2), (1, a0), (1, a1), (1, a2), (1, 0), (1, a1), (0, 0), (0, 0), (0, 0), (0, 0)] [] (n, s) Q
          refine G_go rfl rfl ?_
          refine G_go rfl rfl ?_
          show G 2 120 109 35 [(3, 2), (1, a0), (1, a1), (1, a2), (1, 0), (1, a1), (1, 0), (0, 0), (0, 0), (0, 0)] [] (n, s) Q
          refine G_go rfl rfl ?_
          refine G_go rfl rfl ?_
          show G 2 120 109 38 [(3, 2), (1, a0), (1, a1), (1, a2), (1, 0), (1, a1), (1, 0), (1, 0), (0, 0), (0, 0)] [] (n, s) Q
          refine G_go rfl rfl ?_
          refine G_go rfl rfl ?_
          show G 2 120 109 41 [(3, 2), (1, a0), (1, a1), (1, a2), (1, 0), (1, a1), (1, 0), (1, 0), (1, 0), (0, 0)] [] (n, s) Q
          exact h
        · have h := h.2 c4
          refine G_go rfl rfl ?_
          refine G_go rfl rfl ?_
          refine G_ret rfl rfl ?_
          refine G_call rfl rfl ?_
          refine G_go rfl rfl ?_
          refine G_brT rfl rfl rfl ?_
          refine G_go rfl rfl ?_
          refine G_ret rfl rfl ?_
          refine G_go rfl rfl ?_
          show G 2 120 109 17 [(3, 2), (1, a0), (1, a1), (1, a2), (1, (-2)), (0, 0), (0, 0), (0, 0), (0, 0), (0, 0)] [] (n, s) Q
          refine G_go rfl rfl ?_
          refine G_brF rfl rfl rfl ?_
          refine G_go rfl rfl ?_
          refine G_go rfl rfl ?_
          refine G_call rfl rfl ?_
          refine G_go rfl rfl ?_
          refine G_go rfl rfl ?_
          refine G_go rfl rfl ?_
          refine G_go rfl rfl ?_
          refine G_brF rfl rfl rfl ?_
          refine G_go rfl rfl ?_
          refine G_go rfl rfl ?_
          refine G_rf rfl rfl (by decide) (hR 2 7 119 rfl) ?_
          refine G_go rfl rfl ?_
          refine G_brF rfl rfl rfl ?_
          refine G_go rfl rfl ?_
          refine G_rf rfl rfl (by decide) (hR 2 7 119 rfl) ?_
          refine G_go rfl rfl ?_
          refine G_go rfl rfl ?_
          refine G_ir (n := 7) rfl rfl (by decide) (by decide) (by decide) ?_
          refine G_go rfl rfl ?_
          refine G_go rfl rfl ?_
          refine G_iw (n := 7) rfl rfl (by decide) (by decide) (by decide) ?_
          have hR := refs_up (a := 119) (k := 2) (x := wr ((s 119 2) + 1)) hR rfl
          refine G_go rfl rfl ?_
          refine G_ret rfl rfl ?_
          exact G_ret rfl rfl h
    · have h := h.2 c2
      refine G_go rfl rfl ?_
      refine G_go rfl rfl ?_
      refine G_ret rfl rfl ?_
      refine G_go rfl rfl ?_
      refine G_go rfl rfl ?_
      refine G_call rfl rfl ?_
      refine G_go rfl rfl ?_
      refine G_lt rfl rfl (fun c5 => ?_) (fun c5 => ?_)
      · have h := h.1 c5
        refine G_go rfl rfl ?_
        refine G_go rfl rfl ?_
        refine G_ret rfl rfl ?_
        refine G_call rfl rfl ?_
        refine G_go rfl rfl ?_
        refine G_brF rfl rfl rfl ?_
        refine G_go rfl rfl ?_
        refine G_go rfl rfl ?_
        refine G_ret rfl rfl ?_
        refine G_go rfl rfl ?_
        show G 2 120 109 17 [(3, 2), (1, a0), (1, a1), (1, a2), (1, (-6)), (0, 0), (0, 0), (0, 0), (0, 0), (0, 0)] [] (n, s) Q
        refine G_go rfl rfl ?_
        refine G_brF rfl rfl rfl ?_
        refine G_go rfl rfl ?_
        refine G_go rfl rfl ?_
        refine G_call rfl rfl ?_
        refine G_go rfl rfl ?_
        refine G_go rfl rfl ?_
        refine G_go rfl rfl ?_
        refine G_go rfl rfl ?_
        refine G_brF rfl rfl rfl ?_
        refine G_go rfl rfl ?_
        refine G_go rfl rfl ?_
        refine G_rf rfl rfl (by decide) (hR 2 7 119 rfl) ?_
        refine G_go rfl rfl ?_
        refine G_brF rfl rfl rfl ?_
        refine G_go rfl rfl ?_
        refine G_rf rfl rfl (by decide) (hR 2 7 119 rfl) ?_
        refine G_go rfl rfl ?_
        refine G_go rfl rfl ?_
        refine G_ir (n := 7) rfl rfl (by decide) (by decide) (by decide) ?_
        refine G_go rfl rfl ?_
        refine G_go rfl rfl ?_
        refine G_iw (n := 7) rfl rfl (by decide) (by decide) (by decide) ?_
        have hR := refs_up (a := 119) (k := 6) (x := wr ((s 119 6) + 1)) hR rfl
        refine G_go rfl rfl ?_
        refine G_ret rfl rfl ?_
        exact G_ret rfl rfl h
      · have h := h.2 c5
        refine G_go rfl rfl ?_
        refine G_go rfl rfl ?_
        refine G_le rfl rfl (fun c6 => ?_) (fun c6 => ?_)
        · have h := h.1 c6
          refine G_go rfl rfl ?_
          refine G_ret rfl rfl ?_
          refine G_call rfl rfl ?_
          refine G_go rfl rfl ?_
          refine G_brF rfl rfl rfl ?_
          refine G_go rfl rfl ?_
          refine G_go rfl rfl ?_
          refine G_ret rfl rfl ?_
          refine G_go rfl rfl ?_
          show G 2 120 109 17 [(3, 2), (1, a0), (1, a1), (1, a2), (1, (-6)), (0, 0), (0, 0), (0, 0), (0, 0), (0, 0)] [] (n, s) Q
          refine G_go rfl rfl ?_
          refine G_brF rfl rfl rfl ?_
          refine G_go rfl rfl ?_
          refine G_go rfl rfl ?_
          refine G_call rfl rfl ?_
          refine G_go rfl rfl ?_
          refine G_go rfl rfl ?_
          refine G_go rfl rfl ?_
          refine G_go rfl rfl ?_
          refine G_brF rfl rfl rfl ?_
          refine G_go rfl rfl ?_
          refine G_go rfl rfl ?_
          refine G_rf rfl rfl (by decide) (hR 2 7 119 rfl) ?_
          refine G_go rfl rfl ?_
          refine G_brF rfl rfl rfl ?_
          refine G_go rfl rfl ?_
          refine G_rf rfl rfl (by decide) (hR 2 7 119 rfl) ?_
          refine G_go rfl rfl ?_
          refine G_go rfl rfl ?_
          refine G_ir (n := 7) rfl rfl (by decide) (by decide) (by decide) ?_
          refine G_go rfl rfl ?_
          refine G_go rfl rfl ?_
          refine G_iw (n := 7) rfl rfl (by decide) (by decide) (by decide) ?_
          have hR := refs_up (a := 119) (k := 6) (x := wr ((s 119 6) + 1)) hR rfl
          refine G_go rfl rfl ?_
          refine G_ret rfl rfl ?_
          exact G_ret rfl rfl h
        · have h := h.2 c6
          refine G_go rfl rfl ?_
          refine G_go rfl rfl ?_
          refine G_ret rfl rfl ?_
          refine G_call rfl rfl ?_
          refine G_go rfl rfl ?_
          refine G_brF rfl rfl rfl ?_
          refine G_go rfl rfl ?_
          refine G_go rfl rfl ?_
          refine G_ret rfl rfl ?_
          refine G_go rfl rfl ?_
          show G 2 120 109 17 [(3, 2), (1, a0), (1, a1), (1, a2), (1, (-6)), (0, 0), (0, 0), (0, 0), (0, 0), (0, 0)] [] (n, s) Q
          refine G_go rfl rfl ?_
          refine G_brF rfl rfl rfl ?_
          refine G_go rfl rfl ?_
          refine G_go rfl rfl ?_
          refine G_call rfl rfl ?_
          refine G_go rfl rfl ?_
          refine G_go rfl rfl ?_
          refine G_go rfl rfl ?_
          refine G_go rfl rfl ?_
          refine G_brF rfl rfl rfl ?_
          refine G_go rfl rfl ?_
          refine G_go rfl rfl ?_
          refine G_rf rfl rfl (by decide) (hR 2 7 119 rfl) ?_
          refine G_go rfl rfl ?_
          refine G_brF rfl rfl rfl ?_
          refine G_go rfl rfl ?_
          refine G_rf rfl rfl (by decide) (hR 2 7 119 rfl) ?_
          refine G_go rfl rfl ?_
          refine G_go rfl rfl ?_
          refine G_ir (n := 7) rfl rfl (by decide) (by decide) (by decide) ?_
          refine G_go rfl rfl ?_
          refine G_go rfl rfl ?_
          refine G_iw (n := 7) rfl rfl (by decide) (by decide) (by decide) ?_
          have hR := refs_up (a := 119) (k := 6) (x := wr ((s 119 6) + 1)) hR rfl
          refine G_go rfl rfl ?_
          refine G_ret rfl rfl ?_
          exact G_ret rfl rfl h
  · have h := h.2 c1
    refine G_go rfl rfl ?_
    refine G_ret rfl rfl ?_
    refine G_go rfl rfl ?_
    refine G_go rfl rfl ?_
    refine G_call rfl rfl ?_
    refine G_go rfl rfl ?_
    refine G_lt rfl rfl (fun c7 => ?_) (fun c7 => ?_)
    · have h := h.1 c7
      refine G_go rfl rfl ?_
      refine G_go rfl rfl ?_
      refine G_ret rfl rfl ?_
      refine G_call rfl rfl ?_
      refine G_go rfl rfl ?_
      refine G_brF rfl rfl rfl ?_
      refine G_go rfl rfl ?_
      refine G_go rfl rfl ?_
      refine G_ret rfl rfl ?_
      refine G_go rfl rfl ?_
      show G 2 120 109 17 [(3, 2), (1, a0), (1, a1), (1, a2), (1, (-4)), (0, 0), (0, 0), (0, 0), (0, 0), (0, 0)] [] (n, s) Q
      refine G_go rfl rfl ?_
      refine G_brF rfl rfl rfl ?_
      refine G_go rfl rfl ?_
      refine G_go rfl rfl ?_
      refine G_call rfl rfl ?_
      refine G_go rfl rfl ?_
      refine G_go rfl rfl ?_
      refine G_go rfl rfl ?_
      refine G_go rfl rfl ?_
      refine G_brF rfl rfl rfl ?_
      refine G_go rfl rfl ?_
      refine G_go rfl rfl ?_
      refine G_rf rfl rfl (by decide) (hR 2 7 119 rfl) ?_
      refine G_go rfl rfl ?_
      refine G_brF rfl rfl rfl ?_
      refine G_go rfl rfl ?_
      refine G_rf rfl rfl (by decide) (hR 2 7 119 rfl) ?_
      refine G_go rfl rfl ?_
      refine G_go rfl rfl ?_
      refine G_ir (n := 7) rfl rfl (by decide) (by decide) (by decide) ?_
      refine G_go rfl rfl ?_
      refine G_go rfl rfl ?_
      refine G_iw (n := 7) rfl rfl (by decide) (by decide) (by decide) ?_
      have hR := refs_up (a := 119) (k := 4) (x := wr ((s 119 4) + 1)) hR rfl
      refine G_go rfl rfl ?_
      refine G_ret rfl rfl ?_
      exact G_ret rfl rfl h
    · have h := h.2 c7
      refine G_go rfl rfl ?_
      refine G_go rfl rfl ?_
      refine G_le rfl rfl (fun c8 => ?_) (fun c8 => ?_)
      · have h := h.1 c8
        refine G_go rfl rfl ?_
        refine G_ret rfl rfl ?_
        refine G_call rfl rfl ?_
        refine G_go rfl rfl ?_
        refine G_brF rfl rfl rfl ?_
        refine G_go rfl rfl ?_
        refine G_go rfl rfl ?_
        refine G_ret rfl rfl ?_
        refine G_go rfl rfl ?_
        show G 2 120 109 17 [(3, 2), (1, a0), (1, a1), (1, a2), (1, (-4)), (0, 0), (0, 0), (0, 0), (0, 0), (0, 0)] [] (n, s) Q
        refine G_go rfl rfl ?_
        refine G_brF rfl rfl rfl ?_
        refine G_go rfl rfl ?_
        refine G_go rfl rfl ?_
        refine G_call rfl rfl ?_
        refine G_go rfl rfl ?_
        refine G_go rfl rfl ?_
        refine G_go rfl rfl ?_
        refine G_go rfl rfl ?_
        refine G_brF rfl rfl rfl ?_
        refine G_go rfl rfl ?_
        refine G_go rfl rfl ?_
        refine G_rf rfl rfl (by decide) (hR 2 7 119 rfl) ?_
        refine G_go rfl rfl ?_
        refine G_brF rfl rfl rfl ?_
        refine G_go rfl rfl ?_
        refine G_rf rfl rfl (by decide) (hR 2 7 119 rfl) ?_
        refine G_go rfl rfl ?_
        refine G_go rfl rfl ?_
        refine G_ir (n := 7) rfl rfl (by decide) (by decide) (by decide) ?_
        refine G_go rfl rfl ?_
        refine G_go rfl rfl ?_
        refine G_iw (n := 7) rfl rfl (by decide) (by decide) (by decide) ?_
        have hR := refs_up (a := 119) (k := 4) (x := wr ((s 119 4) + 1)) hR rfl
        refine G_go rfl rfl ?_
        refine G_ret rfl rfl ?_
        exact G_ret rfl rfl h
      · have h := h.2 c8
        refine G_go rfl rfl ?_
        refine G_go rfl rfl ?_
        refine G_ret rfl rfl ?_
        refine G_call rfl rfl ?_
        refine G_go rfl rfl ?_
        refine G_brF rfl rfl rfl ?_
        refine G_go rfl rfl ?_
        refine G_go rfl rfl ?_
        refine G_ret rfl rfl ?_
        refine G_go rfl rfl ?_
        show G 2 120 109 17 [(3, 2), (1, a0), (1, a1), (1, a2), (1, (-4)), (0, 0), (0, 0), (0, 0), (0, 0), (0, 0)] [] (n, s) Q
        refine G_go rfl rfl ?_
        refine G_brF rfl rfl rfl ?_
        refine G_go rfl rfl ?_
        refine G_go rfl rfl ?_
        refine G_call rfl rfl ?_
        refine G_go rfl rfl ?_
        refine G_go rfl rfl ?_
        refine G_go rfl rfl ?_
        refine G_go rfl rfl ?_
        refine G_brF rfl rfl rfl ?_
        refine G_go rfl rfl ?_
        refine G_go rfl rfl ?_
        refine G_rf rfl rfl (by decide) (hR 2 7 119 rfl) ?_
        refine G_go rfl rfl ?_
        refine G_brF rfl rfl rfl ?_
        refine G_go rfl rfl ?_
        refine G_rf rfl rfl (by decide) (hR 2 7 119 rfl) ?_
        refine G_go rfl rfl ?_
        refine G_go rfl rfl ?_
        refine G_ir (n := 7) rfl rfl (by decide) (by decide) (by decide) ?_
        refine G_go rfl rfl ?_
        refine G_go rfl rfl ?_
        refine G_iw (n := 7) rfl rfl (by decide) (by decide) (by decide) ?_
        have hR := refs_up (a := 119) (k := 4) (x := wr ((s 119 4) + 1)) hR rfl
        refine G_go rfl rfl ?_
        refine G_ret rfl rfl ?_
        exact G_ret rfl rfl h
theorem sb_X6_lots_41 (n : Nat) (s : Nat → Nat → Int) (Q : List Vl → Sto → Prop) (x1 : Int) (x2 : Int) (x3 : Int) (x4 : Int) (x5 : Int) (x6 : Int) (x7 : Int) (x8 : Int) (w9 : Vl) (hR : refs s)
    (h : (x1 ≤ x8 → (x3 ≠ 0 → Q [(1, x7)] (n, s)) ∧ (x3 = 0 → Q [(1, x6)] (n, s))) ∧ (x8 < x1 → G 2 120 7 0 [(3, 13), (3, 3), (0, 0)] [] (n, s) (fun r s1 => G 2 120 109 58 [(3, 2), (1, x1), (1, x2), (1, x3), (1, x4), (1, x5), (1, x6), (1, x7), (1, x8), w9] (r ++ []) s1 Q))) :
    G 2 120 109 41 [(3, 2), (1, x1), (1, x2), (1, x3), (1, x4), (1, x5), (1, x6), (1, x7), (1, x8), w9] [] (n, s) Q := by
  refine G_go rfl rfl ?_
  refine G_go rfl rfl ?_
  refine G_ge rfl rfl (fun c1 => ?_) (fun c1 => ?_)
  · have h := h.1 c1
    refine G_go rfl rfl ?_
    refine G_ne rfl rfl (fun c2 => ?_) (fun c2 => ?_)
    · have h := h.1 c2
      refine G_go rfl rfl ?_
      exact G_ret rfl rfl h
    · have h := h.2 c2
      refine G_go rfl rfl ?_
      refine G_go rfl rfl ?_
      exact G_ret rfl rfl h
  · have h := h.2 c1
    refine G_go rfl rfl ?_
    refine G_rf rfl rfl (by decide) (hR 2 1 13 rfl) ?_
    refine G_go rfl rfl ?_
    refine G_rf rfl rfl (by decide) (hR 2 0 3 rfl) ?_
    exact G_call rfl rfl h
theorem sb_X6_lots_58 (n : Nat) (s : Nat → Nat → Int) (Q : List Vl → Sto → Prop) (x1 : Int) (x2 : Int) (x3 : Int) (x4 : Int) (x5 : Int) (x6 : Int) (x7 : Int) (x8 : Int) (w9 : Vl) (hR : refs s)
    (h : G 2 120 109 61 [(3, 2), (1, x1), (1, x2), (1, x3), (1, x4), (1, x5), (1, x6), (1, x7), (1, x8), (1, 0)] [] (n, s) Q) :
    G 2 120 109 58 [(3, 2), (1, x1), (1, x2), (1, x3), (1, x4), (1, x5), (1, x6), (1, x7), (1, x8), w9] [] (n, s) Q := by
  refine G_go rfl rfl ?_
  refine G_go rfl rfl ?_
  show G 2 120 109 61 [(3, 2), (1, x1), (1, x2), (1, x3), (1, x4), (1, x5), (1, x6), (1, x7), (1, x8), (1, 0)] [] (n, s) Q
  exact h
theorem sb_X6_lots_61 (n : Nat) (s : Nat → Nat → Int) (Q : List Vl → Sto → Prop) (x1 : Int) (x2 : Int) (x3 : Int) (x4 : Int) (x5 : Int) (x6 : Int) (x7 : Int) (x8 : Int) (x9 : Int) (hR : refs s)
    (h : (s 13 9 ≤ x9 → G 2 120 30 0 [(3, 13), (1, 8), (0, 0)] [] (n, s) (fun r s1 => G 2 120 109 123 [(3, 2), (1, x1), (1, x2), (1, x3), (1, x4), (1, x5), (1, x6), (1, x7), (1, x8), (1, x9)] (r ++ []) s1 Q)) ∧ (x9 < s 13 9 → (0 ≤ x9 ∧ x9 < 6) ∧ (G 2 120 109 61 [(3, 2), (1, x1), (1, x2), (1, x3), (1, x4), (1, wr ((wr (x5 * 1103515245)) + 12345)), (1, x6), (1, x7), (1, x8), (1, wr (x9 + 1))] [] (n, upS s 16 x9.toNat (xrem (xdiv (xand (wr ((wr (x5 * 1103515245)) + 12345)) 2147483647) 65536) 60)) Q))) :
    G 2 120 109 61 [(3, 2), (1, x1), (1, x2), (1, x3), (1, x4), (1, x5), (1, x6), (1, x7), (1, x8), (1, x9)] [] (n, s) Q := by
  refine G_go rfl rfl ?_
  refine G_go rfl rfl ?_
  refine G_rf rfl rfl (by decide) (hR 2 1 13 rfl) ?_
  refine G_rd rfl rfl (by decide) ?_
  refine G_ge rfl rfl (fun c1 => ?_) (fun c1 => ?_)
  · have h := h.1 c1
    refine G_go rfl rfl ?_
    refine G_rf rfl rfl (by decide) (hR 2 1 13 rfl) ?_
    refine G_go rfl rfl ?_
    exact G_call rfl rfl h
  · have h := h.2 c1
    refine G_go rfl rfl ?_
    refine G_go rfl rfl ?_
    refine G_go rfl rfl ?_
    refine G_go rfl rfl ?_
    refine G_go rfl rfl ?_
    refine G_go rfl rfl ?_
    show G 2 120 109 85 [(3, 2), (1, x1), (1, x2), (1, x3), (1, x4), (1, wr ((wr (x5 * 1103515245)) + 12345)), (1, x6), (1, x7), (1, x8), (1, x9)] [] (n, s) Q
    refine G_go rfl rfl ?_
    refine G_rf rfl rfl (by decide) (hR 2 1 13 rfl) ?_
    refine G_rf rfl rfl (by decide) (hR 13 2 16 rfl) ?_
    refine G_go rfl rfl ?_
    refine G_go rfl rfl ?_
    refine G_go rfl rfl ?_
    refine G_go rfl rfl ?_
    refine G_go rfl rfl ?_
    refine G_go rfl rfl ?_
    refine G_go rfl rfl ?_
    refine G_go rfl rfl ?_
    obtain ⟨g2, h⟩ := h
    refine G_iw (n := 6) rfl rfl (by decide) (by decide) g2 ?_
    have hR := refs_up (a := 16) (k := x9.toNat) (x := xrem (xdiv (xand (wr ((wr (x5 * 1103515245)) + 12345)) 2147483647) 65536) 60) hR rfl
    refine G_go rfl rfl ?_
    refine G_go rfl rfl ?_
    exact h
theorem sb_X6_lots_123 (n : Nat) (s : Nat → Nat → Int) (Q : List Vl → Sto → Prop) (x1 : Int) (x2 : Int) (x3 : Int) (x4 : Int) (x5 : Int) (x6 : Int) (x7 : Int) (x8 : Int) (x9 : Int) (hR : refs s)
    (h : (0 ≤ s 13 9 ∧ s 13 9 ≤ 6) ∧ ((0 ≤ s 3 9 ∧ s 3 9 ≤ 6) ∧ (G 2 120 50 0 [(3, 13), (0, 0), (0, 0)] [] (n, s) (fun r s1 => G 2 120 109 152 [(3, 2), (1, x1), (1, x2), (1, x3), (1, x4), (1, x5), (1, wr (x6 + (wr ((itr (smF (s 20)) 0 (s 13 9).toNat) - (itr (smF (s 10)) 0 (s 3 9).toNat))))), (1, x7), (1, x8), (1, x9)] (r ++ [(1, x7)]) s1 Q)))) :
    G 2 120 109 123 [(3, 2), (1, x1), (1, x2), (1, x3), (1, x4), (1, x5), (1, x6), (1, x7), (1, x8), (1, x9)] [] (n, s) Q := by
  refine G_go rfl rfl ?_
  refine G_go rfl rfl ?_
  refine G_rf rfl rfl (by decide) (hR 2 1 13 rfl) ?_
  refine G_call rfl rfl ?_
  refine G_go rfl rfl ?_
  refine G_go rfl rfl ?_
  refine G_rf rfl rfl (by decide) (hR 13 6 20 rfl) ?_
  refine G_call rfl rfl ?_
  obtain ⟨g1, h⟩ := h
  refine c_X5_sumOf_13_20 n _ _ hR g1 ?_
  refine G_ret rfl rfl ?_
  refine G_go rfl rfl ?_
  refine G_rf rfl rfl (by decide) (hR 2 0 3 rfl) ?_
  refine G_call rfl rfl ?_
  refine G_go rfl rfl ?_
  refine G_go rfl rfl ?_
  refine G_rf rfl rfl (by decide) (hR 3 6 10 rfl) ?_
  refine G_call rfl rfl ?_
  obtain ⟨g2, h⟩ := h
  refine c_X5_sumOf_3_10 n _ _ hR g2 ?_
  refine G_ret rfl rfl ?_
  refine G_go rfl rfl ?_
  refine G_go rfl rfl ?_
  refine G_go rfl rfl ?_
  show G 2 120 109 143 [(3, 2), (1, x1), (1, x2), (1, x3), (1, x4), (1, x5), (1, wr (x6 + (wr ((itr (smF (s 20)) 0 (s 13 9).toNat) - (itr (smF (s 10)) 0 (s 3 9).toNat))))), (1, x7), (1, x8), (1, x9)] [] (n, s) Q
  refine G_go rfl rfl ?_
  refine G_go rfl rfl ?_
  refine G_rf rfl rfl (by decide) (hR 2 1 13 rfl) ?_
  exact G_call rfl rfl h
theorem sb_X6_lots_152 (n : Nat) (s : Nat → Nat → Int) (Q : List Vl → Sto → Prop) (x1 : Int) (x2 : Int) (x3 : Int) (x4 : Int) (x5 : Int) (x6 : Int) (x7 : Int) (x8 : Int) (x9 : Int) (y0 : Int) (y1 : Int) (hR : refs s)
    (h : G 2 120 109 41 [(3, 2), (1, x1), (1, x2), (1, x3), (1, x4), (1, x5), (1, x6), (1, wr (y1 + y0)), (1, wr (x8 + 1)), (1, x9)] [] (n, s) Q) :
    G 2 120 109 152 [(3, 2), (1, x1), (1, x2), (1, x3), (1, x4), (1, x5), (1, x6), (1, x7), (1, x8), (1, x9)] [(1, y0), (1, y1)] (n, s) Q := by
  refine G_go rfl rfl ?_
  refine G_go rfl rfl ?_
  show G 2 120 109 155 [(3, 2), (1, x1), (1, x2), (1, x3), (1, x4), (1, x5), (1, x6), (1, wr (y1 + y0)), (1, x8), (1, x9)] [] (n, s) Q
  refine G_go rfl rfl ?_
  refine G_go rfl rfl ?_
  exact h
theorem sb_X7_drawBelow_0 (n : Nat) (s : Nat → Nat → Int) (Q : List Vl → Sto → Prop) (a0 : Int) (hR : refs s)
    (h : (a0 ≠ 0) ∧ (Q [(1, xrem (xdiv (xand (wr ((wr ((s 120 32) * 1103515245)) + 12345)) 2147483647) 65536) a0)] (n, upS s 120 32 (wr ((wr ((s 120 32) * 1103515245)) + 12345))))) :
    G 120 140 177 0 [(3, 120), (1, a0)] [] (n, s) Q := by
  refine G_go rfl rfl ?_
  refine G_go rfl rfl ?_
  refine G_rd rfl rfl (by decide) ?_
  refine G_go rfl rfl ?_
  refine G_go rfl rfl ?_
  refine G_go rfl rfl ?_
  refine G_go rfl rfl ?_
  refine G_wr rfl rfl (by decide) ?_
  have hR := refs_up (a := 120) (k := 32) (x := wr ((wr ((s 120 32) * 1103515245)) + 12345)) hR rfl
  refine G_go rfl rfl ?_
  refine G_rdv (v := wr ((wr ((s 120 32) * 1103515245)) + 12345)) rfl rfl (by decide) (by simp [upS]) ?_
  refine G_go rfl rfl ?_
  refine G_go rfl rfl ?_
  refine G_go rfl rfl ?_
  refine G_go rfl rfl ?_
  refine G_go rfl rfl ?_
  obtain ⟨g1, h⟩ := h
  refine G_irem rfl g1 ?_
  exact G_ret rfl rfl h
theorem sb_X7_lots_0 (n : Nat) (s : Nat → Nat → Int) (Q : List Vl → Sto → Prop) (a0 : Int) (a1 : Int) (a2 : Int) (hR : refs s)
    (h : (1 ≤ a0 → (a0 ≤ 20 → (a2 < 0 → Q [(1, (-2))] (n, upS (upS s 120 10 0) 129 2 (wr ((s 129 2) + 1)))) ∧ (a2 ≥ 0 → (a2 > 1 → Q [(1, (-2))] (n, upS (upS s 120 10 0) 129 2 (wr ((s 129 2) + 1)))) ∧ (a2 ≤ 1 → (0 ≤ (upS (upS s 120 10 0) 120 32 a1) 120 0 ∧ (upS (upS s 120 10 0) 120 32 a1) 120 0 ≤ 6) ∧ (G 120 140 143 0 [(3, 120)] [] (n, upS (upS s 120 10 0) 120 32 a1) (fun r s1 => G 120 140 197 52 [(3, 120), (1, a0), (1, a1), (1, a2), (1, 0), (1, 0), (1, 0), (1, itr (smF ((upS (upS s 120 10 0) 120 32 a1) 127)) 0 ((upS (upS s 120 10 0) 120 32 a1) 120 0).toNat), (0, 0), (0, 0)] (r ++ []) s1 Q))))) ∧ (20 < a0 → Q [(1, (-6))] (n, upS (upS s 120 10 0) 129 6 (wr ((s 129 6) + 1))))) ∧ (a0 < 1 → Q [(1, (-4))] (n, upS (upS s 120 10 0) 129 4 (wr ((s 129 4) + 1))))) :
    G 120 140 197 0 [(3, 120), (1, a0), (1, a1), (1, a2), (0, 0), (0, 0), (0, 0), (0, 0), (0, 0), (0, 0)] [] (n, s) Q := by
  refine G_go rfl rfl ?_
  refine G_go rfl rfl ?_
  refine G_wr rfl rfl (by decide) ?_
  have hR := refs_up (a := 120) (k := 10) (x := 0) hR rfl
  refine G_go rfl rfl ?_
  refine G_go rfl rfl ?_
  refine G_go rfl rfl ?_
  refine G_call rfl rfl ?_
  refine G_go rfl rfl ?_
  refine G_go rfl rfl ?_
  refine G_ge rfl rfl (fun c1 => ?_) (fun c1 => ?_)
  · have h := h.1 c1
    refine G_go rfl rfl ?_
    refine G_go rfl rfl ?_
    refine G_le rfl rfl (fun c2 => ?_) (fun c2 => ?_)
    · have h := h.1 c2
      refine G_go rfl rfl ?_
      refine G_ret rfl rfl ?_
      refine G_go rfl rfl ?_
      refine G_go rfl rfl ?_
      refine G_call rfl rfl ?_
      refine G_go rfl rfl ?_
      refine G_brF rfl rfl rfl ?_
      refine G_go rfl rfl ?_
      refine G_go rfl rfl ?_
      refine G_go rfl rfl ?_
      refine G_go rfl rfl ?_
      refine G_go rfl rfl ?_
      refine G_call rfl rfl ?_
      refine G_go rfl rfl ?_
      refine G_go rfl rfl ?_
      refine G_go rfl rfl ?_
      refine G_lt rfl rfl (fun c3 => ?_) (fun c3 => ?_)
      · have c3 := xl_lt c3
        have h := h.1 c3
        refine G_go rfl rfl ?_
        refine G_ret rfl rfl ?_
        refine G_brF rfl rfl rfl ?_
        refine G_go rfl rfl ?_
        refine G_go rfl rfl ?_
        refine G_ret rfl rfl ?_
        refine G_go rfl rfl ?_
        show G 120 140 197 19 [(3, 120), (1, a0), (1, a1), (1, a2), (1, (-2)), (0, 0), (0, 0), (0, 0), (0, 0), (0, 0)] [] (n, upS s 120 10 0) Q
        refine G_go rfl rfl ?_
        refine G_brF rfl rfl rfl ?_
        refine G_go rfl rfl ?_
        refine G_go rfl rfl ?_
        refine G_call rfl rfl ?_
        refine G_go rfl rfl ?_
        refine G_rf rfl rfl (by decide) (hR 120 11 129 rfl) ?_
        refine G_go rfl rfl ?_
        refine G_go rfl rfl ?_
        refine G_go rfl rfl ?_
        refine G_ir (n := 7) rfl rfl (by decide) (by decide) (by decide) ?_
        refine G_go rfl rfl ?_
        refine G_go rfl rfl ?_
        refine G_iw (n := 7) rfl rfl (by decide) (by decide) (by decide) ?_
        have hR := refs_up (a := 129) (k := 2) (x := wr ((s 129 2) + 1)) hR rfl
        refine G_go rfl rfl ?_
        refine G_ret rfl rfl ?_
        exact G_ret rfl rfl h
      · have c3 := xl_ge c3
        have h := h.2 c3
        refine G_go rfl rfl ?_
        refine G_go rfl rfl ?_
        refine G_go rfl rfl ?_
        refine G_gt rfl rfl (fun c4 => ?_) (fun c4 => ?_)
        · have c4 := xl_gt c4
          have h := h.1 c4
          refine G_go rfl rfl ?_
          refine G_ret rfl rfl ?_
          refine G_brF rfl rfl rfl ?_
          refine G_go rfl rfl ?_
          refine G_go rfl rfl ?_
          refine G_ret rfl rfl ?_
          refine G_go rfl rfl ?_
          show G 120 140 197 19 [(3, 120), (1, a0), (1, a1), (1, a2), (1, (-2)), (0, 0), (0, 0), (0, 0), (0, 0), (0, 0)] [] (n, upS s 120 10 0) Q
          refine G_go rfl rfl ?_
          refine G_brF rfl rfl rfl ?_
          refine G_go rfl rfl ?_
          refine G_go rfl rfl ?_
          refine G_call rfl rfl ?_
          refine G_go rfl rfl ?_
          refine G_rf rfl rfl (by decide) (hR 120 11 129 rfl) ?_
          refine G_go rfl rfl ?_
          refine G_go rfl rfl ?_
          refine G_go rfl rfl ?_
          refine G_ir (n := 7) rfl rfl (by decide) (by decide) (by decide) ?_
          refine G_go rfl rfl ?_
          refine G_go rfl rfl ?_
          refine G_iw (n := 7) rfl rfl (by decide) (by decide) (by decide) ?_
          have hR := refs_up (a := 129) (k := 2) (x := wr ((s 129 2) + 1)) hR rfl
          refine G_go rfl rfl ?_
          refine G_ret rfl rfl ?_
          exact G_ret rfl rfl h
        · have c4 := xl_le c4
          have h := h.2 c4
          refine G_go rfl rfl ?_
          refine G_go rfl rfl ?_
          refine G_ret rfl rfl ?_
          refine G_brT rfl rfl rfl ?_
          refine G_go rfl rfl ?_
          refine G_ret rfl rfl ?_
          refine G_go rfl rfl ?_
          show G 120 140 197 19 [(3, 120), (1, a0), (1, a1), (1, a2), (1, 0), (0, 0), (0, 0), (0, 0), (0, 0), (0, 0)] [] (n, upS s 120 10 0) Q
          refine G_go rfl rfl ?_
          refine G_brT rfl rfl rfl ?_
          refine G_go rfl rfl ?_
          refine G_go rfl rfl ?_
          refine G_wr rfl rfl (by decide) ?_
          have hR := refs_up (a := 120) (k := 32) (x := a1) hR rfl
          refine G_go rfl rfl ?_
          refine G_go rfl rfl ?_
          show G 120 140 197 39 [(3, 120), (1, a0), (1, a1), (1, a2), (1, 0), (1, 0), (0, 0), (0, 0), (0, 0), (0, 0)] [] (n, upS (upS s 120 10 0) 120 32 a1) Q
          refine G_go rfl rfl ?_
          refine G_go rfl rfl ?_
          show G 120 140 197 42 [(3, 120), (1, a0), (1, a1), (1, a2), (1, 0), (1, 0), (1, 0), (0, 0), (0, 0), (0, 0)] [] (n, upS (upS s 120 10 0) 120 32 a1) Q
          refine G_go rfl rfl ?_
          refine G_call rfl rfl ?_
          obtain ⟨g5, h⟩ := h
          refine c_X7_allPages n _ _ hR g5 ?_
          refine G_go rfl rfl ?_
          show G 120 140 197 48 [(3, 120), (1, a0), (1, a1), (1, a2), (1, 0), (1, 0), (1, 0), (1, itr (smF ((upS (upS s 120 10 0) 120 32 a1) 127)) 0 ((upS (upS s 120 10 0) 120 32 a1) 120 0).toNat), (0, 0), (0, 0)] [] (n, upS (upS s 120 10 0) 120 32 a1) Q
          refine G_go rfl rfl ?_
          exact G_call rfl rfl h
    · have h := h.2 c2
      refine G_go rfl rfl ?_
      refine G_go rfl rfl ?_
      refine G_ret rfl rfl ?_
      refine G_go rfl rfl ?_
      refine G_go rfl rfl ?_
      refine G_call rfl rfl ?_
      refine G_go rfl rfl ?_
      refine G_brT rfl rfl rfl ?_
      refine G_go rfl rfl ?_
      refine G_ret rfl rfl ?_
      refine G_go rfl rfl ?_
      show G 120 140 197 19 [(3, 120), (1, a0), (1, a1), (1, a2), (1, (-6)), (0, 0), (0, 0), (0, 0), (0, 0), (0, 0)] [] (n, upS s 120 10 0) Q
      refine G_go rfl rfl ?_
      refine G_brF rfl rfl rfl ?_
      refine G_go rfl rfl ?_
      refine G_go rfl rfl ?_
      refine G_call rfl rfl ?_
      refine G_go rfl rfl ?_
      refine G_rf rfl rfl (by decide) (hR 120 11 129 rfl) ?_
      refine G_go rfl rfl ?_
      refine G_go rfl rfl ?_
      refine G_go rfl rfl ?_
      refine G_ir (n := 7) rfl rfl (by decide) (by decide) (by decide) ?_
      refine G_go rfl rfl ?_
      refine G_go rfl rfl ?_
      refine G_iw (n := 7) rfl rfl (by decide) (by decide) (by decide) ?_
      have hR := refs_up (a := 129) (k := 6) (x := wr ((s 129 6) + 1)) hR rfl
      refine G_go rfl rfl ?_
      refine G_ret rfl rfl ?_
      exact G_ret rfl rfl h
  · have h := h.2 c1
    refine G_go rfl rfl ?_
    refine G_go rfl rfl ?_
    refine G_ret rfl rfl ?_
    refine G_go rfl rfl ?_
    refine G_go rfl rfl ?_
    refine G_call rfl rfl ?_
    refine G_go rfl rfl ?_
    refine G_brT rfl rfl rfl ?_
    refine G_go rfl rfl ?_
    refine G_ret rfl rfl ?_
    refine G_go rfl rfl ?_
    show G 120 140 197 19 [(3, 120), (1, a0), (1, a1), (1, a2), (1, (-4)), (0, 0), (0, 0), (0, 0), (0, 0), (0, 0)] [] (n, upS s 120 10 0) Q
    refine G_go rfl rfl ?_
    refine G_brF rfl rfl rfl ?_
    refine G_go rfl rfl ?_
    refine G_go rfl rfl ?_
    refine G_call rfl rfl ?_
    refine G_go rfl rfl ?_
    refine G_rf rfl rfl (by decide) (hR 120 11 129 rfl) ?_
    refine G_go rfl rfl ?_
    refine G_go rfl rfl ?_
    refine G_go rfl rfl ?_
    refine G_ir (n := 7) rfl rfl (by decide) (by decide) (by decide) ?_
    refine G_go rfl rfl ?_
    refine G_go rfl rfl ?_
    refine G_iw (n := 7) rfl rfl (by decide) (by decide) (by decide) ?_
    have hR := refs_up (a := 129) (k := 4) (x := wr ((s 129 4) + 1)) hR rfl
    refine G_go rfl rfl ?_
    refine G_ret rfl rfl ?_
    exact G_ret rfl rfl h
theorem sb_X7_lots_52 (n : Nat) (s : Nat → Nat → Int) (Q : List Vl → Sto → Prop) (x1 : Int) (x2 : Int) (x3 : Int) (x4 : Int) (x5 : Int) (x6 : Int) (x7 : Int) (hR : refs s)
    (h : G 120 140 197 55 [(3, 120), (1, x1), (1, x2), (1, x3), (1, x4), (1, x5), (1, x6), (1, x7), (1, 0), (0, 0)] [] (n, s) Q) :
    G 120 140 197 52 [(3, 120), (1, x1), (1, x2), (1, x3), (1, x4), (1, x5), (1, x6), (1, x7), (0, 0), (0, 0)] [] (n, s) Q := by
  refine G_go rfl rfl ?_
  refine G_go rfl rfl ?_
  show G 120 140 197 55 [(3, 120), (1, x1), (1, x2), (1, x3), (1, x4), (1, x5), (1, x6), (1, x7), (1, 0), (0, 0)] [] (n, s) Q
  exact h
theorem sb_X7_lots_55 (n : Nat) (s : Nat → Nat → Int) (Q : List Vl → Sto → Prop) (x1 : Int) (x2 : Int) (x3 : Int) (x4 : Int) (x5 : Int) (x6 : Int) (x7 : Int) (x8 : Int) (w9 : Vl) (hR : refs s)
    (h : (x1 ≤ x8 → (x3 ≠ 0 → Q [(1, x6)] (n, s)) ∧ (x3 = 0 → Q [(1, x5)] (n, s))) ∧ (x8 < x1 → G 120 140 197 64 [(3, 120), (1, x1), (1, x2), (1, x3), (1, x4), (1, x5), (1, x6), (1, x7), (1, x8), (1, 0)] [] (n, s) Q)) :
    G 120 140 197 55 [(3, 120), (1, x1), (1, x2), (1, x3), (1, x4), (1, x5), (1, x6), (1, x7), (1, x8), w9] [] (n, s) Q := by
  refine G_go rfl rfl ?_
  refine G_go rfl rfl ?_
  refine G_ge rfl rfl (fun c1 => ?_) (fun c1 => ?_)
  · have h := h.1 c1
    refine G_go rfl rfl ?_
    refine G_ne rfl rfl (fun c2 => ?_) (fun c2 => ?_)
    · have h := h.1 c2
      refine G_go rfl rfl ?_
      exact G_ret rfl rfl h
    · have h := h.2 c2
      refine G_go rfl rfl ?_
      refine G_go rfl rfl ?_
      exact G_ret rfl rfl h
  · have h := h.2 c1
    refine G_go rfl rfl ?_
    refine G_go rfl rfl ?_
    show G 120 140 197 64 [(3, 120), (1, x1), (1, x2), (1, x3), (1, x4), (1, x5), (1, x6), (1, x7), (1, x8), (1, 0)] [] (n, s) Q
    exact h
theorem sb_X7_lots_64 (n : Nat) (s : Nat → Nat → Int) (Q : List Vl → Sto → Prop) (x1 : Int) (x2 : Int) (x3 : Int) (x4 : Int) (x5 : Int) (x6 : Int) (x7 : Int) (x8 : Int) (x9 : Int) (hR : refs s)
    (h : (s 120 0 ≤ x9 → G 120 140 168 0 [(3, 120), (1, 8), (0, 0), (0, 0), (0, 0)] [] (n, s) (fun r s1 => G 120 140 197 98 [(3, 120), (1, x1), (1, x2), (1, x3), (1, x4), (1, x5), (1, x6), (1, x7), (1, x8), (1, x9)] (r ++ []) s1 Q)) ∧ (x9 < s 120 0 → G 120 140 177 0 [(3, 120), (1, 60)] [] (n, s) (fun r s1 => G 120 140 197 85 [(3, 120), (1, x1), (1, x2), (1, x3), (1, x4), (1, x5), (1, x6), (1, x7), (1, x8), (1, x9)] (r ++ [(1, x9), (3, 123)]) s1 Q))) :
    G 120 140 197 64 [(3, 120), (1, x1), (1, x2), (1, x3), (1, x4), (1, x5), (1, x6), (1, x7), (1, x8), (1, x9)] [] (n, s) Q := by
  refine G_go rfl rfl ?_
  refine G_go rfl rfl ?_
  refine G_rd rfl rfl (by decide) ?_
  refine G_ge rfl rfl (fun c1 => ?_) (fun c1 => ?_)
  · have h := h.1 c1
    refine G_go rfl rfl ?_
    refine G_go rfl rfl ?_
    exact G_call rfl rfl h
  · have h := h.2 c1
    refine G_go rfl rfl ?_
    refine G_rf rfl rfl (by decide) (hR 120 3 123 rfl) ?_
    refine G_go rfl rfl ?_
    refine G_go rfl rfl ?_
    refine G_go rfl rfl ?_
    exact G_call rfl rfl h
theorem sb_X7_lots_85 (n : Nat) (s : Nat → Nat → Int) (Q : List Vl → Sto → Prop) (x1 : Int) (x2 : Int) (x3 : Int) (x4 : Int) (x5 : Int) (x6 : Int) (x7 : Int) (x8 : Int) (x9 : Int) (y0 : Int) (y1 : Int) (hR : refs s)
    (h : (0 ≤ y1 ∧ y1 < 6) ∧ (G 120 140 197 64 [(3, 120), (1, x1), (1, x2), (1, x3), (1, x4), (1, x5), (1, x6), (1, x7), (1, x8), (1, wr (x9 + 1))] [] (n, upS s 123 y1.toNat y0) Q)) :
    G 120 140 197 85 [(3, 120), (1, x1), (1, x2), (1, x3), (1, x4), (1, x5), (1, x6), (1, x7), (1, x8), (1, x9)] [(1, y0), (1, y1), (3, 123)] (n, s) Q := by
  obtain ⟨g1, h⟩ := h
  refine G_iw (n := 6) rfl rfl (by decide) (by decide) g1 ?_
  have hR := refs_up (a := 123) (k := y1.toNat) (x := y0) hR rfl
  refine G_go rfl rfl ?_
  refine G_go rfl rfl ?_
  exact h
theorem sb_X7_lots_98 (n : Nat) (s : Nat → Nat → Int) (Q : List Vl → Sto → Prop) (x1 : Int) (x2 : Int) (x3 : Int) (x4 : Int) (x5 : Int) (x6 : Int) (x7 : Int) (x8 : Int) (x9 : Int) (hR : refs s)
    (h : (0 ≤ s 120 0 ∧ s 120 0 ≤ 6) ∧ (G 120 140 197 113 [(3, 120), (1, x1), (1, x2), (1, x3), (1, x4), (1, wr (x5 + (wr ((itr (smF (s 127)) 0 (s 120 0).toNat) - x7)))), (1, x6), (1, x7), (1, x8), (1, 0)] [] (n, s) Q)) :
    G 120 140 197 98 [(3, 120), (1, x1), (1, x2), (1, x3), (1, x4), (1, x5), (1, x6), (1, x7), (1, x8), (1, x9)] [] (n, s) Q := by
  refine G_go rfl rfl ?_
  refine G_go rfl rfl ?_
  refine G_call rfl rfl ?_
  obtain ⟨g1, h⟩ := h
  refine c_X7_allPages n _ _ hR g1 ?_
  refine G_go rfl rfl ?_
  refine G_go rfl rfl ?_
  refine G_go rfl rfl ?_
  refine G_go rfl rfl ?_
  show G 120 140 197 110 [(3, 120), (1, x1), (1, x2), (1, x3), (1, x4), (1, wr (x5 + (wr ((itr (smF (s 127)) 0 (s 120 0).toNat) - x7)))), (1, x6), (1, x7), (1, x8), (1, x9)] [] (n, s) Q
  refine G_go rfl rfl ?_
  refine G_go rfl rfl ?_
  show G 120 140 197 113 [(3, 120), (1, x1), (1, x2), (1, x3), (1, x4), (1, wr (x5 + (wr ((itr (smF (s 127)) 0 (s 120 0).toNat) - x7)))), (1, x6), (1, x7), (1, x8), (1, 0)] [] (n, s) Q
  exact h
theorem sb_X7_lots_113 (n : Nat) (s : Nat → Nat → Int) (Q : List Vl → Sto → Prop) (x1 : Int) (x2 : Int) (x3 : Int) (x4 : Int) (x5 : Int) (x6 : Int) (x7 : Int) (x8 : Int) (x9 : Int) (hR : refs s)
    (h : (s 120 0 ≤ x9 → G 120 140 140 0 [(3, 120)] [] (n, s) (fun r s1 => G 120 140 197 152 [(3, 120), (1, x1), (1, x2), (1, x3), (1, x4), (1, x5), (1, x6), (1, x7), (1, x8), (1, x9)] (r ++ []) s1 Q)) ∧ (x9 < s 120 0 → (0 ≤ x9 ∧ x9 < 6) ∧ ((s 125 x9.toNat ≠ 0 → G 120 140 197 113 [(3, 120), (1, x1), (1, x2), (1, x3), (1, x4), (1, x5), (1, wr (x6 + 0)), (1, x7), (1, x8), (1, wr (x9 + 1))] [] (n, s) Q) ∧ (s 125 x9.toNat = 0 → G 120 140 197 113 [(3, 120), (1, x1), (1, x2), (1, x3), (1, x4), (1, x5), (1, wr (x6 + 1)), (1, x7), (1, x8), (1, wr (x9 + 1))] [] (n, s) Q)))) :
    G 120 140 197 113 [(3, 120), (1, x1), (1, x2), (1, x3), (1, x4), (1, x5), (1, x6), (1, x7), (1, x8), (1, x9)] [] (n, s) Q := by
  refine G_go rfl rfl ?_
  refine G_go rfl rfl ?_
  refine G_rd rfl rfl (by decide) ?_
  refine G_ge rfl rfl (fun c1 => ?_) (fun c1 => ?_)
  · have h := h.1 c1
    refine G_go rfl rfl ?_
    exact G_call rfl rfl h
  · have h := h.2 c1
    refine G_go rfl rfl ?_
    refine G_go rfl rfl ?_
    refine G_rf rfl rfl (by decide) (hR 120 5 125 rfl) ?_
    refine G_go rfl rfl ?_
    obtain ⟨g2, h⟩ := h
    refine G_ir (n := 6) rfl rfl (by decide) (by decide) g2 ?_
    refine G_ne rfl rfl (fun c3 => ?_) (fun c3 => ?_)
    · have h := h.1 c3
      refine G_go rfl rfl ?_
      refine G_go rfl rfl ?_
      refine G_go rfl rfl ?_
      show G 120 140 197 142 [(3, 120), (1, x1), (1, x2), (1, x3), (1, x4), (1, x5), (1, wr (x6 + 0)), (1, x7), (1, x8), (1, x9)] [] (n, s) Q
      refine G_go rfl rfl ?_
      refine G_go rfl rfl ?_
      exact h
    · have h := h.2 c3
      refine G_go rfl rfl ?_
      refine G_go rfl rfl ?_
      refine G_go rfl rfl ?_
      refine G_go rfl rfl ?_
      show G 120 140 197 142 [(3, 120), (1, x1), (1, x2), (1, x3), (1, x4), (1, x5), (1, wr (x6 + 1)), (1, x7), (1, x8), (1, x9)] [] (n, s) Q
      refine G_go rfl rfl ?_
      refine G_go rfl rfl ?_
      exact h
theorem sb_X7_lots_152 (n : Nat) (s : Nat → Nat → Int) (Q : List Vl → Sto → Prop) (x1 : Int) (x2 : Int) (x3 : Int) (x4 : Int) (x5 : Int) (x6 : Int) (x7 : Int) (x8 : Int) (x9 : Int) (hR : refs s)
    (h : G 120 140 197 55 [(3, 120), (1, x1), (1, x2), (1, x3), (1, x4), (1, x5), (1, x6), (1, x7), (1, wr (x8 + 1)), (1, x9)] [] (n, s) Q) :
    G 120 140 197 152 [(3, 120), (1, x1), (1, x2), (1, x3), (1, x4), (1, x5), (1, x6), (1, x7), (1, x8), (1, x9)] [] (n, s) Q := by
  refine G_go rfl rfl ?_
  refine G_go rfl rfl ?_
  exact h
/-! LOTS. -/
theorem xand_max (x : Int) : 0 ≤ xand x 2147483647 ∧ xand x 2147483647 < 2147483648 := by
  unfold xand iB
  show 0 ≤ (Int32.ofInt x &&& Int32.ofInt 2147483647).toBitVec.toInt ∧ (Int32.ofInt x &&& Int32.ofInt 2147483647).toBitVec.toInt < 2147483648
  rw [Int32.toBitVec_and]
  have h : ((Int32.ofInt x).toBitVec &&& (Int32.ofInt 2147483647).toBitVec).toNat ≤ 2147483647 := by
    rw [BitVec.toNat_and]
    exact Nat.le_trans Nat.and_le_right (by decide)
  rw [BitVec.toInt_eq_toNat_of_lt (by omega)]
  omega
def sdV (z : Int) : Int := wr (wr (z * 1103515245) + 12345)
def drV (z : Int) : Int := xrem (xdiv (xand z 2147483647) 65536) 60
theorem drV_rg (z : Int) : 0 ≤ drV z ∧ drV z ≤ 999 := by
  have h := xand_max z
  unfold drV
  rw [xdiv_nn h.1 (by omega) (by decide) (by decide), xrem_nn (by omega) (by omega) (by decide) (by decide)]
  omega
def dvF (k : Nat) (b : Int × (Nat → Nat → Int)) : Int × (Nat → Nat → Int) := (sdV b.1, upS b.2 2 k (drV (sdV b.1)))
def dvN (m : Nat) (z : Int) (V : Nat → Nat → Int) : Int × (Nat → Nat → Int) := itr dvF (z, V) m
def lpV (m : Nat) (V W : Nat → Nat → Int) : Int := wr (itr (smF (W 6)) 0 (m : Int).toNat - itr (smF (V 6)) 0 (m : Int).toNat)
def loF (m : Nat) (h : Int) (V : Nat → Nat → Int) (_ : Nat) (b : Int × Int × Int) : Int × Int × Int := ((dvN m b.1 V).1, wr (b.2.1 + lpV m V (ntV m 8 h (dvN m b.1 V).2)), wr (b.2.2 + itr (drF (ntV m 8 h (dvN m b.1 V).2 4)) 0 (m : Int).toNat))
theorem dr_cnt {r : Nat → Int} : ∀ N : Nat, N ≤ 6 → 0 ≤ itr (drF r) 0 N ∧ itr (drF r) 0 N ≤ N
  | 0, _ => ⟨Int.le_refl 0, Int.le_refl 0⟩
  | N + 1, hN => by
    have ih := dr_cnt (r := r) N (by omega)
    show 0 ≤ drF r N (itr (drF r) 0 N) ∧ drF r N (itr (drF r) 0 N) ≤ ((N + 1 : Nat) : Int)
    generalize itr (drF r) 0 N = c at *
    unfold drF
    split
    · rw [wr_id (by omega) (by omega)]
      omega
    · omega
def drR (r : Nat → Int) (k : Nat) (b : Int) : Int := if r k = 0 then wr (b + 1) else wr (b + 0)
theorem dr_acc {r : Nat → Int} {x : Int} (hx : 0 ≤ x ∧ x ≤ 1000) : ∀ N : Nat, N ≤ 6 → itr (drR r) x N = x + itr (drF r) 0 N
  | 0, _ => (Int.add_zero x).symm
  | N + 1, hN => by
    have ih := dr_acc (r := r) hx N (by omega)
    have c := dr_cnt (r := r) N (by omega)
    show drR r N (itr (drR r) x N) = x + drF r N (itr (drF r) 0 N)
    rw [ih]
    generalize itr (drF r) 0 N = c0 at *
    unfold drR drF
    split
    · rw [wr_id (by omega) (by omega), wr_id (by omega) (by omega)]
      omega
    · rw [wr_id (by omega) (by omega)]
      omega
theorem dr_row {r q : Nat → Int} {np : Int} (e : ∀ p : Nat, (p : Int) < np → r p = q p) : itr (drF r) 0 np.toNat = itr (drF q) 0 np.toNat := itr_ext 0 _ (fun k b hk => by unfold drF; rw [e k (by omega)])
def loI (k : Nat) (b : Int × Int × Int) : Prop := 0 ≤ b.2.2 ∧ b.2.2 ≤ 6 * (k : Int)
theorem loF_in {m : Nat} {h : Int} {V : Nat → Nat → Int} (hm : m ≤ 6) {k : Nat} {b : Int × Int × Int} (hk : k ≤ 20) (hb : loI k b) : loI (k + 1) (loF m h V k b) := by
  unfold loI loF at *
  dsimp only
  have c := dr_cnt (r := ntV m 8 h (dvN m b.1 V).2 4) (m : Int).toNat (by omega)
  rw [wr_id (by omega) (by omega)]
  omega
def loR (m N : Nat) (h z : Int) (V : Nat → Nat → Int) : Int × Int × Int := itr (loF m h V) (z, 0, 0) N
def loV (m N : Nat) (h z a : Int) (V : Nat → Nat → Int) : Int := if a = 0 then (loR m N h z V).2.1 else (loR m N h z V).2.2
theorem cl_lots (n : Nat) (s t : Nat → Nat → Int) (h : REL s t) (m N : Nat) (hm : t 120 0 = (m : Int)) (hN : N ≤ 20) (z a x4 : Int) (Q : List Vl → Sto → Prop) (hQ : ∀ s1, refs s1 → frT 13 s s1 → Q [(1, loV m N (t 120 9) z a (vw 121 t))] (n, s1)) : G 2 120 109 41 [(3, 2), (1, (N : Int)), (1, z), (1, a), (1, x4), (1, z), (1, 0), (1, 0), (1, 0), (0, 0)] [] (n, s) Q := by
  obtain ⟨hn1, hn2, hn3, hn4⟩ := h.np
  have hm6 : m ≤ 6 := by omega
  have o := h.o
  rw [hm] at o
  refine G_up N (fun k b => ∀ w s2, refs s2 → frT 13 s s2 → G 2 120 109 41 [(3, 2), (1, (N : Int)), (1, z), (1, a), (1, x4), (1, b.1), (1, b.2.1), (1, b.2.2), (1, (k : Int)), w] [] (n, s2) Q) (loF m (t 120 9) (vw 121 t)) (fun _ _ => True) (z, 0, 0) trivial (fun _ _ _ _ => trivial) (fun k b hk _ hg w s2 r2 f2 => ?_) (fun _ w s2 r2 f2 => ?_) (0, 0) s h.1 frT_rfl
  · rw [← wr_s hk (by omega)] at hg
    refine sb_X6_lots_41 n s2 Q _ _ _ _ _ _ _ _ w r2 ⟨fun e => by omega, fun _ => ?_⟩
    refine c_mind n s2 t (REL_m1 h r2 f2) _ (fun s3 r3 f3 u3 => ?_)
    rw [hm] at u3
    refine sb_X6_lots_58 n s3 Q _ _ _ _ _ _ _ _ w r3 ?_
    refine G_up m (fun j c => ∀ s4, refs s4 → (frT 13 s3 s4 ∧ okT (m : Int) c.2 ∧ twC 13 s4 m (t 120 9) c.2) → G 2 120 109 61 [(3, 2), (1, (N : Int)), (1, z), (1, a), (1, x4), (1, c.1), (1, b.2.1), (1, b.2.2), (1, (k : Int)), (1, (j : Int))] [] (n, s4) Q) dvF (fun _ _ => True) (b.1, vw 121 t) trivial (fun _ _ _ _ => trivial) (fun j c hj _ hg2 s4 r4 hI => ?_) (fun _ s4 r4 hI => ?_) s3 r3 ⟨frT_rfl, o, u3⟩
    · obtain ⟨f4, o4, u4⟩ := hI
      have e9 : s4 13 9 = m := u4.1
      have dg := drV_rg (sdV c.1)
      rw [← wr_s hj (by omega)] at hg2
      refine sb_X6_lots_61 n s4 Q _ _ _ _ _ _ _ _ j r4 ⟨fun e => by omega, fun _ => ⟨by omega, ?_⟩⟩
      rw [Int.toNat_natCast]
      exact hg2 _ (refs_up r4 rfl) ⟨frT_trans f4 (frT_up (by decide) (by decide)), ⟨o4.1, okV_set o4.2 (Or.inr (Or.inr (Or.inl ⟨rfl, dg⟩)))⟩, twC_set (j := 2) u4 (by decide)⟩
    · obtain ⟨f4, o4, u4⟩ := hI
      have e9 : s4 13 9 = m := u4.1
      have eD : itr dvF (b.1, vw 121 t) m = dvN m b.1 (vw 121 t) := rfl
      rw [eD] at o4 u4
      refine sb_X6_lots_61 n s4 Q _ _ _ _ _ _ _ _ m r4 ⟨fun _ => ?_, fun e => by omega⟩
      rw [eD]
      refine c_passNight_13 n s4 _ m _ _ 8 (by decide) r4 o4 u4 (fun s5 r5 f5 u5 => ?_)
      have f := frT_trans f2 (frT_trans f3 (frT_trans f4 f5))
      have e95 : s5 13 9 = (m : Int) := u5.1
      have e35 : s5 3 9 = (m : Int) := by rw [f 3 (by omega), hn1, hm]
      have f10 : s5 10 = s 10 := f 10 (by omega)
      unfold loF at hg
      dsimp only at hg
      generalize ntV m 8 (t 120 9) (dvN m b.1 (vw 121 t)).2 = W at *
      have e6 : ∀ p : Nat, (p : Int) < m → s5 20 p = W 6 p := fun p hp => (u5.2.2 p hp).2.2.2.2.2.2.1
      have e4 : ∀ p : Nat, (p : Int) < m → s5 18 p = W 4 p := fun p hp => (u5.2.2 p hp).2.2.2.2.1
      have g6 : ∀ p : Nat, (p : Int) < m → s 10 p = vw 121 t 6 p := fun p hp => (h.s p (by omega)).2.2.2.2.2.2.1
      refine sb_X6_lots_123 n s5 Q _ _ _ _ _ _ _ _ _ r5 ?_
      rw [e95, e35, f10, itr_row e6, itr_row g6]
      refine ⟨by omega, by omega, ?_⟩
      refine c_howManyDark_13 n s5 _ r5 (by rw [e95]; omega) ?_
      rw [e95, dr_row e4]
      refine sb_X6_lots_152 n s5 Q _ _ _ _ _ _ _ _ _ _ _ r5 ?_
      exact hg _ s5 r5 f
  · have q := hQ s2 r2 f2
    unfold loV loR at q
    refine sb_X6_lots_41 n s2 Q _ _ _ _ _ _ _ _ w r2 ⟨fun _ => ⟨fun c => ?_, fun c => ?_⟩, fun e => by omega⟩
    · rw [if_neg c] at q
      exact q
    · rw [if_pos c] at q
      exact q
theorem rl_lots (n : Nat) (t0 t : Nat → Nat → Int) (np h : Int) (V : Nat → Nat → Int) (hR : refs t0) (m N : Nat) (hm : np = (m : Int)) (ok : okT np V) (ht : twR t0 np h V) (hN : N ≤ 20) (z a x4 x7 : Int) (e32 : t0 120 32 = z) (e7 : x7 = itr (smF (V 6)) 0 (m : Int).toNat) (Q : List Vl → Sto → Prop) (hQ : ∀ t1, refs t1 → frX 135 (upS t0 120 32 (t1 120 32)) t1 → twR t1 np h V → Q [(1, loV m N h z a V)] (n, t1)) : G 120 140 143 0 [(3, 120)] [] (n, t0) (fun r s1 => G 120 140 197 52 [(3, 120), (1, (N : Int)), (1, z), (1, a), (1, x4), (1, 0), (1, 0), (1, x7), (0, 0), (0, 0)] (r ++ []) s1 Q) := by
  subst hm
  have hn := ok.1
  have hm6 : m ≤ 6 := by omega
  have fr32 : ∀ (t1 t2 : Nat → Nat → Int), frX 135 (upS t0 120 32 (t1 120 32)) t1 → ((∀ c, 128 < c → c ≠ 130 → c ≠ 135 → t2 c = t1 c) ∧ ∀ k, k ≠ 0 → k ≠ 9 → k ≠ 24 → k ≠ 25 → k ≠ 26 → k ≠ 32 → t2 120 k = t1 120 k) → frX 135 (upS t0 120 32 (t2 120 32)) t2 := fun t1 t2 f g => ⟨fun c h1 h2 h3 => by rw [g.1 c h1 h2 h3, f.1 c h1 h2 h3, upS_row (by omega), upS_row (by omega)], fun k h1 h2 h3 h4 h5 => by
    by_cases c : k = 32
    · subst c
      rw [upS_eq]
    · rw [g.2 k h1 h2 h3 h4 h5 c, f.2 k h1 h2 h3 h4 h5, upS_2 c, upS_2 c]⟩
  have frA : ∀ {X : Nat} {t1 t2 : Nat → Nat → Int}, frX 135 (upS t0 120 32 (t1 120 32)) t1 → frX 135 t1 t2 → frX 135 (upS t0 120 32 (t2 120 32)) t2 := fun {X t1 t2} f g => fr32 t1 t2 f ⟨g.1, fun k h1 h2 h3 h4 h5 _ => g.2 k h1 h2 h3 h4 h5⟩
  refine c_think n t0 _ _ _ _ hR hn.2 ht (fun t1 r1 f1 u1 k1 => ?_)
  have e1 : t1 120 32 = z := by rw [f1.2 32 (by decide) (by decide) (by decide) (by decide) (by decide), e32]
  refine sb_X7_lots_52 n t1 Q _ _ _ _ _ _ _ r1 ?_
  have f1' : frX 135 (upS t0 120 32 (t1 120 32)) t1 := by
    rw [e1, ← e32, upS_self]
    exact f1
  refine G_up N (fun k b => ∀ w t2, refs t2 → (t2 120 32 = b.1 ∧ frX 135 (upS t0 120 32 (t2 120 32)) t2 ∧ twR t2 m h V ∧ twK 135 0 t2 m h V) → G 120 140 197 55 [(3, 120), (1, (N : Int)), (1, z), (1, a), (1, x4), (1, b.2.1), (1, b.2.2), (1, x7), (1, (k : Int)), w] [] (n, t2) Q) (loF m h V) loI (z, 0, 0) ⟨Int.le_refl 0, by show (0 : Int) ≤ 6 * ((0 : Nat) : Int); decide⟩ (fun k b hk hb => loF_in hm6 (by omega) hb) (fun k b hk hb hg w t2 r2 hI => ?_) (fun _ w t2 r2 hI => ?_) (0, 0) t1 r1 ⟨e1, f1', u1, k1⟩
  · obtain ⟨e2, f2, u2, k2⟩ := hI
    rw [← wr_s hk (by omega)] at hg
    refine sb_X7_lots_55 n t2 Q _ _ _ _ _ _ _ _ w r2 ⟨fun e => by omega, fun _ => ?_⟩
    refine G_up m (fun j c => ∀ t3, refs t3 → (t3 120 32 = c.1 ∧ frX 135 (upS t0 120 32 (t3 120 32)) t3 ∧ okT (m : Int) c.2 ∧ twR t3 m h c.2 ∧ twK 135 0 t3 m h V) → G 120 140 197 64 [(3, 120), (1, (N : Int)), (1, z), (1, a), (1, x4), (1, b.2.1), (1, b.2.2), (1, x7), (1, (k : Int)), (1, (j : Int))] [] (n, t3) Q) dvF (fun _ _ => True) (b.1, V) trivial (fun _ _ _ _ => trivial) (fun j c hj _ hg2 t3 r3 hI => ?_) (fun _ t3 r3 hI => ?_) t2 r2 ⟨e2, f2, ok, u2, k2⟩
    · obtain ⟨e3, f3, o3, u3, k3⟩ := hI
      have e9 : t3 120 0 = m := u3.1
      have dg := drV_rg (sdV c.1)
      rw [← wr_s hj (by omega)] at hg2
      refine sb_X7_lots_64 n t3 Q _ _ _ _ _ _ _ _ j r3 ⟨fun e => by omega, fun _ => ?_⟩
      refine sb_X7_drawBelow_0 n t3 _ 60 r3 ⟨by decide, ?_⟩
      rw [e3]
      refine sb_X7_lots_85 n _ Q _ _ _ _ _ _ _ _ j _ j (refs_up r3 rfl) ⟨by omega, ?_⟩
      rw [Int.toNat_natCast]
      have f4 : frX 135 (upS t0 120 32 (upS (upS t3 120 32 (sdV c.1)) 123 j (drV (sdV c.1)) 120 32)) (upS (upS t3 120 32 (sdV c.1)) 123 j (drV (sdV c.1))) := fr32 t3 _ f3 ⟨fun b h1 h2 h3 => by rw [upS_row (by omega), upS_row (by omega)], fun i h1 h2 h3 h4 h5 h6 => by rw [upS_1 (by decide), upS_2 h6]⟩
      have u4 : twR (upS t3 120 32 (sdV c.1)) m h c.2 := ⟨by rw [upS_2 (by decide)]; exact u3.1, by rw [upS_2 (by decide)]; exact u3.2.1, fun i hi p hp => by rw [upS_row (by omega)]; exact u3.2.2 i hi p hp⟩
      exact hg2 _ (refs_up (refs_up r3 rfl) rfl) ⟨by rw [upS_1 (by decide), upS_eq]; rfl, f4, ⟨o3.1, okV_set o3.2 (Or.inr (Or.inr (Or.inl ⟨rfl, dg⟩)))⟩, twR_set (j := 2) u4, twK_fr k3 (by rw [upS_row (by decide), upS_row (by decide)])⟩
    · obtain ⟨e3, f3, o3, u3, k3⟩ := hI
      have e9 : t3 120 0 = m := u3.1
      have eD : itr dvF (b.1, V) m = dvN m b.1 V := rfl
      rw [eD] at e3 o3 u3
      refine sb_X7_lots_64 n t3 Q _ _ _ _ _ _ _ _ m r3 ⟨fun _ => ?_, fun e => by omega⟩
      refine c_goNight n t3 _ m _ _ 8 (by decide) r3 o3 u3 (fun t4 r4 f4 u4 => ?_)
      have e94 : t4 120 0 = (m : Int) := u4.1
      have e4s : t4 120 32 = (dvN m b.1 V).1 := by rw [f4.2 32 (by decide) (by decide) (by decide) (by decide) (by decide), e3]
      have f4' := frA (X := 0) f3 (frX_w f4)
      have k4 := twK_fr k3 (f4.1 135 (by decide) (by decide) (by decide))
      unfold loF at hg
      dsimp only at hg
      generalize ntV m 8 h (dvN m b.1 V).2 = W at *
      have e6 : ∀ p : Nat, (p : Int) < m → t4 127 p = W 6 p := fun p hp => u4.2.2 6 (by decide) p hp
      refine sb_X7_lots_98 n t4 Q _ _ _ _ _ _ _ _ _ r4 ?_
      rw [e94, itr_row e6, e7]
      refine ⟨by omega, ?_⟩
      unfold loI at hb
      have acc := dr_acc (r := W 4) (x := b.2.2) (by omega) m hm6
      have cnt := dr_cnt (r := W 4) m hm6
      rw [Int.toNat_natCast, wr_id (x := b.2.2 + itr (drF (W 4)) 0 m) (by omega) (by omega), ← acc] at hg
      refine G_up m (fun j c => G 120 140 197 113 [(3, 120), (1, (N : Int)), (1, z), (1, a), (1, x4), (1, wr (b.2.1 + lpV m V W)), (1, c), (1, itr (smF (V 6)) 0 (m : Int).toNat), (1, (k : Int)), (1, (j : Int))] [] (n, t4) Q) (drR (W 4)) (fun _ _ => True) b.2.2 trivial (fun _ _ _ _ => trivial) (fun j c hj _ hg2 => ?_) (fun _ => ?_)
      · rw [← wr_s hj (by omega)] at hg2
        have e4 : t4 125 j = W 4 j := u4.2.2 4 (by decide) j (by omega)
        refine sb_X7_lots_113 n t4 Q _ _ _ _ _ _ _ _ j r4 ?_
        rw [show ((j : Nat) : Int).toNat = j by omega, e4]
        unfold drR at hg2
        refine ⟨fun e => by omega, fun _ => ⟨by omega, fun d => ?_, fun d => ?_⟩⟩
        · rw [if_neg d] at hg2
          exact hg2
        · rw [if_pos d] at hg2
          exact hg2
      · refine sb_X7_lots_113 n t4 Q _ _ _ _ _ _ _ _ m r4 ⟨fun _ => ?_, fun e => by omega⟩
        refine c_again n t4 _ _ _ _ r4 hn.2 k4 (fun t5 r5 f5 u5 => ?_)
        have e5s : t5 120 32 = (dvN m b.1 V).1 := by rw [f5.2 32 (by decide) (by decide) (by decide) (by decide) (by decide), e4s]
        refine sb_X7_lots_152 n t5 Q _ _ _ _ _ _ _ _ _ r5 ?_
        rw [e7] at hg
        exact hg _ t5 r5 ⟨e5s, frA (X := 0) f4' (frX_w f5), u5, twK_fr k4 (f5.1 135 (by decide) (by decide) (by decide))⟩
  · obtain ⟨e2, f2, u2, k2⟩ := hI
    have q := hQ t2 r2 f2 u2
    unfold loV loR at q
    refine sb_X7_lots_55 n t2 Q _ _ _ _ _ _ _ _ w r2 ⟨fun _ => ⟨fun c => ?_, fun c => ?_⟩, fun e => by omega⟩
    · rw [if_neg c] at q
      exact q
    · rw [if_pos c] at q
      exact q
theorem post_lots {n : Nat} {s t s1 t1 : Nat → Nat → Int} {v : Vl} {y : Int} (h : REL s t) (r1 : refs s1) (f : frT 13 s s1) (r2 : refs t1) (x : frX 135 (upS t 120 32 y) t1) (w : twR t1 (t 120 0) (t 120 9) (vw 121 t)) : Post n [v] (n, s1) [v] (n, t1) := by
  refine ⟨v, rfl, rfl, ?_, rfl, rfl⟩
  have h2 : REL s (upS t 120 32 y) := ⟨h.1, refs_up h.2.1 rfl, rlT_ext h.n rfl rfl rfl rfl (fun _ _ _ _ => rfl) (fun j hj p _ => by unfold vw; rw [upS_row (by omega)]), relI_fr h.i rfl rfl rfl (fun _ _ _ => rfl) rfl rfl, relH_fr h.h rfl rfl (fun _ _ _ => rfl) rfl rfl, relL_fr h.l rfl rfl rfl rfl, relR_fr h.r rfl rfl rfl rfl, relF_fr h.f rfl rfl⟩
  refine REL_mind h2 r1 f r2 x ⟨w.1, w.2.1, fun j hj p hp => ?_⟩
  refine (w.2.2 j hj p hp).trans ?_
  unfold vw
  rw [upS_row (by omega)]
theorem op_lots (n : Nat) (s t : Nat → Nat → Int) (h : REL s t) (a0 : Int) (a1 : Int) (a2 : Int) : G 2 120 109 0 [(3, 2), (1, a0), (1, a1), (1, a2), (0, 0), (0, 0), (0, 0), (0, 0), (0, 0), (0, 0)] [] (n, s) (fun r s1 => G 120 140 197 0 [(3, 120), (1, a0), (1, a1), (1, a2), (0, 0), (0, 0), (0, 0), (0, 0), (0, 0), (0, 0)] [] (n, t) (Post n r s1)) := by
  obtain ⟨hn1, hn2, hn3, hn4⟩ := h.np
  have hw : wr (t 120 0 - 1) = t 120 0 - 1 := wr_id (by omega) (by omega)
  have h1 : ∀ z : Int, 0 ≤ z → z < t 120 0 → ∃ p : Nat, z = p ∧ (p : Int) < t 120 0 := fun z h1 h2 => ⟨z.toNat, by omega, by omega⟩
  have h2 : ∀ z : Int, 0 ≤ z → z ≤ 99 → ∃ p : Nat, z = p ∧ p ≤ 99 := fun z h1 h2 => ⟨z.toNat, by omega, by omega⟩
  obtain ⟨m, hm⟩ : ∃ m : Nat, t 120 0 = (m : Int) := ⟨(t 120 0).toNat, by omega⟩
  refine sb_X6_lots_0 n s _ a0 a1 a2 h.1 ?_
  repeat' first | with_reducible refine And.intro ?_ ?_ | intro _
  all_goals first | omega | skip
  all_goals try (obtain ⟨N, rfl, hN⟩ := h2 a0 (by omega) (by omega); refine cl_lots n s _ h.up m N hm (by omega) a1 a2 _ _ (fun s1 r1 f1 => ?_))
  all_goals refine sb_X7_lots_0 n t _ _ _ _ h.2.1 ?_
  all_goals repeat' first | with_reducible refine And.intro ?_ ?_ | intro _
  all_goals first | omega | exact post_ref h _ (by decide) | exact hn3.1 | exact hn3.2 | skip
  refine rl_lots n _ (upS t 120 10 0) (t 120 0) (t 120 9) (vw 121 (upS t 120 10 0)) (refs_up h.up.2.1 rfl) m N hm h.up.o ⟨rfl, rfl, fun j hj p _ => by rw [upS_row (by omega)]; rfl⟩ (by omega) a1 a2 _ _ rfl (by rw [← hm]; rfl) _ (fun t1 r2 f2 w => ?_)
  rw [upS_again] at f2
  exact post_lots h.up r1 f1 r2 f2 w

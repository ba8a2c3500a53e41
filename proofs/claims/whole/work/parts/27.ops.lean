/-! BOTH -/
theorem sb_X6_both_0 (n : Nat) (s : Nat → Nat → Int) (Q : List Vl → Sto → Prop) (a0 : Int) (a1 : Int) (a2 : Int) (hR : refs s)
    (h : (a0 < 0 → (a2 < 0 → Q [(1, (-1))] (n, upS s 119 1 (wr ((s 119 1) + 1)))) ∧ (0 ≤ a2 → (a2 ≤ 1 → Q [(1, (-1))] (n, upS s 119 1 (wr ((s 119 1) + 1)))) ∧ (1 < a2 → Q [(1, (-1))] (n, upS s 119 1 (wr ((s 119 1) + 1)))))) ∧ (0 ≤ a0 → (s 3 9 ≤ a0 → (a2 < 0 → Q [(1, (-1))] (n, upS s 119 1 (wr ((s 119 1) + 1)))) ∧ (0 ≤ a2 → (a2 ≤ 1 → Q [(1, (-1))] (n, upS s 119 1 (wr ((s 119 1) + 1)))) ∧ (1 < a2 → Q [(1, (-1))] (n, upS s 119 1 (wr ((s 119 1) + 1)))))) ∧ (a0 < s 3 9 → (a1 < 0 → (a2 < 0 → Q [(1, (-1))] (n, upS s 119 1 (wr ((s 119 1) + 1)))) ∧ (0 ≤ a2 → (a2 ≤ 1 → Q [(1, (-1))] (n, upS s 119 1 (wr ((s 119 1) + 1)))) ∧ (1 < a2 → Q [(1, (-1))] (n, upS s 119 1 (wr ((s 119 1) + 1)))))) ∧ (0 ≤ a1 → (s 3 9 ≤ a1 → (a2 < 0 → Q [(1, (-1))] (n, upS s 119 1 (wr ((s 119 1) + 1)))) ∧ (0 ≤ a2 → (a2 ≤ 1 → Q [(1, (-1))] (n, upS s 119 1 (wr ((s 119 1) + 1)))) ∧ (1 < a2 → Q [(1, (-1))] (n, upS s 119 1 (wr ((s 119 1) + 1)))))) ∧ (a1 < s 3 9 → (a0 = a1 → (a2 < 0 → Q [(1, (-1))] (n, upS s 119 1 (wr ((s 119 1) + 1)))) ∧ (0 ≤ a2 → (a2 ≤ 1 → Q [(1, (-1))] (n, upS s 119 1 (wr ((s 119 1) + 1)))) ∧ (1 < a2 → Q [(1, (-1))] (n, upS s 119 1 (wr ((s 119 1) + 1)))))) ∧ (a0 ≠ a1 → (a2 < 0 → Q [(1, (-2))] (n, upS s 119 2 (wr ((s 119 2) + 1)))) ∧ (0 ≤ a2 → (a2 ≤ 1 → (0 ≤ a0 ∧ a0 < 6) ∧ (G 2 120 74 48 [(3, 2), (1, a0), (1, a1), (1, a2), (1, 0), (1, s 6 a0.toNat), (1, 0), (1, (-1)), (1, 0), (0, 0), (0, 0)] [] (n, s) Q)) ∧ (1 < a2 → Q [(1, (-2))] (n, upS s 119 2 (wr ((s 119 2) + 1))))))))))) :
    G 2 120 74 0 [(3, 2), (1, a0), (1, a1), (1, a2), (0, 0), (0, 0), (0, 0), (0, 0), (0, 0), (0, 0), (0, 0)] [] (n, s) Q := by
  refine G_go rfl rfl ?_
  refine G_go rfl rfl ?_
  refine G_go rfl rfl ?_
  refine G_call rfl rfl ?_
  refine G_go rfl rfl ?_
  refine G_rf rfl rfl (by decide) (hR 2 0 3 rfl) ?_
  refine G_go rfl rfl ?_
  refine G_call rfl rfl ?_
  refine G_go rfl rfl ?_
  refine G_lt rfl rfl (fun c1 => ?_) (fun c1 => ?_)
  · have h := h.1 c1
    refine G_go rfl rfl ?_
    refine G_ret rfl rfl ?_
    refine G_brT rfl rfl rfl ?_
    refine G_go rfl rfl ?_
    refine G_ret rfl rfl ?_
    refine G_go rfl rfl ?_
    refine G_go rfl rfl ?_
    refine G_call rfl rfl ?_
    refine G_go rfl rfl ?_
    refine G_lt rfl rfl (fun c2 => ?_) (fun c2 => ?_)
    · have h := h.1 c2
      refine G_go rfl rfl ?_
      refine G_go rfl rfl ?_
      refine G_ret rfl rfl ?_
      refine G_call rfl rfl ?_
      refine G_go rfl rfl ?_
      refine G_brF rfl rfl rfl ?_
      refine G_go rfl rfl ?_
      refine G_go rfl rfl ?_
      refine G_ret rfl rfl ?_
      refine G_go rfl rfl ?_
      show G 2 120 74 16 [(3, 2), (1, a0), (1, a1), (1, a2), (1, (-1)), (0, 0), (0, 0), (0, 0), (0, 0), (0, 0), (0, 0)] [] (n, s) Q
      refine G_go rfl rfl ?_
      refine G_brF rfl rfl rfl ?_
      refine G_go rfl rfl ?_
      refine G_go rfl rfl ?_
      refine G_call rfl rfl ?_
      refine G_go rfl rfl ?_
      refine G_go rfl rfl ?_
      refine G_go rfl rfl ?_
      refine G_go rfl rfl ?_
      refine G_brF rfl rfl rfl ?_
      refine G_go rfl rfl ?_
      refine G_go rfl rfl ?_
      refine G_rf rfl rfl (by decide) (hR 2 7 119 rfl) ?_
      refine G_go rfl rfl ?_
      refine G_brF rfl rfl rfl ?_
      refine G_go rfl rfl ?_
      refine G_rf rfl rfl (by decide) (hR 2 7 119 rfl) ?_
      refine G_go rfl rfl ?_
      refine G_go rfl rfl ?_
      refine G_ir (n := 7) rfl rfl (by decide) (by decide) (by decide) ?_
      refine G_go rfl rfl ?_
      refine G_go rfl rfl ?_
      refine G_iw (n := 7) rfl rfl (by decide) (by decide) (by decide) ?_
      have hR := refs_up (a := 119) (k := 1) (x := wr ((s 119 1) + 1)) hR rfl
      refine G_go rfl rfl ?_
      refine G_ret rfl rfl ?_
      exact G_ret rfl rfl h
    · have h := h.2 c2
      refine G_go rfl rfl ?_
      refine G_go rfl rfl ?_
      refine G_le rfl rfl (fun c3 => ?_) (fun c3 => ?_)
      · have h := h.1 c3
        refine G_go rfl rfl ?_
        refine G_ret rfl rfl ?_
        refine G_call rfl rfl ?_
        refine G_go rfl rfl ?_
        refine G_brF rfl rfl rfl ?_
        refine G_go rfl rfl ?_
        refine G_go rfl rfl ?_
        refine G_ret rfl rfl ?_
        refine G_go rfl rfl ?_
        show G 2 120 74 16 [(3, 2), (1, a0), (1, a1), (1, a2), (1, (-1)), (0, 0), (0, 0), (0, 0), (0, 0), (0, 0), (0, 0)] [] (n, s) Q
        refine G_go rfl rfl ?_
        refine G_brF rfl rfl rfl ?_
        refine G_go rfl rfl ?_
        refine G_go rfl rfl ?_
        refine G_call rfl rfl ?_
        refine G_go rfl rfl ?_
        refine G_go rfl rfl ?_
        refine G_go rfl rfl ?_
        refine G_go rfl rfl ?_
        refine G_brF rfl rfl rfl ?_
        refine G_go rfl rfl ?_
        refine G_go rfl rfl ?_
        refine G_rf rfl rfl (by decide) (hR 2 7 119 rfl) ?_
        refine G_go rfl rfl ?_
        refine G_brF rfl rfl rfl ?_
        refine G_go rfl rfl ?_
        refine G_rf rfl rfl (by decide) (hR 2 7 119 rfl) ?_
        refine G_go rfl rfl ?_
        refine G_go rfl rfl ?_
        refine G_ir (n := 7) rfl rfl (by decide) (by decide) (by decide) ?_
        refine G_go rfl rfl ?_
        refine G_go rfl rfl ?_
        refine G_iw (n := 7) rfl rfl (by decide) (by decide) (by decide) ?_
        have hR := refs_up (a := 119) (k := 1) (x := wr ((s 119 1) + 1)) hR rfl
        refine G_go rfl rfl ?_
        refine G_ret rfl rfl ?_
        exact G_ret rfl rfl h
      · have h := h.2 c3
        refine G_go rfl rfl ?_
        refine G_go rfl rfl ?_
        refine G_ret rfl rfl ?_
        refine G_call rfl rfl ?_
        refine G_go rfl rfl ?_
        refine G_brF rfl rfl rfl ?_
        refine G_go rfl rfl ?_
        refine G_go rfl rfl ?_
        refine G_ret rfl rfl ?_
        refine G_go rfl rfl ?_
        show G 2 120 74 16 [(3, 2), (1, a0), (1, a1), (1, a2), (1, (-1)), (0, 0), (0, 0), (0, 0), (0, 0), (0, 0), (0, 0)] [] (n, s) Q
        refine G_go rfl rfl ?_
        refine G_brF rfl rfl rfl ?_
        refine G_go rfl rfl ?_
        refine G_go rfl rfl ?_
        refine G_call rfl rfl ?_
        refine G_go rfl rfl ?_
        refine G_go rfl rfl ?_
        refine G_go rfl rfl ?_
        refine G_go rfl rfl ?_
        refine G_brF rfl rfl rfl ?_
        refine G_go rfl rfl ?_
        refine G_go rfl rfl ?_
        refine G_rf rfl rfl (by decide) (hR 2 7 119 rfl) ?_
        refine G_go rfl rfl ?_
        refine G_brF rfl rfl rfl ?_
        refine G_go rfl rfl ?_
        refine G_rf rfl rfl (by decide) (hR 2 7 119 rfl) ?_
        refine G_go rfl rfl ?_
        refine G_go rfl rfl ?_
        refine G_ir (n := 7) rfl rfl (by decide) (by decide) (by decide) ?_
        refine G_go rfl rfl ?_
        refine G_go rfl rfl ?_
        refine G_iw (n := 7) rfl rfl (by decide) (by decide) (by decide) ?_
        have hR := refs_up (a := 119) (k := 1) (x := wr ((s 119 1) + 1)) hR rfl
        refine G_go rfl rfl ?_
        refine G_ret rfl rfl ?_
        exact G_ret rfl rfl h
  · have h := h.2 c1
    refine G_go rfl rfl ?_
    refine G_go rfl rfl ?_
    refine G_rd rfl rfl (by decide) ?_
    refine G_ge rfl rfl (fun c4 => ?_) (fun c4 => ?_)
    · have h := h.1 c4
      refine G_go rfl rfl ?_
      refine G_ret rfl rfl ?_
      refine G_brT rfl rfl rfl ?_
      refine G_go rfl rfl ?_
      refine G_ret rfl rfl ?_
      refine G_go rfl rfl ?_
      refine G_go rfl rfl ?_
      refine G_call rfl rfl ?_
      refine G_go rfl rfl ?_
      refine G_lt rfl rfl (fun c5 => ?_) (fun c5 => ?_)
      · have h := h.1 c5
        refine G_go rfl rfl ?_
        refine G_go rfl rfl ?_
        refine G_ret rfl rfl ?_
        refine G_call rfl rfl ?_
        refine G_go rfl rfl ?_
        refine G_brF rfl rfl rfl ?_
        refine G_go rfl rfl ?_
        refine G_go rfl rfl ?_
        refine G_ret rfl rfl ?_
        refine G_go rfl rfl ?_
        show G 2 120 74 16 [(3, 2), (1, a0), (1, a1), (1, a2), (1, (-1)), (0, 0), (0, 0), (0, 0), (0, 0), (0, 0), (0, 0)] [] (n, s) Q
        refine G_go rfl rfl ?_
        refine G_brF rfl rfl rfl ?_
        refine G_go rfl rfl ?_
        refine G_go rfl rfl ?_
        refine G_call rfl rfl ?_
        refine G_go rfl rfl ?_
        refine G_go rfl rfl ?_
        refine G_go rfl rfl ?_
        refine G_go rfl rfl ?_
        refine G_brF rfl rfl rfl ?_
        refine G_go rfl rfl ?_
        refine G_go rfl rfl ?_
        refine G_rf rfl rfl (by decide) (hR 2 7 119 rfl) ?_
        refine G_go rfl rfl ?_
        refine G_brF rfl rfl rfl ?_
        refine G_go rfl rfl ?_
        refine G_rf rfl rfl (by decide) (hR 2 7 119 rfl) ?_
        refine G_go rfl rfl ?_
        refine G_go rfl rfl ?_
        refine G_ir (n := 7) rfl rfl (by decide) (by decide) (by decide) ?_
        refine G_go rfl rfl ?_
        refine G_go rfl rfl ?_
        refine G_iw (n := 7) rfl rfl (by decide) (by decide) (by decide) ?_
        have hR := refs_up (a := 119) (k := 1) (x := wr ((s 119 1) + 1)) hR rfl
        refine G_go rfl rfl ?_
        refine G_ret rfl rfl ?_
        exact G_ret rfl rfl h
      · have h := h.2 c5
        refine G_go rfl rfl ?_
        refine G_go rfl rfl ?_
        refine G_le rfl rfl (fun c6 => ?_) (fun c6 => ?_)
        · have h := h.1 c6
          refine G_go rfl rfl ?_
          refine G_ret rfl rfl ?_
          refine G_call rfl rfl ?_
          refine G_go rfl rfl ?_
          refine G_brF rfl rfl rfl ?_
          refine G_go rfl rfl ?_
          refine G_go rfl rfl ?_
          refine G_ret rfl rfl ?_
          refine G_go rfl rfl ?_
          show G 2 120 74 16 [(3, 2), (1, a0), (1, a1), (1, a2), (1, (-1)), (0, 0), (0, 0), (0, 0), (0, 0), (0, 0), (0, 0)] [] (n, s) Q
          refine G_go rfl rfl ?_
          refine G_brF rfl rfl rfl ?_
          refine G_go rfl rfl ?_
          refine G_go rfl rfl ?_
          refine G_call rfl rfl ?_
          refine G_go rfl rfl ?_
          refine G_go rfl rfl ?_
          refine G_go rfl rfl ?_
          refine G_go rfl rfl ?_
          refine G_brF rfl rfl rfl ?_
          refine G_go rfl rfl ?_
          refine G_go rfl rfl ?_
          refine G_rf rfl rfl (by decide) (hR 2 7 119 rfl) ?_
          refine G_go rfl rfl ?_
          refine G_brF rfl rfl rfl ?_
          refine G_go rfl rfl ?_
          refine G_rf rfl rfl (by decide) (hR 2 7 119 rfl) ?_
          refine G_go rfl rfl ?_
          refine G_go rfl rfl ?_
          refine G_ir (n := 7) rfl rfl (by decide) (by decide) (by decide) ?_
          refine G_go rfl rfl ?_
          refine G_go rfl rfl ?_
          refine G_iw (n := 7) rfl rfl (by decide) (by decide) (by decide) ?_
          have hR := refs_up (a := 119) (k := 1) (x := wr ((s 119 1) + 1)) hR rfl
          refine G_go rfl rfl ?_
          refine G_ret rfl rfl ?_
          exact G_ret rfl rfl h
        · have h := h.2 c6
          refine G_go rfl rfl ?_
          refine G_go rfl rfl ?_
          refine G_ret rfl rfl ?_
          refine G_call rfl rfl ?_
          refine G_go rfl rfl ?_
          refine G_brF rfl rfl rfl ?_
          refine G_go rfl rfl ?_
          refine G_go rfl rfl ?_
          refine G_ret rfl rfl ?_
          refine G_go rfl rfl ?_
          show G 2 120 74 16 [(3, 2), (1, a0), (1, a1), (1, a2), (1, (-1)), (0, 0), (0, 0), (0, 0), (0, 0), (0, 0), (0, 0)] [] (n, s) Q
          refine G_go rfl rfl ?_
          refine G_brF rfl rfl rfl ?_
          refine G_go rfl rfl ?_
          refine G_go rfl rfl ?_
          refine G_call rfl rfl ?_
          refine G_go rfl rfl ?_
          refine G_go rfl rfl ?_
          refine G_go rfl rfl ?_
          refine G_go rfl rfl ?_
          refine G_brF rfl rfl rfl ?_
          refine G_go rfl rfl ?_
          refine G_go rfl rfl ?_
          refine G_rf rfl rfl (by decide) (hR 2 7 119 rfl) ?_
          refine G_go rfl rfl ?_
          refine G_brF rfl rfl rfl ?_
          refine G_go rfl rfl ?_
          refine G_rf rfl rfl (by decide) (hR 2 7 119 rfl) ?_
          refine G_go rfl rfl ?_
          refine G_go rfl rfl ?_
          refine G_ir (n := 7) rfl rfl (by decide) (by decide) (by decide) ?_
          refine G_go rfl rfl ?_
          refine G_go rfl rfl ?_
          refine G_iw (n := 7) rfl rfl (by decide) (by decide) (by decide) ?_
          have hR := refs_up (a := 119) (k := 1) (x := wr ((s 119 1) + 1)) hR rfl
          refine G_go rfl rfl ?_
          refine G_ret rfl rfl ?_
          exact G_ret rfl rfl h
    · have h := h.2 c4
      refine G_go rfl rfl ?_
      refine G_go rfl rfl ?_
      refine G_ret rfl rfl ?_
      refine G_brF rfl rfl rfl ?_
      refine G_go rfl rfl ?_
      refine G_rf rfl rfl (by decide) (hR 2 0 3 rfl) ?_
      refine G_go rfl rfl ?_
      refine G_call rfl rfl ?_
      refine G_go rfl rfl ?_
      refine G_lt rfl rfl (fun c7 => ?_) (fun c7 => ?_)
      · have h := h.1 c7
        refine G_go rfl rfl ?_
        refine G_ret rfl rfl ?_
        refine G_brT rfl rfl rfl ?_
        refine G_go rfl rfl ?_
        refine G_ret rfl rfl ?_
        refine G_go rfl rfl ?_
        refine G_go rfl rfl ?_
        refine G_call rfl rfl ?_
        refine G_go rfl rfl ?_
        refine G_lt rfl rfl (fun c8 => ?_) (fun c8 => ?_)
        · have h := h.1 c8
          refine G_go rfl rfl ?_
          refine G_go rfl rfl ?_
          refine G_ret rfl rfl ?_
          refine G_call rfl rfl ?_
          refine G_go rfl rfl ?_
          refine G_brF rfl rfl rfl ?_
          refine G_go rfl rfl ?_
          refine G_go rfl rfl ?_
          refine G_ret rfl rfl ?_
          refine G_go rfl rfl ?_
          show G 2 120 74 16 [(3, 2), (1, a0), (1, a1), (1, a2), (1, (-1)), (0, 0), (0, 0), (0, 0), (0, 0), (0, 0), (0, 0)] [] (n, s) Q
          refine G_go rfl rfl ?_
          refine G_brF rfl rfl rfl ?_
          refine G_go rfl rfl ?_
          refine G_go rfl rfl ?_
          refine G_call rfl rfl ?_
          refine G_go rfl rfl ?_
          refine G_go rfl rfl ?_
          refine G_go rfl rfl ?_
          refine G_go rfl rfl ?_
          refine G_brF rfl rfl rfl ?_
          refine G_go rfl rfl ?_
          refine G_go rfl rfl ?_
          refine G_rf rfl rfl (by decide) (hR 2 7 119 rfl) ?_
          refine G_go rfl rfl ?_
          refine G_brF rfl rfl rfl ?_
          refine G_go rfl rfl ?_
          refine G_rf rfl rfl (by decide) (hR 2 7 119 rfl) ?_
          refine G_go rfl rfl ?_
          refine G_go rfl rfl ?_
          refine G_ir (n := 7) rfl rfl (by decide) (by decide) (by decide) ?_
          refine G_go rfl rfl ?_
          refine G_go rfl rfl ?_
          refine G_iw (n := 7) rfl rfl (by decide) (by decide) (by decide) ?_
          have hR := refs_up (a := 119) (k := 1) (x := wr ((s 119 1) + 1)) hR rfl
          refine G_go rfl rfl ?_
          refine G_ret rfl rfl ?_
          exact G_ret rfl rfl h
        · have h := h.2 c8
          refine G_go rfl rfl ?_
          refine G_go rfl rfl ?_
          refine G_le rfl rfl (fun c9 => ?_) (fun c9 => ?_)
          · have h := h.1 c9
            refine G_go rfl rfl ?_
            refine G_ret rfl rfl ?_
            refine G_call rfl rfl ?_
            refine G_go rfl rfl ?_
            refine G_brF rfl rfl rfl ?_
            refine G_go rfl rfl ?_
            refine G_go rfl rfl ?_
            refine G_ret rfl rfl ?_
            refine G_go rfl rfl ?_
            show G 2 120 74 16 [(3, 2), (1, a0), (1, a1), (1, a2), (1, (-1)), (0, 0), (0, 0), (0, 0), (0, 0), (0, 0), (0, 0)] [] (n, s) Q
            refine G_go rfl rfl ?_
            refine G_brF rfl rfl rfl ?_
            refine G_go rfl rfl ?_
            refine G_go rfl rfl ?_
            refine G_call rfl rfl ?_
            refine G_go rfl rfl ?_
            refine G_go rfl rfl ?_
            refine G_go rfl rfl ?_
            refine G_go rfl rfl ?_
            refine G_brF rfl rfl rfl ?_
            refine G_go rfl rfl ?_
            refine G_go rfl rfl ?_
            refine G_rf rfl rfl (by decide) (hR 2 7 119 rfl) ?_
            refine G_go rfl rfl ?_
            refine G_brF rfl rfl rfl ?_
            refine G_go rfl rfl ?_
            refine G_rf rfl rfl (by decide) (hR 2 7 119 rfl) ?_
            refine G_go rfl rfl ?_
            refine G_go rfl rfl ?_
            refine G_ir (n := 7) rfl rfl (by decide) (by decide) (by decide) ?_
            refine G_go rfl rfl ?_
            refine G_go rfl rfl ?_
            refine G_iw (n := 7) rfl rfl (by decide) (by decide) (by decide) ?_
            have hR := refs_up (a := 119) (k := 1) (x := wr ((s 119 1) + 1)) hR rfl
            refine G_go rfl rfl ?_
            refine G_ret rfl rfl ?_
            exact G_ret rfl rfl h
          · have h := h.2 c9
            refine G_go rfl rfl ?_
            refine G_go rfl rfl ?_
            refine G_ret rfl rfl ?_
            refine G_call rfl rfl ?_
            refine G_go rfl rfl ?_
            refine G_brF rfl rfl rfl ?_
            refine G_go rfl rfl ?_
            refine G_go rfl rfl ?_
            refine G_ret rfl rfl ?_
            refine G_go rfl rfl ?_
            show G 2 120 74 16 [(3, 2), (1, a0), (1, a1), (1, a2), (1, (-1)), (0, 0), (0, 0), (0, 0), (0, 0), (0, 0), (0, 0)] [] (n, s) Q
            refine G_go rfl rfl ?_
            refine G_brF rfl rfl rfl ?_
            refine G_go rfl rfl ?_
            refine G_go rfl rfl ?_
            refine G_call rfl rfl ?_
            refine G_go rfl rfl ?_
            refine G_go rfl rfl ?_
            refine G_go rfl rfl ?_
            refine G_go rfl rfl ?_
            refine G_brF rfl rfl rfl ?_
            refine G_go rfl rfl ?_
            refine G_go rfl rfl ?_
            refine G_rf rfl rfl (by decide) (hR 2 7 119 rfl) ?_
            refine G_go rfl rfl ?_
            refine G_brF rfl rfl rfl ?_
            refine G_go rfl rfl ?_
            refine G_rf rfl rfl (by decide) (hR 2 7 119 rfl) ?_
            refine G_go rfl rfl ?_
            refine G_go rfl rfl ?_
            refine G_ir (n := 7) rfl rfl (by decide) (by decide) (by decide) ?_
            refine G_go rfl rfl ?_
            refine G_go rfl rfl ?_
            refine G_iw (n := 7) rfl rfl (by decide) (by decide) (by decide) ?_
            have hR := refs_up (a := 119) (k := 1) (x := wr ((s 119 1) + 1)) hR rfl
            refine G_go rfl rfl ?_
            refine G_ret rfl rfl ?_
            exact G_ret rfl rfl h
      · have h := h.2 c7
        refine G_go rfl rfl ?_
        refine G_go rfl rfl ?_
        refine G_rd rfl rfl (by decide) ?_
        refine G_ge rfl rfl (fun c10 => ?_) (fun c10 => ?_)
        · have h := h.1 c10
          refine G_go rfl rfl ?_
          refine G_ret rfl rfl ?_
          refine G_brT rfl rfl rfl ?_
          refine G_go rfl rfl ?_
          refine G_ret rfl rfl ?_
          refine G_go rfl rfl ?_
          refine G_go rfl rfl ?_
          refine G_call rfl rfl ?_
          refine G_go rfl rfl ?_
          refine G_lt rfl rfl (fun c11 => ?_) (fun c11 => ?_)
          · have h := h.1 c11
            refine G_go rfl rfl ?_
            refine G_go rfl rfl ?_
            refine G_ret rfl rfl ?_
            refine G_call rfl rfl ?_
            refine G_go rfl rfl ?_
            refine G_brF rfl rfl rfl ?_
            refine G_go rfl rfl ?_
            refine G_go rfl rfl ?_
            refine G_ret rfl rfl ?_
            refine G_go rfl rfl ?_
            show G 2 120 74 16 [(3, 2), (1, a0), (1, a1), (1, a2), (1, (-1)), (0, 0), (0, 0), (0, 0), (0, 0), (0, 0), (0, 0)] [] (n, s) Q
            refine G_go rfl rfl ?_
            refine G_brF rfl rfl rfl ?_
            refine G_go rfl rfl ?_
            refine G_go rfl rfl ?_
            refine G_call rfl rfl ?_
            refine G_go rfl rfl ?_
            refine G_go rfl rfl ?_
            refine G_go rfl rfl ?_
            refine G_go rfl rfl ?_
            refine G_brF rfl rfl rfl ?_
            refine G_go rfl rfl ?_
            refine G_go rfl rfl ?_
            refine G_rf rfl rfl (by decide) (hR 2 7 119 rfl) ?_
            refine G_go rfl rfl ?_
            refine G_brF rfl rfl rfl ?_
            refine G_go rfl rfl ?_
            refine G_rf rfl rfl (by decide) (hR 2 7 119 rfl) ?_
            refine G_go rfl rfl ?_
            refine G_go rfl rfl ?_
            refine G_ir (n := 7) rfl rfl (by decide) (by decide) (by decide) ?_
            refine G_go rfl rfl ?_
            refine G_go rfl rfl ?_
            refine G_iw (n := 7) rfl rfl (by decide) (by decide) (by decide) ?_
            have hR := refs_up (a := 119) (k := 1) (x := wr ((s 119 1) + 1)) hR rfl
            refine G_go rfl rfl ?_
            refine G_ret rfl rfl ?_
            exact G_ret rfl rfl h
          · have h := h.2 c11
            refine G_go rfl rfl ?_
            refine G_go rfl rfl ?_
            refine G_le rfl rfl (fun c12 => ?_) (fun c12 => ?_)
            · have h := h.1 c12
              refine G_go rfl rfl ?_
              refine G_ret rfl rfl ?_
              refine G_call rfl rfl ?_
              refine G_go rfl rfl ?_
              refine G_brF rfl rfl rfl ?_
              refine G_go rfl rfl ?_
              refine G_go rfl rfl ?_
              refine G_ret rfl rfl ?_
              refine G_go rfl rfl ?_
              show G 2 120 74 16 [(3, 2), (1, a0), (1, a1), (1, a2), (1, (-1)), (0, 0), (0, 0), (0, 0), (0, 0), (0, 0), (0, 0)] [] (n, s) Q
              refine G_go rfl rfl ?_
              refine G_brF rfl rfl rfl ?_
              refine G_go rfl rfl ?_
              refine G_go rfl rfl ?_
              refine G_call rfl rfl ?_
              refine G_go rfl rfl ?_
              refine G_go rfl rfl ?_
              refine G_go rfl rfl ?_
              refine G_go rfl rfl ?_
              refine G_brF rfl rfl rfl ?_
              refine G_go rfl rfl ?_
              refine G_go rfl rfl ?_
              refine G_rf rfl rfl (by decide) (hR 2 7 119 rfl) ?_
              refine G_go rfl rfl ?_
              refine G_brF rfl rfl rfl ?_
              refine G_go rfl rfl ?_
              refine G_rf rfl rfl (by decide) (hR 2 7 119 rfl) ?_
              refine G_go rfl rfl ?_
              refine G_go rfl rfl ?_
              refine G_ir (n := 7) rfl rfl (by decide) (by decide) (by decide) ?_
              refine G_go rfl rfl ?_
              refine G_go rfl rfl ?_
              refine G_iw (n := 7) rfl rfl (by decide) (by decide) (by decide) ?_
              have hR := refs_up (a := 119) (k := 1) (x := wr ((s 119 1) + 1)) hR rfl
              refine G_go rfl rfl ?_
              refine G_ret rfl rfl ?_
              exact G_ret rfl rfl h
            · have h := h.2 c12
              refine G_go rfl rfl ?_
              refine G_go rfl rfl ?_
              refine G_ret rfl rfl ?_
              refine G_call rfl rfl ?_
              refine G_go rfl rfl ?_
              refine G_brF rfl rfl rfl ?_
              refine G_go rfl rfl ?_
              refine G_go rfl rfl ?_
              refine G_ret rfl rfl ?_
              refine G_go rfl rfl ?_
              show G 2 120 74 16 [(3, 2), (1, a0), (1, a1), (1, a2), (1, (-1)), (0, 0), (0, 0), (0, 0), (0, 0), (0, 0), (0, 0)] [] (n, s) Q
              refine G_go rfl rfl ?_
              refine G_brF rfl rfl rfl ?_
              refine G_go rfl rfl ?_
              refine G_go rfl rfl ?_
              refine G_call rfl rfl ?_
              refine G_go rfl rfl ?_
              refine G_go rfl rfl ?_
              refine G_go rfl rfl ?_
              refine G_go rfl rfl ?_
              refine G_brF rfl rfl rfl ?_
              refine G_go rfl rfl ?_
              refine G_go rfl rfl ?_
              refine G_rf rfl rfl (by decide) (hR 2 7 119 rfl) ?_
              refine G_go rfl rfl ?_
              refine G_brF rfl rfl rfl ?_
              refine G_go rfl rfl ?_
              refine G_rf rfl rfl (by decide) (hR 2 7 119 rfl) ?_
              refine G_go rfl rfl ?_
              refine G_go rfl rfl ?_
              refine G_ir (n := 7) rfl rfl (by decide) (by decide) (by decide) ?_
              refine G_go rfl rfl ?_
              refine G_go rfl rfl ?_
              refine G_iw (n := 7) rfl rfl (by decide) (by decide) (by decide) ?_
              have hR := refs_up (a := 119) (k := 1) (x := wr ((s 119 1) + 1)) hR rfl
              refine G_go rfl rfl ?_
              refine G_ret rfl rfl ?_
              exact G_ret rfl rfl h
        · have h := h.2 c10
          refine G_go rfl rfl ?_
          refine G_go rfl rfl ?_
          refine G_ret rfl rfl ?_
          refine G_brF rfl rfl rfl ?_
          refine G_go rfl rfl ?_
          refine G_go rfl rfl ?_
          refine G_eq rfl rfl (fun c13 => ?_) (fun c13 => ?_)
          · have h := h.1 c13
            refine G_go rfl rfl ?_
            refine G_ret rfl rfl ?_
            refine G_go rfl rfl ?_
            refine G_go rfl rfl ?_
            refine G_call rfl rfl ?_
            refine G_go rfl rfl ?_
            refine G_lt rfl rfl (fun c14 => ?_) (fun c14 => ?_)
            · have h := h.1 c14
              refine G_go rfl rfl ?_
              refine G_go rfl rfl ?_
              refine G_ret rfl rfl ?_
              refine G_call rfl rfl ?_
              refine G_go rfl rfl ?_
              refine G_brF rfl rfl rfl ?_
              refine G_go rfl rfl ?_
              refine G_go rfl rfl ?_
              refine G_ret rfl rfl ?_
              refine G_go rfl rfl ?_
              show G 2 120 74 16 [(3, 2), (1, a0), (1, a1), (1, a2), (1, (-1)), (0, 0), (0, 0), (0, 0), (0, 0), (0, 0), (0, 0)] [] (n, s) Q
              refine G_go rfl rfl ?_
              refine G_brF rfl rfl rfl ?_
              refine G_go rfl rfl ?_
              refine G_go rfl rfl ?_
              refine G_call rfl rfl ?_
              refine G_go rfl rfl ?_
              refine G_go rfl rfl ?_
              refine G_go rfl rfl ?_
              refine G_go rfl rfl ?_
              refine G_brF rfl rfl rfl ?_
              refine G_go rfl rfl ?_
              refine G_go rfl rfl ?_
              refine G_rf rfl rfl (by decide) (hR 2 7 119 rfl) ?_
              refine G_go rfl rfl ?_
              refine G_brF rfl rfl rfl ?_
              refine G_go rfl rfl ?_
              refine G_rf rfl rfl (by decide) (hR 2 7 119 rfl) ?_
              refine G_go rfl rfl ?_
              refine G_go rfl rfl ?_
              refine G_ir (n := 7) rfl rfl (by decide) (by decide) (by decide) ?_
              refine G_go rfl rfl ?_
              refine G_go rfl rfl ?_
              refine G_iw (n := 7) rfl rfl (by decide) (by decide) (by decide) ?_
              have hR := refs_up (a := 119) (k := 1) (x := wr ((s 119 1) + 1)) hR rfl
              refine G_go rfl rfl ?_
              refine G_ret rfl rfl ?_
              exact G_ret rfl rfl h
            · have h := h.2 c14
              refine G_go rfl rfl ?_
              refine G_go rfl rfl ?_
              refine G_le rfl rfl (fun c15 => ?_) (fun c15 => ?_)
              · have h := h.1 c15
                refine G_go rfl rfl ?_
                refine G_ret rfl rfl ?_
                refine G_call rfl rfl ?_
                refine G_go rfl rfl ?_
                refine G_brF rfl rfl rfl ?_
                refine G_go rfl rfl ?_
                refine G_go rfl rfl ?_
                refine G_ret rfl rfl ?_
                refine G_go rfl rfl ?_
                show G 2 120 74 16 [(3, 2), (1, a0), (1, a1), (1, a2), (1, (-1)), (0, 0), (0, 0), (0, 0), (0, 0), (0, 0), (0, 0)] [] (n, s) Q
                refine G_go rfl rfl ?_
                refine G_brF rfl rfl rfl ?_
                refine G_go rfl rfl ?_
                refine G_go rfl rfl ?_
                refine G_call rfl rfl ?_
                refine G_go rfl rfl ?_
                refine G_go rfl rfl ?_
                refine G_go rfl rfl ?_
                refine G_go rfl rfl ?_
                refine G_brF rfl rfl rfl ?_
                refine G_go rfl rfl ?_
                refine G_go rfl rfl ?_
                refine G_rf rfl rfl (by decide) (hR 2 7 119 rfl) ?_
                refine G_go rfl rfl ?_
                refine G_brF rfl rfl rfl ?_
                refine G_go rfl rfl ?_
                refine G_rf rfl rfl (by decide) (hR 2 7 119 rfl) ?_
                refine G_go rfl rfl ?_
                refine G_go rfl rfl ?_
                refine G_ir (n := 7) rfl rfl (by decide) (by decide) (by decide) ?_
                refine G_go rfl rfl ?_
                refine G_go rfl rfl ?_
                refine G_iw (n := 7) rfl rfl (by decide) (by decide) (by decide) ?_
                have hR := refs_up (a := 119) (k := 1) (x := wr ((s 119 1) + 1)) hR rfl
                refine G_go rfl rfl ?_
                refine G_ret rfl rfl ?_
                exact G_ret rfl rfl h
              · have h := h.2 c15
                refine G_go rfl rfl ?_
                refine G_go rfl rfl ?_
                refine G_ret rfl rfl ?_
                refine G_call rfl rfl ?_
                refine G_go rfl rfl ?_
                refine G_brF rfl rfl rfl ?_
                refine G_go rfl rfl ?_
                refine G_go rfl rfl ?_
                refine G_ret rfl rfl ?_
                refine G_go rfl rfl ?_
                show G 2 120 74 16 [(3, 2), (1, a0), (1, a1), (1, a2), (1, (-1)), (0, 0), (0, 0), (0, 0), (0, 0), (0, 0), (0, 0)] [] (n, s) Q
                refine G_go rfl rfl ?_
                refine G_brF rfl rfl rfl ?_
                refine G_go rfl rfl ?_
                refine G_go rfl rfl ?_
                refine G_call rfl rfl ?_
                refine G_go rfl rfl ?_
                refine G_go rfl rfl ?_
                refine G_go rfl rfl ?_
                refine G_go rfl rfl ?_
                refine G_brF rfl rfl rfl ?_
                refine G_go rfl rfl ?_
                refine G_go rfl rfl ?_
                refine G_rf rfl rfl (by decide) (hR 2 7 119 rfl) ?_
                refine G_go rfl rfl ?_
                refine G_brF rfl rfl rfl ?_
                refine G_go rfl rfl ?_
                refine G_rf rfl rfl (by decide) (hR 2 7 119 rfl) ?_
                refine G_go rfl rfl ?_
                refine G_go rfl rfl ?_
                refine G_ir (n := 7) rfl rfl (by decide) (by decide) (by decide) ?_
                refine G_go rfl rfl ?_
                refine G_go rfl rfl ?_
                refine G_iw (n := 7) rfl rfl (by decide) (by decide) (by decide) ?_
                have hR := refs_up (a := 119) (k := 1) (x := wr ((s 119 1) + 1)) hR rfl
                refine G_go rfl rfl ?_
                refine G_ret rfl rfl ?_
                exact G_ret rfl rfl h
          · have h := h.2 c13
            refine G_go rfl rfl ?_
            refine G_go rfl rfl ?_
            refine G_ret rfl rfl ?_
            refine G_go rfl rfl ?_
            refine G_go rfl rfl ?_
            refine G_call rfl rfl ?_
            refine G_go rfl rfl ?_
            refine G_lt rfl rfl (fun c16 => ?_) (fun c16 => ?_)
            · have h := h.1 c16
              refine G_go rfl rfl ?_
              refine G_go rfl rfl ?_
              refine G_ret rfl rfl ?_
              refine G_call rfl rfl ?_
              refine G_go rfl rfl ?_
              refine G_brT rfl rfl rfl ?_
              refine G_go rfl rfl ?_
              refine G_ret rfl rfl ?_
              refine G_go rfl rfl ?_
              show G 2 120 74 16 [(3, 2), (1, a0), (1, a1), (1, a2), (1, (-2)), (0, 0), (0, 0), (0, 0), (0, 0), (0, 0), (0, 0)] [] (n, s) Q
              refine G_go rfl rfl ?_
              refine G_brF rfl rfl rfl ?_
              refine G_go rfl rfl ?_
              refine G_go rfl rfl ?_
              refine G_call rfl rfl ?_
              refine G_go rfl rfl ?_
              refine G_go rfl rfl ?_
              refine G_go rfl rfl ?_
              refine G_go rfl rfl ?_
              refine G_brF rfl rfl rfl ?_
              refine G_go rfl rfl ?_
              refine G_go rfl rfl ?_
              refine G_rf rfl rfl (by decide) (hR 2 7 119 rfl) ?_
              refine G_go rfl rfl ?_
              refine G_brF rfl rfl rfl ?_
              refine G_go rfl rfl ?_
              refine G_rf rfl rfl (by decide) (hR 2 7 119 rfl) ?_
              refine G_go rfl rfl ?_
              refine G_go rfl rfl ?_
              refine G_ir (n := 7) rfl rfl (by decide) (by decide) (by decide) ?_
              refine G_go rfl rfl ?_
              refine G_go rfl rfl ?_
              refine G_iw (n := 7) rfl rfl (by decide) (by decide) (by decide) ?_
              have hR := refs_up (a := 119) (k := 2) (x := wr ((s 119 2) + 1)) hR rfl
              refine G_go rfl rfl ?_
              refine G_ret rfl rfl ?_
              exact G_ret rfl rfl h
            · have h := h.2 c16
              refine G_go rfl rfl ?_
              refine G_go rfl rfl ?_
              refine G_le rfl rfl (fun c17 => ?_) (fun c17 => ?_)
              · have h := h.1 c17
                refine G_go rfl rfl ?_
                refine G_ret rfl rfl ?_
                refine G_call rfl rfl ?_
                refine G_go rfl rfl ?_
                refine G_brT rfl rfl rfl ?_
                refine G_go rfl rfl ?_
                refine G_ret rfl rfl ?_
                refine G_go rfl rfl ?_
                show G 2 120 74 16 [(3, 2), (1, a0), (1, a1), (1, a2), (1, 0), (0, 0), (0, 0), (0, 0), (0, 0), (0, 0), (0, 0)] [] (n, s) Q
                refine G_go rfl rfl ?_
                refine G_brT rfl rfl rfl ?_
                refine G_go rfl rfl ?_
                refine G_rf rfl rfl (by decide) (hR 2 0 3 rfl) ?_
                refine G_rf rfl rfl (by decide) (hR 3 2 6 rfl) ?_
                refine G_go rfl rfl ?_
                obtain ⟨g18, h⟩ := h
                refine G_ir (n := 6) rfl rfl (by decide) (by decide) g18 ?_
                refine G_go rfl rfl ?_
                show G 2 120 74 39 [(3, 2), (1, a0), (1, a1), (1, a2), (1, 0), (1, s 6 a0.toNat), (0, 0), (0, 0), (0, 0), (0, 0), (0, 0)] [] (n, s) Q
                refine G_go rfl rfl ?_
                refine G_go rfl rfl ?_
                show G 2 120 74 42 [(3, 2), (1, a0), (1, a1), (1, a2), (1, 0), (1, s 6 a0.toNat), (1, 0), (0, 0), (0, 0), (0, 0), (0, 0)] [] (n, s) Q
                refine G_go rfl rfl ?_
                refine G_go rfl rfl ?_
                show G 2 120 74 45 [(3, 2), (1, a0), (1, a1), (1, a2), (1, 0), (1, s 6 a0.toNat), (1, 0), (1, (-1)), (0, 0), (0, 0), (0, 0)] [] (n, s) Q
                refine G_go rfl rfl ?_
                refine G_go rfl rfl ?_
                show G 2 120 74 48 [(3, 2), (1, a0), (1, a1), (1, a2), (1, 0), (1, s 6 a0.toNat), (1, 0), (1, (-1)), (1, 0), (0, 0), (0, 0)] [] (n, s) Q
                exact h
              · have h := h.2 c17
                refine G_go rfl rfl ?_
                refine G_go rfl rfl ?_
                refine G_ret rfl rfl ?_
                refine G_call rfl rfl ?_
                refine G_go rfl rfl ?_
                refine G_brT rfl rfl rfl ?_
                refine G_go rfl rfl ?_
                refine G_ret rfl rfl ?_
                refine G_go rfl rfl ?_
                show G 2 120 74 16 [(3, 2), (1, a0), (1, a1), (1, a2), (1, (-2)), (0, 0), (0, 0), (0, 0), (0, 0), (0, 0), (0, 0)] [] (n, s) Q
                refine G_go rfl rfl ?_
                refine G_brF rfl rfl rfl ?_
                refine G_go rfl rfl ?_
                refine G_go rfl rfl ?_
                refine G_call rfl rfl ?_
                refine G_go rfl rfl ?_
                refine G_go rfl rfl ?_
                refine G_go rfl rfl ?_
                refine G_go rfl rfl ?_
                refine G_brF rfl rfl rfl ?_
                refine G_go rfl rfl ?_
                refine G_go rfl rfl ?_
                refine G_rf rfl rfl (by decide) (hR 2 7 119 rfl) ?_
                refine G_go rfl rfl ?_
                refine G_brF rfl rfl rfl ?_
                refine G_go rfl rfl ?_
                refine G_rf rfl rfl (by decide) (hR 2 7 119 rfl) ?_
                refine G_go rfl rfl ?_
                refine G_go rfl rfl ?_
                refine G_ir (n := 7) rfl rfl (by decide) (by decide) (by decide) ?_
                refine G_go rfl rfl ?_
                refine G_go rfl rfl ?_
                refine G_iw (n := 7) rfl rfl (by decide) (by decide) (by decide) ?_
                have hR := refs_up (a := 119) (k := 2) (x := wr ((s 119 2) + 1)) hR rfl
                refine G_go rfl rfl ?_
                refine G_ret rfl rfl ?_
                exact G_ret rfl rfl h
theorem sb_X6_both_48 (n : Nat) (s : Nat → Nat → Int) (Q : List Vl → Sto → Prop) (x1 : Int) (x2 : Int) (x3 : Int) (x4 : Int) (x5 : Int) (x6 : Int) (x7 : Int) (x8 : Int) (w9 : Vl) (w10 : Vl) (hR : refs s)
    (h : (x5 < x8 → (x3 ≠ 0 → Q [(1, x7)] (n, s)) ∧ (x3 = 0 → Q [(1, x6)] (n, s))) ∧ (x8 ≤ x5 → (0 ≤ x1 ∧ x1 < 6) ∧ ((rgP (vw 4 s) x1.toNat) ∧ ((0 ≤ wr (x5 - x8) ∧ wr (x5 - x8) ≤ 2000) ∧ ((0 ≤ vw 4 s 4 x1.toNat ∧ vw 4 s 4 x1.toNat ≤ 99) ∧ ((0 ≤ x2 ∧ x2 < 6) ∧ ((rgP (vw 4 s) x2.toNat) ∧ ((0 ≤ min 999 (wr ((s 6 x2.toNat) + x8)) ∧ min 999 (wr ((s 6 x2.toNat) + x8)) ≤ 2000) ∧ ((0 ≤ vw 4 s 4 x2.toNat ∧ vw 4 s 4 x2.toNat ≤ 99) ∧ ((min (lsV (vw 4 s) x1.toNat (wr (x5 - x8))) (lsV (vw 4 s) x2.toNat (min 999 (wr ((s 6 x2.toNat) + x8)))) ≤ x7 → G 2 120 74 48 [(3, 2), (1, x1), (1, x2), (1, x3), (1, x4), (1, x5), (1, x6), (1, x7), (1, wr (x8 + 1)), (1, lsV (vw 4 s) x1.toNat (wr (x5 - x8))), (1, lsV (vw 4 s) x2.toNat (min 999 (wr ((s 6 x2.toNat) + x8))))] [] (n, s) Q) ∧ (x7 < min (lsV (vw 4 s) x1.toNat (wr (x5 - x8))) (lsV (vw 4 s) x2.toNat (min 999 (wr ((s 6 x2.toNat) + x8)))) → G 2 120 74 48 [(3, 2), (1, x1), (1, x2), (1, x3), (1, x4), (1, x5), (1, x8), (1, min (lsV (vw 4 s) x1.toNat (wr (x5 - x8))) (lsV (vw 4 s) x2.toNat (min 999 (wr ((s 6 x2.toNat) + x8))))), (1, wr (x8 + 1)), (1, lsV (vw 4 s) x1.toNat (wr (x5 - x8))), (1, lsV (vw 4 s) x2.toNat (min 999 (wr ((s 6 x2.toNat) + x8))))] [] (n, s) Q))))))))))) :
    G 2 120 74 48 [(3, 2), (1, x1), (1, x2), (1, x3), (1, x4), (1, x5), (1, x6), (1, x7), (1, x8), w9, w10] [] (n, s) Q := by
  refine G_go rfl rfl ?_
  refine G_go rfl rfl ?_
  refine G_gt rfl rfl (fun c1 => ?_) (fun c1 => ?_)
  · have h := h.1 c1
    refine G_go rfl rfl ?_
    refine G_ne rfl rfl (fun c2 => ?_) (fun c2 => ?_)
    · have h := h.1 c2
      refine G_go rfl rfl ?_
      exact G_ret rfl rfl h
    · have h := h.2 c2
      refine G_go rfl rfl ?_
      refine G_go rfl rfl ?_
      exact G_ret rfl rfl h
  · have h := h.2 c1
    refine G_go rfl rfl ?_
    refine G_rf rfl rfl (by decide) (hR 2 0 3 rfl) ?_
    refine G_go rfl rfl ?_
    refine G_go rfl rfl ?_
    refine G_go rfl rfl ?_
    refine G_go rfl rfl ?_
    refine G_call rfl rfl ?_
    obtain ⟨g3, h⟩ := h
    obtain ⟨g4, h⟩ := h
    obtain ⟨g5, h⟩ := h
    obtain ⟨g6, h⟩ := h
    refine c_X5_lastsHolding_3 n _ _ x1 (wr (x5 - x8)) hR g3 g4 g5 g6 ?_
    refine G_go rfl rfl ?_
    show G 2 120 74 70 [(3, 2), (1, x1), (1, x2), (1, x3), (1, x4), (1, x5), (1, x6), (1, x7), (1, x8), (1, lsV (vw 4 s) x1.toNat (wr (x5 - x8))), w10] [] (n, s) Q
    refine G_go rfl rfl ?_
    refine G_rf rfl rfl (by decide) (hR 2 0 3 rfl) ?_
    refine G_go rfl rfl ?_
    refine G_go rfl rfl ?_
    refine G_call rfl rfl ?_
    refine G_go rfl rfl ?_
    refine G_go rfl rfl ?_
    refine G_go rfl rfl ?_
    refine G_go rfl rfl ?_
    refine G_go rfl rfl ?_
    refine G_call rfl rfl ?_
    refine G_go rfl rfl ?_
    refine G_go rfl rfl ?_
    refine G_rf rfl rfl (by decide) (hR 3 2 6 rfl) ?_
    refine G_go rfl rfl ?_
    obtain ⟨g7, h⟩ := h
    refine G_ir (n := 6) rfl rfl (by decide) (by decide) g7 ?_
    refine G_go rfl rfl ?_
    refine G_go rfl rfl ?_
    refine G_min rfl rfl ?_
    refine G_ret rfl rfl ?_
    refine G_call rfl rfl ?_
    obtain ⟨g8, h⟩ := h
    obtain ⟨g9, h⟩ := h
    obtain ⟨g10, h⟩ := h
    refine c_X5_lastsHolding_3 n _ _ x2 (min 999 (wr ((s 6 x2.toNat) + x8))) hR g7 g8 g9 g10 ?_
    refine G_ret rfl rfl ?_
    refine G_go rfl rfl ?_
    show G 2 120 74 82 [(3, 2), (1, x1), (1, x2), (1, x3), (1, x4), (1, x5), (1, x6), (1, x7), (1, x8), (1, lsV (vw 4 s) x1.toNat (wr (x5 - x8))), (1, lsV (vw 4 s) x2.toNat (min 999 (wr ((s 6 x2.toNat) + x8))))] [] (n, s) Q
    refine G_go rfl rfl ?_
    refine G_go rfl rfl ?_
    refine G_min rfl rfl ?_
    refine G_go rfl rfl ?_
    refine G_le rfl rfl (fun c11 => ?_) (fun c11 => ?_)
    · have h := h.1 c11
      refine G_go rfl rfl ?_
      refine G_go rfl rfl ?_
      exact h
    · have h := h.2 c11
      refine G_go rfl rfl ?_
      refine G_go rfl rfl ?_
      refine G_min rfl rfl ?_
      refine G_go rfl rfl ?_
      show G 2 120 74 103 [(3, 2), (1, x1), (1, x2), (1, x3), (1, x4), (1, x5), (1, x6), (1, min (lsV (vw 4 s) x1.toNat (wr (x5 - x8))) (lsV (vw 4 s) x2.toNat (min 999 (wr ((s 6 x2.toNat) + x8))))), (1, x8), (1, lsV (vw 4 s) x1.toNat (wr (x5 - x8))), (1, lsV (vw 4 s) x2.toNat (min 999 (wr ((s 6 x2.toNat) + x8))))] [] (n, s) Q
      refine G_go rfl rfl ?_
      refine G_go rfl rfl ?_
      show G 2 120 74 107 [(3, 2), (1, x1), (1, x2), (1, x3), (1, x4), (1, x5), (1, x8), (1, min (lsV (vw 4 s) x1.toNat (wr (x5 - x8))) (lsV (vw 4 s) x2.toNat (min 999 (wr ((s 6 x2.toNat) + x8))))), (1, x8), (1, lsV (vw 4 s) x1.toNat (wr (x5 - x8))), (1, lsV (vw 4 s) x2.toNat (min 999 (wr ((s 6 x2.toNat) + x8))))] [] (n, s) Q
      refine G_go rfl rfl ?_
      refine G_go rfl rfl ?_
      exact h
theorem sb_X7_both_0 (n : Nat) (s : Nat → Nat → Int) (Q : List Vl → Sto → Prop) (a0 : Int) (a1 : Int) (a2 : Int) (hR : refs s)
    (h : (a0 < 0 → Q [(1, (-1))] (n, upS (upS s 120 10 0) 129 1 (wr ((s 129 1) + 1)))) ∧ (a0 ≥ 0 → (a0 > wr ((s 120 0) - 1) → Q [(1, (-1))] (n, upS (upS s 120 10 0) 129 1 (wr ((s 129 1) + 1)))) ∧ (a0 ≤ wr ((s 120 0) - 1) → (a1 < 0 → Q [(1, (-1))] (n, upS (upS s 120 10 0) 129 1 (wr ((s 129 1) + 1)))) ∧ (a1 ≥ 0 → (a1 > wr ((s 120 0) - 1) → Q [(1, (-1))] (n, upS (upS s 120 10 0) 129 1 (wr ((s 129 1) + 1)))) ∧ (a1 ≤ wr ((s 120 0) - 1) → (a0 = a1 → Q [(1, (-1))] (n, upS (upS s 120 10 0) 129 1 (wr ((s 129 1) + 1)))) ∧ (a0 ≠ a1 → (a2 < 0 → Q [(1, (-2))] (n, upS (upS s 120 10 0) 129 2 (wr ((s 129 2) + 1)))) ∧ (a2 ≥ 0 → (a2 > 1 → Q [(1, (-2))] (n, upS (upS s 120 10 0) 129 2 (wr ((s 129 2) + 1)))) ∧ (a2 ≤ 1 → G 120 140 163 47 [(3, 120), (1, a0), (1, a1), (1, a2), (1, 0), (1, 0), (1, (-1)), (1, 0), (0, 0)] [] (n, upS s 120 10 0) Q)))))))) :
    G 120 140 163 0 [(3, 120), (1, a0), (1, a1), (1, a2), (0, 0), (0, 0), (0, 0), (0, 0), (0, 0)] [] (n, s) Q := by
  refine G_go rfl rfl ?_
  refine G_go rfl rfl ?_
  refine G_wr rfl rfl (by decide) ?_
  have hR := refs_up (a := 120) (k := 10) (x := 0) hR rfl
  refine G_go rfl rfl ?_
  refine G_go rfl rfl ?_
  refine G_go rfl rfl ?_
  refine G_call rfl rfl ?_
  refine G_go rfl rfl ?_
  refine G_go rfl rfl ?_
  refine G_call rfl rfl ?_
  refine G_go rfl rfl ?_
  refine G_go rfl rfl ?_
  refine G_go rfl rfl ?_
  refine G_go rfl rfl ?_
  refine G_rd rfl rfl (by decide) ?_
  refine G_go rfl rfl ?_
  refine G_go rfl rfl ?_
  refine G_go rfl rfl ?_
  refine G_call rfl rfl ?_
  refine G_go rfl rfl ?_
  refine G_go rfl rfl ?_
  refine G_go rfl rfl ?_
  refine G_lt rfl rfl (fun c1 => ?_) (fun c1 => ?_)
  · have c1 := xl_lt c1
    have h := h.1 c1
    refine G_go rfl rfl ?_
    refine G_ret rfl rfl ?_
    refine G_ret rfl rfl ?_
    refine G_brT rfl rfl rfl ?_
    refine G_go rfl rfl ?_
    refine G_ret rfl rfl ?_
    refine G_brT rfl rfl rfl ?_
    refine G_go rfl rfl ?_
    refine G_go rfl rfl ?_
    refine G_go rfl rfl ?_
    refine G_call rfl rfl ?_
    refine G_go rfl rfl ?_
    refine G_brT rfl rfl rfl ?_
    refine G_go rfl rfl ?_
    refine G_ret rfl rfl ?_
    refine G_go rfl rfl ?_
    show G 120 140 163 26 [(3, 120), (1, a0), (1, a1), (1, a2), (1, (-1)), (0, 0), (0, 0), (0, 0), (0, 0)] [] (n, upS s 120 10 0) Q
    refine G_go rfl rfl ?_
    refine G_brF rfl rfl rfl ?_
    refine G_go rfl rfl ?_
    refine G_go rfl rfl ?_
    refine G_call rfl rfl ?_
    refine G_go rfl rfl ?_
    refine G_rf rfl rfl (by decide) (hR 120 11 129 rfl) ?_
    refine G_go rfl rfl ?_
    refine G_go rfl rfl ?_
    refine G_go rfl rfl ?_
    refine G_ir (n := 7) rfl rfl (by decide) (by decide) (by decide) ?_
    refine G_go rfl rfl ?_
    refine G_go rfl rfl ?_
    refine G_iw (n := 7) rfl rfl (by decide) (by decide) (by decide) ?_
    have hR := refs_up (a := 129) (k := 1) (x := wr ((s 129 1) + 1)) hR rfl
    refine G_go rfl rfl ?_
    refine G_ret rfl rfl ?_
    exact G_ret rfl rfl h
  · have c1 := xl_ge c1
    have h := h.2 c1
    refine G_go rfl rfl ?_
    refine G_go rfl rfl ?_
    refine G_go rfl rfl ?_
    refine G_gt rfl rfl (fun c2 => ?_) (fun c2 => ?_)
    · have c2 := xl_gt c2
      have h := h.1 c2
      refine G_go rfl rfl ?_
      refine G_ret rfl rfl ?_
      refine G_ret rfl rfl ?_
      refine G_brT rfl rfl rfl ?_
      refine G_go rfl rfl ?_
      refine G_ret rfl rfl ?_
      refine G_brT rfl rfl rfl ?_
      refine G_go rfl rfl ?_
      refine G_go rfl rfl ?_
      refine G_go rfl rfl ?_
      refine G_call rfl rfl ?_
      refine G_go rfl rfl ?_
      refine G_brT rfl rfl rfl ?_
      refine G_go rfl rfl ?_
      refine G_ret rfl rfl ?_
      refine G_go rfl rfl ?_
      show G 120 140 163 26 [(3, 120), (1, a0), (1, a1), (1, a2), (1, (-1)), (0, 0), (0, 0), (0, 0), (0, 0)] [] (n, upS s 120 10 0) Q
      refine G_go rfl rfl ?_
      refine G_brF rfl rfl rfl ?_
      refine G_go rfl rfl ?_
      refine G_go rfl rfl ?_
      refine G_call rfl rfl ?_
      refine G_go rfl rfl ?_
      refine G_rf rfl rfl (by decide) (hR 120 11 129 rfl) ?_
      refine G_go rfl rfl ?_
      refine G_go rfl rfl ?_
      refine G_go rfl rfl ?_
      refine G_ir (n := 7) rfl rfl (by decide) (by decide) (by decide) ?_
      refine G_go rfl rfl ?_
      refine G_go rfl rfl ?_
      refine G_iw (n := 7) rfl rfl (by decide) (by decide) (by decide) ?_
      have hR := refs_up (a := 129) (k := 1) (x := wr ((s 129 1) + 1)) hR rfl
      refine G_go rfl rfl ?_
      refine G_ret rfl rfl ?_
      exact G_ret rfl rfl h
    · have c2 := xl_le c2
      have h := h.2 c2
      refine G_go rfl rfl ?_
      refine G_go rfl rfl ?_
      refine G_ret rfl rfl ?_
      refine G_ret rfl rfl ?_
      refine G_brF rfl rfl rfl ?_
      refine G_go rfl rfl ?_
      refine G_go rfl rfl ?_
      refine G_call rfl rfl ?_
      refine G_go rfl rfl ?_
      refine G_go rfl rfl ?_
      refine G_go rfl rfl ?_
      refine G_go rfl rfl ?_
      refine G_rd rfl rfl (by decide) ?_
      refine G_go rfl rfl ?_
      refine G_go rfl rfl ?_
      refine G_go rfl rfl ?_
      refine G_call rfl rfl ?_
      refine G_go rfl rfl ?_
      refine G_go rfl rfl ?_
      refine G_go rfl rfl ?_
      refine G_lt rfl rfl (fun c3 => ?_) (fun c3 => ?_)
      · have c3 := xl_lt c3
        have h := h.1 c3
        refine G_go rfl rfl ?_
        refine G_ret rfl rfl ?_
        refine G_ret rfl rfl ?_
        refine G_brT rfl rfl rfl ?_
        refine G_go rfl rfl ?_
        refine G_ret rfl rfl ?_
        refine G_brT rfl rfl rfl ?_
        refine G_go rfl rfl ?_
        refine G_go rfl rfl ?_
        refine G_go rfl rfl ?_
        refine G_call rfl rfl ?_
        refine G_go rfl rfl ?_
        refine G_brT rfl rfl rfl ?_
        refine G_go rfl rfl ?_
        refine G_ret rfl rfl ?_
        refine G_go rfl rfl ?_
        show G 120 140 163 26 [(3, 120), (1, a0), (1, a1), (1, a2), (1, (-1)), (0, 0), (0, 0), (0, 0), (0, 0)] [] (n, upS s 120 10 0) Q
        refine G_go rfl rfl ?_
        refine G_brF rfl rfl rfl ?_
        refine G_go rfl rfl ?_
        refine G_go rfl rfl ?_
        refine G_call rfl rfl ?_
        refine G_go rfl rfl ?_
        refine G_rf rfl rfl (by decide) (hR 120 11 129 rfl) ?_
        refine G_go rfl rfl ?_
        refine G_go rfl rfl ?_
        refine G_go rfl rfl ?_
        refine G_ir (n := 7) rfl rfl (by decide) (by decide) (by decide) ?_
        refine G_go rfl rfl ?_
        refine G_go rfl rfl ?_
        refine G_iw (n := 7) rfl rfl (by decide) (by decide) (by decide) ?_
        have hR := refs_up (a := 129) (k := 1) (x := wr ((s 129 1) + 1)) hR rfl
        refine G_go rfl rfl ?_
        refine G_ret rfl rfl ?_
        exact G_ret rfl rfl h
      · have c3 := xl_ge c3
        have h := h.2 c3
        refine G_go rfl rfl ?_
        refine G_go rfl rfl ?_
        refine G_go rfl rfl ?_
        refine G_gt rfl rfl (fun c4 => ?_) (fun c4 => ?_)
        · have c4 := xl_gt c4
          have h := h.1 c4
          refine G_go rfl rfl ?_
          refine G_ret rfl rfl ?_
          refine G_ret rfl rfl ?_
          refine G_brT rfl rfl rfl ?_
          refine G_go rfl rfl ?_
          refine G_ret rfl rfl ?_
          refine G_brT rfl rfl rfl ?_
          refine G_go rfl rfl ?_
          refine G_go rfl rfl ?_
          refine G_go rfl rfl ?_
          refine G_call rfl rfl ?_
          refine G_go rfl rfl ?_
          refine G_brT rfl rfl rfl ?_
          refine G_go rfl rfl ?_
          refine G_ret rfl rfl ?_
          refine G_go rfl rfl ?_
          show G 120 140 163 26 [(3, 120), (1, a0), (1, a1), (1, a2), (1, (-1)), (0, 0), (0, 0), (0, 0), (0, 0)] [] (n, upS s 120 10 0) Q
          refine G_go rfl rfl ?_
          refine G_brF rfl rfl rfl ?_
          refine G_go rfl rfl ?_
          refine G_go rfl rfl ?_
          refine G_call rfl rfl ?_
          refine G_go rfl rfl ?_
          refine G_rf rfl rfl (by decide) (hR 120 11 129 rfl) ?_
          refine G_go rfl rfl ?_
          refine G_go rfl rfl ?_
          refine G_go rfl rfl ?_
          refine G_ir (n := 7) rfl rfl (by decide) (by decide) (by decide) ?_
          refine G_go rfl rfl ?_
          refine G_go rfl rfl ?_
          refine G_iw (n := 7) rfl rfl (by decide) (by decide) (by decide) ?_
          have hR := refs_up (a := 129) (k := 1) (x := wr ((s 129 1) + 1)) hR rfl
          refine G_go rfl rfl ?_
          refine G_ret rfl rfl ?_
          exact G_ret rfl rfl h
        · have c4 := xl_le c4
          have h := h.2 c4
          refine G_go rfl rfl ?_
          refine G_go rfl rfl ?_
          refine G_ret rfl rfl ?_
          refine G_ret rfl rfl ?_
          refine G_brF rfl rfl rfl ?_
          refine G_go rfl rfl ?_
          refine G_go rfl rfl ?_
          refine G_eq rfl rfl (fun c5 => ?_) (fun c5 => ?_)
          · have h := h.1 c5
            refine G_go rfl rfl ?_
            refine G_ret rfl rfl ?_
            refine G_brT rfl rfl rfl ?_
            refine G_go rfl rfl ?_
            refine G_go rfl rfl ?_
            refine G_go rfl rfl ?_
            refine G_call rfl rfl ?_
            refine G_go rfl rfl ?_
            refine G_brT rfl rfl rfl ?_
            refine G_go rfl rfl ?_
            refine G_ret rfl rfl ?_
            refine G_go rfl rfl ?_
            show G 120 140 163 26 [(3, 120), (1, a0), (1, a1), (1, a2), (1, (-1)), (0, 0), (0, 0), (0, 0), (0, 0)] [] (n, upS s 120 10 0) Q
            refine G_go rfl rfl ?_
            refine G_brF rfl rfl rfl ?_
            refine G_go rfl rfl ?_
            refine G_go rfl rfl ?_
            refine G_call rfl rfl ?_
            refine G_go rfl rfl ?_
            refine G_rf rfl rfl (by decide) (hR 120 11 129 rfl) ?_
            refine G_go rfl rfl ?_
            refine G_go rfl rfl ?_
            refine G_go rfl rfl ?_
            refine G_ir (n := 7) rfl rfl (by decide) (by decide) (by decide) ?_
            refine G_go rfl rfl ?_
            refine G_go rfl rfl ?_
            refine G_iw (n := 7) rfl rfl (by decide) (by decide) (by decide) ?_
            have hR := refs_up (a := 129) (k := 1) (x := wr ((s 129 1) + 1)) hR rfl
            refine G_go rfl rfl ?_
            refine G_ret rfl rfl ?_
            exact G_ret rfl rfl h
          · have h := h.2 c5
            refine G_go rfl rfl ?_
            refine G_go rfl rfl ?_
            refine G_ret rfl rfl ?_
            refine G_brF rfl rfl rfl ?_
            refine G_go rfl rfl ?_
            refine G_go rfl rfl ?_
            refine G_go rfl rfl ?_
            refine G_go rfl rfl ?_
            refine G_call rfl rfl ?_
            refine G_go rfl rfl ?_
            refine G_brF rfl rfl rfl ?_
            refine G_go rfl rfl ?_
            refine G_go rfl rfl ?_
            refine G_go rfl rfl ?_
            refine G_go rfl rfl ?_
            refine G_go rfl rfl ?_
            refine G_call rfl rfl ?_
            refine G_go rfl rfl ?_
            refine G_go rfl rfl ?_
            refine G_go rfl rfl ?_
            refine G_lt rfl rfl (fun c6 => ?_) (fun c6 => ?_)
            · have c6 := xl_lt c6
              have h := h.1 c6
              refine G_go rfl rfl ?_
              refine G_ret rfl rfl ?_
              refine G_brF rfl rfl rfl ?_
              refine G_go rfl rfl ?_
              refine G_go rfl rfl ?_
              refine G_ret rfl rfl ?_
              refine G_go rfl rfl ?_
              show G 120 140 163 26 [(3, 120), (1, a0), (1, a1), (1, a2), (1, (-2)), (0, 0), (0, 0), (0, 0), (0, 0)] [] (n, upS s 120 10 0) Q
              refine G_go rfl rfl ?_
              refine G_brF rfl rfl rfl ?_
              refine G_go rfl rfl ?_
              refine G_go rfl rfl ?_
              refine G_call rfl rfl ?_
              refine G_go rfl rfl ?_
              refine G_rf rfl rfl (by decide) (hR 120 11 129 rfl) ?_
              refine G_go rfl rfl ?_
              refine G_go rfl rfl ?_
              refine G_go rfl rfl ?_
              refine G_ir (n := 7) rfl rfl (by decide) (by decide) (by decide) ?_
              refine G_go rfl rfl ?_
              refine G_go rfl rfl ?_
              refine G_iw (n := 7) rfl rfl (by decide) (by decide) (by decide) ?_
              have hR := refs_up (a := 129) (k := 2) (x := wr ((s 129 2) + 1)) hR rfl
              refine G_go rfl rfl ?_
              refine G_ret rfl rfl ?_
              exact G_ret rfl rfl h
            · have c6 := xl_ge c6
              have h := h.2 c6
              refine G_go rfl rfl ?_
              refine G_go rfl rfl ?_
              refine G_go rfl rfl ?_
              refine G_gt rfl rfl (fun c7 => ?_) (fun c7 => ?_)
              · have c7 := xl_gt c7
                have h := h.1 c7
                refine G_go rfl rfl ?_
                refine G_ret rfl rfl ?_
                refine G_brF rfl rfl rfl ?_
                refine G_go rfl rfl ?_
                refine G_go rfl rfl ?_
                refine G_ret rfl rfl ?_
                refine G_go rfl rfl ?_
                show G 120 140 163 26 [(3, 120), (1, a0), (1, a1), (1, a2), (1, (-2)), (0, 0), (0, 0), (0, 0), (0, 0)] [] (n, upS s 120 10 0) Q
                refine G_go rfl rfl ?_
                refine G_brF rfl rfl rfl ?_
                refine G_go rfl rfl ?_
                refine G_go rfl rfl ?_
                refine G_call rfl rfl ?_
                refine G_go rfl rfl ?_
                refine G_rf rfl rfl (by decide) (hR 120 11 129 rfl) ?_
                refine G_go rfl rfl ?_
                refine G_go rfl rfl ?_
                refine G_go rfl rfl ?_
                refine G_ir (n := 7) rfl rfl (by decide) (by decide) (by decide) ?_
                refine G_go rfl rfl ?_
                refine G_go rfl rfl ?_
                refine G_iw (n := 7) rfl rfl (by decide) (by decide) (by decide) ?_
                have hR := refs_up (a := 129) (k := 2) (x := wr ((s 129 2) + 1)) hR rfl
                refine G_go rfl rfl ?_
                refine G_ret rfl rfl ?_
                exact G_ret rfl rfl h
              · have c7 := xl_le c7
                have h := h.2 c7
                refine G_go rfl rfl ?_
                refine G_go rfl rfl ?_
                refine G_ret rfl rfl ?_
                refine G_brT rfl rfl rfl ?_
                refine G_go rfl rfl ?_
                refine G_ret rfl rfl ?_
                refine G_go rfl rfl ?_
                show G 120 140 163 26 [(3, 120), (1, a0), (1, a1), (1, a2), (1, 0), (0, 0), (0, 0), (0, 0), (0, 0)] [] (n, upS s 120 10 0) Q
                refine G_go rfl rfl ?_
                refine G_brT rfl rfl rfl ?_
                refine G_go rfl rfl ?_
                refine G_go rfl rfl ?_
                show G 120 140 163 41 [(3, 120), (1, a0), (1, a1), (1, a2), (1, 0), (1, 0), (0, 0), (0, 0), (0, 0)] [] (n, upS s 120 10 0) Q
                refine G_go rfl rfl ?_
                refine G_go rfl rfl ?_
                show G 120 140 163 44 [(3, 120), (1, a0), (1, a1), (1, a2), (1, 0), (1, 0), (1, (-1)), (0, 0), (0, 0)] [] (n, upS s 120 10 0) Q
                refine G_go rfl rfl ?_
                refine G_go rfl rfl ?_
                show G 120 140 163 47 [(3, 120), (1, a0), (1, a1), (1, a2), (1, 0), (1, 0), (1, (-1)), (1, 0), (0, 0)] [] (n, upS s 120 10 0) Q
                exact h
theorem sb_X7_both_47 (n : Nat) (s : Nat → Nat → Int) (Q : List Vl → Sto → Prop) (x1 : Int) (x2 : Int) (x3 : Int) (x4 : Int) (x5 : Int) (x6 : Int) (x7 : Int) (w8 : Vl) (hR : refs s)
    (h : (0 ≤ x1 ∧ x1 < 6) ∧ ((s 123 x1.toNat < x7 → (x3 ≠ 0 → Q [(1, x6)] (n, s)) ∧ (x3 = 0 → Q [(1, x5)] (n, s))) ∧ (x7 ≤ s 123 x1.toNat → G 120 140 160 0 [(3, 120), (1, x1), (1, x2), (1, x7), (1, 0), (0, 0), (0, 0), (0, 0), (0, 0)] [] (n, s) (fun r s1 => G 120 140 163 67 [(3, 120), (1, x1), (1, x2), (1, x3), (1, x4), (1, x5), (1, x6), (1, x7), w8] (r ++ []) s1 Q)))) :
    G 120 140 163 47 [(3, 120), (1, x1), (1, x2), (1, x3), (1, x4), (1, x5), (1, x6), (1, x7), w8] [] (n, s) Q := by
  refine G_go rfl rfl ?_
  refine G_go rfl rfl ?_
  refine G_rf rfl rfl (by decide) (hR 120 3 123 rfl) ?_
  refine G_go rfl rfl ?_
  obtain ⟨g1, h⟩ := h
  refine G_ir (n := 6) rfl rfl (by decide) (by decide) g1 ?_
  refine G_gt rfl rfl (fun c2 => ?_) (fun c2 => ?_)
  · have h := h.1 c2
    refine G_go rfl rfl ?_
    refine G_ne rfl rfl (fun c3 => ?_) (fun c3 => ?_)
    · have h := h.1 c3
      refine G_go rfl rfl ?_
      exact G_ret rfl rfl h
    · have h := h.2 c3
      refine G_go rfl rfl ?_
      refine G_go rfl rfl ?_
      exact G_ret rfl rfl h
  · have h := h.2 c2
    refine G_go rfl rfl ?_
    refine G_go rfl rfl ?_
    refine G_go rfl rfl ?_
    refine G_go rfl rfl ?_
    refine G_go rfl rfl ?_
    exact G_call rfl rfl h
theorem sb_X7_both_67 (n : Nat) (s : Nat → Nat → Int) (Q : List Vl → Sto → Prop) (x1 : Int) (x2 : Int) (x3 : Int) (x4 : Int) (x5 : Int) (x6 : Int) (x7 : Int) (r : Int) (w8 : Vl) (hR : refs s)
    (h : (r ≤ x6 → G 120 140 163 47 [(3, 120), (1, x1), (1, x2), (1, x3), (1, x4), (1, x5), (1, x6), (1, wr (x7 + 1)), (1, r)] [] (n, s) Q) ∧ (x6 < r → G 120 140 163 47 [(3, 120), (1, x1), (1, x2), (1, x3), (1, x4), (1, x7), (1, r), (1, wr (x7 + 1)), (1, r)] [] (n, s) Q)) :
    G 120 140 163 67 [(3, 120), (1, x1), (1, x2), (1, x3), (1, x4), (1, x5), (1, x6), (1, x7), w8] [(1, r)] (n, s) Q := by
  refine G_go rfl rfl ?_
  show G 120 140 163 69 [(3, 120), (1, x1), (1, x2), (1, x3), (1, x4), (1, x5), (1, x6), (1, x7), (1, r)] [] (n, s) Q
  refine G_go rfl rfl ?_
  refine G_go rfl rfl ?_
  refine G_le rfl rfl (fun c1 => ?_) (fun c1 => ?_)
  · have h := h.1 c1
    refine G_go rfl rfl ?_
    refine G_go rfl rfl ?_
    show G 120 140 163 85 [(3, 120), (1, x1), (1, x2), (1, x3), (1, x4), (1, x5), (1, x6), (1, x7), (1, r)] [] (n, s) Q
    refine G_go rfl rfl ?_
    refine G_go rfl rfl ?_
    refine G_le rfl rfl (fun _ => ?_) (fun hc => absurd (show x6 < r from hc) (by omega))
    refine G_go rfl rfl ?_
    refine G_go rfl rfl ?_
    show G 120 140 163 101 [(3, 120), (1, x1), (1, x2), (1, x3), (1, x4), (1, x5), (1, x6), (1, x7), (1, r)] [] (n, s) Q
    refine G_go rfl rfl ?_
    refine G_go rfl rfl ?_
    exact h
  · have h := h.2 c1
    refine G_go rfl rfl ?_
    refine G_go rfl rfl ?_
    refine G_go rfl rfl ?_
    show G 120 140 163 85 [(3, 120), (1, x1), (1, x2), (1, x3), (1, x4), (1, x7), (1, x6), (1, x7), (1, r)] [] (n, s) Q
    refine G_go rfl rfl ?_
    refine G_go rfl rfl ?_
    refine G_le rfl rfl (fun hc => absurd (show r ≤ x6 from hc) (by omega)) (fun _ => ?_)
    refine G_go rfl rfl ?_
    refine G_go rfl rfl ?_
    refine G_go rfl rfl ?_
    show G 120 140 163 101 [(3, 120), (1, x1), (1, x2), (1, x3), (1, x4), (1, x7), (1, r), (1, x7), (1, r)] [] (n, s) Q
    refine G_go rfl rfl ?_
    refine G_go rfl rfl ?_
    exact h
def boF (t : Nat → Nat → Int) (p q : Nat) (k : Nat) (b : Int × Int) : Int × Int := if b.2 < lbV t p q (k : Int) 0 then ((k : Int), lbV t p q (k : Int) 0) else b
def boV (t : Nat → Nat → Int) (p q : Nat) (v : Int) : Int := if v = 0 then (itr (boF t p q) (0, -1) ((t 123 p).toNat + 1)).1 else (itr (boF t p q) (0, -1) ((t 123 p).toNat + 1)).2
theorem cl_both (n : Nat) (s t : Nat → Nat → Int) (h : REL s t) (p q : Nat) (hp : (p : Int) < t 120 0) (hq : (q : Int) < t 120 0) (a2 x4 : Int) (Q : List Vl → Sto → Prop) (hQ : Q [(1, boV t p q a2)] (n, s)) : G 2 120 74 48 [(3, 2), (1, (p : Int)), (1, (q : Int)), (1, a2), (1, x4), (1, s 6 p), (1, 0), (1, (-1)), (1, 0), (0, 0), (0, 0)] [] (n, s) Q := by
  obtain ⟨hn1, hn2, hn3, hn4⟩ := h.np
  obtain ⟨p1, p2, p3, p4, p5, p6⟩ := h.rg p hp
  obtain ⟨q1, q2, q3, q4, q5, q6⟩ := h.rg q hq
  have tp := h.t p hp
  have sp := h.s p hp
  have tq := h.t q hq
  have sq := h.s q hq
  rw [sp.2.2.1]
  refine G_up ((t 123 p).toNat + 1) (fun k b => ∀ w w2, G 2 120 74 48 [(3, 2), (1, (p : Int)), (1, (q : Int)), (1, a2), (1, x4), (1, t 123 p), (1, b.1), (1, b.2), (1, (k : Int)), w, w2] [] (n, s) Q) (boF t p q) (fun _ _ => True) (0, -1) trivial (fun _ _ _ _ => trivial) (fun k b hk _ hg w w2 => ?_) (fun _ w w2 => ?_) (0, 0) (0, 0)
  · rw [← wr_s hk (by omega)] at hg
    refine sb_X6_both_48 n s Q _ _ _ _ _ _ _ _ w w2 h.1 ⟨fun e => by omega, fun _ => ?_⟩
    have e : min (lsV (vw 4 s) p (t 123 p - (k : Int))) (lsV (vw 4 s) q (min 999 (t 123 q + (k : Int)))) = lbV t p q (k : Int) 0 := by
      unfold lbV
      rw [if_pos rfl, h.ls p hp, h.ls q hq]
    rw [Int.toNat_natCast, Int.toNat_natCast, sq.2.2.1, wr_id (x := t 123 p - (k : Int)) (by omega) (by omega), wr_id (x := t 123 q + (k : Int)) (by omega) (by omega), e]
    refine ⟨by omega, p1, by omega, p5, by omega, q1, by omega, q5, fun d => ?_, fun d => ?_⟩
    · rw [show boF t p q k b = b from if_neg (by omega)] at hg
      exact hg _ _
    · rw [show boF t p q k b = _ from if_pos d] at hg
      exact hg _ _
  · refine sb_X6_both_48 n s Q _ _ _ _ _ _ _ _ w w2 h.1 ⟨fun _ => ⟨fun c => ?_, fun c => ?_⟩, fun e => by omega⟩
    · rw [show boV t p q a2 = _ from if_neg c] at hQ
      exact hQ
    · rw [show boV t p q a2 = _ from if_pos c] at hQ
      exact hQ
theorem rl_both (n : Nat) (s t : Nat → Nat → Int) (h : REL s t) (p q : Nat) (hp : (p : Int) < t 120 0) (hq : (q : Int) < t 120 0) (hpq : p ≠ q) (a2 x4 : Int) (Q : List Vl → Sto → Prop) (hQ : Q [(1, boV t p q a2)] (n, t)) : G 120 140 163 47 [(3, 120), (1, (p : Int)), (1, (q : Int)), (1, a2), (1, x4), (1, 0), (1, (-1)), (1, 0), (0, 0)] [] (n, t) Q := by
  obtain ⟨hn1, hn2, hn3, hn4⟩ := h.np
  have tp := h.t p hp
  refine G_up ((t 123 p).toNat + 1) (fun k b => ∀ w, G 120 140 163 47 [(3, 120), (1, (p : Int)), (1, (q : Int)), (1, a2), (1, x4), (1, b.1), (1, b.2), (1, (k : Int)), w] [] (n, t) Q) (boF t p q) (fun _ _ => True) (0, -1) trivial (fun _ _ _ _ => trivial) (fun k b hk _ hg w => ?_) (fun _ w => ?_) (0, 0)
  · rw [← wr_s hk (by omega)] at hg
    refine sb_X7_both_47 n t Q _ _ _ _ _ _ _ w h.2.1 ?_
    rw [Int.toNat_natCast]
    refine ⟨by omega, fun e => by omega, fun _ => ?_⟩
    refine c_X7_lastsBy n s t h _ p q _ 0 hp hq hpq (by omega) ?_
    refine sb_X7_both_67 n t Q _ _ _ _ _ _ _ _ w h.2.1 ?_
    repeat' first | with_reducible refine And.intro ?_ ?_ | intro _
    all_goals first | omega | skip
    · rw [show boF t p q k b = b from if_neg (by omega)] at hg
      exact hg _
    · rw [show boF t p q k b = ((k : Int), lbV t p q (k : Int) 0) from if_pos (by omega)] at hg
      exact hg _
  · refine sb_X7_both_47 n t Q _ _ _ _ _ _ _ w h.2.1 ?_
    rw [Int.toNat_natCast]
    refine ⟨by omega, fun _ => ⟨fun c => ?_, fun c => ?_⟩, fun e => by omega⟩
    · rw [show boV t p q a2 = _ from if_neg c] at hQ
      exact hQ
    · rw [show boV t p q a2 = _ from if_pos c] at hQ
      exact hQ
theorem op_both (n : Nat) (s t : Nat → Nat → Int) (h : REL s t) (a0 a1 a2 : Int) : G 2 120 74 0 [(3, 2), (1, a0), (1, a1), (1, a2), (0, 0), (0, 0), (0, 0), (0, 0), (0, 0), (0, 0), (0, 0)] [] (n, s) (fun r s1 => G 120 140 163 0 [(3, 120), (1, a0), (1, a1), (1, a2), (0, 0), (0, 0), (0, 0), (0, 0), (0, 0)] [] (n, t) (Post n r s1)) := by
  obtain ⟨hn1, hn2, hn3, hn4⟩ := h.np
  have hw : wr (t 120 0 - 1) = t 120 0 - 1 := wr_id (by omega) (by omega)
  have h1 : ∀ z : Int, 0 ≤ z → z < t 120 0 → ∃ p : Nat, z = p ∧ (p : Int) < t 120 0 := fun z h1 h2 => ⟨z.toNat, by omega, by omega⟩
  refine sb_X6_both_0 n s _ a0 a1 a2 h.1 ?_
  repeat' first | with_reducible refine And.intro ?_ ?_ | intro _
  all_goals first | omega | skip
  all_goals try (obtain ⟨p, rfl, hp⟩ := h1 a0 (by omega) (by omega); obtain ⟨q, rfl, hq⟩ := h1 a1 (by omega) (by omega); rw [Int.toNat_natCast]; refine cl_both n s _ h.up p q hp hq a2 _ _ ?_)
  all_goals refine sb_X7_both_0 n t _ _ _ a2 h.2.1 ?_
  all_goals repeat' first | with_reducible refine And.intro ?_ ?_ | intro _
  all_goals first | omega | exact post_ref h _ (by decide) | skip
  exact rl_both n s _ h.up p q hp hq (by omega) a2 _ _ (post_same h rfl)

theorem sb_X6_give_0 (n : Nat) (s : Nat → Nat → Int) (Q : List Vl → Sto → Prop) (a0 : Int) (a1 : Int) (a2 : Int) (hR : refs s)
    (h : (a0 < 0 → (1 ≤ a2 → (a2 ≤ 99 → Q [(1, (-1))] (n, upS s 119 1 (wr ((s 119 1) + 1)))) ∧ (99 < a2 → Q [(1, (-1))] (n, upS s 119 1 (wr ((s 119 1) + 1))))) ∧ (a2 < 1 → Q [(1, (-1))] (n, upS s 119 1 (wr ((s 119 1) + 1))))) ∧ (0 ≤ a0 → (s 3 9 ≤ a0 → (1 ≤ a2 → (a2 ≤ 99 → Q [(1, (-1))] (n, upS s 119 1 (wr ((s 119 1) + 1)))) ∧ (99 < a2 → Q [(1, (-1))] (n, upS s 119 1 (wr ((s 119 1) + 1))))) ∧ (a2 < 1 → Q [(1, (-1))] (n, upS s 119 1 (wr ((s 119 1) + 1))))) ∧ (a0 < s 3 9 → (a1 < 0 → (1 ≤ a2 → (a2 ≤ 99 → Q [(1, (-1))] (n, upS s 119 1 (wr ((s 119 1) + 1)))) ∧ (99 < a2 → Q [(1, (-1))] (n, upS s 119 1 (wr ((s 119 1) + 1))))) ∧ (a2 < 1 → Q [(1, (-1))] (n, upS s 119 1 (wr ((s 119 1) + 1))))) ∧ (0 ≤ a1 → (s 3 9 ≤ a1 → (1 ≤ a2 → (a2 ≤ 99 → Q [(1, (-1))] (n, upS s 119 1 (wr ((s 119 1) + 1)))) ∧ (99 < a2 → Q [(1, (-1))] (n, upS s 119 1 (wr ((s 119 1) + 1))))) ∧ (a2 < 1 → Q [(1, (-1))] (n, upS s 119 1 (wr ((s 119 1) + 1))))) ∧ (a1 < s 3 9 → (a0 = a1 → (1 ≤ a2 → (a2 ≤ 99 → Q [(1, (-1))] (n, upS s 119 1 (wr ((s 119 1) + 1)))) ∧ (99 < a2 → Q [(1, (-1))] (n, upS s 119 1 (wr ((s 119 1) + 1))))) ∧ (a2 < 1 → Q [(1, (-1))] (n, upS s 119 1 (wr ((s 119 1) + 1))))) ∧ (a0 ≠ a1 → (1 ≤ a2 → (a2 ≤ 99 → (0 ≤ a0 ∧ a0 < 6) ∧ (G 2 120 85 44 [(3, 2), (1, a0), (1, a1), (1, a2), (1, 0), (1, s 6 a0.toNat), (1, 0)] [] (n, s) Q)) ∧ (99 < a2 → Q [(1, (-6))] (n, upS s 119 6 (wr ((s 119 6) + 1))))) ∧ (a2 < 1 → Q [(1, (-4))] (n, upS s 119 4 (wr ((s 119 4) + 1)))))))))) :
    G 2 120 85 0 [(3, 2), (1, a0), (1, a1), (1, a2), (0, 0), (0, 0), (0, 0)] [] (n, s) Q := by
  refine G_go rfl rfl ?_
  refine G_go rfl rfl ?_
  refine G_go rfl rfl ?_
  refine G_call rfl rfl ?_
  refine G_go rfl rfl ?_
  refine G_rf rfl rfl (by decide) (hR 2 0 3 rfl) ?_
  refine G_go rfl rfl ?_
  refine G_call rfl rfl ?_
  refine G_go rfl rfl ?_
  refine G_lt rfl rfl (fun c1 => ?_) (fun c1 => ?_)
  · have h := h.1 c1
    refine G_go rfl rfl ?_
    refine G_ret rfl rfl ?_
    refine G_brT rfl rfl rfl ?_
    refine G_go rfl rfl ?_
    refine G_ret rfl rfl ?_
    refine G_go rfl rfl ?_
    refine G_go rfl rfl ?_
    refine G_go rfl rfl ?_
    refine G_call rfl rfl ?_
    refine G_go rfl rfl ?_
    refine G_go rfl rfl ?_
    refine G_ge rfl rfl (fun c2 => ?_) (fun c2 => ?_)
    · have h := h.1 c2
      refine G_go rfl rfl ?_
      refine G_go rfl rfl ?_
      refine G_le rfl rfl (fun c3 => ?_) (fun c3 => ?_)
      · have h := h.1 c3
        refine G_go rfl rfl ?_
        refine G_ret rfl rfl ?_
        refine G_call rfl rfl ?_
        refine G_go rfl rfl ?_
        refine G_brF rfl rfl rfl ?_
        refine G_go rfl rfl ?_
        refine G_go rfl rfl ?_
        refine G_ret rfl rfl ?_
        refine G_go rfl rfl ?_
        show G 2 120 85 18 [(3, 2), (1, a0), (1, a1), (1, a2), (1, (-1)), (0, 0), (0, 0)] [] (n, s) Q
        refine G_go rfl rfl ?_
        refine G_brF rfl rfl rfl ?_
        refine G_go rfl rfl ?_
        refine G_go rfl rfl ?_
        refine G_call rfl rfl ?_
        refine G_go rfl rfl ?_
        refine G_go rfl rfl ?_
        refine G_go rfl rfl ?_
        refine G_go rfl rfl ?_
        refine G_brF rfl rfl rfl ?_
        refine G_go rfl rfl ?_
        refine G_go rfl rfl ?_
        refine G_rf rfl rfl (by decide) (hR 2 7 119 rfl) ?_
        refine G_go rfl rfl ?_
        refine G_brF rfl rfl rfl ?_
        refine G_go rfl rfl ?_
        refine G_rf rfl rfl (by decide) (hR 2 7 119 rfl) ?_
        refine G_go rfl rfl ?_
        refine G_go rfl rfl ?_
        refine G_ir (n := 7) rfl rfl (by decide) (by decide) (by decide) ?_
        refine G_go rfl rfl ?_
        refine G_go rfl rfl ?_
        refine G_iw (n := 7) rfl rfl (by decide) (by decide) (by decide) ?_
        have hR := refs_up (a := 119) (k := 1) (x := wr ((s 119 1) + 1)) hR rfl
        refine G_go rfl rfl ?_
        refine G_ret rfl rfl ?_
        exact G_ret rfl rfl h
      · have h := h.2 c3
        refine G_go rfl rfl ?_
        refine G_go rfl rfl ?_
        refine G_ret rfl rfl ?_
        refine G_call rfl rfl ?_
        refine G_go rfl rfl ?_
        refine G_brF rfl rfl rfl ?_
        refine G_go rfl rfl ?_
        refine G_go rfl rfl ?_
        refine G_ret rfl rfl ?_
        refine G_go rfl rfl ?_
        show G 2 120 85 18 [(3, 2), (1, a0), (1, a1), (1, a2), (1, (-1)), (0, 0), (0, 0)] [] (n, s) Q
        refine G_go rfl rfl ?_
        refine G_brF rfl rfl rfl ?_
        refine G_go rfl rfl ?_
        refine G_go rfl rfl ?_
        refine G_call rfl rfl ?_
        refine G_go rfl rfl ?_
        refine G_go rfl rfl ?_
        refine G_go rfl rfl ?_
        refine G_go rfl rfl ?_
        refine G_brF rfl rfl rfl ?_
        refine G_go rfl rfl ?_
        refine G_go rfl rfl ?_
        refine G_rf rfl rfl (by decide) (hR 2 7 119 rfl) ?_
        refine G_go rfl rfl ?_
        refine G_brF rfl rfl rfl ?_
        refine G_go rfl rfl ?_
        refine G_rf rfl rfl (by decide) (hR 2 7 119 rfl) ?_
        refine G_go rfl rfl ?_
        refine G_go rfl rfl ?_
        refine G_ir (n := 7) rfl rfl (by decide) (by decide) (by decide) ?_
        refine G_go rfl rfl ?_
        refine G_go rfl rfl ?_
        refine G_iw (n := 7) rfl rfl (by decide) (by decide) (by decide) ?_
        have hR := refs_up (a := 119) (k := 1) (x := wr ((s 119 1) + 1)) hR rfl
        refine G_go rfl rfl ?_
        refine G_ret rfl rfl ?_
        exact G_ret rfl rfl h
    · have h := h.2 c2
      refine G_go rfl rfl ?_
      refine G_ret rfl rfl ?_
      refine G_call rfl rfl ?_
      refine G_go rfl rfl ?_
      refine G_brF rfl rfl rfl ?_
      refine G_go rfl rfl ?_
      refine G_go rfl rfl ?_
      refine G_ret rfl rfl ?_
      refine G_go rfl rfl ?_
      show G 2 120 85 18 [(3, 2), (1, a0), (1, a1), (1, a2), (1, (-1)), (0, 0), (0, 0)] [] (n, s) Q
      refine G_go rfl rfl ?_
      refine G_brF rfl rfl rfl ?_
      refine G_go rfl rfl ?_
      refine G_go rfl rfl ?_
      refine G_call rfl rfl ?_
      refine G_go rfl rfl ?_
      refine G_go rfl rfl ?_
      refine G_go rfl rfl ?_
      refine G_go rfl rfl ?_
      refine G_brF rfl rfl rfl ?_
      refine G_go rfl rfl ?_
      refine G_go rfl rfl ?_
      refine G_rf rfl rfl (by decide) (hR 2 7 119 rfl) ?_
      refine G_go rfl rfl ?_
      refine G_brF rfl rfl rfl ?_
      refine G_go rfl rfl ?_
      refine G_rf rfl rfl (by decide) (hR 2 7 119 rfl) ?_
      refine G_go rfl rfl ?_
      refine G_go rfl rfl ?_
      refine G_ir (n := 7) rfl rfl (by decide) (by decide) (by decide) ?_
      refine G_go rfl rfl ?_
      refine G_go rfl rfl ?_
      refine G_iw (n := 7) rfl rfl (by decide) (by decide) (by decide) ?_
      have hR := refs_up (a := 119) (k := 1) (x := wr ((s 119 1) + 1)) hR rfl
      refine G_go rfl rfl ?_
      refine G_ret rfl rfl ?_
      exact G_ret rfl rfl h
  · have h := h.2 c1
    refine G_go rfl rfl ?_
    refine G_go rfl rfl ?_
    refine G_rd rfl rfl (by decide) ?_
    refine G_ge rfl rfl (fun c4 => ?_) (fun c4 => ?_)
    · have h := h.1 c4
      refine G_go rfl rfl ?_
      refine G_ret rfl rfl ?_
      refine G_brT rfl rfl rfl ?_
      refine G_go rfl rfl ?_
      refine G_ret rfl rfl ?_
      refine G_go rfl rfl ?_
      refine G_go rfl rfl ?_
      refine G_go rfl rfl ?_
      refine G_call rfl rfl ?_
      refine G_go rfl rfl ?_
      refine G_go rfl rfl ?_
      refine G_ge rfl rfl (fun c5 => ?_) (fun c5 => ?_)
      · have h := h.1 c5
        refine G_go rfl rfl ?_
        refine G_go rfl rfl ?_
        refine G_le rfl rfl (fun c6 => ?_) (fun c6 => ?_)
        · have h := h.1 c6
          refine G_go rfl rfl ?_
          refine G_ret rfl rfl ?_
          refine G_call rfl rfl ?_
          refine G_go rfl rfl ?_
          refine G_brF rfl rfl rfl ?_
          refine G_go rfl rfl ?_
          refine G_go rfl rfl ?_
          refine G_ret rfl rfl ?_
          refine G_go rfl rfl ?_
          show G 2 120 85 18 [(3, 2), (1, a0), (1, a1), (1, a2), (1, (-1)), (0, 0), (0, 0)] [] (n, s) Q
          refine G_go rfl rfl ?_
          refine G_brF rfl rfl rfl ?_
          refine G_go rfl rfl ?_
          refine G_go rfl rfl ?_
          refine G_call rfl rfl ?_
          refine G_go rfl rfl ?_
          refine G_go rfl rfl ?_
          refine G_go rfl rfl ?_
          refine G_go rfl rfl ?_
          refine G_brF rfl rfl rfl ?_
          refine G_go rfl rfl ?_
          refine G_go rfl rfl ?_
          refine G_rf rfl rfl (by decide) (hR 2 7 119 rfl) ?_
          refine G_go rfl rfl ?_
          refine G_brF rfl rfl rfl ?_
          refine G_go rfl rfl ?_
          refine G_rf rfl rfl (by decide) (hR 2 7 119 rfl) ?_
          refine G_go rfl rfl ?_
          refine G_go rfl rfl ?_
          refine G_ir (n := 7) rfl rfl (by decide) (by decide) (by decide) ?_
          refine G_go rfl rfl ?_
          refine G_go rfl rfl ?_
          refine G_iw (n := 7) rfl rfl (by decide) (by decide) (by decide) ?_
          have hR := refs_up (a := 119) (k := 1) (x := wr ((s 119 1) + 1)) hR rfl
          refine G_go rfl rfl ?_
          refine G_ret rfl rfl ?_
          exact G_ret rfl rfl h
        · have h := h.2 c6
          refine G_go rfl rfl ?_
          refine G_go rfl rfl ?_
          refine G_ret rfl rfl ?_
          refine G_call rfl rfl ?_
          refine G_go rfl rfl ?_
          refine G_brF rfl rfl rfl ?_
          refine G_go rfl rfl ?_
          refine G_go rfl rfl ?_
          refine G_ret rfl rfl ?_
          refine G_go rfl rfl ?_
          show G 2 120 85 18 [(3, 2), (1, a0), (1, a1), (1, a2), (1, (-1)), (0, 0), (0, 0)] [] (n, s) Q
          refine G_go rfl rfl ?_
          refine G_brF rfl rfl rfl ?_
          refine G_go rfl rfl ?_
          refine G_go rfl rfl ?_
          refine G_call rfl rfl ?_
          refine G_go rfl rfl ?_
          refine G_go rfl rfl ?_
          refine G_go rfl rfl ?_
          refine G_go rfl rfl ?_
          refine G_brF rfl rfl rfl ?_
          refine G_go rfl rfl ?_
          refine G_go rfl rfl ?_
          refine G_rf rfl rfl (by decide) (hR 2 7 119 rfl) ?_
          refine G_go rfl rfl ?_
          refine G_brF rfl rfl rfl ?_
          refine G_go rfl rfl ?_
          refine G_rf rfl rfl (by decide) (hR 2 7 119 rfl) ?_
          refine G_go rfl rfl ?_
          refine G_go rfl rfl ?_
          refine G_ir (n := 7) rfl rfl (by decide) (by decide) (by decide) ?_
          refine G_go rfl rfl ?_
          refine G_go rfl rfl ?_
          refine G_iw (n := 7) rfl rfl (by decide) (by decide) (by decide) ?_
          have hR := refs_up (a := 119) (k := 1) (x := wr ((s 119 1) + 1)) hR rfl
          refine G_go rfl rfl ?_
          refine G_ret rfl rfl ?_
          exact G_ret rfl rfl h
      · have h := h.2 c5
        refine G_go rfl rfl ?_
        refine G_ret rfl rfl ?_
        refine G_call rfl rfl ?_
        refine G_go rfl rfl ?_
        refine G_brF rfl rfl rfl ?_
        refine G_go rfl rfl ?_
        refine G_go rfl rfl ?_
        refine G_ret rfl rfl ?_
        refine G_go rfl rfl ?_
        show G 2 120 85 18 [(3, 2), (1, a0), (1, a1), (1, a2), (1, (-1)), (0, 0), (0, 0)] [] (n, s) Q
        refine G_go rfl rfl ?_
        refine G_brF rfl rfl rfl ?_
        refine G_go rfl rfl ?_
        refine G_go rfl rfl ?_
        refine G_call rfl rfl ?_
        refine G_go rfl rfl ?_
        refine G_go rfl rfl ?_
        refine G_go rfl rfl ?_
        refine G_go rfl rfl ?_
        refine G_brF rfl rfl rfl ?_
        refine G_go rfl rfl ?_
        refine G_go rfl rfl ?_
        refine G_rf rfl rfl (by decide) (hR 2 7 119 rfl) ?_
        refine G_go rfl rfl ?_
        refine G_brF rfl rfl rfl ?_
        refine G_go rfl rfl ?_
        refine G_rf rfl rfl (by decide) (hR 2 7 119 rfl) ?_
        refine G_go rfl rfl ?_
        refine G_go rfl rfl ?_
        refine G_ir (n := 7) rfl rfl (by decide) (by decide) (by decide) ?_
        refine G_go rfl rfl ?_
        refine G_go rfl rfl ?_
        refine G_iw (n := 7) rfl rfl (by decide) (by decide) (by decide) ?_
        have hR := refs_up (a := 119) (k := 1) (x := wr ((s 119 1) + 1)) hR rfl
        refine G_go rfl rfl ?_
        refine G_ret rfl rfl ?_
        exact G_ret rfl rfl h
    · have h := h.2 c4
      refine G_go rfl rfl ?_
      refine G_go rfl rfl ?_
      refine G_ret rfl rfl ?_
      refine G_brF rfl rfl rfl ?_
      refine G_go rfl rfl ?_
      refine G_rf rfl rfl (by decide) (hR 2 0 3 rfl) ?_
      refine G_go rfl rfl ?_
      refine G_call rfl rfl ?_
      refine G_go rfl rfl ?_
      refine G_lt rfl rfl (fun c7 => ?_) (fun c7 => ?_)
      · have h := h.1 c7
        refine G_go rfl rfl ?_
        refine G_ret rfl rfl ?_
        refine G_brT rfl rfl rfl ?_
        refine G_go rfl rfl ?_
        refine G_ret rfl rfl ?_
        refine G_go rfl rfl ?_
        refine G_go rfl rfl ?_
        refine G_go rfl rfl ?_
        refine G_call rfl rfl ?_
        refine G_go rfl rfl ?_
        refine G_go rfl rfl ?_
        refine G_ge rfl rfl (fun c8 => ?_) (fun c8 => ?_)
        · have h := h.1 c8
          refine G_go rfl rfl ?_
          refine G_go rfl rfl ?_
          refine G_le rfl rfl (fun c9 => ?_) (fun c9 => ?_)
          · have h := h.1 c9
            refine G_go rfl rfl ?_
            refine G_ret rfl rfl ?_
            refine G_call rfl rfl ?_
            refine G_go rfl rfl ?_
            refine G_brF rfl rfl rfl ?_
            refine G_go rfl rfl ?_
            refine G_go rfl rfl ?_
            refine G_ret rfl rfl ?_
            refine G_go rfl rfl ?_
            show G 2 120 85 18 [(3, 2), (1, a0), (1, a1), (1, a2), (1, (-1)), (0, 0), (0, 0)] [] (n, s) Q
            refine G_go rfl rfl ?_
            refine G_brF rfl rfl rfl ?_
            refine G_go rfl rfl ?_
            refine G_go rfl rfl ?_
            refine G_call rfl rfl ?_
            refine G_go rfl rfl ?_
            refine G_go rfl rfl ?_
            refine G_go rfl rfl ?_
            refine G_go rfl rfl ?_
            refine G_brF rfl rfl rfl ?_
            refine G_go rfl rfl ?_
            refine G_go rfl rfl ?_
            refine G_rf rfl rfl (by decide) (hR 2 7 119 rfl) ?_
            refine G_go rfl rfl ?_
            refine G_brF rfl rfl rfl ?_
            refine G_go rfl rfl ?_
            refine G_rf rfl rfl (by decide) (hR 2 7 119 rfl) ?_
            refine G_go rfl rfl ?_
            refine G_go rfl rfl ?_
            refine G_ir (n := 7) rfl rfl (by decide) (by decide) (by decide) ?_
            refine G_go rfl rfl ?_
            refine G_go rfl rfl ?_
            refine G_iw (n := 7) rfl rfl (by decide) (by decide) (by decide) ?_
            have hR := refs_up (a := 119) (k := 1) (x := wr ((s 119 1) + 1)) hR rfl
            refine G_go rfl rfl ?_
            refine G_ret rfl rfl ?_
            exact G_ret rfl rfl h
          · have h := h.2 c9
            refine G_go rfl rfl ?_
            refine G_go rfl rfl ?_
            refine G_ret rfl rfl ?_
            refine G_call rfl rfl ?_
            refine G_go rfl rfl ?_
            refine G_brF rfl rfl rfl ?_
            refine G_go rfl rfl ?_
            refine G_go rfl rfl ?_
            refine G_ret rfl rfl ?_
            refine G_go rfl rfl ?_
            show G 2 120 85 18 [(3, 2), (1, a0), (1, a1), (1, a2), (1, (-1)), (0, 0), (0, 0)] [] (n, s) Q
            refine G_go rfl rfl ?_
            refine G_brF rfl rfl rfl ?_
            refine G_go rfl rfl ?_
            refine G_go rfl rfl ?_
            refine G_call rfl rfl ?_
            refine G_go rfl rfl ?_
            refine G_go rfl rfl ?_
            refine G_go rfl rfl ?_
            refine G_go rfl rfl ?_
            refine G_brF rfl rfl rfl ?_
            refine G_go rfl rfl ?_
            refine G_go rfl rfl ?_
            refine G_rf rfl rfl (by decide) (hR 2 7 119 rfl) ?_
            refine G_go rfl rfl ?_
            refine G_brF rfl rfl rfl ?_
            refine G_go rfl rfl ?_
            refine G_rf rfl rfl (by decide) (hR 2 7 119 rfl) ?_
            refine G_go rfl rfl ?_
            refine G_go rfl rfl ?_
            refine G_ir (n := 7) rfl rfl (by decide) (by decide) (by decide) ?_
            refine G_go rfl rfl ?_
            refine G_go rfl rfl ?_
            refine G_iw (n := 7) rfl rfl (by decide) (by decide) (by decide) ?_
            have hR := refs_up (a := 119) (k := 1) (x := wr ((s 119 1) + 1)) hR rfl
            refine G_go rfl rfl ?_
            refine G_ret rfl rfl ?_
            exact G_ret rfl rfl h
        · have h := h.2 c8
          refine G_go rfl rfl ?_
          refine G_ret rfl rfl ?_
          refine G_call rfl rfl ?_
          refine G_go rfl rfl ?_
          refine G_brF rfl rfl rfl ?_
          refine G_go rfl rfl ?_
          refine G_go rfl rfl ?_
          refine G_ret rfl rfl ?_
          refine G_go rfl rfl ?_
          show G 2 120 85 18 [(3, 2), (1, a0), (1, a1), (1, a2), (1, (-1)), (0, 0), (0, 0)] [] (n, s) Q
          refine G_go rfl rfl ?_
          refine G_brF rfl rfl rfl ?_
          refine G_go rfl rfl ?_
          refine G_go rfl rfl ?_
          refine G_call rfl rfl ?_
          refine G_go rfl rfl ?_
          refine G_go rfl rfl ?_
          refine G_go rfl rfl ?_
          refine G_go rfl rfl ?_
          refine G_brF rfl rfl rfl ?_
          refine G_go rfl rfl ?_
          refine G_go rfl rfl ?_
          refine G_rf rfl rfl (by decide) (hR 2 7 119 rfl) ?_
          refine G_go rfl rfl ?_
          refine G_brF rfl rfl rfl ?_
          refine G_go rfl rfl ?_
          refine G_rf rfl rfl (by decide) (hR 2 7 119 rfl) ?_
          refine G_go rfl rfl ?_
          refine G_go rfl rfl ?_
          refine G_ir (n := 7) rfl rfl (by decide) (by decide) (by decide) ?_
          refine G_go rfl rfl ?_
          refine G_go rfl rfl ?_
          refine G_iw (n := 7) rfl rfl (by decide) (by decide) (by decide) ?_
          have hR := refs_up (a := 119) (k := 1) (x := wr ((s 119 1) + 1)) hR rfl
          refine G_go rfl rfl ?_
          refine G_ret rfl rfl ?_
          exact G_ret rfl rfl h
      · have h := h.2 c7
        refine G_go rfl rfl ?_
        refine G_go rfl rfl ?_
        refine G_rd rfl rfl (by decide) ?_
        refine G_ge rfl rfl (fun c10 => ?_) (fun c10 => ?_)
        · have h := h.1 c10
          refine G_go rfl rfl ?_
          refine G_ret rfl rfl ?_
          refine G_brT rfl rfl rfl ?_
          refine G_go rfl rfl ?_
          refine G_ret rfl rfl ?_
          refine G_go rfl rfl ?_
          refine G_go rfl rfl ?_
          refine G_go rfl rfl ?_
          refine G_call rfl rfl ?_
          refine G_go rfl rfl ?_
          refine G_go rfl rfl ?_
          refine G_ge rfl rfl (fun c11 => ?_) (fun c11 => ?_)
          · have h := h.1 c11
            refine G_go rfl rfl ?_
            refine G_go rfl rfl ?_
            refine G_le rfl rfl (fun c12 => ?_) (fun c12 => ?_)
            · have h := h.1 c12
              refine G_go rfl rfl ?_
              refine G_ret rfl rfl ?_
              refine G_call rfl rfl ?_
              refine G_go rfl rfl ?_
              refine G_brF rfl rfl rfl ?_
              refine G_go rfl rfl ?_
              refine G_go rfl rfl ?_
              refine G_ret rfl rfl ?_
              refine G_go rfl rfl ?_
              show G 2 120 85 18 [(3, 2), (1, a0), (1, a1), (1, a2), (1, (-1)), (0, 0), (0, 0)] [] (n, s) Q
              refine G_go rfl rfl ?_
              refine G_brF rfl rfl rfl ?_
              refine G_go rfl rfl ?_
              refine G_go rfl rfl ?_
              refine G_call rfl rfl ?_
              refine G_go rfl rfl ?_
              refine G_go rfl rfl ?_
              refine G_go rfl rfl ?_
              refine G_go rfl rfl ?_
              refine G_brF rfl rfl rfl ?_
              refine G_go rfl rfl ?_
              refine G_go rfl rfl ?_
              refine G_rf rfl rfl (by decide) (hR 2 7 119 rfl) ?_
              refine G_go rfl rfl ?_
              refine G_brF rfl rfl rfl ?_
              refine G_go rfl rfl ?_
              refine G_rf rfl rfl (by decide) (hR 2 7 119 rfl) ?_
              refine G_go rfl rfl ?_
              refine G_go rfl rfl ?_
              refine G_ir (n := 7) rfl rfl (by decide) (by decide) (by decide) ?_
              refine G_go rfl rfl ?_
              refine G_go rfl rfl ?_
              refine G_iw (n := 7) rfl rfl (by decide) (by decide) (by decide) ?_
              have hR := refs_up (a := 119) (k := 1) (x := wr ((s 119 1) + 1)) hR rfl
              refine G_go rfl rfl ?_
              refine G_ret rfl rfl ?_
              exact G_ret rfl rfl h
            · have h := h.2 c12
              refine G_go rfl rfl ?_
              refine G_go rfl rfl ?_
              refine G_ret rfl rfl ?_
              refine G_call rfl rfl ?_
              refine G_go rfl rfl ?_
              refine G_brF rfl rfl rfl ?_
              refine G_go rfl rfl ?_
              refine G_go rfl rfl ?_
              refine G_ret rfl rfl ?_
              refine G_go rfl rfl ?_
              show G 2 120 85 18 [(3, 2), (1, a0), (1, a1), (1, a2), (1, (-1)), (0, 0), (0, 0)] [] (n, s) Q
              refine G_go rfl rfl ?_
              refine G_brF rfl rfl rfl ?_
              refine G_go rfl rfl ?_
              refine G_go rfl rfl ?_
              refine G_call rfl rfl ?_
              refine G_go rfl rfl ?_
              refine G_go rfl rfl ?_
              refine G_go rfl rfl ?_
              refine G_go rfl rfl ?_
              refine G_brF rfl rfl rfl ?_
              refine G_go rfl rfl ?_
              refine G_go rfl rfl ?_
              refine G_rf rfl rfl (by decide) (hR 2 7 119 rfl) ?_
              refine G_go rfl rfl ?_
              refine G_brF rfl rfl rfl ?_
              refine G_go rfl rfl ?_
              refine G_rf rfl rfl (by decide) (hR 2 7 119 rfl) ?_
              refine G_go rfl rfl ?_
              refine G_go rfl rfl ?_
              refine G_ir (n := 7) rfl rfl (by decide) (by decide) (by decide) ?_
              refine G_go rfl rfl ?_
              refine G_go rfl rfl ?_
              refine G_iw (n := 7) rfl rfl (by decide) (by decide) (by decide) ?_
              have hR := refs_up (a := 119) (k := 1) (x := wr ((s 119 1) + 1)) hR rfl
              refine G_go rfl rfl ?_
              refine G_ret rfl rfl ?_
              exact G_ret rfl rfl h
          · have h := h.2 c11
            refine G_go rfl rfl ?_
            refine G_ret rfl rfl ?_
            refine G_call rfl rfl ?_
            refine G_go rfl rfl ?_
            refine G_brF rfl rfl rfl ?_
            refine G_go rfl rfl ?_
            refine G_go rfl rfl ?_
            refine G_ret rfl rfl ?_
            refine G_go rfl rfl ?_
            show G 2 120 85 18 [(3, 2), (1, a0), (1, a1), (1, a2), (1, (-1)), (0, 0), (0, 0)] [] (n, s) Q
            refine G_go rfl rfl ?_
            refine G_brF rfl rfl rfl ?_
            refine G_go rfl rfl ?_
            refine G_go rfl rfl ?_
            refine G_call rfl rfl ?_
            refine G_go rfl rfl ?_
            refine G_go rfl rfl ?_
            refine G_go rfl rfl ?_
            refine G_go rfl rfl ?_
            refine G_brF rfl rfl rfl ?_
            refine G_go rfl rfl ?_
            refine G_go rfl rfl ?_
            refine G_rf rfl rfl (by decide) (hR 2 7 119 rfl) ?_
            refine G_go rfl rfl ?_
            refine G_brF rfl rfl rfl ?_
            refine G_go rfl rfl ?_
            refine G_rf rfl rfl (by decide) (hR 2 7 119 rfl) ?_
            refine G_go rfl rfl ?_
            refine G_go rfl rfl ?_
            refine G_ir (n := 7) rfl rfl (by decide) (by decide) (by decide) ?_
            refine G_go rfl rfl ?_
            refine G_go rfl rfl ?_
            refine G_iw (n := 7) rfl rfl (by decide) (by decide) (by decide) ?_
            have hR := refs_up (a := 119) (k := 1) (x := wr ((s 119 1) + 1)) hR rfl
            refine G_go rfl rfl ?_
            refine G_ret rfl rfl ?_
            exact G_ret rfl rfl h
        · have h := h.2 c10
          refine G_go rfl rfl ?_
          refine G_go rfl rfl ?_
          refine G_ret rfl rfl ?_
          refine G_brF rfl rfl rfl ?_
          refine G_go rfl rfl ?_
          refine G_go rfl rfl ?_
          refine G_eq rfl rfl (fun c13 => ?_) (fun c13 => ?_)
          · have h := h.1 c13
            refine G_go rfl rfl ?_
            refine G_ret rfl rfl ?_
            refine G_go rfl rfl ?_
            refine G_go rfl rfl ?_
            refine G_go rfl rfl ?_
            refine G_call rfl rfl ?_
            refine G_go rfl rfl ?_
            refine G_go rfl rfl ?_
            refine G_ge rfl rfl (fun c14 => ?_) (fun c14 => ?_)
            · have h := h.1 c14
              refine G_go rfl rfl ?_
              refine G_go rfl rfl ?_
              refine G_le rfl rfl (fun c15 => ?_) (fun c15 => ?_)
              · have h := h.1 c15
                refine G_go rfl rfl ?_
                refine G_ret rfl rfl ?_
                refine G_call rfl rfl ?_
                refine G_go rfl rfl ?_
                refine G_brF rfl rfl rfl ?_
                refine G_go rfl rfl ?_
                refine G_go rfl rfl ?_
                refine G_ret rfl rfl ?_
                refine G_go rfl rfl ?_
                show G 2 120 85 18 [(3, 2), (1, a0), (1, a1), (1, a2), (1, (-1)), (0, 0), (0, 0)] [] (n, s) Q
                refine G_go rfl rfl ?_
                refine G_brF rfl rfl rfl ?_
                refine G_go rfl rfl ?_
                refine G_go rfl rfl ?_
                refine G_call rfl rfl ?_
                refine G_go rfl rfl ?_
                refine G_go rfl rfl ?_
                refine G_go rfl rfl ?_
                refine G_go rfl rfl ?_
                refine G_brF rfl rfl rfl ?_
                refine G_go rfl rfl ?_
                refine G_go rfl rfl ?_
                refine G_rf rfl rfl (by decide) (hR 2 7 119 rfl) ?_
                refine G_go rfl rfl ?_
                refine G_brF rfl rfl rfl ?_
                refine G_go rfl rfl ?_
                refine G_rf rfl rfl (by decide) (hR 2 7 119 rfl) ?_
                refine G_go rfl rfl ?_
                refine G_go rfl rfl ?_
                refine G_ir (n := 7) rfl rfl (by decide) (by decide) (by decide) ?_
                refine G_go rfl rfl ?_
                refine G_go rfl rfl ?_
                refine G_iw (n := 7) rfl rfl (by decide) (by decide) (by decide) ?_
                have hR := refs_up (a := 119) (k := 1) (x := wr ((s 119 1) + 1)) hR rfl
                refine G_go rfl rfl ?_
                refine G_ret rfl rfl ?_
                exact G_ret rfl rfl h
              · have h := h.2 c15
                refine G_go rfl rfl ?_
                refine G_go rfl rfl ?_
                refine G_ret rfl rfl ?_
                refine G_call rfl rfl ?_
                refine G_go rfl rfl ?_
                refine G_brF rfl rfl rfl ?_
                refine G_go rfl rfl ?_
                refine G_go rfl rfl ?_
                refine G_ret rfl rfl ?_
                refine G_go rfl rfl ?_
                show G 2 120 85 18 [(3, 2), (1, a0), (1, a1), (1, a2), (1, (-1)), (0, 0), (0, 0)] [] (n, s) Q
                refine G_go rfl rfl ?_
                refine G_brF rfl rfl rfl ?_
                refine G_go rfl rfl ?_
                refine G_go rfl rfl ?_
                refine G_call rfl rfl ?_
                refine G_go rfl rfl ?_
                refine G_go rfl rfl ?_
                refine G_go rfl rfl ?_
                refine G_go rfl rfl ?_
                refine G_brF rfl rfl rfl ?_
                refine G_go rfl rfl ?_
                refine G_go rfl rfl ?_
                refine G_rf rfl rfl (by decide) (hR 2 7 119 rfl) ?_
                refine G_go rfl rfl ?_
                refine G_brF rfl rfl rfl ?_
                refine G_go rfl rfl ?_
                refine G_rf rfl rfl (by decide) (hR 2 7 119 rfl) ?_
                refine G_go rfl rfl ?_
                refine G_go rfl rfl ?_
                refine G_ir (n := 7) rfl rfl (by decide) (by decide) (by decide) ?_
                refine G_go rfl rfl ?_
                refine G_go rfl rfl ?_
                refine G_iw (n := 7) rfl rfl (by decide) (by decide) (by decide) ?_
                have hR := refs_up (a := 119) (k := 1) (x := wr ((s 119 1) + 1)) hR rfl
                refine G_go rfl rfl ?_
                refine G_ret rfl rfl ?_
                exact G_ret rfl rfl h
            · have h := h.2 c14
              refine G_go rfl rfl ?_
              refine G_ret rfl rfl ?_
              refine G_call rfl rfl ?_
              refine G_go rfl rfl ?_
              refine G_brF rfl rfl rfl ?_
              refine G_go rfl rfl ?_
              refine G_go rfl rfl ?_
              refine G_ret rfl rfl ?_
              refine G_go rfl rfl ?_
              show G 2 120 85 18 [(3, 2), (1, a0), (1, a1), (1, a2), (1, (-1)), (0, 0), (0, 0)] [] (n, s) Q
              refine G_go rfl rfl ?_
              refine G_brF rfl rfl rfl ?_
              refine G_go rfl rfl ?_
              refine G_go rfl rfl ?_
              refine G_call rfl rfl ?_
              refine G_go rfl rfl ?_
              refine G_go rfl rfl ?_
              refine G_go rfl rfl ?_
              refine G_go rfl rfl ?_
              refine G_brF rfl rfl rfl ?_
              refine G_go rfl rfl ?_
              refine G_go rfl rfl ?_
              refine G_rf rfl rfl (by decide) (hR 2 7 119 rfl) ?_
              refine G_go rfl rfl ?_
              refine G_brF rfl rfl rfl ?_
              refine G_go rfl rfl ?_
              refine G_rf rfl rfl (by decide) (hR 2 7 119 rfl) ?_
              refine G_go rfl rfl ?_
              refine G_go rfl rfl ?_
              refine G_ir (n := 7) rfl rfl (by decide) (by decide) (by decide) ?_
              refine G_go rfl rfl ?_
              refine G_go rfl rfl ?_
              refine G_iw (n := 7) rfl rfl (by decide) (by decide) (by decide) ?_
              have hR := refs_up (a := 119) (k := 1) (x := wr ((s 119 1) + 1)) hR rfl
              refine G_go rfl rfl ?_
              refine G_ret rfl rfl ?_
              exact G_ret rfl rfl h
          · have h := h.2 c13
            refine G_go rfl rfl ?_
            refine G_go rfl rfl ?_
            refine G_ret rfl rfl ?_
            refine G_go rfl rfl ?_
            refine G_go rfl rfl ?_
            refine G_go rfl rfl ?_
            refine G_call rfl rfl ?_
            refine G_go rfl rfl ?_
            refine G_go rfl rfl ?_
            refine G_ge rfl rfl (fun c16 => ?_) (fun c16 => ?_)
            · have h := h.1 c16
              refine G_go rfl rfl ?_
              refine G_go rfl rfl ?_
              refine G_le rfl rfl (fun c17 => ?_) (fun c17 => ?_)
              · have h := h.1 c17
                refine G_go rfl rfl ?_
                refine G_ret rfl rfl ?_
                refine G_call rfl rfl ?_
                refine G_go rfl rfl ?_
                refine G_brT rfl rfl rfl ?_
                refine G_go rfl rfl ?_
                refine G_ret rfl rfl ?_
                refine G_go rfl rfl ?_
                show G 2 120 85 18 [(3, 2), (1, a0), (1, a1), (1, a2), (1, 0), (0, 0), (0, 0)] [] (n, s) Q
                refine G_go rfl rfl ?_
                refine G_brT rfl rfl rfl ?_
                refine G_go rfl rfl ?_
                refine G_rf rfl rfl (by decide) (hR 2 0 3 rfl) ?_
                refine G_rf rfl rfl (by decide) (hR 3 2 6 rfl) ?_
                refine G_go rfl rfl ?_
                obtain ⟨g18, h⟩ := h
                refine G_ir (n := 6) rfl rfl (by decide) (by decide) g18 ?_
                refine G_go rfl rfl ?_
                show G 2 120 85 41 [(3, 2), (1, a0), (1, a1), (1, a2), (1, 0), (1, s 6 a0.toNat), (0, 0)] [] (n, s) Q
                refine G_go rfl rfl ?_
                refine G_go rfl rfl ?_
                show G 2 120 85 44 [(3, 2), (1, a0), (1, a1), (1, a2), (1, 0), (1, s 6 a0.toNat), (1, 0)] [] (n, s) Q
                exact h
              · have h := h.2 c17
                refine G_go rfl rfl ?_
                refine G_go rfl rfl ?_
                refine G_ret rfl rfl ?_
                refine G_call rfl rfl ?_
                refine G_go rfl rfl ?_
                refine G_brT rfl rfl rfl ?_
                refine G_go rfl rfl ?_
                refine G_ret rfl rfl ?_
                refine G_go rfl rfl ?_
                show G 2 120 85 18 [(3, 2), (1, a0), (1, a1), (1, a2), (1, (-6)), (0, 0), (0, 0)] [] (n, s) Q
                refine G_go rfl rfl ?_
                refine G_brF rfl rfl rfl ?_
                refine G_go rfl rfl ?_
                refine G_go rfl rfl ?_
                refine G_call rfl rfl ?_
                refine G_go rfl rfl ?_
                refine G_go rfl rfl ?_
                refine G_go rfl rfl ?_
                refine G_go rfl rfl ?_
                refine G_brF rfl rfl rfl ?_
                refine G_go rfl rfl ?_
                refine G_go rfl rfl ?_
                refine G_rf rfl rfl (by decide) (hR 2 7 119 rfl) ?_
                refine G_go rfl rfl ?_
                refine G_brF rfl rfl rfl ?_
                refine G_go rfl rfl ?_
                refine G_rf rfl rfl (by decide) (hR 2 7 119 rfl) ?_
                refine G_go rfl rfl ?_
                refine G_go rfl rfl ?_
                refine G_ir (n := 7) rfl rfl (by decide) (by decide) (by decide) ?_
                refine G_go rfl rfl ?_
                refine G_go rfl rfl ?_
                refine G_iw (n := 7) rfl rfl (by decide) (by decide) (by decide) ?_
                have hR := refs_up (a := 119) (k := 6) (x := wr ((s 119 6) + 1)) hR rfl
                refine G_go rfl rfl ?_
                refine G_ret rfl rfl ?_
                exact G_ret rfl rfl h
            · have h := h.2 c16
              refine G_go rfl rfl ?_
              refine G_ret rfl rfl ?_
              refine G_call rfl rfl ?_
              refine G_go rfl rfl ?_
              refine G_brT rfl rfl rfl ?_
              refine G_go rfl rfl ?_
              refine G_ret rfl rfl ?_
              refine G_go rfl rfl ?_
              show G 2 120 85 18 [(3, 2), (1, a0), (1, a1), (1, a2), (1, (-4)), (0, 0), (0, 0)] [] (n, s) Q
              refine G_go rfl rfl ?_
              refine G_brF rfl rfl rfl ?_
              refine G_go rfl rfl ?_
              refine G_go rfl rfl ?_
              refine G_call rfl rfl ?_
              refine G_go rfl rfl ?_
              refine G_go rfl rfl ?_
              refine G_go rfl rfl ?_
              refine G_go rfl rfl ?_
              refine G_brF rfl rfl rfl ?_
              refine G_go rfl rfl ?_
              refine G_go rfl rfl ?_
              refine G_rf rfl rfl (by decide) (hR 2 7 119 rfl) ?_
              refine G_go rfl rfl ?_
              refine G_brF rfl rfl rfl ?_
              refine G_go rfl rfl ?_
              refine G_rf rfl rfl (by decide) (hR 2 7 119 rfl) ?_
              refine G_go rfl rfl ?_
              refine G_go rfl rfl ?_
              refine G_ir (n := 7) rfl rfl (by decide) (by decide) (by decide) ?_
              refine G_go rfl rfl ?_
              refine G_go rfl rfl ?_
              refine G_iw (n := 7) rfl rfl (by decide) (by decide) (by decide) ?_
              have hR := refs_up (a := 119) (k := 4) (x := wr ((s 119 4) + 1)) hR rfl
              refine G_go rfl rfl ?_
              refine G_ret rfl rfl ?_
              exact G_ret rfl rfl h
theorem sb_X6_give_18 (n : Nat) (s : Nat → Nat → Int) (Q : List Vl → Sto → Prop) (x1 : Int) (x2 : Int) (x3 : Int) (x4 : Int) (hR : refs s)
    (h : (x4 = 0 → (0 ≤ x1 ∧ x1 < 6) ∧ (G 2 120 85 44 [(3, 2), (1, x1), (1, x2), (1, x3), (1, x4), (1, s 6 x1.toNat), (1, 0)] [] (n, s) Q)) ∧ (x4 ≠ 0 → (wr (-x4) ≤ 0 → Q [(1, x4)] (n, s)) ∧ (0 < wr (-x4) → (7 ≤ wr (-x4) → Q [(1, x4)] (n, s)) ∧ (wr (-x4) < 7 → (0 ≤ wr (-x4) ∧ wr (-x4) < 7) ∧ (Q [(1, x4)] (n, upS s 119 ((wr (-x4)).toNat) (wr ((s 119 ((wr (-x4)).toNat)) + 1)))))))) :
    G 2 120 85 18 [(3, 2), (1, x1), (1, x2), (1, x3), (1, x4), (0, 0), (0, 0)] [] (n, s) Q := by
  refine G_go rfl rfl ?_
  refine G_eq rfl rfl (fun c1 => ?_) (fun c1 => ?_)
  · have h := h.1 c1
    refine G_go rfl rfl ?_
    refine G_rf rfl rfl (by decide) (hR 2 0 3 rfl) ?_
    refine G_rf rfl rfl (by decide) (hR 3 2 6 rfl) ?_
    refine G_go rfl rfl ?_
    obtain ⟨g2, h⟩ := h
    refine G_ir (n := 6) rfl rfl (by decide) (by decide) g2 ?_
    refine G_go rfl rfl ?_
    show G 2 120 85 41 [(3, 2), (1, x1), (1, x2), (1, x3), (1, x4), (1, s 6 x1.toNat), (0, 0)] [] (n, s) Q
    refine G_go rfl rfl ?_
    refine G_go rfl rfl ?_
    show G 2 120 85 44 [(3, 2), (1, x1), (1, x2), (1, x3), (1, x4), (1, s 6 x1.toNat), (1, 0)] [] (n, s) Q
    exact h
  · have h := h.2 c1
    refine G_go rfl rfl ?_
    refine G_go rfl rfl ?_
    refine G_call rfl rfl ?_
    refine G_go rfl rfl ?_
    refine G_go rfl rfl ?_
    refine G_go rfl rfl ?_
    refine G_go rfl rfl ?_
    refine G_le rfl rfl (fun c3 => ?_) (fun c3 => ?_)
    · have h := h.1 c3
      refine G_go rfl rfl ?_
      refine G_ret rfl rfl ?_
      exact G_ret rfl rfl h
    · have h := h.2 c3
      refine G_go rfl rfl ?_
      refine G_go rfl rfl ?_
      refine G_rf rfl rfl (by decide) (hR 2 7 119 rfl) ?_
      refine G_go rfl rfl ?_
      refine G_ge rfl rfl (fun c4 => ?_) (fun c4 => ?_)
      · have h := h.1 c4
        refine G_go rfl rfl ?_
        refine G_ret rfl rfl ?_
        exact G_ret rfl rfl h
      · have h := h.2 c4
        refine G_go rfl rfl ?_
        refine G_rf rfl rfl (by decide) (hR 2 7 119 rfl) ?_
        refine G_go rfl rfl ?_
        refine G_go rfl rfl ?_
        obtain ⟨g5, h⟩ := h
        refine G_ir (n := 7) rfl rfl (by decide) (by decide) g5 ?_
        refine G_go rfl rfl ?_
        refine G_go rfl rfl ?_
        refine G_iw (n := 7) rfl rfl (by decide) (by decide) g5 ?_
        have hR := refs_up (a := 119) (k := (wr (-x4)).toNat) (x := wr ((s 119 ((wr (-x4)).toNat)) + 1)) hR rfl
        refine G_go rfl rfl ?_
        refine G_ret rfl rfl ?_
        exact G_ret rfl rfl h
theorem sb_X6_give_41 (n : Nat) (s : Nat → Nat → Int) (Q : List Vl → Sto → Prop) (x1 : Int) (x2 : Int) (x3 : Int) (x4 : Int) (x5 : Int) (hR : refs s)
    (h : G 2 120 85 44 [(3, 2), (1, x1), (1, x2), (1, x3), (1, x4), (1, x5), (1, 0)] [] (n, s) Q) :
    G 2 120 85 41 [(3, 2), (1, x1), (1, x2), (1, x3), (1, x4), (1, x5), (0, 0)] [] (n, s) Q := by
  refine G_go rfl rfl ?_
  refine G_go rfl rfl ?_
  show G 2 120 85 44 [(3, 2), (1, x1), (1, x2), (1, x3), (1, x4), (1, x5), (1, 0)] [] (n, s) Q
  exact h
theorem sb_X6_give_44 (n : Nat) (s : Nat → Nat → Int) (Q : List Vl → Sto → Prop) (x1 : Int) (x2 : Int) (x3 : Int) (x4 : Int) (x5 : Int) (x6 : Int) (hR : refs s)
    (h : (x5 < x6 → Q [(1, (-9))] (n, s)) ∧ (x6 ≤ x5 → (0 ≤ x1 ∧ x1 < 6) ∧ ((rgP (vw 4 s) x1.toNat) ∧ ((0 ≤ wr (x5 - x6) ∧ wr (x5 - x6) ≤ 2000) ∧ ((0 ≤ vw 4 s 4 x1.toNat ∧ vw 4 s 4 x1.toNat ≤ 99) ∧ ((lsV (vw 4 s) x1.toNat (wr (x5 - x6)) < x3 → G 2 120 85 44 [(3, 2), (1, x1), (1, x2), (1, x3), (1, x4), (1, x5), (1, wr (x6 + 1))] [] (n, s) Q) ∧ (x3 ≤ lsV (vw 4 s) x1.toNat (wr (x5 - x6)) → Q [(1, x6)] (n, s)))))))) :
    G 2 120 85 44 [(3, 2), (1, x1), (1, x2), (1, x3), (1, x4), (1, x5), (1, x6)] [] (n, s) Q := by
  refine G_go rfl rfl ?_
  refine G_go rfl rfl ?_
  refine G_gt rfl rfl (fun c1 => ?_) (fun c1 => ?_)
  · have h := h.1 c1
    refine G_go rfl rfl ?_
    exact G_ret rfl rfl h
  · have h := h.2 c1
    refine G_go rfl rfl ?_
    refine G_rf rfl rfl (by decide) (hR 2 0 3 rfl) ?_
    refine G_go rfl rfl ?_
    refine G_go rfl rfl ?_
    refine G_go rfl rfl ?_
    refine G_go rfl rfl ?_
    refine G_call rfl rfl ?_
    obtain ⟨g2, h⟩ := h
    obtain ⟨g3, h⟩ := h
    obtain ⟨g4, h⟩ := h
    obtain ⟨g5, h⟩ := h
    refine c_X5_lastsHolding_3 n _ _ x1 (wr (x5 - x6)) hR g2 g3 g4 g5 ?_
    refine G_go rfl rfl ?_
    refine G_lt rfl rfl (fun c6 => ?_) (fun c6 => ?_)
    · have h := h.1 c6
      refine G_go rfl rfl ?_
      refine G_go rfl rfl ?_
      exact h
    · have h := h.2 c6
      refine G_go rfl rfl ?_
      exact G_ret rfl rfl h
theorem sb_X7_give_0 (n : Nat) (s : Nat → Nat → Int) (Q : List Vl → Sto → Prop) (a0 : Int) (a1 : Int) (a2 : Int) (hR : refs s)
    (h : (a0 < 0 → Q [(1, (-1))] (n, upS (upS s 120 10 0) 129 1 (wr ((s 129 1) + 1)))) ∧ (a0 ≥ 0 → (a0 > wr ((s 120 0) - 1) → Q [(1, (-1))] (n, upS (upS s 120 10 0) 129 1 (wr ((s 129 1) + 1)))) ∧ (a0 ≤ wr ((s 120 0) - 1) → (a1 < 0 → Q [(1, (-1))] (n, upS (upS s 120 10 0) 129 1 (wr ((s 129 1) + 1)))) ∧ (a1 ≥ 0 → (a1 > wr ((s 120 0) - 1) → Q [(1, (-1))] (n, upS (upS s 120 10 0) 129 1 (wr ((s 129 1) + 1)))) ∧ (a1 ≤ wr ((s 120 0) - 1) → (a0 = a1 → Q [(1, (-1))] (n, upS (upS s 120 10 0) 129 1 (wr ((s 129 1) + 1)))) ∧ (a0 ≠ a1 → (1 ≤ a2 → (a2 ≤ 99 → (0 ≤ a0 ∧ a0 < 6) ∧ (G 120 140 180 55 [(3, 120), (1, a0), (1, a1), (1, a2), (1, 0), (1, s 123 a0.toNat), (1, (-9)), (1, s 123 a0.toNat)] [] (n, upS s 120 10 0) Q)) ∧ (99 < a2 → Q [(1, (-6))] (n, upS (upS s 120 10 0) 129 6 (wr ((s 129 6) + 1))))) ∧ (a2 < 1 → Q [(1, (-4))] (n, upS (upS s 120 10 0) 129 4 (wr ((s 129 4) + 1)))))))))) :
    G 120 140 180 0 [(3, 120), (1, a0), (1, a1), (1, a2), (0, 0), (0, 0), (0, 0), (0, 0)] [] (n, s) Q := by
  refine G_go rfl rfl ?_
  refine G_go rfl rfl ?_
  refine G_wr rfl rfl (by decide) ?_
  have hR := refs_up (a := 120) (k := 10) (x := 0) hR rfl
  refine G_go rfl rfl ?_
  refine G_go rfl rfl ?_
  refine G_go rfl rfl ?_
  refine G_call rfl rfl ?_
  refine G_go rfl rfl ?_
  refine G_go rfl rfl ?_
  refine G_call rfl rfl ?_
  refine G_go rfl rfl ?_
  refine G_go rfl rfl ?_
  refine G_go rfl rfl ?_
  refine G_go rfl rfl ?_
  refine G_rd rfl rfl (by decide) ?_
  refine G_go rfl rfl ?_
  refine G_go rfl rfl ?_
  refine G_go rfl rfl ?_
  refine G_call rfl rfl ?_
  refine G_go rfl rfl ?_
  refine G_go rfl rfl ?_
  refine G_go rfl rfl ?_
  refine G_lt rfl rfl (fun c1 => ?_) (fun c1 => ?_)
  · have c1 := xl_lt c1
    have h := h.1 c1
    refine G_go rfl rfl ?_
    refine G_ret rfl rfl ?_
    refine G_ret rfl rfl ?_
    refine G_brT rfl rfl rfl ?_
    refine G_go rfl rfl ?_
    refine G_ret rfl rfl ?_
    refine G_brT rfl rfl rfl ?_
    refine G_go rfl rfl ?_
    refine G_go rfl rfl ?_
    show G 120 140 180 27 [(3, 120), (1, a0), (1, a1), (1, a2), (1, (-1)), (0, 0), (0, 0), (0, 0)] [] (n, upS s 120 10 0) Q
    refine G_go rfl rfl ?_
    refine G_brF rfl rfl rfl ?_
    refine G_go rfl rfl ?_
    refine G_go rfl rfl ?_
    refine G_call rfl rfl ?_
    refine G_go rfl rfl ?_
    refine G_rf rfl rfl (by decide) (hR 120 11 129 rfl) ?_
    refine G_go rfl rfl ?_
    refine G_go rfl rfl ?_
    refine G_go rfl rfl ?_
    refine G_ir (n := 7) rfl rfl (by decide) (by decide) (by decide) ?_
    refine G_go rfl rfl ?_
    refine G_go rfl rfl ?_
    refine G_iw (n := 7) rfl rfl (by decide) (by decide) (by decide) ?_
    have hR := refs_up (a := 129) (k := 1) (x := wr ((s 129 1) + 1)) hR rfl
    refine G_go rfl rfl ?_
    refine G_ret rfl rfl ?_
    exact G_ret rfl rfl h
  · have c1 := xl_ge c1
    have h := h.2 c1
    refine G_go rfl rfl ?_
    refine G_go rfl rfl ?_
    refine G_go rfl rfl ?_
    refine G_gt rfl rfl (fun c2 => ?_) (fun c2 => ?_)
    · have c2 := xl_gt c2
      have h := h.1 c2
      refine G_go rfl rfl ?_
      refine G_ret rfl rfl ?_
      refine G_ret rfl rfl ?_
      refine G_brT rfl rfl rfl ?_
      refine G_go rfl rfl ?_
      refine G_ret rfl rfl ?_
      refine G_brT rfl rfl rfl ?_
      refine G_go rfl rfl ?_
      refine G_go rfl rfl ?_
      show G 120 140 180 27 [(3, 120), (1, a0), (1, a1), (1, a2), (1, (-1)), (0, 0), (0, 0), (0, 0)] [] (n, upS s 120 10 0) Q
      refine G_go rfl rfl ?_
      refine G_brF rfl rfl rfl ?_
      refine G_go rfl rfl ?_
      refine G_go rfl rfl ?_
      refine G_call rfl rfl ?_
      refine G_go rfl rfl ?_
      refine G_rf rfl rfl (by decide) (hR 120 11 129 rfl) ?_
      refine G_go rfl rfl ?_
      refine G_go rfl rfl ?_
      refine G_go rfl rfl ?_
      refine G_ir (n := 7) rfl rfl (by decide) (by decide) (by decide) ?_
      refine G_go rfl rfl ?_
      refine G_go rfl rfl ?_
      refine G_iw (n := 7) rfl rfl (by decide) (by decide) (by decide) ?_
      have hR := refs_up (a := 129) (k := 1) (x := wr ((s 129 1) + 1)) hR rfl
      refine G_go rfl rfl ?_
      refine G_ret rfl rfl ?_
      exact G_ret rfl rfl h
    · have c2 := xl_le c2
      have h := h.2 c2
      refine G_go rfl rfl ?_
      refine G_go rfl rfl ?_
      refine G_ret rfl rfl ?_
      refine G_ret rfl rfl ?_
      refine G_brF rfl rfl rfl ?_
      refine G_go rfl rfl ?_
      refine G_go rfl rfl ?_
      refine G_call rfl rfl ?_
      refine G_go rfl rfl ?_
      refine G_go rfl rfl ?_
      refine G_go rfl rfl ?_
      refine G_go rfl rfl ?_
      refine G_rd rfl rfl (by decide) ?_
      refine G_go rfl rfl ?_
      refine G_go rfl rfl ?_
      refine G_go rfl rfl ?_
      refine G_call rfl rfl ?_
      refine G_go rfl rfl ?_
      refine G_go rfl rfl ?_
      refine G_go rfl rfl ?_
      refine G_lt rfl rfl (fun c3 => ?_) (fun c3 => ?_)
      · have c3 := xl_lt c3
        have h := h.1 c3
        refine G_go rfl rfl ?_
        refine G_ret rfl rfl ?_
        refine G_ret rfl rfl ?_
        refine G_brT rfl rfl rfl ?_
        refine G_go rfl rfl ?_
        refine G_ret rfl rfl ?_
        refine G_brT rfl rfl rfl ?_
        refine G_go rfl rfl ?_
        refine G_go rfl rfl ?_
        show G 120 140 180 27 [(3, 120), (1, a0), (1, a1), (1, a2), (1, (-1)), (0, 0), (0, 0), (0, 0)] [] (n, upS s 120 10 0) Q
        refine G_go rfl rfl ?_
        refine G_brF rfl rfl rfl ?_
        refine G_go rfl rfl ?_
        refine G_go rfl rfl ?_
        refine G_call rfl rfl ?_
        refine G_go rfl rfl ?_
        refine G_rf rfl rfl (by decide) (hR 120 11 129 rfl) ?_
        refine G_go rfl rfl ?_
        refine G_go rfl rfl ?_
        refine G_go rfl rfl ?_
        refine G_ir (n := 7) rfl rfl (by decide) (by decide) (by decide) ?_
        refine G_go rfl rfl ?_
        refine G_go rfl rfl ?_
        refine G_iw (n := 7) rfl rfl (by decide) (by decide) (by decide) ?_
        have hR := refs_up (a := 129) (k := 1) (x := wr ((s 129 1) + 1)) hR rfl
        refine G_go rfl rfl ?_
        refine G_ret rfl rfl ?_
        exact G_ret rfl rfl h
      · have c3 := xl_ge c3
        have h := h.2 c3
        refine G_go rfl rfl ?_
        refine G_go rfl rfl ?_
        refine G_go rfl rfl ?_
        refine G_gt rfl rfl (fun c4 => ?_) (fun c4 => ?_)
        · have c4 := xl_gt c4
          have h := h.1 c4
          refine G_go rfl rfl ?_
          refine G_ret rfl rfl ?_
          refine G_ret rfl rfl ?_
          refine G_brT rfl rfl rfl ?_
          refine G_go rfl rfl ?_
          refine G_ret rfl rfl ?_
          refine G_brT rfl rfl rfl ?_
          refine G_go rfl rfl ?_
          refine G_go rfl rfl ?_
          show G 120 140 180 27 [(3, 120), (1, a0), (1, a1), (1, a2), (1, (-1)), (0, 0), (0, 0), (0, 0)] [] (n, upS s 120 10 0) Q
          refine G_go rfl rfl ?_
          refine G_brF rfl rfl rfl ?_
          refine G_go rfl rfl ?_
          refine G_go rfl rfl ?_
          refine G_call rfl rfl ?_
          refine G_go rfl rfl ?_
          refine G_rf rfl rfl (by decide) (hR 120 11 129 rfl) ?_
          refine G_go rfl rfl ?_
          refine G_go rfl rfl ?_
          refine G_go rfl rfl ?_
          refine G_ir (n := 7) rfl rfl (by decide) (by decide) (by decide) ?_
          refine G_go rfl rfl ?_
          refine G_go rfl rfl ?_
          refine G_iw (n := 7) rfl rfl (by decide) (by decide) (by decide) ?_
          have hR := refs_up (a := 129) (k := 1) (x := wr ((s 129 1) + 1)) hR rfl
          refine G_go rfl rfl ?_
          refine G_ret rfl rfl ?_
          exact G_ret rfl rfl h
        · have c4 := xl_le c4
          have h := h.2 c4
          refine G_go rfl rfl ?_
          refine G_go rfl rfl ?_
          refine G_ret rfl rfl ?_
          refine G_ret rfl rfl ?_
          refine G_brF rfl rfl rfl ?_
          refine G_go rfl rfl ?_
          refine G_go rfl rfl ?_
          refine G_eq rfl rfl (fun c5 => ?_) (fun c5 => ?_)
          · have h := h.1 c5
            refine G_go rfl rfl ?_
            refine G_ret rfl rfl ?_
            refine G_brT rfl rfl rfl ?_
            refine G_go rfl rfl ?_
            refine G_go rfl rfl ?_
            show G 120 140 180 27 [(3, 120), (1, a0), (1, a1), (1, a2), (1, (-1)), (0, 0), (0, 0), (0, 0)] [] (n, upS s 120 10 0) Q
            refine G_go rfl rfl ?_
            refine G_brF rfl rfl rfl ?_
            refine G_go rfl rfl ?_
            refine G_go rfl rfl ?_
            refine G_call rfl rfl ?_
            refine G_go rfl rfl ?_
            refine G_rf rfl rfl (by decide) (hR 120 11 129 rfl) ?_
            refine G_go rfl rfl ?_
            refine G_go rfl rfl ?_
            refine G_go rfl rfl ?_
            refine G_ir (n := 7) rfl rfl (by decide) (by decide) (by decide) ?_
            refine G_go rfl rfl ?_
            refine G_go rfl rfl ?_
            refine G_iw (n := 7) rfl rfl (by decide) (by decide) (by decide) ?_
            have hR := refs_up (a := 129) (k := 1) (x := wr ((s 129 1) + 1)) hR rfl
            refine G_go rfl rfl ?_
            refine G_ret rfl rfl ?_
            exact G_ret rfl rfl h
          · have h := h.2 c5
            refine G_go rfl rfl ?_
            refine G_go rfl rfl ?_
            refine G_ret rfl rfl ?_
            refine G_brF rfl rfl rfl ?_
            refine G_go rfl rfl ?_
            refine G_go rfl rfl ?_
            refine G_go rfl rfl ?_
            refine G_call rfl rfl ?_
            refine G_go rfl rfl ?_
            refine G_go rfl rfl ?_
            refine G_ge rfl rfl (fun c6 => ?_) (fun c6 => ?_)
            · have h := h.1 c6
              refine G_go rfl rfl ?_
              refine G_go rfl rfl ?_
              refine G_le rfl rfl (fun c7 => ?_) (fun c7 => ?_)
              · have h := h.1 c7
                refine G_go rfl rfl ?_
                refine G_ret rfl rfl ?_
                refine G_go rfl rfl ?_
                refine G_go rfl rfl ?_
                show G 120 140 180 27 [(3, 120), (1, a0), (1, a1), (1, a2), (1, 0), (0, 0), (0, 0), (0, 0)] [] (n, upS s 120 10 0) Q
                refine G_go rfl rfl ?_
                refine G_brT rfl rfl rfl ?_
                refine G_go rfl rfl ?_
                refine G_rf rfl rfl (by decide) (hR 120 3 123 rfl) ?_
                refine G_go rfl rfl ?_
                obtain ⟨g8, h⟩ := h
                refine G_ir (n := 6) rfl rfl (by decide) (by decide) g8 ?_
                refine G_go rfl rfl ?_
                show G 120 140 180 47 [(3, 120), (1, a0), (1, a1), (1, a2), (1, 0), (1, s 123 a0.toNat), (0, 0), (0, 0)] [] (n, upS s 120 10 0) Q
                refine G_go rfl rfl ?_
                refine G_go rfl rfl ?_
                show G 120 140 180 51 [(3, 120), (1, a0), (1, a1), (1, a2), (1, 0), (1, s 123 a0.toNat), (1, (-9)), (0, 0)] [] (n, upS s 120 10 0) Q
                refine G_go rfl rfl ?_
                refine G_go rfl rfl ?_
                show G 120 140 180 55 [(3, 120), (1, a0), (1, a1), (1, a2), (1, 0), (1, s 123 a0.toNat), (1, (-9)), (1, s 123 a0.toNat)] [] (n, upS s 120 10 0) Q
                exact h
              · have h := h.2 c7
                refine G_go rfl rfl ?_
                refine G_go rfl rfl ?_
                refine G_ret rfl rfl ?_
                refine G_go rfl rfl ?_
                refine G_go rfl rfl ?_
                show G 120 140 180 27 [(3, 120), (1, a0), (1, a1), (1, a2), (1, (-6)), (0, 0), (0, 0), (0, 0)] [] (n, upS s 120 10 0) Q
                refine G_go rfl rfl ?_
                refine G_brF rfl rfl rfl ?_
                refine G_go rfl rfl ?_
                refine G_go rfl rfl ?_
                refine G_call rfl rfl ?_
                refine G_go rfl rfl ?_
                refine G_rf rfl rfl (by decide) (hR 120 11 129 rfl) ?_
                refine G_go rfl rfl ?_
                refine G_go rfl rfl ?_
                refine G_go rfl rfl ?_
                refine G_ir (n := 7) rfl rfl (by decide) (by decide) (by decide) ?_
                refine G_go rfl rfl ?_
                refine G_go rfl rfl ?_
                refine G_iw (n := 7) rfl rfl (by decide) (by decide) (by decide) ?_
                have hR := refs_up (a := 129) (k := 6) (x := wr ((s 129 6) + 1)) hR rfl
                refine G_go rfl rfl ?_
                refine G_ret rfl rfl ?_
                exact G_ret rfl rfl h
            · have h := h.2 c6
              refine G_go rfl rfl ?_
              refine G_go rfl rfl ?_
              refine G_ret rfl rfl ?_
              refine G_go rfl rfl ?_
              refine G_go rfl rfl ?_
              show G 120 140 180 27 [(3, 120), (1, a0), (1, a1), (1, a2), (1, (-4)), (0, 0), (0, 0), (0, 0)] [] (n, upS s 120 10 0) Q
              refine G_go rfl rfl ?_
              refine G_brF rfl rfl rfl ?_
              refine G_go rfl rfl ?_
              refine G_go rfl rfl ?_
              refine G_call rfl rfl ?_
              refine G_go rfl rfl ?_
              refine G_rf rfl rfl (by decide) (hR 120 11 129 rfl) ?_
              refine G_go rfl rfl ?_
              refine G_go rfl rfl ?_
              refine G_go rfl rfl ?_
              refine G_ir (n := 7) rfl rfl (by decide) (by decide) (by decide) ?_
              refine G_go rfl rfl ?_
              refine G_go rfl rfl ?_
              refine G_iw (n := 7) rfl rfl (by decide) (by decide) (by decide) ?_
              have hR := refs_up (a := 129) (k := 4) (x := wr ((s 129 4) + 1)) hR rfl
              refine G_go rfl rfl ?_
              refine G_ret rfl rfl ?_
              exact G_ret rfl rfl h
theorem sb_X7_give_27 (n : Nat) (s : Nat → Nat → Int) (Q : List Vl → Sto → Prop) (x1 : Int) (x2 : Int) (x3 : Int) (x4 : Int) (hR : refs s)
    (h : (0 ≤ x4 → (0 ≤ x1 ∧ x1 < 6) ∧ (G 120 140 180 55 [(3, 120), (1, x1), (1, x2), (1, x3), (1, x4), (1, s 123 x1.toNat), (1, (-9)), (1, s 123 x1.toNat)] [] (n, s) Q)) ∧ (x4 < 0 → (0 ≤ wr (-x4) ∧ wr (-x4) < 7) ∧ (Q [(1, x4)] (n, upS s 129 ((wr (-x4)).toNat) (wr ((s 129 ((wr (-x4)).toNat)) + 1)))))) :
    G 120 140 180 27 [(3, 120), (1, x1), (1, x2), (1, x3), (1, x4), (0, 0), (0, 0), (0, 0)] [] (n, s) Q := by
  refine G_go rfl rfl ?_
  refine G_ge rfl rfl (fun c1 => ?_) (fun c1 => ?_)
  · have h := h.1 c1
    refine G_go rfl rfl ?_
    refine G_rf rfl rfl (by decide) (hR 120 3 123 rfl) ?_
    refine G_go rfl rfl ?_
    obtain ⟨g2, h⟩ := h
    refine G_ir (n := 6) rfl rfl (by decide) (by decide) g2 ?_
    refine G_go rfl rfl ?_
    show G 120 140 180 47 [(3, 120), (1, x1), (1, x2), (1, x3), (1, x4), (1, s 123 x1.toNat), (0, 0), (0, 0)] [] (n, s) Q
    refine G_go rfl rfl ?_
    refine G_go rfl rfl ?_
    show G 120 140 180 51 [(3, 120), (1, x1), (1, x2), (1, x3), (1, x4), (1, s 123 x1.toNat), (1, (-9)), (0, 0)] [] (n, s) Q
    refine G_go rfl rfl ?_
    refine G_go rfl rfl ?_
    show G 120 140 180 55 [(3, 120), (1, x1), (1, x2), (1, x3), (1, x4), (1, s 123 x1.toNat), (1, (-9)), (1, s 123 x1.toNat)] [] (n, s) Q
    exact h
  · have h := h.2 c1
    refine G_go rfl rfl ?_
    refine G_go rfl rfl ?_
    refine G_call rfl rfl ?_
    refine G_go rfl rfl ?_
    refine G_rf rfl rfl (by decide) (hR 120 11 129 rfl) ?_
    refine G_go rfl rfl ?_
    refine G_go rfl rfl ?_
    refine G_go rfl rfl ?_
    obtain ⟨g3, h⟩ := h
    refine G_ir (n := 7) rfl rfl (by decide) (by decide) g3 ?_
    refine G_go rfl rfl ?_
    refine G_go rfl rfl ?_
    refine G_iw (n := 7) rfl rfl (by decide) (by decide) g3 ?_
    have hR := refs_up (a := 129) (k := (wr (-x4)).toNat) (x := wr ((s 129 ((wr (-x4)).toNat)) + 1)) hR rfl
    refine G_go rfl rfl ?_
    refine G_ret rfl rfl ?_
    exact G_ret rfl rfl h
theorem sb_X7_give_47 (n : Nat) (s : Nat → Nat → Int) (Q : List Vl → Sto → Prop) (x1 : Int) (x2 : Int) (x3 : Int) (x4 : Int) (x5 : Int) (hR : refs s)
    (h : G 120 140 180 55 [(3, 120), (1, x1), (1, x2), (1, x3), (1, x4), (1, x5), (1, (-9)), (1, x5)] [] (n, s) Q) :
    G 120 140 180 47 [(3, 120), (1, x1), (1, x2), (1, x3), (1, x4), (1, x5), (0, 0), (0, 0)] [] (n, s) Q := by
  refine G_go rfl rfl ?_
  refine G_go rfl rfl ?_
  show G 120 140 180 51 [(3, 120), (1, x1), (1, x2), (1, x3), (1, x4), (1, x5), (1, (-9)), (0, 0)] [] (n, s) Q
  refine G_go rfl rfl ?_
  refine G_go rfl rfl ?_
  show G 120 140 180 55 [(3, 120), (1, x1), (1, x2), (1, x3), (1, x4), (1, x5), (1, (-9)), (1, x5)] [] (n, s) Q
  exact h
theorem sb_X7_give_51 (n : Nat) (s : Nat → Nat → Int) (Q : List Vl → Sto → Prop) (x1 : Int) (x2 : Int) (x3 : Int) (x4 : Int) (x5 : Int) (x6 : Int) (hR : refs s)
    (h : G 120 140 180 55 [(3, 120), (1, x1), (1, x2), (1, x3), (1, x4), (1, x5), (1, x6), (1, x5)] [] (n, s) Q) :
    G 120 140 180 51 [(3, 120), (1, x1), (1, x2), (1, x3), (1, x4), (1, x5), (1, x6), (0, 0)] [] (n, s) Q := by
  refine G_go rfl rfl ?_
  refine G_go rfl rfl ?_
  show G 120 140 180 55 [(3, 120), (1, x1), (1, x2), (1, x3), (1, x4), (1, x5), (1, x6), (1, x5)] [] (n, s) Q
  exact h
theorem sb_X7_give_55 (n : Nat) (s : Nat → Nat → Int) (Q : List Vl → Sto → Prop) (x1 : Int) (x2 : Int) (x3 : Int) (x4 : Int) (x5 : Int) (x6 : Int) (x7 : Int) (hR : refs s)
    (h : (x7 < 0 → (0 ≤ x1 ∧ x1 < 6) ∧ (Q [(1, x6)] (n, upS s 123 x1.toNat x5))) ∧ (0 ≤ x7 → (0 ≤ x1 ∧ x1 < 6) ∧ ((rgP (vw 121 (upS s 123 x1.toNat (wr (x5 - x7)))) x1.toNat) ∧ ((0 ≤ vw 121 (upS s 123 x1.toNat (wr (x5 - x7))) 2 x1.toNat ∧ vw 121 (upS s 123 x1.toNat (wr (x5 - x7))) 2 x1.toNat ≤ 2000) ∧ ((0 ≤ vw 121 (upS s 123 x1.toNat (wr (x5 - x7))) 4 x1.toNat ∧ vw 121 (upS s 123 x1.toNat (wr (x5 - x7))) 4 x1.toNat ≤ 99) ∧ ((lsW (vw 121 (upS s 123 x1.toNat (wr (x5 - x7)))) x1.toNat < x3 → G 120 140 180 55 [(3, 120), (1, x1), (1, x2), (1, x3), (1, x4), (1, x5), (1, x6), (1, wr (x7 + (-1)))] [] (n, upS s 123 x1.toNat (wr (x5 - x7))) Q) ∧ (x3 ≤ lsW (vw 121 (upS s 123 x1.toNat (wr (x5 - x7)))) x1.toNat → G 120 140 180 55 [(3, 120), (1, x1), (1, x2), (1, x3), (1, x4), (1, x5), (1, x7), (1, wr (x7 + (-1)))] [] (n, upS s 123 x1.toNat (wr (x5 - x7))) Q))))))) :
    G 120 140 180 55 [(3, 120), (1, x1), (1, x2), (1, x3), (1, x4), (1, x5), (1, x6), (1, x7)] [] (n, s) Q := by
  refine G_go rfl rfl ?_
  refine G_lt rfl rfl (fun c1 => ?_) (fun c1 => ?_)
  · have h := h.1 c1
    refine G_go rfl rfl ?_
    refine G_rf rfl rfl (by decide) (hR 120 3 123 rfl) ?_
    refine G_go rfl rfl ?_
    refine G_go rfl rfl ?_
    obtain ⟨g2, h⟩ := h
    refine G_iw (n := 6) rfl rfl (by decide) (by decide) g2 ?_
    have hR := refs_up (a := 123) (k := x1.toNat) (x := x5) hR rfl
    refine G_go rfl rfl ?_
    exact G_ret rfl rfl h
  · have h := h.2 c1
    refine G_go rfl rfl ?_
    refine G_rf rfl rfl (by decide) (hR 120 3 123 rfl) ?_
    refine G_go rfl rfl ?_
    refine G_go rfl rfl ?_
    refine G_go rfl rfl ?_
    refine G_go rfl rfl ?_
    obtain ⟨g3, h⟩ := h
    refine G_iw (n := 6) rfl rfl (by decide) (by decide) g3 ?_
    have hR := refs_up (a := 123) (k := x1.toNat) (x := wr (x5 - x7)) hR rfl
    refine G_go rfl rfl ?_
    refine G_go rfl rfl ?_
    refine G_call rfl rfl ?_
    obtain ⟨g4, h⟩ := h
    obtain ⟨g5, h⟩ := h
    obtain ⟨g6, h⟩ := h
    refine c_X7_lastsOf n _ _ x1 hR g3 g4 g5 g6 ?_
    refine G_go rfl rfl ?_
    refine G_lt rfl rfl (fun c7 => ?_) (fun c7 => ?_)
    · have h := h.1 c7
      refine G_go rfl rfl ?_
      refine G_go rfl rfl ?_
      show G 120 140 180 89 [(3, 120), (1, x1), (1, x2), (1, x3), (1, x4), (1, x5), (1, x6), (1, x7)] [] (n, upS s 123 x1.toNat (wr (x5 - x7))) Q
      refine G_go rfl rfl ?_
      refine G_go rfl rfl ?_
      exact h
    · have h := h.2 c7
      refine G_go rfl rfl ?_
      refine G_go rfl rfl ?_
      refine G_go rfl rfl ?_
      show G 120 140 180 89 [(3, 120), (1, x1), (1, x2), (1, x3), (1, x4), (1, x5), (1, x7), (1, x7)] [] (n, upS s 123 x1.toNat (wr (x5 - x7))) Q
      refine G_go rfl rfl ?_
      refine G_go rfl rfl ?_
      exact h
theorem sb_X7_give_89 (n : Nat) (s : Nat → Nat → Int) (Q : List Vl → Sto → Prop) (x1 : Int) (x2 : Int) (x3 : Int) (x4 : Int) (x5 : Int) (x6 : Int) (x7 : Int) (hR : refs s)
    (h : G 120 140 180 55 [(3, 120), (1, x1), (1, x2), (1, x3), (1, x4), (1, x5), (1, x6), (1, wr (x7 + (-1)))] [] (n, s) Q) :
    G 120 140 180 89 [(3, 120), (1, x1), (1, x2), (1, x3), (1, x4), (1, x5), (1, x6), (1, x7)] [] (n, s) Q := by
  refine G_go rfl rfl ?_
  refine G_go rfl rfl ?_
  exact h
/-! GIVE -/
def ff (P : Nat → Bool) : Nat → Nat → Int
  | 0, _ => -9
  | d + 1, k => if P k = true then (k : Int) else ff P d (k + 1)
def gvP (t : Nat → Nat → Int) (p : Nat) (v : Int) (k : Nat) : Bool := decide (v ≤ lsV (vw 121 t) p (t 123 p - (k : Int)))
def gvN (t : Nat → Nat → Int) (p : Nat) : Nat := (t 123 p).toNat + 1
theorem cl_give (n : Nat) (s t : Nat → Nat → Int) (h : REL s t) (p : Nat) (hp : (p : Int) < t 120 0) (a1 v x4 : Int) (Q : List Vl → Sto → Prop) : ∀ d k, k + d = gvN t p → Q [(1, ff (gvP t p v) d k)] (n, s) → G 2 120 85 44 [(3, 2), (1, (p : Int)), (1, a1), (1, v), (1, x4), (1, s 6 p), (1, (k : Int))] [] (n, s) Q := by
  obtain ⟨hn1, hn2, hn3, hn4⟩ := h.np
  have ht := h.t p hp
  have hs := h.s p hp
  have hN : gvN t p = (t 123 p).toNat + 1 := rfl
  obtain ⟨g1, g2, g3, g4, g5, g6⟩ := h.rg p hp
  intro d
  induction d with
  | zero =>
    intro k hk hq
    exact sb_X6_give_44 n s Q _ _ _ _ _ _ h.1 ⟨fun _ => hq, fun e => by omega⟩
  | succ d ih =>
    intro k hk hq
    have ih := ih (k + 1) (by omega)
    rw [← wr_s (show k < 1000 by omega) (by omega)] at ih
    refine sb_X6_give_44 n s Q _ _ _ _ _ _ h.1 ⟨fun e => by omega, fun _ => ?_⟩
    rw [Int.toNat_natCast, wr_id (x := s 6 p - (k : Int)) (by omega) (by omega), h.ls p hp, hs.2.2.1]
    refine ⟨by omega, g1, by omega, g5, fun c => ?_, fun c => ?_⟩
    · have c : ¬ gvP t p v k = true := fun e => absurd (of_decide_eq_true e) (by omega)
      rw [show ff (gvP t p v) (d + 1) k = _ from if_neg c] at hq
      rw [hs.2.2.1] at ih
      exact ih hq
    · have c : gvP t p v k = true := decide_eq_true c
      rw [show ff (gvP t p v) (d + 1) k = _ from if_pos c] at hq
      exact hq
def gvF (t : Nat → Nat → Int) (p : Nat) (v : Int) (k : Nat) (b : Int) : Int := if gvP t p v ((t 123 p).toNat - k) = true then (((t 123 p).toNat - k : Nat) : Int) else b
theorem gvF_ff (t : Nat → Nat → Int) (p : Nat) (v : Int) : ∀ m, m ≤ gvN t p → itr (gvF t p v) (-9) m = ff (gvP t p v) m (gvN t p - m) := by
  have hN : gvN t p = (t 123 p).toNat + 1 := rfl
  intro m
  induction m with
  | zero => intro _; rfl
  | succ m ih =>
    intro hm
    show gvF t p v m (itr (gvF t p v) (-9) m) = if gvP t p v (gvN t p - (m + 1)) = true then ((gvN t p - (m + 1) : Nat) : Int) else ff (gvP t p v) m (gvN t p - (m + 1) + 1)
    rw [ih (by omega), show gvN t p - (m + 1) = (t 123 p).toNat - m by omega, show (t 123 p).toNat - m + 1 = gvN t p - m by omega]
    rfl
theorem lsV_c2 {p : Nat} {s : Nat → Nat → Int} {x : Int} : lsW (vw 121 (upS s 123 p x)) p = lsV (vw 121 s) p x := lsV_c rfl
theorem lsV_c3 {p : Nat} {s : Nat → Nat → Int} {x y : Int} : lsV (vw 121 (upS s 123 p x)) p y = lsV (vw 121 s) p y := by
  unfold lsV bnV vw upS
  simp
theorem upS_again {t : Nat → Nat → Int} {a p : Nat} {x y : Int} : upS (upS t a p x) a p y = upS t a p y := by
  funext i j
  simp only [upS]
  by_cases c1 : i = a <;> by_cases c3 : j = p <;> simp_all
theorem rl_give (n : Nat) (s t : Nat → Nat → Int) (h : REL s t) (p : Nat) (hp : (p : Int) < t 120 0) (a1 v : Int) (Q : List Vl → Sto → Prop) (hq : Q [(1, ff (gvP t p v) (gvN t p) 0)] (n, t)) : G 120 140 180 55 [(3, 120), (1, (p : Int)), (1, a1), (1, v), (1, 0), (1, t 123 p), (1, (-9)), (1, t 123 p)] [] (n, t) Q := by
  obtain ⟨hn1, hn2, hn3, hn4⟩ := h.np
  have ht := h.t p hp
  have hN : gvN t p = (t 123 p).toNat + 1 := rfl
  obtain ⟨g1, g2, g3, g4, g5, g6⟩ := h.rg p hp
  have et : upS t 123 p (t 123 p) = t := by
    funext i j
    simp only [upS]
    by_cases c1 : i = 123 <;> by_cases c3 : j = p <;> simp_all
  have hx : t 123 p = t 123 p - ((0 : Nat) : Int) := by omega
  have loop : ∀ t1, refs t1 → upS t1 123 p (t 123 p) = t → G 120 140 180 55 [(3, 120), (1, (p : Int)), (1, a1), (1, v), (1, 0), (1, t 123 p), (1, (-9)), (1, t 123 p - ((0 : Nat) : Int))] [] (n, t1) Q := by
    refine G_up (gvN t p) (fun k b => ∀ t1, refs t1 → upS t1 123 p (t 123 p) = t → G 120 140 180 55 [(3, 120), (1, (p : Int)), (1, a1), (1, v), (1, 0), (1, t 123 p), (1, b), (1, t 123 p - (k : Int))] [] (n, t1) Q) (gvF t p v) (fun _ _ => True) (-9) trivial (fun _ _ _ _ => trivial) (fun k b hk _ hg t1 hR he => ?_) (fun _ t1 hR he => ?_)
    · refine sb_X7_give_55 n t1 Q _ _ _ _ _ _ _ hR ⟨fun e => by omega, fun _ => ?_⟩
      have ek : t 123 p - (k : Int) = (((t 123 p).toNat - k : Nat) : Int) := by omega
      rw [Int.toNat_natCast, wr_id (x := t 123 p - (t 123 p - (k : Int))) (by omega) (by omega), wr_id (x := t 123 p - (k : Int) + -1) (by omega) (by omega), show t 123 p - (t 123 p - (k : Int)) = (k : Int) by omega, show t 123 p - (k : Int) + -1 = t 123 p - ((k + 1 : Nat) : Int) by omega]
      have hR2 : refs (upS t1 123 p (k : Int)) := refs_up hR rfl
      have he2 : upS (upS t1 123 p (k : Int)) 123 p (t 123 p) = t := by rw [upS_again]; exact he
      have ev : lsW (vw 121 (upS t1 123 p (k : Int))) p = lsV (vw 121 t) p (t 123 p - (((t 123 p).toNat - k : Nat) : Int)) := by
        rw [lsV_c2, ← he, lsV_c3, he]
        congr 1
        omega
      have e1 : t1 122 p = t 122 p := by rw [← he]; simp [upS]
      have e3 : t1 124 p = t 124 p := by rw [← he]; simp [upS]
      have e4 : t1 125 p = t 125 p := by rw [← he]; simp [upS]
      rw [ev]
      refine ⟨by omega, ⟨?_, ?_⟩, ?_, ?_, fun c => ?_, fun c => ?_⟩
      · show 0 ≤ upS t1 123 p (k : Int) 122 p ∧ upS t1 123 p (k : Int) 122 p ≤ 9
        simp [upS]
        omega
      · show 0 ≤ upS t1 123 p (k : Int) 124 p ∧ upS t1 123 p (k : Int) 124 p ≤ 200
        simp [upS]
        omega
      · show 0 ≤ upS t1 123 p (k : Int) 123 p ∧ upS t1 123 p (k : Int) 123 p ≤ 2000
        simp [upS]
        omega
      · show 0 ≤ upS t1 123 p (k : Int) 125 p ∧ upS t1 123 p (k : Int) 125 p ≤ 99
        simp [upS]
        omega
      · have c : ¬ gvP t p v ((t 123 p).toNat - k) = true := fun e => absurd (of_decide_eq_true e) (by omega)
        rw [show gvF t p v k b = b from if_neg c] at hg
        exact hg _ hR2 he2
      · have c : gvP t p v ((t 123 p).toNat - k) = true := decide_eq_true c
        rw [show gvF t p v k b = (((t 123 p).toNat - k : Nat) : Int) from if_pos c, ← ek] at hg
        exact hg _ hR2 he2
    · refine sb_X7_give_55 n t1 Q _ _ _ _ _ _ _ hR ⟨fun _ => ?_, fun e => by omega⟩
      rw [Int.toNat_natCast, he, gvF_ff t p v _ (Nat.le_refl _), Nat.sub_self]
      exact ⟨by omega, hq⟩
  have := loop t h.2.1 et
  rw [← hx] at this
  exact this
theorem op_give (n : Nat) (s t : Nat → Nat → Int) (h : REL s t) (a0 a1 a2 : Int) : G 2 120 85 0 [(3, 2), (1, a0), (1, a1), (1, a2), (0, 0), (0, 0), (0, 0)] [] (n, s) (fun r s1 => G 120 140 180 0 [(3, 120), (1, a0), (1, a1), (1, a2), (0, 0), (0, 0), (0, 0), (0, 0)] [] (n, t) (Post n r s1)) := by
  obtain ⟨hn1, hn2, hn3, hn4⟩ := h.np
  have hw : wr (t 120 0 - 1) = t 120 0 - 1 := wr_id (by omega) (by omega)
  have h1 : ∀ z : Int, 0 ≤ z → z < t 120 0 → ∃ p : Nat, z = p ∧ (p : Int) < t 120 0 := fun z h1 h2 => ⟨z.toNat, by omega, by omega⟩
  refine sb_X6_give_0 n s _ a0 a1 a2 h.1 ?_
  repeat' first | with_reducible refine And.intro ?_ ?_ | intro _
  all_goals first | omega | skip
  all_goals try (obtain ⟨p, rfl, hp⟩ := h1 a0 (by omega) (by omega); rw [Int.toNat_natCast]; refine cl_give n s _ h.up p hp a1 a2 _ _ _ 0 (Nat.zero_add _) ?_)
  all_goals refine sb_X7_give_0 n t _ _ a1 a2 h.2.1 ?_
  all_goals repeat' first | with_reducible refine And.intro ?_ ?_ | intro _
  all_goals first | omega | exact post_ref h _ (by decide) | skip
  rw [Int.toNat_natCast]
  exact rl_give n s _ h.up p hp a1 a2 _ (post_same h rfl)


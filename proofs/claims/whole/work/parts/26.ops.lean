/-! BEST FRIEND -/
theorem sb_X6_bestFriend_0 (n : Nat) (s : Nat → Nat → Int) (Q : List Vl → Sto → Prop) (a0 : Int) (a1 : Int) (hR : refs s)
    (h : (a0 < 0 → (a1 < 0 → Q [(1, (-1))] (n, upS s 119 1 (wr ((s 119 1) + 1)))) ∧ (0 ≤ a1 → (a1 ≤ 1 → Q [(1, (-1))] (n, upS s 119 1 (wr ((s 119 1) + 1)))) ∧ (1 < a1 → Q [(1, (-1))] (n, upS s 119 1 (wr ((s 119 1) + 1)))))) ∧ (0 ≤ a0 → (s 3 9 ≤ a0 → (a1 < 0 → Q [(1, (-1))] (n, upS s 119 1 (wr ((s 119 1) + 1)))) ∧ (0 ≤ a1 → (a1 ≤ 1 → Q [(1, (-1))] (n, upS s 119 1 (wr ((s 119 1) + 1)))) ∧ (1 < a1 → Q [(1, (-1))] (n, upS s 119 1 (wr ((s 119 1) + 1)))))) ∧ (a0 < s 3 9 → (a1 < 0 → Q [(1, (-2))] (n, upS s 119 2 (wr ((s 119 2) + 1)))) ∧ (0 ≤ a1 → (a1 ≤ 1 → G 2 120 71 35 [(3, 2), (1, a0), (1, a1), (1, 0), (1, (-9)), (1, (-9)), (1, 0), (0, 0)] [] (n, s) Q) ∧ (1 < a1 → Q [(1, (-2))] (n, upS s 119 2 (wr ((s 119 2) + 1)))))))) :
    G 2 120 71 0 [(3, 2), (1, a0), (1, a1), (0, 0), (0, 0), (0, 0), (0, 0), (0, 0)] [] (n, s) Q := by
  refine G_go rfl rfl ?_
  refine G_go rfl rfl ?_
  refine G_call rfl rfl ?_
  refine G_go rfl rfl ?_
  refine G_rf rfl rfl (by decide) (hR 2 0 3 rfl) ?_
  refine G_go rfl rfl ?_
  refine G_call rfl rfl ?_
  refine G_go rfl rfl ?_
  refine G_lt rfl rfl (fun c1 => ?_) (fun c1 => ?_)
  · have h := h.1 c1
    refine G_go rfl rfl ?_
    refine G_ret rfl rfl ?_
    refine G_brT rfl rfl rfl ?_
    refine G_go rfl rfl ?_
    refine G_ret rfl rfl ?_
    refine G_go rfl rfl ?_
    refine G_go rfl rfl ?_
    refine G_call rfl rfl ?_
    refine G_go rfl rfl ?_
    refine G_lt rfl rfl (fun c2 => ?_) (fun c2 => ?_)
    · have h := h.1 c2
      refine G_go rfl rfl ?_
      refine G_go rfl rfl ?_
      refine G_ret rfl rfl ?_
      refine G_call rfl rfl ?_
      refine G_go rfl rfl ?_
      refine G_brF rfl rfl rfl ?_
      refine G_go rfl rfl ?_
      refine G_go rfl rfl ?_
      refine G_ret rfl rfl ?_
      refine G_go rfl rfl ?_
      show G 2 120 71 14 [(3, 2), (1, a0), (1, a1), (1, (-1)), (0, 0), (0, 0), (0, 0), (0, 0)] [] (n, s) Q
      refine G_go rfl rfl ?_
      refine G_brF rfl rfl rfl ?_
      refine G_go rfl rfl ?_
      refine G_go rfl rfl ?_
      refine G_call rfl rfl ?_
      refine G_go rfl rfl ?_
      refine G_go rfl rfl ?_
      refine G_go rfl rfl ?_
      refine G_go rfl rfl ?_
      refine G_brF rfl rfl rfl ?_
      refine G_go rfl rfl ?_
      refine G_go rfl rfl ?_
      refine G_rf rfl rfl (by decide) (hR 2 7 119 rfl) ?_
      refine G_go rfl rfl ?_
      refine G_brF rfl rfl rfl ?_
      refine G_go rfl rfl ?_
      refine G_rf rfl rfl (by decide) (hR 2 7 119 rfl) ?_
      refine G_go rfl rfl ?_
      refine G_go rfl rfl ?_
      refine G_ir (n := 7) rfl rfl (by decide) (by decide) (by decide) ?_
      refine G_go rfl rfl ?_
      refine G_go rfl rfl ?_
      refine G_iw (n := 7) rfl rfl (by decide) (by decide) (by decide) ?_
      have hR := refs_up (a := 119) (k := 1) (x := wr ((s 119 1) + 1)) hR rfl
      refine G_go rfl rfl ?_
      refine G_ret rfl rfl ?_
      exact G_ret rfl rfl h
    · have h := h.2 c2
      refine G_go rfl rfl ?_
      refine G_go rfl rfl ?_
      refine G_le rfl rfl (fun c3 => ?_) (fun c3 => ?_)
      · have h := h.1 c3
        refine G_go rfl rfl ?_
        refine G_ret rfl rfl ?_
        refine G_call rfl rfl ?_
        refine G_go rfl rfl ?_
        refine G_brF rfl rfl rfl ?_
        refine G_go rfl rfl ?_
        refine G_go rfl rfl ?_
        refine G_ret rfl rfl ?_
        refine G_go rfl rfl ?_
        show G 2 120 71 14 [(3, 2), (1, a0), (1, a1), (1, (-1)), (0, 0), (0, 0), (0, 0), (0, 0)] [] (n, s) Q
        refine G_go rfl rfl ?_
        refine G_brF rfl rfl rfl ?_
        refine G_go rfl rfl ?_
        refine G_go rfl rfl ?_
        refine G_call rfl rfl ?_
        refine G_go rfl rfl ?_
        refine G_go rfl rfl ?_
        refine G_go rfl rfl ?_
        refine G_go rfl rfl ?_
        refine G_brF rfl rfl rfl ?_
        refine G_go rfl rfl ?_
        refine G_go rfl rfl ?_
        refine G_rf rfl rfl (by decide) (hR 2 7 119 rfl) ?_
        refine G_go rfl rfl ?_
        refine G_brF rfl rfl rfl ?_
        refine G_go rfl rfl ?_
        refine G_rf rfl rfl (by decide) (hR 2 7 119 rfl) ?_
        refine G_go rfl rfl ?_
        refine G_go rfl rfl ?_
        refine G_ir (n := 7) rfl rfl (by decide) (by decide) (by decide) ?_
        refine G_go rfl rfl ?_
        refine G_go rfl rfl ?_
        refine G_iw (n := 7) rfl rfl (by decide) (by decide) (by decide) ?_
        have hR := refs_up (a := 119) (k := 1) (x := wr ((s 119 1) + 1)) hR rfl
        refine G_go rfl rfl ?_
        refine G_ret rfl rfl ?_
        exact G_ret rfl rfl h
      · have h := h.2 c3
        refine G_go rfl rfl ?_
        refine G_go rfl rfl ?_
        refine G_ret rfl rfl ?_
        refine G_call rfl rfl ?_
        refine G_go rfl rfl ?_
        refine G_brF rfl rfl rfl ?_
        refine G_go rfl rfl ?_
        refine G_go rfl rfl ?_
        refine G_ret rfl rfl ?_
        refine G_go rfl rfl ?_
        show G 2 120 71 14 [(3, 2), (1, a0), (1, a1), (1, (-1)), (0, 0), (0, 0), (0, 0), (0, 0)] [] (n, s) Q
        refine G_go rfl rfl ?_
        refine G_brF rfl rfl rfl ?_
        refine G_go rfl rfl ?_
        refine G_go rfl rfl ?_
        refine G_call rfl rfl ?_
        refine G_go rfl rfl ?_
        refine G_go rfl rfl ?_
        refine G_go rfl rfl ?_
        refine G_go rfl rfl ?_
        refine G_brF rfl rfl rfl ?_
        refine G_go rfl rfl ?_
        refine G_go rfl rfl ?_
        refine G_rf rfl rfl (by decide) (hR 2 7 119 rfl) ?_
        refine G_go rfl rfl ?_
        refine G_brF rfl rfl rfl ?_
        refine G_go rfl rfl ?_
        refine G_rf rfl rfl (by decide) (hR 2 7 119 rfl) ?_
        refine G_go rfl rfl ?_
        refine G_go rfl rfl ?_
        refine G_ir (n := 7) rfl rfl (by decide) (by decide) (by decide) ?_
        refine G_go rfl rfl ?_
        refine G_go rfl rfl ?_
        refine G_iw (n := 7) rfl rfl (by decide) (by decide) (by decide) ?_
        have hR := refs_up (a := 119) (k := 1) (x := wr ((s 119 1) + 1)) hR rfl
        refine G_go rfl rfl ?_
        refine G_ret rfl rfl ?_
        exact G_ret rfl rfl h
  · have h := h.2 c1
    refine G_go rfl rfl ?_
    refine G_go rfl rfl ?_
    refine G_rd rfl rfl (by decide) ?_
    refine G_ge rfl rfl (fun c4 => ?_) (fun c4 => ?_)
    · have h := h.1 c4
      refine G_go rfl rfl ?_
      refine G_ret rfl rfl ?_
      refine G_brT rfl rfl rfl ?_
      refine G_go rfl rfl ?_
      refine G_ret rfl rfl ?_
      refine G_go rfl rfl ?_
      refine G_go rfl rfl ?_
      refine G_call rfl rfl ?_
      refine G_go rfl rfl ?_
      refine G_lt rfl rfl (fun c5 => ?_) (fun c5 => ?_)
      · have h := h.1 c5
        refine G_go rfl rfl ?_
        refine G_go rfl rfl ?_
        refine G_ret rfl rfl ?_
        refine G_call rfl rfl ?_
        refine G_go rfl rfl ?_
        refine G_brF rfl rfl rfl ?_
        refine G_go rfl rfl ?_
        refine G_go rfl rfl ?_
        refine G_ret rfl rfl ?_
        refine G_go rfl rfl ?_
        show G 2 120 71 14 [(3, 2), (1, a0), (1, a1), (1, (-1)), (0, 0), (0, 0), (0, 0), (0, 0)] [] (n, s) Q
        refine G_go rfl rfl ?_
        refine G_brF rfl rfl rfl ?_
        refine G_go rfl rfl ?_
        refine G_go rfl rfl ?_
        refine G_call rfl rfl ?_
        refine G_go rfl rfl ?_
        refine G_go rfl rfl ?_
        refine G_go rfl rfl ?_
        refine G_go rfl rfl ?_
        refine G_brF rfl rfl rfl ?_
        refine G_go rfl rfl ?_
        refine G_go rfl rfl ?_
        refine G_rf rfl rfl (by decide) (hR 2 7 119 rfl) ?_
        refine G_go rfl rfl ?_
        refine G_brF rfl rfl rfl ?_
        refine G_go rfl rfl ?_
        refine G_rf rfl rfl (by decide) (hR 2 7 119 rfl) ?_
        refine G_go rfl rfl ?_
        refine G_go rfl rfl ?_
        refine G_ir (n := 7) rfl rfl (by decide) (by decide) (by decide) ?_
        refine G_go rfl rfl ?_
        refine G_go rfl rfl ?_
        refine G_iw (n := 7) rfl rfl (by decide) (by decide) (by decide) ?_
        have hR := refs_up (a := 119) (k := 1) (x := wr ((s 119 1) + 1)) hR rfl
        refine G_go rfl rfl ?_
        refine G_ret rfl rfl ?_
        exact G_ret rfl rfl h
      · have h := h.2 c5
        refine G_go rfl rfl ?_
        refine G_go rfl rfl ?_
        refine G_le rfl rfl (fun c6 => ?_) (fun c6 => ?_)
        · have h := h.1 c6
          refine G_go rfl rfl ?_
          refine G_ret rfl rfl ?_
          refine G_call rfl rfl ?_
          refine G_go rfl rfl ?_
          refine G_brF rfl rfl rfl ?_
          refine G_go rfl rfl ?_
          refine G_go rfl rfl ?_
          refine G_ret rfl rfl ?_
          refine G_go rfl rfl ?_
          show G 2 120 71 14 [(3, 2), (1, a0), (1, a1), (1, (-1)), (0, 0), (0, 0), (0, 0), (0, 0)] [] (n, s) Q
          refine G_go rfl rfl ?_
          refine G_brF rfl rfl rfl ?_
          refine G_go rfl rfl ?_
          refine G_go rfl rfl ?_
          refine G_call rfl rfl ?_
          refine G_go rfl rfl ?_
          refine G_go rfl rfl ?_
          refine G_go rfl rfl ?_
          refine G_go rfl rfl ?_
          refine G_brF rfl rfl rfl ?_
          refine G_go rfl rfl ?_
          refine G_go rfl rfl ?_
          refine G_rf rfl rfl (by decide) (hR 2 7 119 rfl) ?_
          refine G_go rfl rfl ?_
          refine G_brF rfl rfl rfl ?_
          refine G_go rfl rfl ?_
          refine G_rf rfl rfl (by decide) (hR 2 7 119 rfl) ?_
          refine G_go rfl rfl ?_
          refine G_go rfl rfl ?_
          refine G_ir (n := 7) rfl rfl (by decide) (by decide) (by decide) ?_
          refine G_go rfl rfl ?_
          refine G_go rfl rfl ?_
          refine G_iw (n := 7) rfl rfl (by decide) (by decide) (by decide) ?_
          have hR := refs_up (a := 119) (k := 1) (x := wr ((s 119 1) + 1)) hR rfl
          refine G_go rfl rfl ?_
          refine G_ret rfl rfl ?_
          exact G_ret rfl rfl h
        · have h := h.2 c6
          refine G_go rfl rfl ?_
          refine G_go rfl rfl ?_
          refine G_ret rfl rfl ?_
          refine G_call rfl rfl ?_
          refine G_go rfl rfl ?_
          refine G_brF rfl rfl rfl ?_
          refine G_go rfl rfl ?_
          refine G_go rfl rfl ?_
          refine G_ret rfl rfl ?_
          refine G_go rfl rfl ?_
          show G 2 120 71 14 [(3, 2), (1, a0), (1, a1), (1, (-1)), (0, 0), (0, 0), (0, 0), (0, 0)] [] (n, s) Q
          refine G_go rfl rfl ?_
          refine G_brF rfl rfl rfl ?_
          refine G_go rfl rfl ?_
          refine G_go rfl rfl ?_
          refine G_call rfl rfl ?_
          refine G_go rfl rfl ?_
          refine G_go rfl rfl ?_
          refine G_go rfl rfl ?_
          refine G_go rfl rfl ?_
          refine G_brF rfl rfl rfl ?_
          refine G_go rfl rfl ?_
          refine G_go rfl rfl ?_
          refine G_rf rfl rfl (by decide) (hR 2 7 119 rfl) ?_
          refine G_go rfl rfl ?_
          refine G_brF rfl rfl rfl ?_
          refine G_go rfl rfl ?_
          refine G_rf rfl rfl (by decide) (hR 2 7 119 rfl) ?_
          refine G_go rfl rfl ?_
          refine G_go rfl rfl ?_
          refine G_ir (n := 7) rfl rfl (by decide) (by decide) (by decide) ?_
          refine G_go rfl rfl ?_
          refine G_go rfl rfl ?_
          refine G_iw (n := 7) rfl rfl (by decide) (by decide) (by decide) ?_
          have hR := refs_up (a := 119) (k := 1) (x := wr ((s 119 1) + 1)) hR rfl
          refine G_go rfl rfl ?_
          refine G_ret rfl rfl ?_
          exact G_ret rfl rfl h
    · have h := h.2 c4
      refine G_go rfl rfl ?_
      refine G_go rfl rfl ?_
      refine G_ret rfl rfl ?_
      refine G_brF rfl rfl rfl ?_
      refine G_go rfl rfl ?_
      refine G_go rfl rfl ?_
      refine G_ret rfl rfl ?_
      refine G_go rfl rfl ?_
      refine G_go rfl rfl ?_
      refine G_call rfl rfl ?_
      refine G_go rfl rfl ?_
      refine G_lt rfl rfl (fun c7 => ?_) (fun c7 => ?_)
      · have h := h.1 c7
        refine G_go rfl rfl ?_
        refine G_go rfl rfl ?_
        refine G_ret rfl rfl ?_
        refine G_call rfl rfl ?_
        refine G_go rfl rfl ?_
        refine G_brT rfl rfl rfl ?_
        refine G_go rfl rfl ?_
        refine G_ret rfl rfl ?_
        refine G_go rfl rfl ?_
        show G 2 120 71 14 [(3, 2), (1, a0), (1, a1), (1, (-2)), (0, 0), (0, 0), (0, 0), (0, 0)] [] (n, s) Q
        refine G_go rfl rfl ?_
        refine G_brF rfl rfl rfl ?_
        refine G_go rfl rfl ?_
        refine G_go rfl rfl ?_
        refine G_call rfl rfl ?_
        refine G_go rfl rfl ?_
        refine G_go rfl rfl ?_
        refine G_go rfl rfl ?_
        refine G_go rfl rfl ?_
        refine G_brF rfl rfl rfl ?_
        refine G_go rfl rfl ?_
        refine G_go rfl rfl ?_
        refine G_rf rfl rfl (by decide) (hR 2 7 119 rfl) ?_
        refine G_go rfl rfl ?_
        refine G_brF rfl rfl rfl ?_
        refine G_go rfl rfl ?_
        refine G_rf rfl rfl (by decide) (hR 2 7 119 rfl) ?_
        refine G_go rfl rfl ?_
        refine G_go rfl rfl ?_
        refine G_ir (n := 7) rfl rfl (by decide) (by decide) (by decide) ?_
        refine G_go rfl rfl ?_
        refine G_go rfl rfl ?_
        refine G_iw (n := 7) rfl rfl (by decide) (by decide) (by decide) ?_
        have hR := refs_up (a := 119) (k := 2) (x := wr ((s 119 2) + 1)) hR rfl
        refine G_go rfl rfl ?_
        refine G_ret rfl rfl ?_
        exact G_ret rfl rfl h
      · have h := h.2 c7
        refine G_go rfl rfl ?_
        refine G_go rfl rfl ?_
        refine G_le rfl rfl (fun c8 => ?_) (fun c8 => ?_)
        · have h := h.1 c8
          refine G_go rfl rfl ?_
          refine G_ret rfl rfl ?_
          refine G_call rfl rfl ?_
          refine G_go rfl rfl ?_
          refine G_brT rfl rfl rfl ?_
          refine G_go rfl rfl ?_
          refine G_ret rfl rfl ?_
          refine G_go rfl rfl ?_
          show G 2 120 71 14 [(3, 2), (1, a0), (1, a1), (1, 0), (0, 0), (0, 0), (0, 0), (0, 0)] [] (n, s) Q
          refine G_go rfl rfl ?_
          refine G_brT rfl rfl rfl ?_
          refine G_go rfl rfl ?_
          refine G_go rfl rfl ?_
          show G 2 120 71 28 [(3, 2), (1, a0), (1, a1), (1, 0), (1, (-9)), (0, 0), (0, 0), (0, 0)] [] (n, s) Q
          refine G_go rfl rfl ?_
          refine G_go rfl rfl ?_
          show G 2 120 71 32 [(3, 2), (1, a0), (1, a1), (1, 0), (1, (-9)), (1, (-9)), (0, 0), (0, 0)] [] (n, s) Q
          refine G_go rfl rfl ?_
          refine G_go rfl rfl ?_
          show G 2 120 71 35 [(3, 2), (1, a0), (1, a1), (1, 0), (1, (-9)), (1, (-9)), (1, 0), (0, 0)] [] (n, s) Q
          exact h
        · have h := h.2 c8
          refine G_go rfl rfl ?_
          refine G_go rfl rfl ?_
          refine G_ret rfl rfl ?_
          refine G_call rfl rfl ?_
          refine G_go rfl rfl ?_
          refine G_brT rfl rfl rfl ?_
          refine G_go rfl rfl ?_
          refine G_ret rfl rfl ?_
          refine G_go rfl rfl ?_
          show G 2 120 71 14 [(3, 2), (1, a0), (1, a1), (1, (-2)), (0, 0), (0, 0), (0, 0), (0, 0)] [] (n, s) Q
          refine G_go rfl rfl ?_
          refine G_brF rfl rfl rfl ?_
          refine G_go rfl rfl ?_
          refine G_go rfl rfl ?_
          refine G_call rfl rfl ?_
          refine G_go rfl rfl ?_
          refine G_go rfl rfl ?_
          refine G_go rfl rfl ?_
          refine G_go rfl rfl ?_
          refine G_brF rfl rfl rfl ?_
          refine G_go rfl rfl ?_
          refine G_go rfl rfl ?_
          refine G_rf rfl rfl (by decide) (hR 2 7 119 rfl) ?_
          refine G_go rfl rfl ?_
          refine G_brF rfl rfl rfl ?_
          refine G_go rfl rfl ?_
          refine G_rf rfl rfl (by decide) (hR 2 7 119 rfl) ?_
          refine G_go rfl rfl ?_
          refine G_go rfl rfl ?_
          refine G_ir (n := 7) rfl rfl (by decide) (by decide) (by decide) ?_
          refine G_go rfl rfl ?_
          refine G_go rfl rfl ?_
          refine G_iw (n := 7) rfl rfl (by decide) (by decide) (by decide) ?_
          have hR := refs_up (a := 119) (k := 2) (x := wr ((s 119 2) + 1)) hR rfl
          refine G_go rfl rfl ?_
          refine G_ret rfl rfl ?_
          exact G_ret rfl rfl h
theorem sb_X6_bestFriend_35 (n : Nat) (s : Nat → Nat → Int) (Q : List Vl → Sto → Prop) (x1 : Int) (x2 : Int) (x3 : Int) (x4 : Int) (x5 : Int) (x6 : Int) (w7 : Vl) (hR : refs s)
    (h : (s 3 9 ≤ x6 → (x2 ≠ 0 → Q [(1, x5)] (n, s)) ∧ (x2 = 0 → Q [(1, x4)] (n, s))) ∧ (x6 < s 3 9 → (x6 ≠ x1 → (0 ≤ x1 ∧ x1 < 6) ∧ ((rgP (vw 4 s) x1.toNat) ∧ ((0 ≤ (0 : Int) ∧ (0 : Int) ≤ 2000) ∧ ((0 ≤ vw 4 s 4 x1.toNat ∧ vw 4 s 4 x1.toNat ≤ 99) ∧ ((0 ≤ x6 ∧ x6 < 6) ∧ ((rgP (vw 4 s) x6.toNat) ∧ ((0 ≤ min 999 (wr ((s 6 x6.toNat) + (s 6 x1.toNat))) ∧ min 999 (wr ((s 6 x6.toNat) + (s 6 x1.toNat))) ≤ 2000) ∧ ((0 ≤ vw 4 s 4 x6.toNat ∧ vw 4 s 4 x6.toNat ≤ 99) ∧ ((wr ((lsV (vw 4 s) x1.toNat 0) + (lsV (vw 4 s) x6.toNat (min 999 (wr ((s 6 x6.toNat) + (s 6 x1.toNat)))))) ≤ x5 → G 2 120 71 35 [(3, 2), (1, x1), (1, x2), (1, x3), (1, x4), (1, x5), (1, wr (x6 + 1)), (1, wr ((lsV (vw 4 s) x1.toNat 0) + (lsV (vw 4 s) x6.toNat (min 999 (wr ((s 6 x6.toNat) + (s 6 x1.toNat)))))))] [] (n, s) Q) ∧ (x5 < wr ((lsV (vw 4 s) x1.toNat 0) + (lsV (vw 4 s) x6.toNat (min 999 (wr ((s 6 x6.toNat) + (s 6 x1.toNat)))))) → G 2 120 71 35 [(3, 2), (1, x1), (1, x2), (1, x3), (1, x6), (1, wr ((lsV (vw 4 s) x1.toNat 0) + (lsV (vw 4 s) x6.toNat (min 999 (wr ((s 6 x6.toNat) + (s 6 x1.toNat))))))), (1, wr (x6 + 1)), (1, wr ((lsV (vw 4 s) x1.toNat 0) + (lsV (vw 4 s) x6.toNat (min 999 (wr ((s 6 x6.toNat) + (s 6 x1.toNat)))))))] [] (n, s) Q)))))))))) ∧ (x6 = x1 → ((-9) ≤ x5 → G 2 120 71 35 [(3, 2), (1, x1), (1, x2), (1, x3), (1, x4), (1, x5), (1, wr (x6 + 1)), (1, (-9))] [] (n, s) Q) ∧ (x5 < (-9) → G 2 120 71 35 [(3, 2), (1, x1), (1, x2), (1, x3), (1, x6), (1, (-9)), (1, wr (x6 + 1)), (1, (-9))] [] (n, s) Q)))) :
    G 2 120 71 35 [(3, 2), (1, x1), (1, x2), (1, x3), (1, x4), (1, x5), (1, x6), w7] [] (n, s) Q := by
  refine G_go rfl rfl ?_
  refine G_go rfl rfl ?_
  refine G_rf rfl rfl (by decide) (hR 2 0 3 rfl) ?_
  refine G_rd rfl rfl (by decide) ?_
  refine G_ge rfl rfl (fun c1 => ?_) (fun c1 => ?_)
  · have h := h.1 c1
    refine G_go rfl rfl ?_
    refine G_ne rfl rfl (fun c2 => ?_) (fun c2 => ?_)
    · have h := h.1 c2
      refine G_go rfl rfl ?_
      exact G_ret rfl rfl h
    · have h := h.2 c2
      refine G_go rfl rfl ?_
      refine G_go rfl rfl ?_
      exact G_ret rfl rfl h
  · have h := h.2 c1
    refine G_go rfl rfl ?_
    refine G_go rfl rfl ?_
    refine G_ne rfl rfl (fun c3 => ?_) (fun c3 => ?_)
    · have h := h.1 c3
      refine G_go rfl rfl ?_
      refine G_go rfl rfl ?_
      refine G_go rfl rfl ?_
      refine G_call rfl rfl ?_
      refine G_go rfl rfl ?_
      refine G_rf rfl rfl (by decide) (hR 2 0 3 rfl) ?_
      refine G_go rfl rfl ?_
      refine G_go rfl rfl ?_
      refine G_call rfl rfl ?_
      obtain ⟨g4, h⟩ := h
      obtain ⟨g5, h⟩ := h
      obtain ⟨g6, h⟩ := h
      obtain ⟨g7, h⟩ := h
      refine c_X5_lastsHolding_3 n _ _ x1 0 hR g4 g5 g6 g7 ?_
      refine G_go rfl rfl ?_
      refine G_rf rfl rfl (by decide) (hR 2 0 3 rfl) ?_
      refine G_go rfl rfl ?_
      refine G_go rfl rfl ?_
      refine G_rf rfl rfl (by decide) (hR 2 0 3 rfl) ?_
      refine G_rf rfl rfl (by decide) (hR 3 2 6 rfl) ?_
      refine G_go rfl rfl ?_
      refine G_ir (n := 6) rfl rfl (by decide) (by decide) g4 ?_
      refine G_call rfl rfl ?_
      refine G_go rfl rfl ?_
      refine G_go rfl rfl ?_
      refine G_go rfl rfl ?_
      refine G_go rfl rfl ?_
      refine G_go rfl rfl ?_
      refine G_call rfl rfl ?_
      refine G_go rfl rfl ?_
      refine G_go rfl rfl ?_
      refine G_rf rfl rfl (by decide) (hR 3 2 6 rfl) ?_
      refine G_go rfl rfl ?_
      obtain ⟨g8, h⟩ := h
      refine G_ir (n := 6) rfl rfl (by decide) (by decide) g8 ?_
      refine G_go rfl rfl ?_
      refine G_go rfl rfl ?_
      refine G_min rfl rfl ?_
      refine G_ret rfl rfl ?_
      refine G_call rfl rfl ?_
      obtain ⟨g9, h⟩ := h
      obtain ⟨g10, h⟩ := h
      obtain ⟨g11, h⟩ := h
      refine c_X5_lastsHolding_3 n _ _ x6 (min 999 (wr ((s 6 x6.toNat) + (s 6 x1.toNat)))) hR g8 g9 g10 g11 ?_
      refine G_ret rfl rfl ?_
      refine G_go rfl rfl ?_
      refine G_ret rfl rfl ?_
      refine G_go rfl rfl ?_
      show G 2 120 71 67 [(3, 2), (1, x1), (1, x2), (1, x3), (1, x4), (1, x5), (1, x6), (1, wr ((lsV (vw 4 s) x1.toNat 0) + (lsV (vw 4 s) x6.toNat (min 999 (wr ((s 6 x6.toNat) + (s 6 x1.toNat)))))))] [] (n, s) Q
      refine G_go rfl rfl ?_
      refine G_go rfl rfl ?_
      refine G_le rfl rfl (fun c12 => ?_) (fun c12 => ?_)
      · have h := h.1 c12
        refine G_go rfl rfl ?_
        refine G_go rfl rfl ?_
        exact h
      · have h := h.2 c12
        refine G_go rfl rfl ?_
        refine G_go rfl rfl ?_
        show G 2 120 71 78 [(3, 2), (1, x1), (1, x2), (1, x3), (1, x4), (1, wr ((lsV (vw 4 s) x1.toNat 0) + (lsV (vw 4 s) x6.toNat (min 999 (wr ((s 6 x6.toNat) + (s 6 x1.toNat))))))), (1, x6), (1, wr ((lsV (vw 4 s) x1.toNat 0) + (lsV (vw 4 s) x6.toNat (min 999 (wr ((s 6 x6.toNat) + (s 6 x1.toNat)))))))] [] (n, s) Q
        refine G_go rfl rfl ?_
        refine G_go rfl rfl ?_
        show G 2 120 71 82 [(3, 2), (1, x1), (1, x2), (1, x3), (1, x6), (1, wr ((lsV (vw 4 s) x1.toNat 0) + (lsV (vw 4 s) x6.toNat (min 999 (wr ((s 6 x6.toNat) + (s 6 x1.toNat))))))), (1, x6), (1, wr ((lsV (vw 4 s) x1.toNat 0) + (lsV (vw 4 s) x6.toNat (min 999 (wr ((s 6 x6.toNat) + (s 6 x1.toNat)))))))] [] (n, s) Q
        refine G_go rfl rfl ?_
        refine G_go rfl rfl ?_
        exact h
    · have h := h.2 c3
      refine G_go rfl rfl ?_
      refine G_go rfl rfl ?_
      refine G_go rfl rfl ?_
      show G 2 120 71 67 [(3, 2), (1, x1), (1, x2), (1, x3), (1, x4), (1, x5), (1, x6), (1, (-9))] [] (n, s) Q
      refine G_go rfl rfl ?_
      refine G_go rfl rfl ?_
      refine G_le rfl rfl (fun c13 => ?_) (fun c13 => ?_)
      · have h := h.1 c13
        refine G_go rfl rfl ?_
        refine G_go rfl rfl ?_
        exact h
      · have h := h.2 c13
        refine G_go rfl rfl ?_
        refine G_go rfl rfl ?_
        show G 2 120 71 78 [(3, 2), (1, x1), (1, x2), (1, x3), (1, x4), (1, (-9)), (1, x6), (1, (-9))] [] (n, s) Q
        refine G_go rfl rfl ?_
        refine G_go rfl rfl ?_
        show G 2 120 71 82 [(3, 2), (1, x1), (1, x2), (1, x3), (1, x6), (1, (-9)), (1, x6), (1, (-9))] [] (n, s) Q
        refine G_go rfl rfl ?_
        refine G_go rfl rfl ?_
        exact h
theorem sb_X7_bestFriend_0 (n : Nat) (s : Nat → Nat → Int) (Q : List Vl → Sto → Prop) (a0 : Int) (a1 : Int) (hR : refs s)
    (h : (a0 < 0 → Q [(1, (-1))] (n, upS (upS s 120 10 0) 129 1 (wr ((s 129 1) + 1)))) ∧ (a0 ≥ 0 → (a0 > wr ((s 120 0) - 1) → Q [(1, (-1))] (n, upS (upS s 120 10 0) 129 1 (wr ((s 129 1) + 1)))) ∧ (a0 ≤ wr ((s 120 0) - 1) → (a1 < 0 → Q [(1, (-2))] (n, upS (upS s 120 10 0) 129 2 (wr ((s 129 2) + 1)))) ∧ (a1 ≥ 0 → (a1 > 1 → Q [(1, (-2))] (n, upS (upS s 120 10 0) 129 2 (wr ((s 129 2) + 1)))) ∧ (a1 ≤ 1 → G 120 140 161 45 [(3, 120), (1, a0), (1, a1), (1, 0), (1, (-9)), (1, (-9)), (1, 0), (0, 0)] [] (n, upS s 120 10 0) Q))))) :
    G 120 140 161 0 [(3, 120), (1, a0), (1, a1), (0, 0), (0, 0), (0, 0), (0, 0), (0, 0)] [] (n, s) Q := by
  refine G_go rfl rfl ?_
  refine G_go rfl rfl ?_
  refine G_wr rfl rfl (by decide) ?_
  have hR := refs_up (a := 120) (k := 10) (x := 0) hR rfl
  refine G_go rfl rfl ?_
  refine G_go rfl rfl ?_
  refine G_call rfl rfl ?_
  refine G_go rfl rfl ?_
  refine G_go rfl rfl ?_
  refine G_go rfl rfl ?_
  refine G_go rfl rfl ?_
  refine G_rd rfl rfl (by decide) ?_
  refine G_go rfl rfl ?_
  refine G_go rfl rfl ?_
  refine G_go rfl rfl ?_
  refine G_call rfl rfl ?_
  refine G_go rfl rfl ?_
  refine G_go rfl rfl ?_
  refine G_go rfl rfl ?_
  refine G_lt rfl rfl (fun c1 => ?_) (fun c1 => ?_)
  · have c1 := xl_lt c1
    have h := h.1 c1
    refine G_go rfl rfl ?_
    refine G_ret rfl rfl ?_
    refine G_ret rfl rfl ?_
    refine G_brT rfl rfl rfl ?_
    refine G_go rfl rfl ?_
    refine G_go rfl rfl ?_
    refine G_go rfl rfl ?_
    refine G_call rfl rfl ?_
    refine G_go rfl rfl ?_
    refine G_brT rfl rfl rfl ?_
    refine G_go rfl rfl ?_
    refine G_ret rfl rfl ?_
    refine G_go rfl rfl ?_
    show G 120 140 161 24 [(3, 120), (1, a0), (1, a1), (1, (-1)), (0, 0), (0, 0), (0, 0), (0, 0)] [] (n, upS s 120 10 0) Q
    refine G_go rfl rfl ?_
    refine G_brF rfl rfl rfl ?_
    refine G_go rfl rfl ?_
    refine G_go rfl rfl ?_
    refine G_call rfl rfl ?_
    refine G_go rfl rfl ?_
    refine G_rf rfl rfl (by decide) (hR 120 11 129 rfl) ?_
    refine G_go rfl rfl ?_
    refine G_go rfl rfl ?_
    refine G_go rfl rfl ?_
    refine G_ir (n := 7) rfl rfl (by decide) (by decide) (by decide) ?_
    refine G_go rfl rfl ?_
    refine G_go rfl rfl ?_
    refine G_iw (n := 7) rfl rfl (by decide) (by decide) (by decide) ?_
    have hR := refs_up (a := 129) (k := 1) (x := wr ((s 129 1) + 1)) hR rfl
    refine G_go rfl rfl ?_
    refine G_ret rfl rfl ?_
    exact G_ret rfl rfl h
  · have c1 := xl_ge c1
    have h := h.2 c1
    refine G_go rfl rfl ?_
    refine G_go rfl rfl ?_
    refine G_go rfl rfl ?_
    refine G_gt rfl rfl (fun c2 => ?_) (fun c2 => ?_)
    · have c2 := xl_gt c2
      have h := h.1 c2
      refine G_go rfl rfl ?_
      refine G_ret rfl rfl ?_
      refine G_ret rfl rfl ?_
      refine G_brT rfl rfl rfl ?_
      refine G_go rfl rfl ?_
      refine G_go rfl rfl ?_
      refine G_go rfl rfl ?_
      refine G_call rfl rfl ?_
      refine G_go rfl rfl ?_
      refine G_brT rfl rfl rfl ?_
      refine G_go rfl rfl ?_
      refine G_ret rfl rfl ?_
      refine G_go rfl rfl ?_
      show G 120 140 161 24 [(3, 120), (1, a0), (1, a1), (1, (-1)), (0, 0), (0, 0), (0, 0), (0, 0)] [] (n, upS s 120 10 0) Q
      refine G_go rfl rfl ?_
      refine G_brF rfl rfl rfl ?_
      refine G_go rfl rfl ?_
      refine G_go rfl rfl ?_
      refine G_call rfl rfl ?_
      refine G_go rfl rfl ?_
      refine G_rf rfl rfl (by decide) (hR 120 11 129 rfl) ?_
      refine G_go rfl rfl ?_
      refine G_go rfl rfl ?_
      refine G_go rfl rfl ?_
      refine G_ir (n := 7) rfl rfl (by decide) (by decide) (by decide) ?_
      refine G_go rfl rfl ?_
      refine G_go rfl rfl ?_
      refine G_iw (n := 7) rfl rfl (by decide) (by decide) (by decide) ?_
      have hR := refs_up (a := 129) (k := 1) (x := wr ((s 129 1) + 1)) hR rfl
      refine G_go rfl rfl ?_
      refine G_ret rfl rfl ?_
      exact G_ret rfl rfl h
    · have c2 := xl_le c2
      have h := h.2 c2
      refine G_go rfl rfl ?_
      refine G_go rfl rfl ?_
      refine G_ret rfl rfl ?_
      refine G_ret rfl rfl ?_
      refine G_brF rfl rfl rfl ?_
      refine G_go rfl rfl ?_
      refine G_go rfl rfl ?_
      refine G_go rfl rfl ?_
      refine G_go rfl rfl ?_
      refine G_call rfl rfl ?_
      refine G_go rfl rfl ?_
      refine G_brF rfl rfl rfl ?_
      refine G_go rfl rfl ?_
      refine G_go rfl rfl ?_
      refine G_go rfl rfl ?_
      refine G_go rfl rfl ?_
      refine G_go rfl rfl ?_
      refine G_call rfl rfl ?_
      refine G_go rfl rfl ?_
      refine G_go rfl rfl ?_
      refine G_go rfl rfl ?_
      refine G_lt rfl rfl (fun c3 => ?_) (fun c3 => ?_)
      · have c3 := xl_lt c3
        have h := h.1 c3
        refine G_go rfl rfl ?_
        refine G_ret rfl rfl ?_
        refine G_brF rfl rfl rfl ?_
        refine G_go rfl rfl ?_
        refine G_go rfl rfl ?_
        refine G_ret rfl rfl ?_
        refine G_go rfl rfl ?_
        show G 120 140 161 24 [(3, 120), (1, a0), (1, a1), (1, (-2)), (0, 0), (0, 0), (0, 0), (0, 0)] [] (n, upS s 120 10 0) Q
        refine G_go rfl rfl ?_
        refine G_brF rfl rfl rfl ?_
        refine G_go rfl rfl ?_
        refine G_go rfl rfl ?_
        refine G_call rfl rfl ?_
        refine G_go rfl rfl ?_
        refine G_rf rfl rfl (by decide) (hR 120 11 129 rfl) ?_
        refine G_go rfl rfl ?_
        refine G_go rfl rfl ?_
        refine G_go rfl rfl ?_
        refine G_ir (n := 7) rfl rfl (by decide) (by decide) (by decide) ?_
        refine G_go rfl rfl ?_
        refine G_go rfl rfl ?_
        refine G_iw (n := 7) rfl rfl (by decide) (by decide) (by decide) ?_
        have hR := refs_up (a := 129) (k := 2) (x := wr ((s 129 2) + 1)) hR rfl
        refine G_go rfl rfl ?_
        refine G_ret rfl rfl ?_
        exact G_ret rfl rfl h
      · have c3 := xl_ge c3
        have h := h.2 c3
        refine G_go rfl rfl ?_
        refine G_go rfl rfl ?_
        refine G_go rfl rfl ?_
        refine G_gt rfl rfl (fun c4 => ?_) (fun c4 => ?_)
        · have c4 := xl_gt c4
          have h := h.1 c4
          refine G_go rfl rfl ?_
          refine G_ret rfl rfl ?_
          refine G_brF rfl rfl rfl ?_
          refine G_go rfl rfl ?_
          refine G_go rfl rfl ?_
          refine G_ret rfl rfl ?_
          refine G_go rfl rfl ?_
          show G 120 140 161 24 [(3, 120), (1, a0), (1, a1), (1, (-2)), (0, 0), (0, 0), (0, 0), (0, 0)] [] (n, upS s 120 10 0) Q
          refine G_go rfl rfl ?_
          refine G_brF rfl rfl rfl ?_
          refine G_go rfl rfl ?_
          refine G_go rfl rfl ?_
          refine G_call rfl rfl ?_
          refine G_go rfl rfl ?_
          refine G_rf rfl rfl (by decide) (hR 120 11 129 rfl) ?_
          refine G_go rfl rfl ?_
          refine G_go rfl rfl ?_
          refine G_go rfl rfl ?_
          refine G_ir (n := 7) rfl rfl (by decide) (by decide) (by decide) ?_
          refine G_go rfl rfl ?_
          refine G_go rfl rfl ?_
          refine G_iw (n := 7) rfl rfl (by decide) (by decide) (by decide) ?_
          have hR := refs_up (a := 129) (k := 2) (x := wr ((s 129 2) + 1)) hR rfl
          refine G_go rfl rfl ?_
          refine G_ret rfl rfl ?_
          exact G_ret rfl rfl h
        · have c4 := xl_le c4
          have h := h.2 c4
          refine G_go rfl rfl ?_
          refine G_go rfl rfl ?_
          refine G_ret rfl rfl ?_
          refine G_brT rfl rfl rfl ?_
          refine G_go rfl rfl ?_
          refine G_ret rfl rfl ?_
          refine G_go rfl rfl ?_
          show G 120 140 161 24 [(3, 120), (1, a0), (1, a1), (1, 0), (0, 0), (0, 0), (0, 0), (0, 0)] [] (n, upS s 120 10 0) Q
          refine G_go rfl rfl ?_
          refine G_brT rfl rfl rfl ?_
          refine G_go rfl rfl ?_
          refine G_go rfl rfl ?_
          show G 120 140 161 38 [(3, 120), (1, a0), (1, a1), (1, 0), (1, (-9)), (0, 0), (0, 0), (0, 0)] [] (n, upS s 120 10 0) Q
          refine G_go rfl rfl ?_
          refine G_go rfl rfl ?_
          show G 120 140 161 42 [(3, 120), (1, a0), (1, a1), (1, 0), (1, (-9)), (1, (-9)), (0, 0), (0, 0)] [] (n, upS s 120 10 0) Q
          refine G_go rfl rfl ?_
          refine G_go rfl rfl ?_
          show G 120 140 161 45 [(3, 120), (1, a0), (1, a1), (1, 0), (1, (-9)), (1, (-9)), (1, 0), (0, 0)] [] (n, upS s 120 10 0) Q
          exact h
theorem sb_X7_bestFriend_45 (n : Nat) (s : Nat → Nat → Int) (Q : List Vl → Sto → Prop) (x1 : Int) (x2 : Int) (x3 : Int) (x4 : Int) (x5 : Int) (x6 : Int) (w7 : Vl) (hR : refs s)
    (h : (s 120 0 ≤ x6 → (x2 ≠ 0 → Q [(1, x5)] (n, s)) ∧ (x2 = 0 → Q [(1, x4)] (n, s))) ∧ (x6 < s 120 0 → (x6 ≠ x1 → (0 ≤ x1 ∧ x1 < 6) ∧ (G 120 140 160 0 [(3, 120), (1, x1), (1, x6), (1, s 123 x1.toNat), (1, 1), (0, 0), (0, 0), (0, 0), (0, 0)] [] (n, s) (fun r s1 => G 120 140 161 79 [(3, 120), (1, x1), (1, x2), (1, x3), (1, x4), (1, x5), (1, x6), w7] (r ++ []) s1 Q))) ∧ (x6 = x1 → ((-9) ≤ x5 → G 120 140 161 45 [(3, 120), (1, x1), (1, x2), (1, x3), (1, x4), (1, x5), (1, wr (x6 + 1)), (1, (-9))] [] (n, s) Q) ∧ (x5 < (-9) → G 120 140 161 45 [(3, 120), (1, x1), (1, x2), (1, x3), (1, x6), (1, (-9)), (1, wr (x6 + 1)), (1, (-9))] [] (n, s) Q)))) :
    G 120 140 161 45 [(3, 120), (1, x1), (1, x2), (1, x3), (1, x4), (1, x5), (1, x6), w7] [] (n, s) Q := by
  refine G_go rfl rfl ?_
  refine G_go rfl rfl ?_
  refine G_rd rfl rfl (by decide) ?_
  refine G_ge rfl rfl (fun c1 => ?_) (fun c1 => ?_)
  · have h := h.1 c1
    refine G_go rfl rfl ?_
    refine G_ne rfl rfl (fun c2 => ?_) (fun c2 => ?_)
    · have h := h.1 c2
      refine G_go rfl rfl ?_
      exact G_ret rfl rfl h
    · have h := h.2 c2
      refine G_go rfl rfl ?_
      refine G_go rfl rfl ?_
      exact G_ret rfl rfl h
  · have h := h.2 c1
    refine G_go rfl rfl ?_
    refine G_go rfl rfl ?_
    refine G_ne rfl rfl (fun c3 => ?_) (fun c3 => ?_)
    · have h := h.1 c3
      refine G_go rfl rfl ?_
      refine G_go rfl rfl ?_
      refine G_go rfl rfl ?_
      refine G_go rfl rfl ?_
      refine G_rf rfl rfl (by decide) (hR 120 3 123 rfl) ?_
      refine G_go rfl rfl ?_
      obtain ⟨g4, h⟩ := h
      refine G_ir (n := 6) rfl rfl (by decide) (by decide) g4 ?_
      refine G_go rfl rfl ?_
      exact G_call rfl rfl h
    · have h := h.2 c3
      refine G_go rfl rfl ?_
      refine G_go rfl rfl ?_
      refine G_go rfl rfl ?_
      show G 120 140 161 81 [(3, 120), (1, x1), (1, x2), (1, x3), (1, x4), (1, x5), (1, x6), (1, (-9))] [] (n, s) Q
      refine G_go rfl rfl ?_
      refine G_go rfl rfl ?_
      refine G_le rfl rfl (fun c5 => ?_) (fun c5 => ?_)
      · have h := h.1 c5
        refine G_go rfl rfl ?_
        refine G_go rfl rfl ?_
        show G 120 140 161 97 [(3, 120), (1, x1), (1, x2), (1, x3), (1, x4), (1, x5), (1, x6), (1, (-9))] [] (n, s) Q
        refine G_go rfl rfl ?_
        refine G_go rfl rfl ?_
        refine G_le rfl rfl (fun _ => ?_) (fun hc => absurd (show x5 < (-9) from hc) (by omega))
        refine G_go rfl rfl ?_
        refine G_go rfl rfl ?_
        show G 120 140 161 113 [(3, 120), (1, x1), (1, x2), (1, x3), (1, x4), (1, x5), (1, x6), (1, (-9))] [] (n, s) Q
        refine G_go rfl rfl ?_
        refine G_go rfl rfl ?_
        exact h
      · have h := h.2 c5
        refine G_go rfl rfl ?_
        refine G_go rfl rfl ?_
        refine G_go rfl rfl ?_
        show G 120 140 161 97 [(3, 120), (1, x1), (1, x2), (1, x3), (1, x6), (1, x5), (1, x6), (1, (-9))] [] (n, s) Q
        refine G_go rfl rfl ?_
        refine G_go rfl rfl ?_
        refine G_le rfl rfl (fun hc => absurd (show (-9) ≤ x5 from hc) (by omega)) (fun _ => ?_)
        refine G_go rfl rfl ?_
        refine G_go rfl rfl ?_
        refine G_go rfl rfl ?_
        show G 120 140 161 113 [(3, 120), (1, x1), (1, x2), (1, x3), (1, x6), (1, (-9)), (1, x6), (1, (-9))] [] (n, s) Q
        refine G_go rfl rfl ?_
        refine G_go rfl rfl ?_
        exact h
theorem sb_X7_bestFriend_79 (n : Nat) (s : Nat → Nat → Int) (Q : List Vl → Sto → Prop) (x1 : Int) (x2 : Int) (x3 : Int) (x4 : Int) (x5 : Int) (x6 : Int) (r : Int) (w7 : Vl) (hR : refs s)
    (h : (r ≤ x5 → G 120 140 161 45 [(3, 120), (1, x1), (1, x2), (1, x3), (1, x4), (1, x5), (1, wr (x6 + 1)), (1, r)] [] (n, s) Q) ∧ (x5 < r → G 120 140 161 45 [(3, 120), (1, x1), (1, x2), (1, x3), (1, x6), (1, r), (1, wr (x6 + 1)), (1, r)] [] (n, s) Q)) :
    G 120 140 161 79 [(3, 120), (1, x1), (1, x2), (1, x3), (1, x4), (1, x5), (1, x6), w7] [(1, r)] (n, s) Q := by
  refine G_go rfl rfl ?_
  show G 120 140 161 81 [(3, 120), (1, x1), (1, x2), (1, x3), (1, x4), (1, x5), (1, x6), (1, r)] [] (n, s) Q
  refine G_go rfl rfl ?_
  refine G_go rfl rfl ?_
  refine G_le rfl rfl (fun c1 => ?_) (fun c1 => ?_)
  · have h := h.1 c1
    refine G_go rfl rfl ?_
    refine G_go rfl rfl ?_
    show G 120 140 161 97 [(3, 120), (1, x1), (1, x2), (1, x3), (1, x4), (1, x5), (1, x6), (1, r)] [] (n, s) Q
    refine G_go rfl rfl ?_
    refine G_go rfl rfl ?_
    refine G_le rfl rfl (fun _ => ?_) (fun hc => absurd (show x5 < r from hc) (by omega))
    refine G_go rfl rfl ?_
    refine G_go rfl rfl ?_
    show G 120 140 161 113 [(3, 120), (1, x1), (1, x2), (1, x3), (1, x4), (1, x5), (1, x6), (1, r)] [] (n, s) Q
    refine G_go rfl rfl ?_
    refine G_go rfl rfl ?_
    exact h
  · have h := h.2 c1
    refine G_go rfl rfl ?_
    refine G_go rfl rfl ?_
    refine G_go rfl rfl ?_
    show G 120 140 161 97 [(3, 120), (1, x1), (1, x2), (1, x3), (1, x6), (1, x5), (1, x6), (1, r)] [] (n, s) Q
    refine G_go rfl rfl ?_
    refine G_go rfl rfl ?_
    refine G_le rfl rfl (fun hc => absurd (show r ≤ x5 from hc) (by omega)) (fun _ => ?_)
    refine G_go rfl rfl ?_
    refine G_go rfl rfl ?_
    refine G_go rfl rfl ?_
    show G 120 140 161 113 [(3, 120), (1, x1), (1, x2), (1, x3), (1, x6), (1, r), (1, x6), (1, r)] [] (n, s) Q
    refine G_go rfl rfl ?_
    refine G_go rfl rfl ?_
    exact h
def bfW (t : Nat → Nat → Int) (p k : Nat) : Int := if k = p then -9 else lbV t p k (t 123 p) 1
def bfF (t : Nat → Nat → Int) (p k : Nat) (b : Int × Int) : Int × Int := if b.2 < bfW t p k then ((k : Int), bfW t p k) else b
theorem cl_bf (n : Nat) (s t : Nat → Nat → Int) (h : REL s t) (p : Nat) (hp : (p : Int) < t 120 0) (a1 x3 : Int) (Q : List Vl → Sto → Prop) (hq : Q [(1, if a1 = 0 then (itr (bfF t p) (-9, -9) (t 120 0).toNat).1 else (itr (bfF t p) (-9, -9) (t 120 0).toNat).2)] (n, s)) : G 2 120 71 35 [(3, 2), (1, (p : Int)), (1, a1), (1, x3), (1, (-9)), (1, (-9)), (1, 0), (0, 0)] [] (n, s) Q := by
  obtain ⟨hn1, hn2, hn3, hn4⟩ := h.np
  obtain ⟨p1, p2, p3, p4, p5, p6⟩ := h.rg p hp
  have tp := h.t p hp
  have sp := h.s p hp
  refine G_up (t 120 0).toNat (fun k b => ∀ w, G 2 120 71 35 [(3, 2), (1, (p : Int)), (1, a1), (1, x3), (1, b.1), (1, b.2), (1, (k : Int)), w] [] (n, s) Q) (bfF t p) (fun _ _ => True) (-9, -9) trivial (fun _ _ _ _ => trivial) (fun k b hk _ hg w => ?_) (fun _ w => ?_) (0, 0)
  · have hk2 : (k : Int) < t 120 0 := by omega
    obtain ⟨k1, k2, k3, k4, k5, k6⟩ := h.rg k hk2
    have tk := h.t k hk2
    have sk := h.s k hk2
    rw [← wr_s hk (by omega)] at hg
    refine sb_X6_bestFriend_35 n s Q _ _ _ _ _ _ w h.1 ⟨fun e => by omega, fun _ => ⟨fun c => ?_, fun c => ?_⟩⟩
    · have e : wr (lsV (vw 4 s) p 0 + lsV (vw 4 s) k (min 999 (t 123 k + t 123 p))) = bfW t p k := by
        unfold bfW lbV
        rw [if_neg (by omega), if_neg (by decide), h.ls p hp, h.ls k hk2, Int.sub_self]
      rw [Int.toNat_natCast, Int.toNat_natCast, sk.2.2.1, sp.2.2.1, wr_id (x := t 123 k + t 123 p) (by omega) (by omega), e]
      refine ⟨by omega, p1, by omega, p5, by omega, k1, by omega, k5, fun d => ?_, fun d => ?_⟩
      · rw [show bfF t p k b = b from if_neg (by omega)] at hg
        exact hg _
      · rw [show bfF t p k b = _ from if_pos d] at hg
        exact hg _
    · have e : bfW t p k = -9 := if_pos (by omega)
      refine ⟨fun d => ?_, fun d => ?_⟩
      · rw [show bfF t p k b = b from if_neg (by omega)] at hg
        exact hg _
      · rw [show bfF t p k b = ((k : Int), bfW t p k) from if_pos (by omega), e] at hg
        exact hg _
  · refine sb_X6_bestFriend_35 n s Q _ _ _ _ _ _ w h.1 ⟨fun _ => ⟨fun c => ?_, fun c => ?_⟩, fun e => by omega⟩
    · rw [if_neg c] at hq
      exact hq
    · rw [if_pos c] at hq
      exact hq
theorem rl_bf (n : Nat) (s t : Nat → Nat → Int) (h : REL s t) (p : Nat) (hp : (p : Int) < t 120 0) (a1 x3 : Int) (Q : List Vl → Sto → Prop) (hq : Q [(1, if a1 = 0 then (itr (bfF t p) (-9, -9) (t 120 0).toNat).1 else (itr (bfF t p) (-9, -9) (t 120 0).toNat).2)] (n, t)) : G 120 140 161 45 [(3, 120), (1, (p : Int)), (1, a1), (1, x3), (1, (-9)), (1, (-9)), (1, 0), (0, 0)] [] (n, t) Q := by
  obtain ⟨hn1, hn2, hn3, hn4⟩ := h.np
  have tp := h.t p hp
  refine G_up (t 120 0).toNat (fun k b => ∀ w, G 120 140 161 45 [(3, 120), (1, (p : Int)), (1, a1), (1, x3), (1, b.1), (1, b.2), (1, (k : Int)), w] [] (n, t) Q) (bfF t p) (fun _ _ => True) (-9, -9) trivial (fun _ _ _ _ => trivial) (fun k b hk _ hg w => ?_) (fun _ w => ?_) (0, 0)
  · have hk2 : (k : Int) < t 120 0 := by omega
    rw [← wr_s hk (by omega)] at hg
    refine sb_X7_bestFriend_45 n t Q _ _ _ _ _ _ w h.2.1 ⟨fun e => by omega, fun _ => ⟨fun c => ?_, fun c => ?_⟩⟩
    · rw [Int.toNat_natCast]
      refine ⟨by omega, ?_⟩
      refine c_X7_lastsBy n s t h _ p k _ 1 hp hk2 (by omega) (by omega) ?_
      have e : lbV t p k (t 123 p) 1 = bfW t p k := (if_neg (by omega)).symm
      rw [e]
      refine sb_X7_bestFriend_79 n t Q _ _ _ _ _ _ _ w h.2.1 ?_
      repeat' first | with_reducible refine And.intro ?_ ?_ | intro _
      all_goals first | omega | skip
      · rw [show bfF t p k b = b from if_neg (by omega)] at hg
        exact hg _
      · rw [show bfF t p k b = ((k : Int), bfW t p k) from if_pos (by omega)] at hg
        exact hg _
    · have e : bfW t p k = -9 := if_pos (by omega)
      refine ⟨fun d => ?_, fun d => ?_⟩
      · rw [show bfF t p k b = b from if_neg (by omega)] at hg
        exact hg _
      · rw [show bfF t p k b = ((k : Int), bfW t p k) from if_pos (by omega), e] at hg
        exact hg _
  · refine sb_X7_bestFriend_45 n t Q _ _ _ _ _ _ w h.2.1 ⟨fun _ => ⟨fun c => ?_, fun c => ?_⟩, fun e => by omega⟩
    · rw [if_neg c] at hq
      exact hq
    · rw [if_pos c] at hq
      exact hq
theorem op_bestFriend (n : Nat) (s t : Nat → Nat → Int) (h : REL s t) (a0 a1 : Int) : G 2 120 71 0 [(3, 2), (1, a0), (1, a1), (0, 0), (0, 0), (0, 0), (0, 0), (0, 0)] [] (n, s) (fun r s1 => G 120 140 161 0 [(3, 120), (1, a0), (1, a1), (0, 0), (0, 0), (0, 0), (0, 0), (0, 0)] [] (n, t) (Post n r s1)) := by
  obtain ⟨hn1, hn2, hn3, hn4⟩ := h.np
  have hw : wr (t 120 0 - 1) = t 120 0 - 1 := wr_id (by omega) (by omega)
  have h1 : ∀ z : Int, 0 ≤ z → z < t 120 0 → ∃ p : Nat, z = p ∧ (p : Int) < t 120 0 := fun z h1 h2 => ⟨z.toNat, by omega, by omega⟩
  refine sb_X6_bestFriend_0 n s _ a0 a1 h.1 ?_
  repeat' first | with_reducible refine And.intro ?_ ?_ | intro _
  all_goals first | omega | skip
  all_goals try (obtain ⟨p, rfl, hp⟩ := h1 a0 (by omega) (by omega); refine cl_bf n s _ h.up p hp a1 _ _ ?_)
  all_goals refine sb_X7_bestFriend_0 n t _ _ a1 h.2.1 ?_
  all_goals repeat' first | with_reducible refine And.intro ?_ ?_ | intro _
  all_goals first | omega | exact post_ref h _ (by decide) | skip
  exact rl_bf n s _ h.up p hp a1 _ _ (post_same h rfl)

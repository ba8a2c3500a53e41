theorem sb_X6_power_0 (n : Nat) (s : Nat → Nat → Int) (Q : List Vl → Sto → Prop) (a0 : Int) (a1 : Int) (hR : refs s)
    (h : G 2 120 77 5 [(1, a0), (1, a1), (2, 1), (0, 0), (1, 0)] [] (n, s) Q) :
    G 2 120 77 0 [(1, a0), (1, a1), (0, 0), (0, 0), (0, 0)] [] (n, s) Q := by
  refine G_go rfl rfl ?_
  refine G_go rfl rfl ?_
  refine G_go rfl rfl ?_
  refine G_go rfl rfl ?_
  show G 2 120 77 5 [(1, a0), (1, a1), (2, 1), (0, 0), (1, 0)] [] (n, s) Q
  exact h
theorem sb_X6_power_5 (n : Nat) (s : Nat → Nat → Int) (Q : List Vl → Sto → Prop) (x0 : Int) (x1 : Int) (x2 : Int) (x4 : Int) (hR : refs s)
    (h : (x1 ≤ x4 → Q [(2, x2)] (n, s)) ∧ (x4 < x1 → G 2 120 77 5 [(1, x0), (1, x1), (2, wl (x2 * x0)), (0, 0), (1, wr (x4 + 1))] [] (n, s) Q)) :
    G 2 120 77 5 [(1, x0), (1, x1), (2, x2), (0, 0), (1, x4)] [] (n, s) Q := by
  refine G_go rfl rfl ?_
  refine G_go rfl rfl ?_
  refine G_ge rfl rfl (fun c1 => ?_) (fun c1 => ?_)
  · have h := h.1 c1
    refine G_go rfl rfl ?_
    exact G_ret rfl rfl h
  · have h := h.2 c1
    refine G_go rfl rfl ?_
    refine G_go rfl rfl ?_
    refine G_go rfl rfl ?_
    refine G_go rfl rfl ?_
    refine G_go rfl rfl ?_
    refine G_go rfl rfl ?_
    refine G_go rfl rfl ?_
    exact h
theorem sb_X6_waysWithLight_0 (n : Nat) (s : Nat → Nat → Int) (Q : List Vl → Sto → Prop) (a0 : Int) (a1 : Int) (a2 : Int) (hR : refs s)
    (h : (0 ≤ a0 ∧ a0 < 6) ∧ ((rgP (vw 4 s) a0.toNat) ∧ ((0 ≤ s 6 a0.toNat ∧ s 6 a0.toNat ≤ 2000) ∧ (G 2 120 78 31 [(3, 2), (1, a0), (1, a1), (1, a2), (1, wr ((s 8 a0.toNat) - (wr (a1 * (bnV (vw 4 s) a0.toNat (s 6 a0.toNat)))))), (2, 0), (0, 0), (2, 1), (0, 0), (1, 0)] [] (n, s) Q)))) :
    G 2 120 78 0 [(3, 2), (1, a0), (1, a1), (1, a2), (0, 0), (0, 0), (0, 0), (0, 0), (0, 0), (0, 0)] [] (n, s) Q := by
  refine G_go rfl rfl ?_
  refine G_rf rfl rfl (by decide) (hR 2 0 3 rfl) ?_
  refine G_rf rfl rfl (by decide) (hR 3 4 8 rfl) ?_
  refine G_go rfl rfl ?_
  obtain ⟨g1, h⟩ := h
  refine G_ir (n := 6) rfl rfl (by decide) (by decide) g1 ?_
  refine G_go rfl rfl ?_
  refine G_go rfl rfl ?_
  refine G_rf rfl rfl (by decide) (hR 2 0 3 rfl) ?_
  refine G_go rfl rfl ?_
  refine G_call rfl rfl ?_
  refine G_go rfl rfl ?_
  refine G_go rfl rfl ?_
  refine G_go rfl rfl ?_
  refine G_rf rfl rfl (by decide) (hR 3 2 6 rfl) ?_
  refine G_go rfl rfl ?_
  refine G_ir (n := 6) rfl rfl (by decide) (by decide) g1 ?_
  refine G_call rfl rfl ?_
  obtain ⟨g2, h⟩ := h
  obtain ⟨g3, h⟩ := h
  refine c_X5_burnsHolding_3 n _ _ a0 (s 6 a0.toNat) hR g1 g2 g3 ?_
  refine G_ret rfl rfl ?_
  refine G_go rfl rfl ?_
  refine G_go rfl rfl ?_
  refine G_go rfl rfl ?_
  show G 2 120 78 22 [(3, 2), (1, a0), (1, a1), (1, a2), (1, wr ((s 8 a0.toNat) - (wr (a1 * (bnV (vw 4 s) a0.toNat (s 6 a0.toNat)))))), (0, 0), (0, 0), (0, 0), (0, 0), (0, 0)] [] (n, s) Q
  refine G_go rfl rfl ?_
  refine G_go rfl rfl ?_
  refine G_go rfl rfl ?_
  refine G_go rfl rfl ?_
  refine G_go rfl rfl ?_
  refine G_go rfl rfl ?_
  show G 2 120 78 31 [(3, 2), (1, a0), (1, a1), (1, a2), (1, wr ((s 8 a0.toNat) - (wr (a1 * (bnV (vw 4 s) a0.toNat (s 6 a0.toNat)))))), (2, 0), (0, 0), (2, 1), (0, 0), (1, 0)] [] (n, s) Q
  exact h
theorem sb_X6_waysWithLight_31 (n : Nat) (s : Nat → Nat → Int) (Q : List Vl → Sto → Prop) (x1 : Int) (x2 : Int) (x3 : Int) (x4 : Int) (x5 : Int) (x7 : Int) (x9 : Int) (hR : refs s)
    (h : (x2 < x9 → Q [(2, x5)] (n, s)) ∧ (x9 ≤ x2 → (wr (x4 - (wr (2 * x9))) ≤ 0 → (wr (x9 + 1) ≠ 0) ∧ (G 2 120 78 31 [(3, 2), (1, x1), (1, x2), (1, x3), (1, x4), (2, x5), (0, 0), (2, xldiv (wl (x7 * (wr (x2 - x9)))) (wr (x9 + 1))), (0, 0), (1, wr (x9 + 1))] [] (n, s) Q)) ∧ (0 < wr (x4 - (wr (2 * x9))) → G 2 120 77 0 [(1, wr (x3 - 1)), (1, wr (x2 - x9)), (0, 0), (0, 0), (0, 0)] [] (n, s) (fun r s1 => G 2 120 78 61 [(3, 2), (1, x1), (1, x2), (1, x3), (1, x4), (2, x5), (0, 0), (2, x7), (0, 0), (1, x9)] (r ++ [(2, x7), (2, x5)]) s1 Q)))) :
    G 2 120 78 31 [(3, 2), (1, x1), (1, x2), (1, x3), (1, x4), (2, x5), (0, 0), (2, x7), (0, 0), (1, x9)] [] (n, s) Q := by
  refine G_go rfl rfl ?_
  refine G_go rfl rfl ?_
  refine G_gt rfl rfl (fun c1 => ?_) (fun c1 => ?_)
  · have h := h.1 c1
    refine G_go rfl rfl ?_
    exact G_ret rfl rfl h
  · have h := h.2 c1
    refine G_go rfl rfl ?_
    refine G_go rfl rfl ?_
    refine G_go rfl rfl ?_
    refine G_go rfl rfl ?_
    refine G_go rfl rfl ?_
    refine G_le rfl rfl (fun c2 => ?_) (fun c2 => ?_)
    · have h := h.1 c2
      refine G_go rfl rfl ?_
      refine G_go rfl rfl ?_
      refine G_go rfl rfl ?_
      refine G_go rfl rfl ?_
      refine G_go rfl rfl ?_
      refine G_go rfl rfl ?_
      refine G_go rfl rfl ?_
      refine G_go rfl rfl ?_
      refine G_go rfl rfl ?_
      refine G_go rfl rfl ?_
      obtain ⟨g3, h⟩ := h
      refine G_ldiv rfl g3 ?_
      refine G_go rfl rfl ?_
      refine G_go rfl rfl ?_
      refine G_go rfl rfl ?_
      exact h
    · have h := h.2 c2
      refine G_go rfl rfl ?_
      refine G_go rfl rfl ?_
      refine G_go rfl rfl ?_
      refine G_go rfl rfl ?_
      refine G_go rfl rfl ?_
      refine G_go rfl rfl ?_
      refine G_go rfl rfl ?_
      refine G_go rfl rfl ?_
      exact G_call rfl rfl h
theorem sb_X6_waysWithLight_61 (n : Nat) (s : Nat → Nat → Int) (Q : List Vl → Sto → Prop) (x1 : Int) (x2 : Int) (x3 : Int) (x4 : Int) (x5 : Int) (x7 : Int) (x9 : Int) (y0 : Int) (y1 : Int) (y2 : Int) (hR : refs s)
    (h : (wr (x9 + 1) ≠ 0) ∧ (G 2 120 78 31 [(3, 2), (1, x1), (1, x2), (1, x3), (1, x4), (2, wl (y2 + (wl (y1 * y0)))), (0, 0), (2, xldiv (wl (x7 * (wr (x2 - x9)))) (wr (x9 + 1))), (0, 0), (1, wr (x9 + 1))] [] (n, s) Q)) :
    G 2 120 78 61 [(3, 2), (1, x1), (1, x2), (1, x3), (1, x4), (2, x5), (0, 0), (2, x7), (0, 0), (1, x9)] [(2, y0), (2, y1), (2, y2)] (n, s) Q := by
  refine G_go rfl rfl ?_
  refine G_go rfl rfl ?_
  refine G_go rfl rfl ?_
  refine G_go rfl rfl ?_
  refine G_go rfl rfl ?_
  refine G_go rfl rfl ?_
  refine G_go rfl rfl ?_
  refine G_go rfl rfl ?_
  refine G_go rfl rfl ?_
  refine G_go rfl rfl ?_
  refine G_go rfl rfl ?_
  refine G_go rfl rfl ?_
  refine G_go rfl rfl ?_
  obtain ⟨g1, h⟩ := h
  refine G_ldiv rfl g1 ?_
  refine G_go rfl rfl ?_
  refine G_go rfl rfl ?_
  refine G_go rfl rfl ?_
  exact h
theorem sb_X6_draft_0 (n : Nat) (s : Nat → Nat → Int) (Q : List Vl → Sto → Prop) (a0 : Int) (a1 : Int) (a2 : Int) (a3 : Int) (hR : refs s)
    (h : (a0 < 0 → (a3 < 0 → Q [(2, wl (4000000000000000000 - (-1)))] (n, upS s 119 1 (wr ((s 119 1) + 1)))) ∧ (0 ≤ a3 → (a3 ≤ 1 → Q [(2, wl (4000000000000000000 - (-1)))] (n, upS s 119 1 (wr ((s 119 1) + 1)))) ∧ (1 < a3 → Q [(2, wl (4000000000000000000 - (-1)))] (n, upS s 119 1 (wr ((s 119 1) + 1)))))) ∧ (0 ≤ a0 → (s 3 9 ≤ a0 → (a3 < 0 → Q [(2, wl (4000000000000000000 - (-1)))] (n, upS s 119 1 (wr ((s 119 1) + 1)))) ∧ (0 ≤ a3 → (a3 ≤ 1 → Q [(2, wl (4000000000000000000 - (-1)))] (n, upS s 119 1 (wr ((s 119 1) + 1)))) ∧ (1 < a3 → Q [(2, wl (4000000000000000000 - (-1)))] (n, upS s 119 1 (wr ((s 119 1) + 1)))))) ∧ (a0 < s 3 9 → (a1 < 0 → (a3 < 0 → Q [(2, wl (4000000000000000000 - (-4)))] (n, upS s 119 4 (wr ((s 119 4) + 1)))) ∧ (0 ≤ a3 → (a3 ≤ 1 → Q [(2, wl (4000000000000000000 - (-4)))] (n, upS s 119 4 (wr ((s 119 4) + 1)))) ∧ (1 < a3 → Q [(2, wl (4000000000000000000 - (-4)))] (n, upS s 119 4 (wr ((s 119 4) + 1)))))) ∧ (0 ≤ a1 → (2 ≤ a2 → (8 < a1 → (a3 < 0 → Q [(2, wl (4000000000000000000 - (-6)))] (n, upS s 119 6 (wr ((s 119 6) + 1)))) ∧ (0 ≤ a3 → (a3 ≤ 1 → Q [(2, wl (4000000000000000000 - (-6)))] (n, upS s 119 6 (wr ((s 119 6) + 1)))) ∧ (1 < a3 → Q [(2, wl (4000000000000000000 - (-6)))] (n, upS s 119 6 (wr ((s 119 6) + 1)))))) ∧ (a1 ≤ 8 → (a2 ≤ 20 → (a3 < 0 → Q [(2, wl (4000000000000000000 - (-2)))] (n, upS s 119 2 (wr ((s 119 2) + 1)))) ∧ (0 ≤ a3 → (a3 ≤ 1 → G 2 120 78 0 [(3, 2), (1, a0), (1, a1), (1, a2), (0, 0), (0, 0), (0, 0), (0, 0), (0, 0), (0, 0)] [] (n, s) (fun r s1 => G 2 120 80 83 [(3, 2), (1, a0), (1, a1), (1, a2), (1, a3), (1, 0)] (r ++ []) s1 Q)) ∧ (1 < a3 → Q [(2, wl (4000000000000000000 - (-2)))] (n, upS s 119 2 (wr ((s 119 2) + 1)))))) ∧ (20 < a2 → (a3 < 0 → Q [(2, wl (4000000000000000000 - (-6)))] (n, upS s 119 6 (wr ((s 119 6) + 1)))) ∧ (0 ≤ a3 → (a3 ≤ 1 → Q [(2, wl (4000000000000000000 - (-6)))] (n, upS s 119 6 (wr ((s 119 6) + 1)))) ∧ (1 < a3 → Q [(2, wl (4000000000000000000 - (-6)))] (n, upS s 119 6 (wr ((s 119 6) + 1)))))))) ∧ (a2 < 2 → (a3 < 0 → Q [(2, wl (4000000000000000000 - (-4)))] (n, upS s 119 4 (wr ((s 119 4) + 1)))) ∧ (0 ≤ a3 → (a3 ≤ 1 → Q [(2, wl (4000000000000000000 - (-4)))] (n, upS s 119 4 (wr ((s 119 4) + 1)))) ∧ (1 < a3 → Q [(2, wl (4000000000000000000 - (-4)))] (n, upS s 119 4 (wr ((s 119 4) + 1)))))))))) :
    G 2 120 80 0 [(3, 2), (1, a0), (1, a1), (1, a2), (1, a3), (0, 0)] [] (n, s) Q := by
  refine G_go rfl rfl ?_
  refine G_go rfl rfl ?_
  refine G_call rfl rfl ?_
  refine G_go rfl rfl ?_
  refine G_rf rfl rfl (by decide) (hR 2 0 3 rfl) ?_
  refine G_go rfl rfl ?_
  refine G_call rfl rfl ?_
  refine G_go rfl rfl ?_
  refine G_lt rfl rfl (fun c1 => ?_) (fun c1 => ?_)
  · have h := h.1 c1
    refine G_go rfl rfl ?_
    refine G_ret rfl rfl ?_
    refine G_brT rfl rfl rfl ?_
    refine G_go rfl rfl ?_
    refine G_ret rfl rfl ?_
    refine G_go rfl rfl ?_
    show G 2 120 80 7 [(3, 2), (1, a0), (1, a1), (1, a2), (1, a3), (1, (-1))] [] (n, s) Q
    refine G_go rfl rfl ?_
    refine G_brT rfl rfl rfl ?_
    refine G_go rfl rfl ?_
    refine G_brT rfl rfl rfl ?_
    refine G_go rfl rfl ?_
    refine G_go rfl rfl ?_
    refine G_go rfl rfl ?_
    refine G_call rfl rfl ?_
    refine G_go rfl rfl ?_
    refine G_lt rfl rfl (fun c2 => ?_) (fun c2 => ?_)
    · have h := h.1 c2
      refine G_go rfl rfl ?_
      refine G_go rfl rfl ?_
      refine G_ret rfl rfl ?_
      refine G_call rfl rfl ?_
      refine G_go rfl rfl ?_
      refine G_brF rfl rfl rfl ?_
      refine G_go rfl rfl ?_
      refine G_go rfl rfl ?_
      refine G_ret rfl rfl ?_
      refine G_go rfl rfl ?_
      show G 2 120 80 59 [(3, 2), (1, a0), (1, a1), (1, a2), (1, a3), (1, (-1))] [] (n, s) Q
      refine G_go rfl rfl ?_
      refine G_brF rfl rfl rfl ?_
      refine G_go rfl rfl ?_
      refine G_go rfl rfl ?_
      refine G_go rfl rfl ?_
      refine G_call rfl rfl ?_
      refine G_go rfl rfl ?_
      refine G_go rfl rfl ?_
      refine G_go rfl rfl ?_
      refine G_go rfl rfl ?_
      refine G_brF rfl rfl rfl ?_
      refine G_go rfl rfl ?_
      refine G_go rfl rfl ?_
      refine G_rf rfl rfl (by decide) (hR 2 7 119 rfl) ?_
      refine G_go rfl rfl ?_
      refine G_brF rfl rfl rfl ?_
      refine G_go rfl rfl ?_
      refine G_rf rfl rfl (by decide) (hR 2 7 119 rfl) ?_
      refine G_go rfl rfl ?_
      refine G_go rfl rfl ?_
      refine G_ir (n := 7) rfl rfl (by decide) (by decide) (by decide) ?_
      refine G_go rfl rfl ?_
      refine G_go rfl rfl ?_
      refine G_iw (n := 7) rfl rfl (by decide) (by decide) (by decide) ?_
      have hR := refs_up (a := 119) (k := 1) (x := wr ((s 119 1) + 1)) hR rfl
      refine G_go rfl rfl ?_
      refine G_ret rfl rfl ?_
      refine G_go rfl rfl ?_
      refine G_go rfl rfl ?_
      exact G_ret rfl rfl h
    · have h := h.2 c2
      refine G_go rfl rfl ?_
      refine G_go rfl rfl ?_
      refine G_le rfl rfl (fun c3 => ?_) (fun c3 => ?_)
      · have h := h.1 c3
        refine G_go rfl rfl ?_
        refine G_ret rfl rfl ?_
        refine G_call rfl rfl ?_
        refine G_go rfl rfl ?_
        refine G_brF rfl rfl rfl ?_
        refine G_go rfl rfl ?_
        refine G_go rfl rfl ?_
        refine G_ret rfl rfl ?_
        refine G_go rfl rfl ?_
        show G 2 120 80 59 [(3, 2), (1, a0), (1, a1), (1, a2), (1, a3), (1, (-1))] [] (n, s) Q
        refine G_go rfl rfl ?_
        refine G_brF rfl rfl rfl ?_
        refine G_go rfl rfl ?_
        refine G_go rfl rfl ?_
        refine G_go rfl rfl ?_
        refine G_call rfl rfl ?_
        refine G_go rfl rfl ?_
        refine G_go rfl rfl ?_
        refine G_go rfl rfl ?_
        refine G_go rfl rfl ?_
        refine G_brF rfl rfl rfl ?_
        refine G_go rfl rfl ?_
        refine G_go rfl rfl ?_
        refine G_rf rfl rfl (by decide) (hR 2 7 119 rfl) ?_
        refine G_go rfl rfl ?_
        refine G_brF rfl rfl rfl ?_
        refine G_go rfl rfl ?_
        refine G_rf rfl rfl (by decide) (hR 2 7 119 rfl) ?_
        refine G_go rfl rfl ?_
        refine G_go rfl rfl ?_
        refine G_ir (n := 7) rfl rfl (by decide) (by decide) (by decide) ?_
        refine G_go rfl rfl ?_
        refine G_go rfl rfl ?_
        refine G_iw (n := 7) rfl rfl (by decide) (by decide) (by decide) ?_
        have hR := refs_up (a := 119) (k := 1) (x := wr ((s 119 1) + 1)) hR rfl
        refine G_go rfl rfl ?_
        refine G_ret rfl rfl ?_
        refine G_go rfl rfl ?_
        refine G_go rfl rfl ?_
        exact G_ret rfl rfl h
      · have h := h.2 c3
        refine G_go rfl rfl ?_
        refine G_go rfl rfl ?_
        refine G_ret rfl rfl ?_
        refine G_call rfl rfl ?_
        refine G_go rfl rfl ?_
        refine G_brF rfl rfl rfl ?_
        refine G_go rfl rfl ?_
        refine G_go rfl rfl ?_
        refine G_ret rfl rfl ?_
        refine G_go rfl rfl ?_
        show G 2 120 80 59 [(3, 2), (1, a0), (1, a1), (1, a2), (1, a3), (1, (-1))] [] (n, s) Q
        refine G_go rfl rfl ?_
        refine G_brF rfl rfl rfl ?_
        refine G_go rfl rfl ?_
        refine G_go rfl rfl ?_
        refine G_go rfl rfl ?_
        refine G_call rfl rfl ?_
        refine G_go rfl rfl ?_
        refine G_go rfl rfl ?_
        refine G_go rfl rfl ?_
        refine G_go rfl rfl ?_
        refine G_brF rfl rfl rfl ?_
        refine G_go rfl rfl ?_
        refine G_go rfl rfl ?_
        refine G_rf rfl rfl (by decide) (hR 2 7 119 rfl) ?_
        refine G_go rfl rfl ?_
        refine G_brF rfl rfl rfl ?_
        refine G_go rfl rfl ?_
        refine G_rf rfl rfl (by decide) (hR 2 7 119 rfl) ?_
        refine G_go rfl rfl ?_
        refine G_go rfl rfl ?_
        refine G_ir (n := 7) rfl rfl (by decide) (by decide) (by decide) ?_
        refine G_go rfl rfl ?_
        refine G_go rfl rfl ?_
        refine G_iw (n := 7) rfl rfl (by decide) (by decide) (by decide) ?_
        have hR := refs_up (a := 119) (k := 1) (x := wr ((s 119 1) + 1)) hR rfl
        refine G_go rfl rfl ?_
        refine G_ret rfl rfl ?_
        refine G_go rfl rfl ?_
        refine G_go rfl rfl ?_
        exact G_ret rfl rfl h
  · have h := h.2 c1
    refine G_go rfl rfl ?_
    refine G_go rfl rfl ?_
    refine G_rd rfl rfl (by decide) ?_
    refine G_ge rfl rfl (fun c4 => ?_) (fun c4 => ?_)
    · have h := h.1 c4
      refine G_go rfl rfl ?_
      refine G_ret rfl rfl ?_
      refine G_brT rfl rfl rfl ?_
      refine G_go rfl rfl ?_
      refine G_ret rfl rfl ?_
      refine G_go rfl rfl ?_
      show G 2 120 80 7 [(3, 2), (1, a0), (1, a1), (1, a2), (1, a3), (1, (-1))] [] (n, s) Q
      refine G_go rfl rfl ?_
      refine G_brT rfl rfl rfl ?_
      refine G_go rfl rfl ?_
      refine G_brT rfl rfl rfl ?_
      refine G_go rfl rfl ?_
      refine G_go rfl rfl ?_
      refine G_go rfl rfl ?_
      refine G_call rfl rfl ?_
      refine G_go rfl rfl ?_
      refine G_lt rfl rfl (fun c5 => ?_) (fun c5 => ?_)
      · have h := h.1 c5
        refine G_go rfl rfl ?_
        refine G_go rfl rfl ?_
        refine G_ret rfl rfl ?_
        refine G_call rfl rfl ?_
        refine G_go rfl rfl ?_
        refine G_brF rfl rfl rfl ?_
        refine G_go rfl rfl ?_
        refine G_go rfl rfl ?_
        refine G_ret rfl rfl ?_
        refine G_go rfl rfl ?_
        show G 2 120 80 59 [(3, 2), (1, a0), (1, a1), (1, a2), (1, a3), (1, (-1))] [] (n, s) Q
        refine G_go rfl rfl ?_
        refine G_brF rfl rfl rfl ?_
        refine G_go rfl rfl ?_
        refine G_go rfl rfl ?_
        refine G_go rfl rfl ?_
        refine G_call rfl rfl ?_
        refine G_go rfl rfl ?_
        refine G_go rfl rfl ?_
        refine G_go rfl rfl ?_
        refine G_go rfl rfl ?_
        refine G_brF rfl rfl rfl ?_
        refine G_go rfl rfl ?_
        refine G_go rfl rfl ?_
        refine G_rf rfl rfl (by decide) (hR 2 7 119 rfl) ?_
        refine G_go rfl rfl ?_
        refine G_brF rfl rfl rfl ?_
        refine G_go rfl rfl ?_
        refine G_rf rfl rfl (by decide) (hR 2 7 119 rfl) ?_
        refine G_go rfl rfl ?_
        refine G_go rfl rfl ?_
        refine G_ir (n := 7) rfl rfl (by decide) (by decide) (by decide) ?_
        refine G_go rfl rfl ?_
        refine G_go rfl rfl ?_
        refine G_iw (n := 7) rfl rfl (by decide) (by decide) (by decide) ?_
        have hR := refs_up (a := 119) (k := 1) (x := wr ((s 119 1) + 1)) hR rfl
        refine G_go rfl rfl ?_
        refine G_ret rfl rfl ?_
        refine G_go rfl rfl ?_
        refine G_go rfl rfl ?_
        exact G_ret rfl rfl h
      · have h := h.2 c5
        refine G_go rfl rfl ?_
        refine G_go rfl rfl ?_
        refine G_le rfl rfl (fun c6 => ?_) (fun c6 => ?_)
        · have h := h.1 c6
          refine G_go rfl rfl ?_
          refine G_ret rfl rfl ?_
          refine G_call rfl rfl ?_
          refine G_go rfl rfl ?_
          refine G_brF rfl rfl rfl ?_
          refine G_go rfl rfl ?_
          refine G_go rfl rfl ?_
          refine G_ret rfl rfl ?_
          refine G_go rfl rfl ?_
          show G 2 120 80 59 [(3, 2), (1, a0), (1, a1), (1, a2), (1, a3), (1, (-1))] [] (n, s) Q
          refine G_go rfl rfl ?_
          refine G_brF rfl rfl rfl ?_
          refine G_go rfl rfl ?_
          refine G_go rfl rfl ?_
          refine G_go rfl rfl ?_
          refine G_call rfl rfl ?_
          refine G_go rfl rfl ?_
          refine G_go rfl rfl ?_
          refine G_go rfl rfl ?_
          refine G_go rfl rfl ?_
          refine G_brF rfl rfl rfl ?_
          refine G_go rfl rfl ?_
          refine G_go rfl rfl ?_
          refine G_rf rfl rfl (by decide) (hR 2 7 119 rfl) ?_
          refine G_go rfl rfl ?_
          refine G_brF rfl rfl rfl ?_
          refine G_go rfl rfl ?_
          refine G_rf rfl rfl (by decide) (hR 2 7 119 rfl) ?_
          refine G_go rfl rfl ?_
          refine G_go rfl rfl ?_
          refine G_ir (n := 7) rfl rfl (by decide) (by decide) (by decide) ?_
          refine G_go rfl rfl ?_
          refine G_go rfl rfl ?_
          refine G_iw (n := 7) rfl rfl (by decide) (by decide) (by decide) ?_
          have hR := refs_up (a := 119) (k := 1) (x := wr ((s 119 1) + 1)) hR rfl
          refine G_go rfl rfl ?_
          refine G_ret rfl rfl ?_
          refine G_go rfl rfl ?_
          refine G_go rfl rfl ?_
          exact G_ret rfl rfl h
        · have h := h.2 c6
          refine G_go rfl rfl ?_
          refine G_go rfl rfl ?_
          refine G_ret rfl rfl ?_
          refine G_call rfl rfl ?_
          refine G_go rfl rfl ?_
          refine G_brF rfl rfl rfl ?_
          refine G_go rfl rfl ?_
          refine G_go rfl rfl ?_
          refine G_ret rfl rfl ?_
          refine G_go rfl rfl ?_
          show G 2 120 80 59 [(3, 2), (1, a0), (1, a1), (1, a2), (1, a3), (1, (-1))] [] (n, s) Q
          refine G_go rfl rfl ?_
          refine G_brF rfl rfl rfl ?_
          refine G_go rfl rfl ?_
          refine G_go rfl rfl ?_
          refine G_go rfl rfl ?_
          refine G_call rfl rfl ?_
          refine G_go rfl rfl ?_
          refine G_go rfl rfl ?_
          refine G_go rfl rfl ?_
          refine G_go rfl rfl ?_
          refine G_brF rfl rfl rfl ?_
          refine G_go rfl rfl ?_
          refine G_go rfl rfl ?_
          refine G_rf rfl rfl (by decide) (hR 2 7 119 rfl) ?_
          refine G_go rfl rfl ?_
          refine G_brF rfl rfl rfl ?_
          refine G_go rfl rfl ?_
          refine G_rf rfl rfl (by decide) (hR 2 7 119 rfl) ?_
          refine G_go rfl rfl ?_
          refine G_go rfl rfl ?_
          refine G_ir (n := 7) rfl rfl (by decide) (by decide) (by decide) ?_
          refine G_go rfl rfl ?_
          refine G_go rfl rfl ?_
          refine G_iw (n := 7) rfl rfl (by decide) (by decide) (by decide) ?_
          have hR := refs_up (a := 119) (k := 1) (x := wr ((s 119 1) + 1)) hR rfl
          refine G_go rfl rfl ?_
          refine G_ret rfl rfl ?_
          refine G_go rfl rfl ?_
          refine G_go rfl rfl ?_
          exact G_ret rfl rfl h
    · have h := h.2 c4
      refine G_go rfl rfl ?_
      refine G_go rfl rfl ?_
      refine G_ret rfl rfl ?_
      refine G_brF rfl rfl rfl ?_
      refine G_go rfl rfl ?_
      refine G_go rfl rfl ?_
      refine G_ret rfl rfl ?_
      refine G_go rfl rfl ?_
      show G 2 120 80 7 [(3, 2), (1, a0), (1, a1), (1, a2), (1, a3), (1, 0)] [] (n, s) Q
      refine G_go rfl rfl ?_
      refine G_brF rfl rfl rfl ?_
      refine G_go rfl rfl ?_
      refine G_lt rfl rfl (fun c7 => ?_) (fun c7 => ?_)
      · have h := h.1 c7
        refine G_go rfl rfl ?_
        refine G_go rfl rfl ?_
        show G 2 120 80 25 [(3, 2), (1, a0), (1, a1), (1, a2), (1, a3), (1, (-4))] [] (n, s) Q
        refine G_go rfl rfl ?_
        refine G_brT rfl rfl rfl ?_
        refine G_go rfl rfl ?_
        refine G_go rfl rfl ?_
        refine G_go rfl rfl ?_
        refine G_call rfl rfl ?_
        refine G_go rfl rfl ?_
        refine G_lt rfl rfl (fun c8 => ?_) (fun c8 => ?_)
        · have h := h.1 c8
          refine G_go rfl rfl ?_
          refine G_go rfl rfl ?_
          refine G_ret rfl rfl ?_
          refine G_call rfl rfl ?_
          refine G_go rfl rfl ?_
          refine G_brF rfl rfl rfl ?_
          refine G_go rfl rfl ?_
          refine G_go rfl rfl ?_
          refine G_ret rfl rfl ?_
          refine G_go rfl rfl ?_
          show G 2 120 80 59 [(3, 2), (1, a0), (1, a1), (1, a2), (1, a3), (1, (-4))] [] (n, s) Q
          refine G_go rfl rfl ?_
          refine G_brF rfl rfl rfl ?_
          refine G_go rfl rfl ?_
          refine G_go rfl rfl ?_
          refine G_go rfl rfl ?_
          refine G_call rfl rfl ?_
          refine G_go rfl rfl ?_
          refine G_go rfl rfl ?_
          refine G_go rfl rfl ?_
          refine G_go rfl rfl ?_
          refine G_brF rfl rfl rfl ?_
          refine G_go rfl rfl ?_
          refine G_go rfl rfl ?_
          refine G_rf rfl rfl (by decide) (hR 2 7 119 rfl) ?_
          refine G_go rfl rfl ?_
          refine G_brF rfl rfl rfl ?_
          refine G_go rfl rfl ?_
          refine G_rf rfl rfl (by decide) (hR 2 7 119 rfl) ?_
          refine G_go rfl rfl ?_
          refine G_go rfl rfl ?_
          refine G_ir (n := 7) rfl rfl (by decide) (by decide) (by decide) ?_
          refine G_go rfl rfl ?_
          refine G_go rfl rfl ?_
          refine G_iw (n := 7) rfl rfl (by decide) (by decide) (by decide) ?_
          have hR := refs_up (a := 119) (k := 4) (x := wr ((s 119 4) + 1)) hR rfl
          refine G_go rfl rfl ?_
          refine G_ret rfl rfl ?_
          refine G_go rfl rfl ?_
          refine G_go rfl rfl ?_
          exact G_ret rfl rfl h
        · have h := h.2 c8
          refine G_go rfl rfl ?_
          refine G_go rfl rfl ?_
          refine G_le rfl rfl (fun c9 => ?_) (fun c9 => ?_)
          · have h := h.1 c9
            refine G_go rfl rfl ?_
            refine G_ret rfl rfl ?_
            refine G_call rfl rfl ?_
            refine G_go rfl rfl ?_
            refine G_brF rfl rfl rfl ?_
            refine G_go rfl rfl ?_
            refine G_go rfl rfl ?_
            refine G_ret rfl rfl ?_
            refine G_go rfl rfl ?_
            show G 2 120 80 59 [(3, 2), (1, a0), (1, a1), (1, a2), (1, a3), (1, (-4))] [] (n, s) Q
            refine G_go rfl rfl ?_
            refine G_brF rfl rfl rfl ?_
            refine G_go rfl rfl ?_
            refine G_go rfl rfl ?_
            refine G_go rfl rfl ?_
            refine G_call rfl rfl ?_
            refine G_go rfl rfl ?_
            refine G_go rfl rfl ?_
            refine G_go rfl rfl ?_
            refine G_go rfl rfl ?_
            refine G_brF rfl rfl rfl ?_
            refine G_go rfl rfl ?_
            refine G_go rfl rfl ?_
            refine G_rf rfl rfl (by decide) (hR 2 7 119 rfl) ?_
            refine G_go rfl rfl ?_
            refine G_brF rfl rfl rfl ?_
            refine G_go rfl rfl ?_
            refine G_rf rfl rfl (by decide) (hR 2 7 119 rfl) ?_
            refine G_go rfl rfl ?_
            refine G_go rfl rfl ?_
            refine G_ir (n := 7) rfl rfl (by decide) (by decide) (by decide) ?_
            refine G_go rfl rfl ?_
            refine G_go rfl rfl ?_
            refine G_iw (n := 7) rfl rfl (by decide) (by decide) (by decide) ?_
            have hR := refs_up (a := 119) (k := 4) (x := wr ((s 119 4) + 1)) hR rfl
            refine G_go rfl rfl ?_
            refine G_ret rfl rfl ?_
            refine G_go rfl rfl ?_
            refine G_go rfl rfl ?_
            exact G_ret rfl rfl h
          · have h := h.2 c9
            refine G_go rfl rfl ?_
            refine G_go rfl rfl ?_
            refine G_ret rfl rfl ?_
            refine G_call rfl rfl ?_
            refine G_go rfl rfl ?_
            refine G_brF rfl rfl rfl ?_
            refine G_go rfl rfl ?_
            refine G_go rfl rfl ?_
            refine G_ret rfl rfl ?_
            refine G_go rfl rfl ?_
            show G 2 120 80 59 [(3, 2), (1, a0), (1, a1), (1, a2), (1, a3), (1, (-4))] [] (n, s) Q
            refine G_go rfl rfl ?_
            refine G_brF rfl rfl rfl ?_
            refine G_go rfl rfl ?_
            refine G_go rfl rfl ?_
            refine G_go rfl rfl ?_
            refine G_call rfl rfl ?_
            refine G_go rfl rfl ?_
            refine G_go rfl rfl ?_
            refine G_go rfl rfl ?_
            refine G_go rfl rfl ?_
            refine G_brF rfl rfl rfl ?_
            refine G_go rfl rfl ?_
            refine G_go rfl rfl ?_
            refine G_rf rfl rfl (by decide) (hR 2 7 119 rfl) ?_
            refine G_go rfl rfl ?_
            refine G_brF rfl rfl rfl ?_
            refine G_go rfl rfl ?_
            refine G_rf rfl rfl (by decide) (hR 2 7 119 rfl) ?_
            refine G_go rfl rfl ?_
            refine G_go rfl rfl ?_
            refine G_ir (n := 7) rfl rfl (by decide) (by decide) (by decide) ?_
            refine G_go rfl rfl ?_
            refine G_go rfl rfl ?_
            refine G_iw (n := 7) rfl rfl (by decide) (by decide) (by decide) ?_
            have hR := refs_up (a := 119) (k := 4) (x := wr ((s 119 4) + 1)) hR rfl
            refine G_go rfl rfl ?_
            refine G_ret rfl rfl ?_
            refine G_go rfl rfl ?_
            refine G_go rfl rfl ?_
            exact G_ret rfl rfl h
      · have h := h.2 c7
        refine G_go rfl rfl ?_
        refine G_go rfl rfl ?_
        refine G_ge rfl rfl (fun c10 => ?_) (fun c10 => ?_)
        · have h := h.1 c10
          refine G_go rfl rfl ?_
          refine G_brF rfl rfl rfl ?_
          refine G_go rfl rfl ?_
          refine G_go rfl rfl ?_
          refine G_gt rfl rfl (fun c11 => ?_) (fun c11 => ?_)
          · have h := h.1 c11
            refine G_go rfl rfl ?_
            refine G_go rfl rfl ?_
            show G 2 120 80 46 [(3, 2), (1, a0), (1, a1), (1, a2), (1, a3), (1, (-6))] [] (n, s) Q
            refine G_go rfl rfl ?_
            refine G_go rfl rfl ?_
            refine G_go rfl rfl ?_
            refine G_call rfl rfl ?_
            refine G_go rfl rfl ?_
            refine G_lt rfl rfl (fun c12 => ?_) (fun c12 => ?_)
            · have h := h.1 c12
              refine G_go rfl rfl ?_
              refine G_go rfl rfl ?_
              refine G_ret rfl rfl ?_
              refine G_call rfl rfl ?_
              refine G_go rfl rfl ?_
              refine G_brF rfl rfl rfl ?_
              refine G_go rfl rfl ?_
              refine G_go rfl rfl ?_
              refine G_ret rfl rfl ?_
              refine G_go rfl rfl ?_
              show G 2 120 80 59 [(3, 2), (1, a0), (1, a1), (1, a2), (1, a3), (1, (-6))] [] (n, s) Q
              refine G_go rfl rfl ?_
              refine G_brF rfl rfl rfl ?_
              refine G_go rfl rfl ?_
              refine G_go rfl rfl ?_
              refine G_go rfl rfl ?_
              refine G_call rfl rfl ?_
              refine G_go rfl rfl ?_
              refine G_go rfl rfl ?_
              refine G_go rfl rfl ?_
              refine G_go rfl rfl ?_
              refine G_brF rfl rfl rfl ?_
              refine G_go rfl rfl ?_
              refine G_go rfl rfl ?_
              refine G_rf rfl rfl (by decide) (hR 2 7 119 rfl) ?_
              refine G_go rfl rfl ?_
              refine G_brF rfl rfl rfl ?_
              refine G_go rfl rfl ?_
              refine G_rf rfl rfl (by decide) (hR 2 7 119 rfl) ?_
              refine G_go rfl rfl ?_
              refine G_go rfl rfl ?_
              refine G_ir (n := 7) rfl rfl (by decide) (by decide) (by decide) ?_
              refine G_go rfl rfl ?_
              refine G_go rfl rfl ?_
              refine G_iw (n := 7) rfl rfl (by decide) (by decide) (by decide) ?_
              have hR := refs_up (a := 119) (k := 6) (x := wr ((s 119 6) + 1)) hR rfl
              refine G_go rfl rfl ?_
              refine G_ret rfl rfl ?_
              refine G_go rfl rfl ?_
              refine G_go rfl rfl ?_
              exact G_ret rfl rfl h
            · have h := h.2 c12
              refine G_go rfl rfl ?_
              refine G_go rfl rfl ?_
              refine G_le rfl rfl (fun c13 => ?_) (fun c13 => ?_)
              · have h := h.1 c13
                refine G_go rfl rfl ?_
                refine G_ret rfl rfl ?_
                refine G_call rfl rfl ?_
                refine G_go rfl rfl ?_
                refine G_brF rfl rfl rfl ?_
                refine G_go rfl rfl ?_
                refine G_go rfl rfl ?_
                refine G_ret rfl rfl ?_
                refine G_go rfl rfl ?_
                show G 2 120 80 59 [(3, 2), (1, a0), (1, a1), (1, a2), (1, a3), (1, (-6))] [] (n, s) Q
                refine G_go rfl rfl ?_
                refine G_brF rfl rfl rfl ?_
                refine G_go rfl rfl ?_
                refine G_go rfl rfl ?_
                refine G_go rfl rfl ?_
                refine G_call rfl rfl ?_
                refine G_go rfl rfl ?_
                refine G_go rfl rfl ?_
                refine G_go rfl rfl ?_
                refine G_go rfl rfl ?_
                refine G_brF rfl rfl rfl ?_
                refine G_go rfl rfl ?_
                refine G_go rfl rfl ?_
                refine G_rf rfl rfl (by decide) (hR 2 7 119 rfl) ?_
                refine G_go rfl rfl ?_
                refine G_brF rfl rfl rfl ?_
                refine G_go rfl rfl ?_
                refine G_rf rfl rfl (by decide) (hR 2 7 119 rfl) ?_
                refine G_go rfl rfl ?_
                refine G_go rfl rfl ?_
                refine G_ir (n := 7) rfl rfl (by decide) (by decide) (by decide) ?_
                refine G_go rfl rfl ?_
                refine G_go rfl rfl ?_
                refine G_iw (n := 7) rfl rfl (by decide) (by decide) (by decide) ?_
                have hR := refs_up (a := 119) (k := 6) (x := wr ((s 119 6) + 1)) hR rfl
                refine G_go rfl rfl ?_
                refine G_ret rfl rfl ?_
                refine G_go rfl rfl ?_
                refine G_go rfl rfl ?_
                exact G_ret rfl rfl h
              · have h := h.2 c13
                refine G_go rfl rfl ?_
                refine G_go rfl rfl ?_
                refine G_ret rfl rfl ?_
                refine G_call rfl rfl ?_
                refine G_go rfl rfl ?_
                refine G_brF rfl rfl rfl ?_
                refine G_go rfl rfl ?_
                refine G_go rfl rfl ?_
                refine G_ret rfl rfl ?_
                refine G_go rfl rfl ?_
                show G 2 120 80 59 [(3, 2), (1, a0), (1, a1), (1, a2), (1, a3), (1, (-6))] [] (n, s) Q
                refine G_go rfl rfl ?_
                refine G_brF rfl rfl rfl ?_
                refine G_go rfl rfl ?_
                refine G_go rfl rfl ?_
                refine G_go rfl rfl ?_
                refine G_call rfl rfl ?_
                refine G_go rfl rfl ?_
                refine G_go rfl rfl ?_
                refine G_go rfl rfl ?_
                refine G_go rfl rfl ?_
                refine G_brF rfl rfl rfl ?_
                refine G_go rfl rfl ?_
                refine G_go rfl rfl ?_
                refine G_rf rfl rfl (by decide) (hR 2 7 119 rfl) ?_
                refine G_go rfl rfl ?_
                refine G_brF rfl rfl rfl ?_
                refine G_go rfl rfl ?_
                refine G_rf rfl rfl (by decide) (hR 2 7 119 rfl) ?_
                refine G_go rfl rfl ?_
                refine G_go rfl rfl ?_
                refine G_ir (n := 7) rfl rfl (by decide) (by decide) (by decide) ?_
                refine G_go rfl rfl ?_
                refine G_go rfl rfl ?_
                refine G_iw (n := 7) rfl rfl (by decide) (by decide) (by decide) ?_
                have hR := refs_up (a := 119) (k := 6) (x := wr ((s 119 6) + 1)) hR rfl
                refine G_go rfl rfl ?_
                refine G_ret rfl rfl ?_
                refine G_go rfl rfl ?_
                refine G_go rfl rfl ?_
                exact G_ret rfl rfl h
          · have h := h.2 c11
            refine G_go rfl rfl ?_
            refine G_go rfl rfl ?_
            refine G_le rfl rfl (fun c14 => ?_) (fun c14 => ?_)
            · have h := h.1 c14
              refine G_go rfl rfl ?_
              refine G_go rfl rfl ?_
              refine G_go rfl rfl ?_
              refine G_call rfl rfl ?_
              refine G_go rfl rfl ?_
              refine G_lt rfl rfl (fun c15 => ?_) (fun c15 => ?_)
              · have h := h.1 c15
                refine G_go rfl rfl ?_
                refine G_go rfl rfl ?_
                refine G_ret rfl rfl ?_
                refine G_call rfl rfl ?_
                refine G_go rfl rfl ?_
                refine G_brT rfl rfl rfl ?_
                refine G_go rfl rfl ?_
                refine G_ret rfl rfl ?_
                refine G_go rfl rfl ?_
                show G 2 120 80 59 [(3, 2), (1, a0), (1, a1), (1, a2), (1, a3), (1, (-2))] [] (n, s) Q
                refine G_go rfl rfl ?_
                refine G_brF rfl rfl rfl ?_
                refine G_go rfl rfl ?_
                refine G_go rfl rfl ?_
                refine G_go rfl rfl ?_
                refine G_call rfl rfl ?_
                refine G_go rfl rfl ?_
                refine G_go rfl rfl ?_
                refine G_go rfl rfl ?_
                refine G_go rfl rfl ?_
                refine G_brF rfl rfl rfl ?_
                refine G_go rfl rfl ?_
                refine G_go rfl rfl ?_
                refine G_rf rfl rfl (by decide) (hR 2 7 119 rfl) ?_
                refine G_go rfl rfl ?_
                refine G_brF rfl rfl rfl ?_
                refine G_go rfl rfl ?_
                refine G_rf rfl rfl (by decide) (hR 2 7 119 rfl) ?_
                refine G_go rfl rfl ?_
                refine G_go rfl rfl ?_
                refine G_ir (n := 7) rfl rfl (by decide) (by decide) (by decide) ?_
                refine G_go rfl rfl ?_
                refine G_go rfl rfl ?_
                refine G_iw (n := 7) rfl rfl (by decide) (by decide) (by decide) ?_
                have hR := refs_up (a := 119) (k := 2) (x := wr ((s 119 2) + 1)) hR rfl
                refine G_go rfl rfl ?_
                refine G_ret rfl rfl ?_
                refine G_go rfl rfl ?_
                refine G_go rfl rfl ?_
                exact G_ret rfl rfl h
              · have h := h.2 c15
                refine G_go rfl rfl ?_
                refine G_go rfl rfl ?_
                refine G_le rfl rfl (fun c16 => ?_) (fun c16 => ?_)
                · have h := h.1 c16
                  refine G_go rfl rfl ?_
                  refine G_ret rfl rfl ?_
                  refine G_call rfl rfl ?_
                  refine G_go rfl rfl ?_
                  refine G_brT rfl rfl rfl ?_
                  refine G_go rfl rfl ?_
                  refine G_ret rfl rfl ?_
                  refine G_go rfl rfl ?_
                  show G 2 120 80 59 [(3, 2), (1, a0), (1, a1), (1, a2), (1, a3), (1, 0)] [] (n, s) Q
                  refine G_go rfl rfl ?_
                  refine G_brT rfl rfl rfl ?_
                  refine G_go rfl rfl ?_
                  refine G_go rfl rfl ?_
                  refine G_go rfl rfl ?_
                  refine G_go rfl rfl ?_
                  exact G_call rfl rfl h
                · have h := h.2 c16
                  refine G_go rfl rfl ?_
                  refine G_go rfl rfl ?_
                  refine G_ret rfl rfl ?_
                  refine G_call rfl rfl ?_
                  refine G_go rfl rfl ?_
                  refine G_brT rfl rfl rfl ?_
                  refine G_go rfl rfl ?_
                  refine G_ret rfl rfl ?_
                  refine G_go rfl rfl ?_
                  show G 2 120 80 59 [(3, 2), (1, a0), (1, a1), (1, a2), (1, a3), (1, (-2))] [] (n, s) Q
                  refine G_go rfl rfl ?_
                  refine G_brF rfl rfl rfl ?_
                  refine G_go rfl rfl ?_
                  refine G_go rfl rfl ?_
                  refine G_go rfl rfl ?_
                  refine G_call rfl rfl ?_
                  refine G_go rfl rfl ?_
                  refine G_go rfl rfl ?_
                  refine G_go rfl rfl ?_
                  refine G_go rfl rfl ?_
                  refine G_brF rfl rfl rfl ?_
                  refine G_go rfl rfl ?_
                  refine G_go rfl rfl ?_
                  refine G_rf rfl rfl (by decide) (hR 2 7 119 rfl) ?_
                  refine G_go rfl rfl ?_
                  refine G_brF rfl rfl rfl ?_
                  refine G_go rfl rfl ?_
                  refine G_rf rfl rfl (by decide) (hR 2 7 119 rfl) ?_
                  refine G_go rfl rfl ?_
                  refine G_go rfl rfl ?_
                  refine G_ir (n := 7) rfl rfl (by decide) (by decide) (by decide) ?_
                  refine G_go rfl rfl ?_
                  refine G_go rfl rfl ?_
                  refine G_iw (n := 7) rfl rfl (by decide) (by decide) (by decide) ?_
                  have hR := refs_up (a := 119) (k := 2) (x := wr ((s 119 2) + 1)) hR rfl
                  refine G_go rfl rfl ?_
                  refine G_ret rfl rfl ?_
                  refine G_go rfl rfl ?_
                  refine G_go rfl rfl ?_
                  exact G_ret rfl rfl h
            · have h := h.2 c14
              refine G_go rfl rfl ?_
              refine G_go rfl rfl ?_
              show G 2 120 80 46 [(3, 2), (1, a0), (1, a1), (1, a2), (1, a3), (1, (-6))] [] (n, s) Q
              refine G_go rfl rfl ?_
              refine G_go rfl rfl ?_
              refine G_go rfl rfl ?_
              refine G_call rfl rfl ?_
              refine G_go rfl rfl ?_
              refine G_lt rfl rfl (fun c17 => ?_) (fun c17 => ?_)
              · have h := h.1 c17
                refine G_go rfl rfl ?_
                refine G_go rfl rfl ?_
                refine G_ret rfl rfl ?_
                refine G_call rfl rfl ?_
                refine G_go rfl rfl ?_
                refine G_brF rfl rfl rfl ?_
                refine G_go rfl rfl ?_
                refine G_go rfl rfl ?_
                refine G_ret rfl rfl ?_
                refine G_go rfl rfl ?_
                show G 2 120 80 59 [(3, 2), (1, a0), (1, a1), (1, a2), (1, a3), (1, (-6))] [] (n, s) Q
                refine G_go rfl rfl ?_
                refine G_brF rfl rfl rfl ?_
                refine G_go rfl rfl ?_
                refine G_go rfl rfl ?_
                refine G_go rfl rfl ?_
                refine G_call rfl rfl ?_
                refine G_go rfl rfl ?_
                refine G_go rfl rfl ?_
                refine G_go rfl rfl ?_
                refine G_go rfl rfl ?_
                refine G_brF rfl rfl rfl ?_
                refine G_go rfl rfl ?_
                refine G_go rfl rfl ?_
                refine G_rf rfl rfl (by decide) (hR 2 7 119 rfl) ?_
                refine G_go rfl rfl ?_
                refine G_brF rfl rfl rfl ?_
                refine G_go rfl rfl ?_
                refine G_rf rfl rfl (by decide) (hR 2 7 119 rfl) ?_
                refine G_go rfl rfl ?_
                refine G_go rfl rfl ?_
                refine G_ir (n := 7) rfl rfl (by decide) (by decide) (by decide) ?_
                refine G_go rfl rfl ?_
                refine G_go rfl rfl ?_
                refine G_iw (n := 7) rfl rfl (by decide) (by decide) (by decide) ?_
                have hR := refs_up (a := 119) (k := 6) (x := wr ((s 119 6) + 1)) hR rfl
                refine G_go rfl rfl ?_
                refine G_ret rfl rfl ?_
                refine G_go rfl rfl ?_
                refine G_go rfl rfl ?_
                exact G_ret rfl rfl h
              · have h := h.2 c17
                refine G_go rfl rfl ?_
                refine G_go rfl rfl ?_
                refine G_le rfl rfl (fun c18 => ?_) (fun c18 => ?_)
                · have h := h.1 c18
                  refine G_go rfl rfl ?_
                  refine G_ret rfl rfl ?_
                  refine G_call rfl rfl ?_
                  refine G_go rfl rfl ?_
                  refine G_brF rfl rfl rfl ?_
                  refine G_go rfl rfl ?_
                  refine G_go rfl rfl ?_
                  refine G_ret rfl rfl ?_
                  refine G_go rfl rfl ?_
                  show G 2 120 80 59 [(3, 2), (1, a0), (1, a1), (1, a2), (1, a3), (1, (-6))] [] (n, s) Q
                  refine G_go rfl rfl ?_
                  refine G_brF rfl rfl rfl ?_
                  refine G_go rfl rfl ?_
                  refine G_go rfl rfl ?_
                  refine G_go rfl rfl ?_
                  refine G_call rfl rfl ?_
                  refine G_go rfl rfl ?_
                  refine G_go rfl rfl ?_
                  refine G_go rfl rfl ?_
                  refine G_go rfl rfl ?_
                  refine G_brF rfl rfl rfl ?_
                  refine G_go rfl rfl ?_
                  refine G_go rfl rfl ?_
                  refine G_rf rfl rfl (by decide) (hR 2 7 119 rfl) ?_
                  refine G_go rfl rfl ?_
                  refine G_brF rfl rfl rfl ?_
                  refine G_go rfl rfl ?_
                  refine G_rf rfl rfl (by decide) (hR 2 7 119 rfl) ?_
                  refine G_go rfl rfl ?_
                  refine G_go rfl rfl ?_
                  refine G_ir (n := 7) rfl rfl (by decide) (by decide) (by decide) ?_
                  refine G_go rfl rfl ?_
                  refine G_go rfl rfl ?_
                  refine G_iw (n := 7) rfl rfl (by decide) (by decide) (by decide) ?_
                  have hR := refs_up (a := 119) (k := 6) (x := wr ((s 119 6) + 1)) hR rfl
                  refine G_go rfl rfl ?_
                  refine G_ret rfl rfl ?_
                  refine G_go rfl rfl ?_
                  refine G_go rfl rfl ?_
                  exact G_ret rfl rfl h
                · have h := h.2 c18
                  refine G_go rfl rfl ?_
                  refine G_go rfl rfl ?_
                  refine G_ret rfl rfl ?_
                  refine G_call rfl rfl ?_
                  refine G_go rfl rfl ?_
                  refine G_brF rfl rfl rfl ?_
                  refine G_go rfl rfl ?_
                  refine G_go rfl rfl ?_
                  refine G_ret rfl rfl ?_
                  refine G_go rfl rfl ?_
                  show G 2 120 80 59 [(3, 2), (1, a0), (1, a1), (1, a2), (1, a3), (1, (-6))] [] (n, s) Q
                  refine G_go rfl rfl ?_
                  refine G_brF rfl rfl rfl ?_
                  refine G_go rfl rfl ?_
                  refine G_go rfl rfl ?_
                  refine G_go rfl rfl ?_
                  refine G_call rfl rfl ?_
                  refine G_go rfl rfl ?_
                  refine G_go rfl rfl ?_
                  refine G_go rfl rfl ?_
                  refine G_go rfl rfl ?_
                  refine G_brF rfl rfl rfl ?_
                  refine G_go rfl rfl ?_
                  refine G_go rfl rfl ?_
                  refine G_rf rfl rfl (by decide) (hR 2 7 119 rfl) ?_
                  refine G_go rfl rfl ?_
                  refine G_brF rfl rfl rfl ?_
                  refine G_go rfl rfl ?_
                  refine G_rf rfl rfl (by decide) (hR 2 7 119 rfl) ?_
                  refine G_go rfl rfl ?_
                  refine G_go rfl rfl ?_
                  refine G_ir (n := 7) rfl rfl (by decide) (by decide) (by decide) ?_
                  refine G_go rfl rfl ?_
                  refine G_go rfl rfl ?_
                  refine G_iw (n := 7) rfl rfl (by decide) (by decide) (by decide) ?_
                  have hR := refs_up (a := 119) (k := 6) (x := wr ((s 119 6) + 1)) hR rfl
                  refine G_go rfl rfl ?_
                  refine G_ret rfl rfl ?_
                  refine G_go rfl rfl ?_
                  refine G_go rfl rfl ?_
                  exact G_ret rfl rfl h
        · have h := h.2 c10
          refine G_go rfl rfl ?_
          refine G_go rfl rfl ?_
          show G 2 120 80 25 [(3, 2), (1, a0), (1, a1), (1, a2), (1, a3), (1, (-4))] [] (n, s) Q
          refine G_go rfl rfl ?_
          refine G_brT rfl rfl rfl ?_
          refine G_go rfl rfl ?_
          refine G_go rfl rfl ?_
          refine G_go rfl rfl ?_
          refine G_call rfl rfl ?_
          refine G_go rfl rfl ?_
          refine G_lt rfl rfl (fun c19 => ?_) (fun c19 => ?_)
          · have h := h.1 c19
            refine G_go rfl rfl ?_
            refine G_go rfl rfl ?_
            refine G_ret rfl rfl ?_
            refine G_call rfl rfl ?_
            refine G_go rfl rfl ?_
            refine G_brF rfl rfl rfl ?_
            refine G_go rfl rfl ?_
            refine G_go rfl rfl ?_
            refine G_ret rfl rfl ?_
            refine G_go rfl rfl ?_
            show G 2 120 80 59 [(3, 2), (1, a0), (1, a1), (1, a2), (1, a3), (1, (-4))] [] (n, s) Q
            refine G_go rfl rfl ?_
            refine G_brF rfl rfl rfl ?_
            refine G_go rfl rfl ?_
            refine G_go rfl rfl ?_
            refine G_go rfl rfl ?_
            refine G_call rfl rfl ?_
            refine G_go rfl rfl ?_
            refine G_go rfl rfl ?_
            refine G_go rfl rfl ?_
            refine G_go rfl rfl ?_
            refine G_brF rfl rfl rfl ?_
            refine G_go rfl rfl ?_
            refine G_go rfl rfl ?_
            refine G_rf rfl rfl (by decide) (hR 2 7 119 rfl) ?_
            refine G_go rfl rfl ?_
            refine G_brF rfl rfl rfl ?_
            refine G_go rfl rfl ?_
            refine G_rf rfl rfl (by decide) (hR 2 7 119 rfl) ?_
            refine G_go rfl rfl ?_
            refine G_go rfl rfl ?_
            refine G_ir (n := 7) rfl rfl (by decide) (by decide) (by decide) ?_
            refine G_go rfl rfl ?_
            refine G_go rfl rfl ?_
            refine G_iw (n := 7) rfl rfl (by decide) (by decide) (by decide) ?_
            have hR := refs_up (a := 119) (k := 4) (x := wr ((s 119 4) + 1)) hR rfl
            refine G_go rfl rfl ?_
            refine G_ret rfl rfl ?_
            refine G_go rfl rfl ?_
            refine G_go rfl rfl ?_
            exact G_ret rfl rfl h
          · have h := h.2 c19
            refine G_go rfl rfl ?_
            refine G_go rfl rfl ?_
            refine G_le rfl rfl (fun c20 => ?_) (fun c20 => ?_)
            · have h := h.1 c20
              refine G_go rfl rfl ?_
              refine G_ret rfl rfl ?_
              refine G_call rfl rfl ?_
              refine G_go rfl rfl ?_
              refine G_brF rfl rfl rfl ?_
              refine G_go rfl rfl ?_
              refine G_go rfl rfl ?_
              refine G_ret rfl rfl ?_
              refine G_go rfl rfl ?_
              show G 2 120 80 59 [(3, 2), (1, a0), (1, a1), (1, a2), (1, a3), (1, (-4))] [] (n, s) Q
              refine G_go rfl rfl ?_
              refine G_brF rfl rfl rfl ?_
              refine G_go rfl rfl ?_
              refine G_go rfl rfl ?_
              refine G_go rfl rfl ?_
              refine G_call rfl rfl ?_
              refine G_go rfl rfl ?_
              refine G_go rfl rfl ?_
              refine G_go rfl rfl ?_
              refine G_go rfl rfl ?_
              refine G_brF rfl rfl rfl ?_
              refine G_go rfl rfl ?_
              refine G_go rfl rfl ?_
              refine G_rf rfl rfl (by decide) (hR 2 7 119 rfl) ?_
              refine G_go rfl rfl ?_
              refine G_brF rfl rfl rfl ?_
              refine G_go rfl rfl ?_
              refine G_rf rfl rfl (by decide) (hR 2 7 119 rfl) ?_
              refine G_go rfl rfl ?_
              refine G_go rfl rfl ?_
              refine G_ir (n := 7) rfl rfl (by decide) (by decide) (by decide) ?_
              refine G_go rfl rfl ?_
              refine G_go rfl rfl ?_
              refine G_iw (n := 7) rfl rfl (by decide) (by decide) (by decide) ?_
              have hR := refs_up (a := 119) (k := 4) (x := wr ((s 119 4) + 1)) hR rfl
              refine G_go rfl rfl ?_
              refine G_ret rfl rfl ?_
              refine G_go rfl rfl ?_
              refine G_go rfl rfl ?_
              exact G_ret rfl rfl h
            · have h := h.2 c20
              refine G_go rfl rfl ?_
              refine G_go rfl rfl ?_
              refine G_ret rfl rfl ?_
              refine G_call rfl rfl ?_
              refine G_go rfl rfl ?_
              refine G_brF rfl rfl rfl ?_
              refine G_go rfl rfl ?_
              refine G_go rfl rfl ?_
              refine G_ret rfl rfl ?_
              refine G_go rfl rfl ?_
              show G 2 120 80 59 [(3, 2), (1, a0), (1, a1), (1, a2), (1, a3), (1, (-4))] [] (n, s) Q
              refine G_go rfl rfl ?_
              refine G_brF rfl rfl rfl ?_
              refine G_go rfl rfl ?_
              refine G_go rfl rfl ?_
              refine G_go rfl rfl ?_
              refine G_call rfl rfl ?_
              refine G_go rfl rfl ?_
              refine G_go rfl rfl ?_
              refine G_go rfl rfl ?_
              refine G_go rfl rfl ?_
              refine G_brF rfl rfl rfl ?_
              refine G_go rfl rfl ?_
              refine G_go rfl rfl ?_
              refine G_rf rfl rfl (by decide) (hR 2 7 119 rfl) ?_
              refine G_go rfl rfl ?_
              refine G_brF rfl rfl rfl ?_
              refine G_go rfl rfl ?_
              refine G_rf rfl rfl (by decide) (hR 2 7 119 rfl) ?_
              refine G_go rfl rfl ?_
              refine G_go rfl rfl ?_
              refine G_ir (n := 7) rfl rfl (by decide) (by decide) (by decide) ?_
              refine G_go rfl rfl ?_
              refine G_go rfl rfl ?_
              refine G_iw (n := 7) rfl rfl (by decide) (by decide) (by decide) ?_
              have hR := refs_up (a := 119) (k := 4) (x := wr ((s 119 4) + 1)) hR rfl
              refine G_go rfl rfl ?_
              refine G_ret rfl rfl ?_
              refine G_go rfl rfl ?_
              refine G_go rfl rfl ?_
              exact G_ret rfl rfl h
theorem sb_X6_draft_83 (n : Nat) (s : Nat → Nat → Int) (Q : List Vl → Sto → Prop) (x1 : Int) (x2 : Int) (x3 : Int) (x4 : Int) (x5 : Int) (y0 : Int) (hR : refs s)
    (h : G 2 120 77 0 [(1, x3), (1, x2), (0, 0), (0, 0), (0, 0)] [] (n, s) (fun r s1 => G 2 120 80 88 [(3, 2), (1, x1), (1, x2), (1, x3), (1, x4), (1, x5)] (r ++ [(2, y0)]) s1 Q)) :
    G 2 120 80 83 [(3, 2), (1, x1), (1, x2), (1, x3), (1, x4), (1, x5)] [(2, y0)] (n, s) Q := by
  refine G_go rfl rfl ?_
  refine G_go rfl rfl ?_
  exact G_call rfl rfl h
theorem sb_X6_draft_88 (n : Nat) (s : Nat → Nat → Int) (Q : List Vl → Sto → Prop) (x1 : Int) (x2 : Int) (x3 : Int) (x4 : Int) (x5 : Int) (y0 : Int) (y1 : Int) (hR : refs s)
    (h : G 2 120 79 0 [(2, y1), (0, 0), (2, y0), (0, 0), (1, x4), (0, 0), (0, 0), (0, 0), (0, 0), (0, 0), (0, 0), (0, 0)] [] (n, s) (fun r s1 => G 2 120 80 93 [(3, 2), (1, x1), (1, x2), (1, x3), (1, x4), (1, x5)] (r ++ []) s1 Q)) :
    G 2 120 80 88 [(3, 2), (1, x1), (1, x2), (1, x3), (1, x4), (1, x5)] [(2, y0), (2, y1)] (n, s) Q := by
  refine G_go rfl rfl ?_
  exact G_call rfl rfl h
theorem sb_X6_draft_93 (n : Nat) (s : Nat → Nat → Int) (Q : List Vl → Sto → Prop) (x1 : Int) (x2 : Int) (x3 : Int) (x4 : Int) (x5 : Int) (y0 : Int) (hR : refs s)
    (h : Q [(2, y0)] (n, s)) :
    G 2 120 80 93 [(3, 2), (1, x1), (1, x2), (1, x3), (1, x4), (1, x5)] [(2, y0)] (n, s) Q := by
  exact G_ret rfl rfl h
theorem sb_X7_draft_0 (n : Nat) (s : Nat → Nat → Int) (Q : List Vl → Sto → Prop) (a0 : Int) (a1 : Int) (a2 : Int) (a3 : Int) (hR : refs s)
    (h : (a0 < 0 → Q [(2, wl (4000000000000000000 - (-1)))] (n, upS (upS s 120 10 0) 129 1 (wr ((s 129 1) + 1)))) ∧ (a0 ≥ 0 → (a0 > wr ((s 120 0) - 1) → Q [(2, wl (4000000000000000000 - (-1)))] (n, upS (upS s 120 10 0) 129 1 (wr ((s 129 1) + 1)))) ∧ (a0 ≤ wr ((s 120 0) - 1) → (a1 < 0 → Q [(2, wl (4000000000000000000 - (-4)))] (n, upS (upS s 120 10 0) 129 4 (wr ((s 129 4) + 1)))) ∧ (0 ≤ a1 → (2 ≤ a2 → (8 < a1 → Q [(2, wl (4000000000000000000 - (-6)))] (n, upS (upS s 120 10 0) 129 6 (wr ((s 129 6) + 1)))) ∧ (a1 ≤ 8 → (a2 ≤ 20 → (a3 < 0 → Q [(2, wl (4000000000000000000 - (-2)))] (n, upS (upS s 120 10 0) 129 2 (wr ((s 129 2) + 1)))) ∧ (a3 ≥ 0 → (a3 > 1 → Q [(2, wl (4000000000000000000 - (-2)))] (n, upS (upS s 120 10 0) 129 2 (wr ((s 129 2) + 1)))) ∧ (a3 ≤ 1 → G 120 140 176 90 [(3, 120), (1, a0), (1, a1), (1, a2), (1, a3), (1, 0), (2, 0), (0, 0), (2, 1), (0, 0), (1, 0), (0, 0), (0, 0), (0, 0), (0, 0), (0, 0)] [] (n, upS s 120 10 0) Q))) ∧ (20 < a2 → Q [(2, wl (4000000000000000000 - (-6)))] (n, upS (upS s 120 10 0) 129 6 (wr ((s 129 6) + 1)))))) ∧ (a2 < 2 → Q [(2, wl (4000000000000000000 - (-4)))] (n, upS (upS s 120 10 0) 129 4 (wr ((s 129 4) + 1)))))))) :
    G 120 140 176 0 [(3, 120), (1, a0), (1, a1), (1, a2), (1, a3), (0, 0), (0, 0), (0, 0), (0, 0), (0, 0), (0, 0), (0, 0), (0, 0), (0, 0), (0, 0), (0, 0)] [] (n, s) Q := by
  refine G_go rfl rfl ?_
  refine G_go rfl rfl ?_
  refine G_wr rfl rfl (by decide) ?_
  have hR := refs_up (a := 120) (k := 10) (x := 0) hR rfl
  refine G_go rfl rfl ?_
  refine G_go rfl rfl ?_
  show G 120 140 176 8 [(3, 120), (1, a0), (1, a1), (1, a2), (1, a3), (1, 0), (0, 0), (0, 0), (0, 0), (0, 0), (0, 0), (0, 0), (0, 0), (0, 0), (0, 0), (0, 0)] [] (n, upS s 120 10 0) Q
  refine G_go rfl rfl ?_
  refine G_go rfl rfl ?_
  refine G_call rfl rfl ?_
  refine G_go rfl rfl ?_
  refine G_go rfl rfl ?_
  refine G_go rfl rfl ?_
  refine G_go rfl rfl ?_
  refine G_rd rfl rfl (by decide) ?_
  refine G_go rfl rfl ?_
  refine G_go rfl rfl ?_
  refine G_go rfl rfl ?_
  refine G_call rfl rfl ?_
  refine G_go rfl rfl ?_
  refine G_go rfl rfl ?_
  refine G_go rfl rfl ?_
  refine G_lt rfl rfl (fun c1 => ?_) (fun c1 => ?_)
  · have c1 := xl_lt c1
    have h := h.1 c1
    refine G_go rfl rfl ?_
    refine G_ret rfl rfl ?_
    refine G_ret rfl rfl ?_
    refine G_brF rfl rfl rfl ?_
    refine G_go rfl rfl ?_
    refine G_go rfl rfl ?_
    show G 120 140 176 19 [(3, 120), (1, a0), (1, a1), (1, a2), (1, a3), (1, (-1)), (0, 0), (0, 0), (0, 0), (0, 0), (0, 0), (0, 0), (0, 0), (0, 0), (0, 0), (0, 0)] [] (n, upS s 120 10 0) Q
    refine G_go rfl rfl ?_
    refine G_go rfl rfl ?_
    refine G_go rfl rfl ?_
    refine G_go rfl rfl ?_
    refine G_call rfl rfl ?_
    refine G_go rfl rfl ?_
    refine G_brT rfl rfl rfl ?_
    refine G_go rfl rfl ?_
    refine G_ret rfl rfl ?_
    refine G_go rfl rfl ?_
    show G 120 140 176 64 [(3, 120), (1, a0), (1, a1), (1, a2), (1, a3), (1, (-1)), (0, 0), (0, 0), (0, 0), (0, 0), (0, 0), (0, 0), (0, 0), (0, 0), (0, 0), (0, 0)] [] (n, upS s 120 10 0) Q
    refine G_go rfl rfl ?_
    refine G_brF rfl rfl rfl ?_
    refine G_go rfl rfl ?_
    refine G_go rfl rfl ?_
    refine G_go rfl rfl ?_
    refine G_call rfl rfl ?_
    refine G_go rfl rfl ?_
    refine G_rf rfl rfl (by decide) (hR 120 11 129 rfl) ?_
    refine G_go rfl rfl ?_
    refine G_go rfl rfl ?_
    refine G_go rfl rfl ?_
    refine G_ir (n := 7) rfl rfl (by decide) (by decide) (by decide) ?_
    refine G_go rfl rfl ?_
    refine G_go rfl rfl ?_
    refine G_iw (n := 7) rfl rfl (by decide) (by decide) (by decide) ?_
    have hR := refs_up (a := 129) (k := 1) (x := wr ((s 129 1) + 1)) hR rfl
    refine G_go rfl rfl ?_
    refine G_ret rfl rfl ?_
    refine G_go rfl rfl ?_
    refine G_go rfl rfl ?_
    exact G_ret rfl rfl h
  · have c1 := xl_ge c1
    have h := h.2 c1
    refine G_go rfl rfl ?_
    refine G_go rfl rfl ?_
    refine G_go rfl rfl ?_
    refine G_gt rfl rfl (fun c2 => ?_) (fun c2 => ?_)
    · have c2 := xl_gt c2
      have h := h.1 c2
      refine G_go rfl rfl ?_
      refine G_ret rfl rfl ?_
      refine G_ret rfl rfl ?_
      refine G_brF rfl rfl rfl ?_
      refine G_go rfl rfl ?_
      refine G_go rfl rfl ?_
      show G 120 140 176 19 [(3, 120), (1, a0), (1, a1), (1, a2), (1, a3), (1, (-1)), (0, 0), (0, 0), (0, 0), (0, 0), (0, 0), (0, 0), (0, 0), (0, 0), (0, 0), (0, 0)] [] (n, upS s 120 10 0) Q
      refine G_go rfl rfl ?_
      refine G_go rfl rfl ?_
      refine G_go rfl rfl ?_
      refine G_go rfl rfl ?_
      refine G_call rfl rfl ?_
      refine G_go rfl rfl ?_
      refine G_brT rfl rfl rfl ?_
      refine G_go rfl rfl ?_
      refine G_ret rfl rfl ?_
      refine G_go rfl rfl ?_
      show G 120 140 176 64 [(3, 120), (1, a0), (1, a1), (1, a2), (1, a3), (1, (-1)), (0, 0), (0, 0), (0, 0), (0, 0), (0, 0), (0, 0), (0, 0), (0, 0), (0, 0), (0, 0)] [] (n, upS s 120 10 0) Q
      refine G_go rfl rfl ?_
      refine G_brF rfl rfl rfl ?_
      refine G_go rfl rfl ?_
      refine G_go rfl rfl ?_
      refine G_go rfl rfl ?_
      refine G_call rfl rfl ?_
      refine G_go rfl rfl ?_
      refine G_rf rfl rfl (by decide) (hR 120 11 129 rfl) ?_
      refine G_go rfl rfl ?_
      refine G_go rfl rfl ?_
      refine G_go rfl rfl ?_
      refine G_ir (n := 7) rfl rfl (by decide) (by decide) (by decide) ?_
      refine G_go rfl rfl ?_
      refine G_go rfl rfl ?_
      refine G_iw (n := 7) rfl rfl (by decide) (by decide) (by decide) ?_
      have hR := refs_up (a := 129) (k := 1) (x := wr ((s 129 1) + 1)) hR rfl
      refine G_go rfl rfl ?_
      refine G_ret rfl rfl ?_
      refine G_go rfl rfl ?_
      refine G_go rfl rfl ?_
      exact G_ret rfl rfl h
    · have c2 := xl_le c2
      have h := h.2 c2
      refine G_go rfl rfl ?_
      refine G_go rfl rfl ?_
      refine G_ret rfl rfl ?_
      refine G_ret rfl rfl ?_
      refine G_brT rfl rfl rfl ?_
      refine G_go rfl rfl ?_
      refine G_lt rfl rfl (fun c3 => ?_) (fun c3 => ?_)
      · have h := h.1 c3
        refine G_go rfl rfl ?_
        refine G_go rfl rfl ?_
        show G 120 140 176 35 [(3, 120), (1, a0), (1, a1), (1, a2), (1, a3), (1, (-4)), (0, 0), (0, 0), (0, 0), (0, 0), (0, 0), (0, 0), (0, 0), (0, 0), (0, 0), (0, 0)] [] (n, upS s 120 10 0) Q
        refine G_go rfl rfl ?_
        refine G_go rfl rfl ?_
        refine G_go rfl rfl ?_
        refine G_go rfl rfl ?_
        refine G_call rfl rfl ?_
        refine G_go rfl rfl ?_
        refine G_brT rfl rfl rfl ?_
        refine G_go rfl rfl ?_
        refine G_ret rfl rfl ?_
        refine G_go rfl rfl ?_
        show G 120 140 176 64 [(3, 120), (1, a0), (1, a1), (1, a2), (1, a3), (1, (-4)), (0, 0), (0, 0), (0, 0), (0, 0), (0, 0), (0, 0), (0, 0), (0, 0), (0, 0), (0, 0)] [] (n, upS s 120 10 0) Q
        refine G_go rfl rfl ?_
        refine G_brF rfl rfl rfl ?_
        refine G_go rfl rfl ?_
        refine G_go rfl rfl ?_
        refine G_go rfl rfl ?_
        refine G_call rfl rfl ?_
        refine G_go rfl rfl ?_
        refine G_rf rfl rfl (by decide) (hR 120 11 129 rfl) ?_
        refine G_go rfl rfl ?_
        refine G_go rfl rfl ?_
        refine G_go rfl rfl ?_
        refine G_ir (n := 7) rfl rfl (by decide) (by decide) (by decide) ?_
        refine G_go rfl rfl ?_
        refine G_go rfl rfl ?_
        refine G_iw (n := 7) rfl rfl (by decide) (by decide) (by decide) ?_
        have hR := refs_up (a := 129) (k := 4) (x := wr ((s 129 4) + 1)) hR rfl
        refine G_go rfl rfl ?_
        refine G_ret rfl rfl ?_
        refine G_go rfl rfl ?_
        refine G_go rfl rfl ?_
        exact G_ret rfl rfl h
      · have h := h.2 c3
        refine G_go rfl rfl ?_
        refine G_go rfl rfl ?_
        refine G_ge rfl rfl (fun c4 => ?_) (fun c4 => ?_)
        · have h := h.1 c4
          refine G_go rfl rfl ?_
          refine G_go rfl rfl ?_
          refine G_gt rfl rfl (fun c5 => ?_) (fun c5 => ?_)
          · have h := h.1 c5
            refine G_go rfl rfl ?_
            refine G_go rfl rfl ?_
            show G 120 140 176 54 [(3, 120), (1, a0), (1, a1), (1, a2), (1, a3), (1, (-6)), (0, 0), (0, 0), (0, 0), (0, 0), (0, 0), (0, 0), (0, 0), (0, 0), (0, 0), (0, 0)] [] (n, upS s 120 10 0) Q
            refine G_go rfl rfl ?_
            refine G_go rfl rfl ?_
            refine G_go rfl rfl ?_
            refine G_call rfl rfl ?_
            refine G_go rfl rfl ?_
            refine G_brT rfl rfl rfl ?_
            refine G_go rfl rfl ?_
            refine G_ret rfl rfl ?_
            refine G_go rfl rfl ?_
            show G 120 140 176 64 [(3, 120), (1, a0), (1, a1), (1, a2), (1, a3), (1, (-6)), (0, 0), (0, 0), (0, 0), (0, 0), (0, 0), (0, 0), (0, 0), (0, 0), (0, 0), (0, 0)] [] (n, upS s 120 10 0) Q
            refine G_go rfl rfl ?_
            refine G_brF rfl rfl rfl ?_
            refine G_go rfl rfl ?_
            refine G_go rfl rfl ?_
            refine G_go rfl rfl ?_
            refine G_call rfl rfl ?_
            refine G_go rfl rfl ?_
            refine G_rf rfl rfl (by decide) (hR 120 11 129 rfl) ?_
            refine G_go rfl rfl ?_
            refine G_go rfl rfl ?_
            refine G_go rfl rfl ?_
            refine G_ir (n := 7) rfl rfl (by decide) (by decide) (by decide) ?_
            refine G_go rfl rfl ?_
            refine G_go rfl rfl ?_
            refine G_iw (n := 7) rfl rfl (by decide) (by decide) (by decide) ?_
            have hR := refs_up (a := 129) (k := 6) (x := wr ((s 129 6) + 1)) hR rfl
            refine G_go rfl rfl ?_
            refine G_ret rfl rfl ?_
            refine G_go rfl rfl ?_
            refine G_go rfl rfl ?_
            exact G_ret rfl rfl h
          · have h := h.2 c5
            refine G_go rfl rfl ?_
            refine G_go rfl rfl ?_
            refine G_le rfl rfl (fun c6 => ?_) (fun c6 => ?_)
            · have h := h.1 c6
              refine G_go rfl rfl ?_
              refine G_go rfl rfl ?_
              refine G_go rfl rfl ?_
              refine G_call rfl rfl ?_
              refine G_go rfl rfl ?_
              refine G_brF rfl rfl rfl ?_
              refine G_go rfl rfl ?_
              refine G_go rfl rfl ?_
              refine G_go rfl rfl ?_
              refine G_go rfl rfl ?_
              refine G_go rfl rfl ?_
              refine G_call rfl rfl ?_
              refine G_go rfl rfl ?_
              refine G_go rfl rfl ?_
              refine G_go rfl rfl ?_
              refine G_lt rfl rfl (fun c7 => ?_) (fun c7 => ?_)
              · have c7 := xl_lt c7
                have h := h.1 c7
                refine G_go rfl rfl ?_
                refine G_ret rfl rfl ?_
                refine G_brF rfl rfl rfl ?_
                refine G_go rfl rfl ?_
                refine G_go rfl rfl ?_
                refine G_ret rfl rfl ?_
                refine G_go rfl rfl ?_
                show G 120 140 176 64 [(3, 120), (1, a0), (1, a1), (1, a2), (1, a3), (1, (-2)), (0, 0), (0, 0), (0, 0), (0, 0), (0, 0), (0, 0), (0, 0), (0, 0), (0, 0), (0, 0)] [] (n, upS s 120 10 0) Q
                refine G_go rfl rfl ?_
                refine G_brF rfl rfl rfl ?_
                refine G_go rfl rfl ?_
                refine G_go rfl rfl ?_
                refine G_go rfl rfl ?_
                refine G_call rfl rfl ?_
                refine G_go rfl rfl ?_
                refine G_rf rfl rfl (by decide) (hR 120 11 129 rfl) ?_
                refine G_go rfl rfl ?_
                refine G_go rfl rfl ?_
                refine G_go rfl rfl ?_
                refine G_ir (n := 7) rfl rfl (by decide) (by decide) (by decide) ?_
                refine G_go rfl rfl ?_
                refine G_go rfl rfl ?_
                refine G_iw (n := 7) rfl rfl (by decide) (by decide) (by decide) ?_
                have hR := refs_up (a := 129) (k := 2) (x := wr ((s 129 2) + 1)) hR rfl
                refine G_go rfl rfl ?_
                refine G_ret rfl rfl ?_
                refine G_go rfl rfl ?_
                refine G_go rfl rfl ?_
                exact G_ret rfl rfl h
              · have c7 := xl_ge c7
                have h := h.2 c7
                refine G_go rfl rfl ?_
                refine G_go rfl rfl ?_
                refine G_go rfl rfl ?_
                refine G_gt rfl rfl (fun c8 => ?_) (fun c8 => ?_)
                · have c8 := xl_gt c8
                  have h := h.1 c8
                  refine G_go rfl rfl ?_
                  refine G_ret rfl rfl ?_
                  refine G_brF rfl rfl rfl ?_
                  refine G_go rfl rfl ?_
                  refine G_go rfl rfl ?_
                  refine G_ret rfl rfl ?_
                  refine G_go rfl rfl ?_
                  show G 120 140 176 64 [(3, 120), (1, a0), (1, a1), (1, a2), (1, a3), (1, (-2)), (0, 0), (0, 0), (0, 0), (0, 0), (0, 0), (0, 0), (0, 0), (0, 0), (0, 0), (0, 0)] [] (n, upS s 120 10 0) Q
                  refine G_go rfl rfl ?_
                  refine G_brF rfl rfl rfl ?_
                  refine G_go rfl rfl ?_
                  refine G_go rfl rfl ?_
                  refine G_go rfl rfl ?_
                  refine G_call rfl rfl ?_
                  refine G_go rfl rfl ?_
                  refine G_rf rfl rfl (by decide) (hR 120 11 129 rfl) ?_
                  refine G_go rfl rfl ?_
                  refine G_go rfl rfl ?_
                  refine G_go rfl rfl ?_
                  refine G_ir (n := 7) rfl rfl (by decide) (by decide) (by decide) ?_
                  refine G_go rfl rfl ?_
                  refine G_go rfl rfl ?_
                  refine G_iw (n := 7) rfl rfl (by decide) (by decide) (by decide) ?_
                  have hR := refs_up (a := 129) (k := 2) (x := wr ((s 129 2) + 1)) hR rfl
                  refine G_go rfl rfl ?_
                  refine G_ret rfl rfl ?_
                  refine G_go rfl rfl ?_
                  refine G_go rfl rfl ?_
                  exact G_ret rfl rfl h
                · have c8 := xl_le c8
                  have h := h.2 c8
                  refine G_go rfl rfl ?_
                  refine G_go rfl rfl ?_
                  refine G_ret rfl rfl ?_
                  refine G_brT rfl rfl rfl ?_
                  refine G_go rfl rfl ?_
                  refine G_ret rfl rfl ?_
                  refine G_go rfl rfl ?_
                  show G 120 140 176 64 [(3, 120), (1, a0), (1, a1), (1, a2), (1, a3), (1, 0), (0, 0), (0, 0), (0, 0), (0, 0), (0, 0), (0, 0), (0, 0), (0, 0), (0, 0), (0, 0)] [] (n, upS s 120 10 0) Q
                  refine G_go rfl rfl ?_
                  refine G_brT rfl rfl rfl ?_
                  refine G_go rfl rfl ?_
                  refine G_go rfl rfl ?_
                  refine G_go rfl rfl ?_
                  refine G_go rfl rfl ?_
                  refine G_go rfl rfl ?_
                  refine G_go rfl rfl ?_
                  show G 120 140 176 90 [(3, 120), (1, a0), (1, a1), (1, a2), (1, a3), (1, 0), (2, 0), (0, 0), (2, 1), (0, 0), (1, 0), (0, 0), (0, 0), (0, 0), (0, 0), (0, 0)] [] (n, upS s 120 10 0) Q
                  exact h
            · have h := h.2 c6
              refine G_go rfl rfl ?_
              refine G_go rfl rfl ?_
              show G 120 140 176 54 [(3, 120), (1, a0), (1, a1), (1, a2), (1, a3), (1, (-6)), (0, 0), (0, 0), (0, 0), (0, 0), (0, 0), (0, 0), (0, 0), (0, 0), (0, 0), (0, 0)] [] (n, upS s 120 10 0) Q
              refine G_go rfl rfl ?_
              refine G_go rfl rfl ?_
              refine G_go rfl rfl ?_
              refine G_call rfl rfl ?_
              refine G_go rfl rfl ?_
              refine G_brT rfl rfl rfl ?_
              refine G_go rfl rfl ?_
              refine G_ret rfl rfl ?_
              refine G_go rfl rfl ?_
              show G 120 140 176 64 [(3, 120), (1, a0), (1, a1), (1, a2), (1, a3), (1, (-6)), (0, 0), (0, 0), (0, 0), (0, 0), (0, 0), (0, 0), (0, 0), (0, 0), (0, 0), (0, 0)] [] (n, upS s 120 10 0) Q
              refine G_go rfl rfl ?_
              refine G_brF rfl rfl rfl ?_
              refine G_go rfl rfl ?_
              refine G_go rfl rfl ?_
              refine G_go rfl rfl ?_
              refine G_call rfl rfl ?_
              refine G_go rfl rfl ?_
              refine G_rf rfl rfl (by decide) (hR 120 11 129 rfl) ?_
              refine G_go rfl rfl ?_
              refine G_go rfl rfl ?_
              refine G_go rfl rfl ?_
              refine G_ir (n := 7) rfl rfl (by decide) (by decide) (by decide) ?_
              refine G_go rfl rfl ?_
              refine G_go rfl rfl ?_
              refine G_iw (n := 7) rfl rfl (by decide) (by decide) (by decide) ?_
              have hR := refs_up (a := 129) (k := 6) (x := wr ((s 129 6) + 1)) hR rfl
              refine G_go rfl rfl ?_
              refine G_ret rfl rfl ?_
              refine G_go rfl rfl ?_
              refine G_go rfl rfl ?_
              exact G_ret rfl rfl h
        · have h := h.2 c4
          refine G_go rfl rfl ?_
          refine G_go rfl rfl ?_
          show G 120 140 176 35 [(3, 120), (1, a0), (1, a1), (1, a2), (1, a3), (1, (-4)), (0, 0), (0, 0), (0, 0), (0, 0), (0, 0), (0, 0), (0, 0), (0, 0), (0, 0), (0, 0)] [] (n, upS s 120 10 0) Q
          refine G_go rfl rfl ?_
          refine G_go rfl rfl ?_
          refine G_go rfl rfl ?_
          refine G_go rfl rfl ?_
          refine G_call rfl rfl ?_
          refine G_go rfl rfl ?_
          refine G_brT rfl rfl rfl ?_
          refine G_go rfl rfl ?_
          refine G_ret rfl rfl ?_
          refine G_go rfl rfl ?_
          show G 120 140 176 64 [(3, 120), (1, a0), (1, a1), (1, a2), (1, a3), (1, (-4)), (0, 0), (0, 0), (0, 0), (0, 0), (0, 0), (0, 0), (0, 0), (0, 0), (0, 0), (0, 0)] [] (n, upS s 120 10 0) Q
          refine G_go rfl rfl ?_
          refine G_brF rfl rfl rfl ?_
          refine G_go rfl rfl ?_
          refine G_go rfl rfl ?_
          refine G_go rfl rfl ?_
          refine G_call rfl rfl ?_
          refine G_go rfl rfl ?_
          refine G_rf rfl rfl (by decide) (hR 120 11 129 rfl) ?_
          refine G_go rfl rfl ?_
          refine G_go rfl rfl ?_
          refine G_go rfl rfl ?_
          refine G_ir (n := 7) rfl rfl (by decide) (by decide) (by decide) ?_
          refine G_go rfl rfl ?_
          refine G_go rfl rfl ?_
          refine G_iw (n := 7) rfl rfl (by decide) (by decide) (by decide) ?_
          have hR := refs_up (a := 129) (k := 4) (x := wr ((s 129 4) + 1)) hR rfl
          refine G_go rfl rfl ?_
          refine G_ret rfl rfl ?_
          refine G_go rfl rfl ?_
          refine G_go rfl rfl ?_
          exact G_ret rfl rfl h
theorem sb_X7_draft_90 (n : Nat) (s : Nat → Nat → Int) (Q : List Vl → Sto → Prop) (x1 : Int) (x2 : Int) (x3 : Int) (x4 : Int) (x5 : Int) (x6 : Int) (x8 : Int) (x10 : Int) (hR : refs s)
    (h : (x2 ≤ x10 → (0 ≤ x1 ∧ x1 < 6) ∧ ((rgP (vw 121 s) x1.toNat) ∧ ((0 ≤ vw 121 s 2 x1.toNat ∧ vw 121 s 2 x1.toNat ≤ 2000) ∧ (G 120 140 176 119 [(3, 120), (1, x1), (1, x2), (1, x3), (1, x4), (1, x5), (2, x6), (0, 0), (2, x8), (0, 0), (1, bnW (vw 121 s) x1.toNat), (1, 0), (0, 0), (0, 0), (0, 0), (0, 0)] [] (n, s) Q)))) ∧ (x10 < x2 → G 120 140 176 90 [(3, 120), (1, x1), (1, x2), (1, x3), (1, x4), (1, x5), (2, x6), (0, 0), (2, wl (x8 * x3)), (0, 0), (1, wr (x10 + 1)), (0, 0), (0, 0), (0, 0), (0, 0), (0, 0)] [] (n, s) Q)) :
    G 120 140 176 90 [(3, 120), (1, x1), (1, x2), (1, x3), (1, x4), (1, x5), (2, x6), (0, 0), (2, x8), (0, 0), (1, x10), (0, 0), (0, 0), (0, 0), (0, 0), (0, 0)] [] (n, s) Q := by
  refine G_go rfl rfl ?_
  refine G_go rfl rfl ?_
  refine G_ge rfl rfl (fun c1 => ?_) (fun c1 => ?_)
  · have h := h.1 c1
    refine G_go rfl rfl ?_
    refine G_go rfl rfl ?_
    refine G_call rfl rfl ?_
    obtain ⟨g2, h⟩ := h
    obtain ⟨g3, h⟩ := h
    obtain ⟨g4, h⟩ := h
    refine c_X7_burnsOf n _ _ x1 hR g2 g3 g4 ?_
    refine G_go rfl rfl ?_
    show G 120 140 176 116 [(3, 120), (1, x1), (1, x2), (1, x3), (1, x4), (1, x5), (2, x6), (0, 0), (2, x8), (0, 0), (1, bnW (vw 121 s) x1.toNat), (0, 0), (0, 0), (0, 0), (0, 0), (0, 0)] [] (n, s) Q
    refine G_go rfl rfl ?_
    refine G_go rfl rfl ?_
    show G 120 140 176 119 [(3, 120), (1, x1), (1, x2), (1, x3), (1, x4), (1, x5), (2, x6), (0, 0), (2, x8), (0, 0), (1, bnW (vw 121 s) x1.toNat), (1, 0), (0, 0), (0, 0), (0, 0), (0, 0)] [] (n, s) Q
    exact h
  · have h := h.2 c1
    refine G_go rfl rfl ?_
    refine G_go rfl rfl ?_
    refine G_go rfl rfl ?_
    refine G_go rfl rfl ?_
    refine G_go rfl rfl ?_
    refine G_go rfl rfl ?_
    refine G_go rfl rfl ?_
    exact h
theorem sb_X7_draft_119 (n : Nat) (s : Nat → Nat → Int) (Q : List Vl → Sto → Prop) (x1 : Int) (x2 : Int) (x3 : Int) (x4 : Int) (x5 : Int) (x6 : Int) (x8 : Int) (x10 : Int) (x11 : Int) (w12 : Vl) (w14 : Vl) (w15 : Vl) (hR : refs s)
    (h : (xshl 1 x2 ≤ x11 → G 120 140 175 0 [(2, x6), (0, 0), (2, x8), (0, 0), (1, x4), (0, 0), (0, 0)] [] (n, s) (fun r s1 => G 120 140 176 231 [(3, 120), (1, x1), (1, x2), (1, x3), (1, x4), (1, x5), (2, x6), (0, 0), (2, x8), (0, 0), (1, x10), (1, x11), w12, (0, 0), w14, w15] (r ++ []) s1 Q)) ∧ (x11 < xshl 1 x2 → (0 ≤ x1 ∧ x1 < 6) ∧ (G 120 140 176 141 [(3, 120), (1, x1), (1, x2), (1, x3), (1, x4), (1, x5), (2, x6), (0, 0), (2, x8), (0, 0), (1, x10), (1, x11), (2, 1), (0, 0), (1, s 125 x1.toNat), (1, 0)] [] (n, s) Q))) :
    G 120 140 176 119 [(3, 120), (1, x1), (1, x2), (1, x3), (1, x4), (1, x5), (2, x6), (0, 0), (2, x8), (0, 0), (1, x10), (1, x11), w12, (0, 0), w14, w15] [] (n, s) Q := by
  refine G_go rfl rfl ?_
  refine G_go rfl rfl ?_
  refine G_go rfl rfl ?_
  refine G_go rfl rfl ?_
  refine G_ge rfl rfl (fun c1 => ?_) (fun c1 => ?_)
  · have h := h.1 c1
    refine G_go rfl rfl ?_
    refine G_go rfl rfl ?_
    refine G_go rfl rfl ?_
    exact G_call rfl rfl h
  · have h := h.2 c1
    refine G_go rfl rfl ?_
    refine G_go rfl rfl ?_
    refine G_go rfl rfl ?_
    refine G_rf rfl rfl (by decide) (hR 120 5 125 rfl) ?_
    refine G_go rfl rfl ?_
    obtain ⟨g2, h⟩ := h
    refine G_ir (n := 6) rfl rfl (by decide) (by decide) g2 ?_
    refine G_go rfl rfl ?_
    show G 120 140 176 138 [(3, 120), (1, x1), (1, x2), (1, x3), (1, x4), (1, x5), (2, x6), (0, 0), (2, x8), (0, 0), (1, x10), (1, x11), (2, 1), (0, 0), (1, s 125 x1.toNat), w15] [] (n, s) Q
    refine G_go rfl rfl ?_
    refine G_go rfl rfl ?_
    show G 120 140 176 141 [(3, 120), (1, x1), (1, x2), (1, x3), (1, x4), (1, x5), (2, x6), (0, 0), (2, x8), (0, 0), (1, x10), (1, x11), (2, 1), (0, 0), (1, s 125 x1.toNat), (1, 0)] [] (n, s) Q
    exact h
theorem sb_X7_draft_141 (n : Nat) (s : Nat → Nat → Int) (Q : List Vl → Sto → Prop) (x1 : Int) (x2 : Int) (x3 : Int) (x4 : Int) (x5 : Int) (x6 : Int) (x8 : Int) (x10 : Int) (x11 : Int) (x12 : Int) (x14 : Int) (x15 : Int) (hR : refs s)
    (h : (x2 ≤ x15 → (x14 ≤ 0 → G 120 140 176 119 [(3, 120), (1, x1), (1, x2), (1, x3), (1, x4), (1, x5), (2, wl (x6 + 0)), (0, 0), (2, x8), (0, 0), (1, x10), (1, wr (x11 + 1)), (2, x12), (0, 0), (1, x14), (1, x15)] [] (n, s) Q) ∧ (0 < x14 → G 120 140 176 119 [(3, 120), (1, x1), (1, x2), (1, x3), (1, x4), (1, x5), (2, wl (x6 + x12)), (0, 0), (2, x8), (0, 0), (1, x10), (1, wr (x11 + 1)), (2, x12), (0, 0), (1, x14), (1, x15)] [] (n, s) Q)) ∧ (x15 < x2 → (xand (xshr x11 x15) 1 ≠ 1 → G 120 140 176 141 [(3, 120), (1, x1), (1, x2), (1, x3), (1, x4), (1, x5), (2, x6), (0, 0), (2, x8), (0, 0), (1, x10), (1, x11), (2, wl (x12 * (wr (x3 - 1)))), (0, 0), (1, wr (x14 - x10)), (1, wr (x15 + 1))] [] (n, s) Q) ∧ (xand (xshr x11 x15) 1 = 1 → G 120 140 176 141 [(3, 120), (1, x1), (1, x2), (1, x3), (1, x4), (1, x5), (2, x6), (0, 0), (2, x8), (0, 0), (1, x10), (1, x11), (2, wl (x12 * 1)), (0, 0), (1, wr (x14 - (wr (x10 + 2)))), (1, wr (x15 + 1))] [] (n, s) Q))) :
    G 120 140 176 141 [(3, 120), (1, x1), (1, x2), (1, x3), (1, x4), (1, x5), (2, x6), (0, 0), (2, x8), (0, 0), (1, x10), (1, x11), (2, x12), (0, 0), (1, x14), (1, x15)] [] (n, s) Q := by
  refine G_go rfl rfl ?_
  refine G_go rfl rfl ?_
  refine G_ge rfl rfl (fun c1 => ?_) (fun c1 => ?_)
  · have h := h.1 c1
    refine G_go rfl rfl ?_
    refine G_go rfl rfl ?_
    refine G_le rfl rfl (fun c2 => ?_) (fun c2 => ?_)
    · have h := h.1 c2
      refine G_go rfl rfl ?_
      refine G_go rfl rfl ?_
      refine G_go rfl rfl ?_
      refine G_go rfl rfl ?_
      refine G_go rfl rfl ?_
      exact h
    · have h := h.2 c2
      refine G_go rfl rfl ?_
      refine G_go rfl rfl ?_
      refine G_go rfl rfl ?_
      refine G_go rfl rfl ?_
      refine G_go rfl rfl ?_
      refine G_go rfl rfl ?_
      exact h
  · have h := h.2 c1
    refine G_go rfl rfl ?_
    refine G_go rfl rfl ?_
    refine G_go rfl rfl ?_
    refine G_call rfl rfl ?_
    refine G_go rfl rfl ?_
    refine G_go rfl rfl ?_
    refine G_go rfl rfl ?_
    refine G_go rfl rfl ?_
    refine G_go rfl rfl ?_
    refine G_go rfl rfl ?_
    refine G_ne rfl rfl (fun c3 => ?_) (fun c3 => ?_)
    · have h := h.1 c3
      refine G_go rfl rfl ?_
      refine G_ret rfl rfl ?_
      refine G_brT rfl rfl rfl ?_
      refine G_go rfl rfl ?_
      refine G_go rfl rfl ?_
      refine G_go rfl rfl ?_
      refine G_go rfl rfl ?_
      refine G_go rfl rfl ?_
      refine G_go rfl rfl ?_
      refine G_go rfl rfl ?_
      refine G_go rfl rfl ?_
      refine G_go rfl rfl ?_
      refine G_call rfl rfl ?_
      refine G_go rfl rfl ?_
      refine G_go rfl rfl ?_
      refine G_go rfl rfl ?_
      refine G_go rfl rfl ?_
      refine G_go rfl rfl ?_
      refine G_go rfl rfl ?_
      refine G_ne rfl rfl (fun _ => ?_) (fun hc => absurd (show xand (xshr x11 x15) 1 = 1 from hc) (by omega))
      refine G_go rfl rfl ?_
      refine G_ret rfl rfl ?_
      refine G_brT rfl rfl rfl ?_
      refine G_go rfl rfl ?_
      refine G_go rfl rfl ?_
      refine G_go rfl rfl ?_
      show G 120 140 176 194 [(3, 120), (1, x1), (1, x2), (1, x3), (1, x4), (1, x5), (2, x6), (0, 0), (2, x8), (0, 0), (1, x10), (1, x11), (2, wl (x12 * (wr (x3 - 1)))), (0, 0), (1, wr (x14 - x10)), (1, x15)] [] (n, s) Q
      refine G_go rfl rfl ?_
      refine G_go rfl rfl ?_
      exact h
    · have h := h.2 c3
      refine G_go rfl rfl ?_
      refine G_go rfl rfl ?_
      refine G_ret rfl rfl ?_
      refine G_brF rfl rfl rfl ?_
      refine G_go rfl rfl ?_
      refine G_go rfl rfl ?_
      refine G_go rfl rfl ?_
      refine G_go rfl rfl ?_
      refine G_go rfl rfl ?_
      refine G_go rfl rfl ?_
      refine G_go rfl rfl ?_
      refine G_call rfl rfl ?_
      refine G_go rfl rfl ?_
      refine G_go rfl rfl ?_
      refine G_go rfl rfl ?_
      refine G_go rfl rfl ?_
      refine G_go rfl rfl ?_
      refine G_go rfl rfl ?_
      refine G_ne rfl rfl (fun hc => absurd (show xand (xshr x11 x15) 1 ≠ 1 from hc) (by omega)) (fun _ => ?_)
      refine G_go rfl rfl ?_
      refine G_go rfl rfl ?_
      refine G_ret rfl rfl ?_
      refine G_brF rfl rfl rfl ?_
      refine G_go rfl rfl ?_
      refine G_go rfl rfl ?_
      refine G_go rfl rfl ?_
      refine G_go rfl rfl ?_
      refine G_go rfl rfl ?_
      refine G_go rfl rfl ?_
      show G 120 140 176 194 [(3, 120), (1, x1), (1, x2), (1, x3), (1, x4), (1, x5), (2, x6), (0, 0), (2, x8), (0, 0), (1, x10), (1, x11), (2, wl (x12 * 1)), (0, 0), (1, wr (x14 - (wr (x10 + 2)))), (1, x15)] [] (n, s) Q
      refine G_go rfl rfl ?_
      refine G_go rfl rfl ?_
      exact h
theorem sb_X7_draft_231 (n : Nat) (s : Nat → Nat → Int) (Q : List Vl → Sto → Prop) (x1 : Int) (x2 : Int) (x3 : Int) (x4 : Int) (x5 : Int) (x6 : Int) (x8 : Int) (x10 : Int) (x11 : Int) (y0 : Int) (w12 : Vl) (w14 : Vl) (w15 : Vl) (hR : refs s)
    (h : Q [(2, y0)] (n, s)) :
    G 120 140 176 231 [(3, 120), (1, x1), (1, x2), (1, x3), (1, x4), (1, x5), (2, x6), (0, 0), (2, x8), (0, 0), (1, x10), (1, x11), w12, (0, 0), w14, w15] [(2, y0)] (n, s) Q := by
  exact G_ret rfl rfl h
/-! DRAFTS BY CHANCE. -/
def pwI (U : Int) : Nat → Int
  | 0 => 1
  | j + 1 => pwI U j * U
theorem pw_le {U : Int} (hU : 1 ≤ U ∧ U ≤ 20) : ∀ j, 1 ≤ pwI U j ∧ pwI U j ≤ pwI 20 j
  | 0 => ⟨Int.le_refl 1, Int.le_refl 1⟩
  | j + 1 => by
    have ih := pw_le hU j
    refine ⟨?_, Int.mul_le_mul ih.2 hU.2 (by omega) (by omega)⟩
    have : 1 * 1 ≤ pwI U j * U := Int.mul_le_mul ih.1 hU.1 (by decide) (by omega)
    exact this
theorem pw_rg {U : Int} (hU : 1 ≤ U ∧ U ≤ 20) {j : Nat} (hj : j ≤ 8) : 1 ≤ pwI U j ∧ pwI U j ≤ 25600000000 := by
  have h := pw_le hU j
  have : j = 0 ∨ j = 1 ∨ j = 2 ∨ j = 3 ∨ j = 4 ∨ j = 5 ∨ j = 6 ∨ j = 7 ∨ j = 8 := by omega
  refine ⟨h.1, Int.le_trans h.2 ?_⟩
  rcases this with rfl | rfl | rfl | rfl | rfl | rfl | rfl | rfl | rfl
  all_goals decide
theorem c_power (n : Nat) (s : Nat → Nat → Int) (Q : List Vl → Sto → Prop) (T : Int) (N : Nat) (hR : refs s) (hT : 1 ≤ T ∧ T ≤ 20) (hN : N ≤ 8) (hq : Q [(2, pwI T N)] (n, s)) : G 2 120 77 0 [(1, T), (1, (N : Int)), (0, 0), (0, 0), (0, 0)] [] (n, s) Q := by
  refine sb_X6_power_0 n s Q T N hR ?_
  refine G_up N (fun k _ => G 2 120 77 5 [(1, T), (1, (N : Int)), (2, pwI T k), (0, 0), (1, (k : Int))] [] (n, s) Q) (fun _ _ => ()) (fun _ _ => True) () trivial (fun _ _ _ _ => trivial) (fun k _ hk _ hg => ?_) (fun _ => ?_)
  · rw [← wr_s hk (by omega)] at hg
    have e : pwI T (k + 1) = pwI T k * T := rfl
    have b := pw_rg hT (j := k + 1) (by omega)
    rw [e] at hg b
    refine sb_X6_power_5 n s Q T N _ k hR ⟨fun e => by omega, fun _ => ?_⟩
    rw [wl_id (x := pwI T k * T) (by omega) (by omega)]
    exact hg
  · exact sb_X6_power_5 n s Q T N _ N hR ⟨fun _ => hq, fun e => by omega⟩
def bitF (d : Int) (k : Nat) (c : Nat) : Nat := if xand (xshr d k) 1 = 1 then c + 1 else c
def popV (N : Nat) (d : Nat) : Nat := itr (bitF d) 0 N
theorem pop_le {d : Nat} : ∀ N, popV N d ≤ N
  | 0 => Nat.le_refl 0
  | N + 1 => by
    show bitF d N (popV N d) ≤ N + 1
    have ih := pop_le (d := d) N
    unfold bitF
    split <;> omega
def cnV (N M p : Nat) : Nat := itr (fun d c => if popV N d = p then c + 1 else c) 0 M
def chV (N d : Nat) : Int := itr (fun k c => xldiv (wl (c * wr ((N : Int) - (k : Int)))) (wr ((k : Int) + 1))) 1 d
theorem tab : ∀ N p : Fin 9, (p.1 ≤ N.1 → chV N.1 p.1 = ((cnV N.1 (2 ^ N.1) p.1 : Nat) : Int) ∧ 0 ≤ chV N.1 p.1 ∧ chV N.1 p.1 ≤ 70) ∧ (N.1 < p.1 → cnV N.1 (2 ^ N.1) p.1 = 0) := by decide +kernel
theorem sum_one {g : Nat → Int} {w : Nat → Nat} {q : Nat} : ∀ n, itr (fun p a => a + ((w p + (if q = p then 1 else 0) : Nat) : Int) * g p) 0 n = itr (fun p a => a + ((w p : Nat) : Int) * g p) 0 n + if q < n then g q else 0
  | 0 => by
    show (0 : Int) = 0 + if q < 0 then g q else 0
    rw [if_neg (by omega)]
    rfl
  | n + 1 => by
    show itr (fun p a => a + ((w p + (if q = p then 1 else 0) : Nat) : Int) * g p) 0 n + ((w n + (if q = n then 1 else 0) : Nat) : Int) * g n = (itr (fun p a => a + ((w p : Nat) : Int) * g p) 0 n + ((w n : Nat) : Int) * g n) + if q < n + 1 then g q else 0
    rw [sum_one n]
    by_cases c : q = n
    · subst c
      rw [if_pos rfl, if_neg (by omega), if_pos (by omega), Int.natCast_add, Int.add_mul]
      have : ((1 : Nat) : Int) * g q = g q := Int.one_mul _
      omega
    · rw [if_neg c, Nat.add_zero]
      by_cases d : q < n
      · rw [if_pos d, if_pos (by omega)]
        omega
      · rw [if_neg d, if_neg (by omega)]
        omega
theorem cnt_sum {g : Nat → Int} {N : Nat} (hN : N ≤ 8) : ∀ M, itr (fun d a => a + g (popV N d)) 0 M = itr (fun p a => a + ((cnV N M p : Nat) : Int) * g p) 0 9
  | 0 => by
    have : ∀ n, itr (fun p a => a + ((cnV N 0 p : Nat) : Int) * g p) 0 n = 0 := fun n => by
      induction n with
      | zero => rfl
      | succ n ih =>
        show itr (fun p a => a + ((cnV N 0 p : Nat) : Int) * g p) 0 n + ((0 : Nat) : Int) * g n = 0
        rw [ih, show ((0 : Nat) : Int) * g n = 0 from Int.zero_mul _]
        rfl
    rw [this]
    rfl
  | M + 1 => by
    show itr (fun d a => a + g (popV N d)) 0 M + g (popV N M) = _
    rw [cnt_sum hN M]
    have e : ∀ p, cnV N (M + 1) p = cnV N M p + (if popV N M = p then 1 else 0) := fun p => by
      show (if popV N M = p then cnV N M p + 1 else cnV N M p) = _
      split <;> rfl
    rw [itr_ext (f := fun p a => a + ((cnV N (M + 1) p : Nat) : Int) * g p) (g := fun p a => a + ((cnV N M p + (if popV N M = p then 1 else 0) : Nat) : Int) * g p) 0 9 (fun p a _ => by rw [e p]), sum_one, if_pos]
    have := pop_le (d := M) N
    omega
def gP (L U : Int) (N p : Nat) : Int := if 0 < L - 2 * (p : Int) then pwI U (N - p) else 0
def fC (L U : Int) (N d : Nat) (a : Int) : Int := if 0 < L - 2 * (d : Int) then a + chV N d * pwI U (N - d) else a
def waV (L U : Int) (N : Nat) : Int := itr (fun d a => a + gP L U N (popV N d)) 0 (2 ^ N)
theorem ways_eq (L U : Int) (N : Nat) (hN : N ≤ 8) : itr (fC L U N) 0 (N + 1) = waV L U N := by
  have t := fun (p : Nat) (hp : p ≤ 8) => tab ⟨N, by omega⟩ ⟨p, by omega⟩
  dsimp only at t
  unfold waV
  rw [cnt_sum hN]
  have e1 : itr (fC L U N) 0 (N + 1) = itr (fun p a => a + ((cnV N (2 ^ N) p : Nat) : Int) * gP L U N p) 0 (N + 1) := itr_ext 0 _ (fun p a hp => by
    have := ((t p (by omega)).1 (by omega)).1
    unfold fC gP
    rw [this]
    split
    · rfl
    · rw [Int.mul_zero, Int.add_zero])
  rw [e1]
  have e2 : ∀ e, N + 1 + e ≤ 9 → itr (fun p a => a + ((cnV N (2 ^ N) p : Nat) : Int) * gP L U N p) 0 (N + 1 + e) = itr (fun p a => a + ((cnV N (2 ^ N) p : Nat) : Int) * gP L U N p) 0 (N + 1) := fun e => by
    induction e with
    | zero => exact fun _ => rfl
    | succ e ih =>
      intro h
      show itr (fun p a => a + ((cnV N (2 ^ N) p : Nat) : Int) * gP L U N p) 0 (N + 1 + e) + ((cnV N (2 ^ N) (N + 1 + e) : Nat) : Int) * gP L U N (N + 1 + e) = _
      rw [ih (by omega), (t (N + 1 + e) (by omega)).2 (by omega), show ((0 : Nat) : Int) * gP L U N (N + 1 + e) = 0 from Int.zero_mul _, Int.add_zero]
  have := e2 (8 - N) (by omega)
  rw [show N + 1 + (8 - N) = 9 by omega] at this
  exact this.symm
theorem gP_rg {L U : Int} {N p : Nat} (hU : 1 ≤ U ∧ U ≤ 20) (hN : N ≤ 8) : 0 ≤ gP L U N p ∧ gP L U N p ≤ 25600000000 := by
  unfold gP
  split
  · have := pw_rg hU (j := N - p) (by omega)
    omega
  · omega
theorem ch_pw {U : Int} {N d : Nat} (hU : 1 ≤ U ∧ U ≤ 20) (hN : N ≤ 8) (hd : d ≤ N) : 0 ≤ chV N d * pwI U (N - d) ∧ chV N d * pwI U (N - d) ≤ 1792000000000 := by
  have c := ((tab ⟨N, by omega⟩ ⟨d, by omega⟩).1 hd).2
  dsimp only at c
  have p := pw_rg hU (j := N - d) (by omega)
  refine ⟨Int.mul_nonneg c.1 (by omega), ?_⟩
  have : chV N d * pwI U (N - d) ≤ 70 * 25600000000 := Int.mul_le_mul c.2 p.2 (by omega) (by decide)
  omega
theorem cl_ways (n : Nat) (s t : Nat → Nat → Int) (h : REL s t) (p N : Nat) (hp : (p : Int) < t 120 0) (hN : N ≤ 8) (T : Int) (hT : 2 ≤ T ∧ T ≤ 20) (Q : List Vl → Sto → Prop) (hQ : Q [(2, waV (t 125 p - (N : Int) * bnW (vw 121 t) p) (T - 1) N)] (n, s)) : G 2 120 78 0 [(3, 2), (1, (p : Int)), (1, (N : Int)), (1, T), (0, 0), (0, 0), (0, 0), (0, 0), (0, 0), (0, 0)] [] (n, s) Q := by
  obtain ⟨hn1, hn2, hn3, hn4⟩ := h.np
  obtain ⟨g1, _, g3, _, _, _⟩ := h.rg p hp
  have tp := h.t p hp
  have sp := h.s p hp
  have hb := ok_bn h.o.2 hp
  have eb : bnV (vw 4 s) p (s 6 p) = bnW (vw 121 t) p := by
    rw [h.bn p hp, sp.2.2.1]
    rfl
  refine sb_X6_waysWithLight_0 n s Q p N T h.1 ?_
  rw [Int.toNat_natCast, eb, sp.2.2.2.2.1]
  generalize bnW (vw 121 t) p = b at *
  have kb := kb_rg (k := N) (b := b) (by omega) (by omega)
  rw [wr_id (x := (N : Int) * b) (by omega) (by omega), wr_id (x := t 125 p - (N : Int) * b) (by omega) (by omega)]
  refine ⟨by omega, g1, by rw [← sp.2.2.1] at tp; omega, ?_⟩
  have hL : -30000 ≤ t 125 p - (N : Int) * b ∧ t 125 p - (N : Int) * b ≤ 99 := by omega
  generalize t 125 p - (N : Int) * b = L at *
  have hU : 1 ≤ T - 1 ∧ T - 1 ≤ 20 := by omega
  have wI : ∀ d a, d < N + 1 → (0 ≤ a ∧ a ≤ 1792000000000 * (d : Int)) → (0 ≤ fC L (T - 1) N d a ∧ fC L (T - 1) N d a ≤ 1792000000000 * ((d + 1 : Nat) : Int)) := fun d a hd ha => by
    have c := ch_pw (U := T - 1) hU hN (show d ≤ N by omega)
    unfold fC
    split <;> omega
  rw [← ways_eq L (T - 1) N hN] at hQ
  refine G_up (N + 1) (fun d a => G 2 120 78 31 [(3, 2), (1, (p : Int)), (1, (N : Int)), (1, T), (1, L), (2, a), (0, 0), (2, chV N d), (0, 0), (1, (d : Int))] [] (n, s) Q) (fC L (T - 1) N) (fun d a => 0 ≤ a ∧ a ≤ 1792000000000 * (d : Int)) 0 ⟨Int.le_refl 0, by decide⟩ wI (fun d a hd ha hg => ?_) (fun _ => ?_)
  · have c := ch_pw (U := T - 1) hU hN (show d ≤ N by omega)
    have en : wr ((N : Int) - (d : Int)) = ((N - d : Nat) : Int) := by
      rw [wr_id (by omega) (by omega)]
      omega
    have e1 : wr ((d : Int) + 1) = ((d + 1 : Nat) : Int) := wr_s hd (by omega)
    have ec : xldiv (wl (chV N d * wr ((N : Int) - (d : Int)))) (wr ((d : Int) + 1)) = chV N (d + 1) := rfl
    refine sb_X6_waysWithLight_31 n s Q p N T L a (chV N d) d h.1 ?_
    rw [ec, e1, en]
    clear ec e1 en
    rw [wr_id (x := 2 * (d : Int)) (by omega) (by omega), wr_id (x := L - 2 * (d : Int)) (by omega) (by omega), wr_id (x := T - 1) (by omega) (by omega)]
    unfold fC at hg
    refine ⟨fun e => by omega, fun _ => ⟨fun e => ⟨by omega, ?_⟩, fun e => ?_⟩⟩
    · rw [if_neg (by omega)] at hg
      exact hg
    · rw [if_pos e] at hg
      refine c_power n s _ (T - 1) (N - d) h.1 hU (by omega) ?_
      refine sb_X6_waysWithLight_61 n s Q p N T L a (chV N d) d _ _ _ h.1 ?_
      have e1 : wr ((d : Int) + 1) = ((d + 1 : Nat) : Int) := wr_s hd (by omega)
      have ec : xldiv (wl (chV N d * wr ((N : Int) - (d : Int)))) (wr ((d : Int) + 1)) = chV N (d + 1) := rfl
      rw [ec, e1]
      clear ec e1
      rw [wl_id (x := chV N d * pwI (T - 1) (N - d)) (by omega) (by omega), wl_id (x := a + chV N d * pwI (T - 1) (N - d)) (by omega) (by omega)]
      exact ⟨by omega, hg⟩
  · exact sb_X6_waysWithLight_31 n s Q p N T L _ _ _ h.1 ⟨fun _ => hQ, fun e => by omega⟩
theorem shl_2 : ∀ N : Fin 9, xshl 1 ((N.1 : Nat) : Int) = ((2 ^ N.1 : Nat) : Int) ∧ 2 ^ N.1 ≤ 256 := by decide +kernel
theorem rl_draft (n : Nat) (t : Nat → Nat → Int) (np h : Int) (V : Nat → Nat → Int) (hR : refs t) (ok : okT np V) (ht : twR t np h V) (p N : Nat) (hp : (p : Int) < np) (hN : N ≤ 8) (T part x5 : Int) (hT : 2 ≤ T ∧ T ≤ 20) (Q : List Vl → Sto → Prop) (hQ : Q [(2, ptV (waV (V 4 p - (N : Int) * bnW V p) (T - 1) N) (pwI T N) part)] (n, t)) : G 120 140 176 90 [(3, 120), (1, (p : Int)), (1, (N : Int)), (1, T), (1, part), (1, x5), (2, 0), (0, 0), (2, 1), (0, 0), (1, 0), (0, 0), (0, 0), (0, 0), (0, 0), (0, 0)] [] (n, t) Q := by
  have hn := ok.1
  have hb := ok_bn ok.2 hp
  have o4 := (ok.2 p hp).2.2.2.2.1
  have o1 := (ok.2 p hp).2.1
  have o2 := (ok.2 p hp).2.2.1
  have o3 := (ok.2 p hp).2.2.2.1
  have e0 : t 121 p = V 0 p := ht.2.2 0 (by decide) p hp
  have e1 : t 122 p = V 1 p := ht.2.2 1 (by decide) p hp
  have e2 : t 123 p = V 2 p := ht.2.2 2 (by decide) p hp
  have e3 : t 124 p = V 3 p := ht.2.2 3 (by decide) p hp
  have e4 : t 125 p = V 4 p := ht.2.2 4 (by decide) p hp
  have eb : bnW (vw 121 t) p = bnW V p := by
    show bnV (vw 121 t) p (t 123 p) = bnV V p (V 2 p)
    rw [e2]
    exact congrFun (bnV_eq (C := vw 121 t) (V := V) e0 e1 e3) _
  have hU : 1 ≤ T - 1 ∧ T - 1 ≤ 20 := by omega
  have sh := shl_2 ⟨N, by omega⟩
  dsimp only at sh
  have main : G 120 140 176 119 [(3, 120), (1, (p : Int)), (1, (N : Int)), (1, T), (1, part), (1, x5), (2, 0), (0, 0), (2, pwI T N), (0, 0), (1, bnW V p), (1, 0), (0, 0), (0, 0), (0, 0), (0, 0)] [] (n, t) Q := by
    generalize bnW V p = b at *
    have kbN := kb_rg (k := N) (b := b) (by omega) (by omega)
    refine G_up (2 ^ N) (fun d a => ∀ w12 w14 w15, G 120 140 176 119 [(3, 120), (1, (p : Int)), (1, (N : Int)), (1, T), (1, part), (1, x5), (2, a), (0, 0), (2, pwI T N), (0, 0), (1, b), (1, (d : Int)), w12, (0, 0), w14, w15] [] (n, t) Q) (fun d a => a + gP (V 4 p - (N : Int) * b) (T - 1) N (popV N d)) (fun d a => 0 ≤ a ∧ a ≤ 25600000000 * (d : Int)) 0 ⟨Int.le_refl 0, by decide⟩ (fun d a hd ha => ?_) (fun d a hd ha hg w12 w14 w15 => ?_) (fun hI w12 w14 w15 => ?_) (0, 0) (0, 0) (0, 0)
    · have g := gP_rg (L := V 4 p - (N : Int) * b) (p := popV N d) hU hN
      omega
    · have g := gP_rg (L := V 4 p - (N : Int) * b) (p := popV N d) hU hN
      have eg : gP (V 4 p - (N : Int) * b) (T - 1) N (popV N d) = if 0 < V 4 p - (N : Int) * b - 2 * ((popV N d : Nat) : Int) then pwI (T - 1) (N - popV N d) else 0 := rfl
      rw [← wr_s (show d < 2 ^ N from hd) (by omega)] at hg
      refine sb_X7_draft_119 n t Q p N T part x5 a _ b d w12 w14 w15 hR ?_
      rw [sh.1, Int.toNat_natCast, e4]
      refine ⟨fun e => by omega, fun _ => ⟨by omega, ?_⟩⟩
      have z : G 120 140 176 141 [(3, 120), (1, (p : Int)), (1, (N : Int)), (1, T), (1, part), (1, x5), (2, a), (0, 0), (2, pwI T N), (0, 0), (1, b), (1, (d : Int)), (2, pwI (T - 1) (0 - 0)), (0, 0), (1, V 4 p - ((0 : Nat) : Int) * b - 2 * ((0 : Nat) : Int)), (1, ((0 : Nat) : Int))] [] (n, t) Q := by
        refine G_up N (fun k (c : Nat) => G 120 140 176 141 [(3, 120), (1, (p : Int)), (1, (N : Int)), (1, T), (1, part), (1, x5), (2, a), (0, 0), (2, pwI T N), (0, 0), (1, b), (1, (d : Int)), (2, pwI (T - 1) (k - c)), (0, 0), (1, V 4 p - (k : Int) * b - 2 * (c : Int)), (1, (k : Int))] [] (n, t) Q) (bitF d) (fun k c => c ≤ k) 0 (Nat.le_refl 0) (fun k c hk hc => ?_) (fun k c hk hc hg2 => ?_) (fun hc => ?_)
        · unfold bitF
          split <;> omega
        · have kb := kb_rg (k := k) (b := b) (by omega) (by omega)
          have em : ((k + 1 : Nat) : Int) * b = (k : Int) * b + b := by
            rw [Int.natCast_add, Int.add_mul]
            simp
          rw [em, ← wr_s (show k < N from hk) (by omega)] at hg2
          clear em
          have pr := pw_rg hU (j := k - c) (by omega)
          unfold bitF at hg2
          refine sb_X7_draft_141 n t Q p N T part x5 a _ b d _ _ k hR ⟨fun e => by omega, fun _ => ⟨fun e => ?_, fun e => ?_⟩⟩
          · rw [if_neg e] at hg2
            have ep : pwI (T - 1) (k + 1 - c) = pwI (T - 1) (k - c) * (T - 1) := by
              rw [show k + 1 - c = (k - c) + 1 by omega]
              rfl
            have pr2 := pw_rg hU (j := k + 1 - c) (by omega)
            rw [ep] at pr2 hg2
            rw [wr_id (x := T - 1) (by omega) (by omega), wl_id (x := pwI (T - 1) (k - c) * (T - 1)) (by omega) (by omega), wr_id (x := V 4 p - (k : Int) * b - 2 * (c : Int) - b) (by omega) (by omega)]
            rw [show V 4 p - ((k : Int) * b + b) - 2 * (c : Int) = V 4 p - (k : Int) * b - 2 * (c : Int) - b by omega] at hg2
            exact hg2
          · rw [if_pos e] at hg2
            rw [Int.mul_one, wl_id (x := pwI (T - 1) (k - c)) (by omega) (by omega), wr_id (x := b + 2) (by omega) (by omega), wr_id (x := V 4 p - (k : Int) * b - 2 * (c : Int) - (b + 2)) (by omega) (by omega)]
            rw [show k + 1 - (c + 1) = k - c by omega, show V 4 p - ((k : Int) * b + b) - 2 * ((c + 1 : Nat) : Int) = V 4 p - (k : Int) * b - 2 * (c : Int) - (b + 2) by omega] at hg2
            exact hg2
        · have ev : itr (bitF d) 0 N = popV N d := rfl
          rw [ev]
          have pl := pop_le (d := d) N
          rw [eg] at hg g
          refine sb_X7_draft_141 n t Q p N T part x5 a _ b d _ _ N hR ⟨fun _ => ⟨fun e => ?_, fun e => ?_⟩, fun e => by omega⟩
          · rw [if_neg (by omega)] at hg
            rw [wl_id (x := a + 0) (by omega) (by omega)]
            exact hg _ _ _
          · rw [if_pos e] at hg g
            rw [wl_id (x := a + pwI (T - 1) (N - popV N d)) (by omega) (by omega)]
            exact hg _ _ _
      rw [show V 4 p - ((0 : Nat) : Int) * b - 2 * ((0 : Nat) : Int) = V 4 p by
        rw [show ((0 : Nat) : Int) * b = 0 from Int.zero_mul b]
        omega] at z
      exact z
    · have ew : itr (fun d a => a + gP (V 4 p - (N : Int) * b) (T - 1) N (popV N d)) 0 (2 ^ N) = waV (V 4 p - (N : Int) * b) (T - 1) N := rfl
      rw [ew] at hI ⊢
      refine sb_X7_draft_119 n t Q p N T part x5 _ _ b _ w12 w14 w15 hR ?_
      rw [sh.1]
      refine ⟨fun _ => ?_, fun e => by omega⟩
      have pt := pw_rg (U := T) (by omega) hN
      refine c_X7_partOf n t _ _ _ part hR (by omega) (by omega) ?_
      exact sb_X7_draft_231 n t Q p N T part x5 _ _ b _ _ w12 w14 w15 hR hQ
  refine G_up N (fun k _ => G 120 140 176 90 [(3, 120), (1, (p : Int)), (1, (N : Int)), (1, T), (1, part), (1, x5), (2, 0), (0, 0), (2, pwI T k), (0, 0), (1, (k : Int)), (0, 0), (0, 0), (0, 0), (0, 0), (0, 0)] [] (n, t) Q) (fun _ _ => ()) (fun _ _ => True) () trivial (fun _ _ _ _ => trivial) (fun k _ hk _ hg => ?_) (fun _ => ?_)
  · rw [← wr_s hk (by omega)] at hg
    have e : pwI T (k + 1) = pwI T k * T := rfl
    have b := pw_rg (U := T) (by omega) (j := k + 1) (by omega)
    rw [e] at hg b
    refine sb_X7_draft_90 n t Q p N T part x5 0 _ k hR ⟨fun e => by omega, fun _ => ?_⟩
    rw [wl_id (x := pwI T k * T) (by omega) (by omega)]
    exact hg
  · refine sb_X7_draft_90 n t Q p N T part x5 0 _ N hR ⟨fun _ => ?_, fun e => by omega⟩
    rw [Int.toNat_natCast, eb]
    refine ⟨by omega, ⟨?_, ?_⟩, ?_, main⟩
    · show 0 ≤ t 122 p ∧ t 122 p ≤ 9
      omega
    · show 0 ≤ t 124 p ∧ t 124 p ≤ 200
      omega
    · show 0 ≤ t 123 p ∧ t 123 p ≤ 2000
      omega
theorem cl_draft (n : Nat) (s t : Nat → Nat → Int) (h : REL s t) (p N : Nat) (hp : (p : Int) < t 120 0) (hN : N ≤ 8) (T part x5 : Int) (hT : 2 ≤ T ∧ T ≤ 20) (hpt : part = 0 ∨ part = 1) (Q : List Vl → Sto → Prop) (hQ : Q [(2, ptV (waV (t 125 p - (N : Int) * bnW (vw 121 t) p) (T - 1) N) (pwI T N) part)] (n, s)) : G 2 120 78 0 [(3, 2), (1, (p : Int)), (1, (N : Int)), (1, T), (0, 0), (0, 0), (0, 0), (0, 0), (0, 0), (0, 0)] [] (n, s) (fun r s1 => G 2 120 80 83 [(3, 2), (1, (p : Int)), (1, (N : Int)), (1, T), (1, part), (1, x5)] (r ++ []) s1 Q) := by
  refine cl_ways n s t h p N hp hN T hT _ ?_
  refine sb_X6_draft_83 n s Q p N T part x5 _ h.1 ?_
  refine c_power n s _ T N h.1 (by omega) hN ?_
  refine sb_X6_draft_88 n s Q p N T part x5 _ _ h.1 ?_
  have pt := pw_rg (U := T) (by omega) hN
  have wg : 0 ≤ waV (t 125 p - (N : Int) * bnW (vw 121 t) p) (T - 1) N ∧ waV (t 125 p - (N : Int) * bnW (vw 121 t) p) (T - 1) N ≤ 25600000000 * ((2 ^ N : Nat) : Int) := by
    unfold waV
    refine itr_inv (f := fun d a => a + gP (t 125 p - (N : Int) * bnW (vw 121 t) p) (T - 1) N (popV N d)) (fun d a => 0 ≤ a ∧ a ≤ 25600000000 * (d : Int)) ⟨Int.le_refl 0, by decide⟩ (2 ^ N) (fun d a hd ha => ?_)
    have g := gP_rg (L := t 125 p - (N : Int) * bnW (vw 121 t) p) (U := T - 1) (p := popV N d) (by omega) hN
    omega
  have sh := (shl_2 ⟨N, by omega⟩).2
  dsimp only at sh
  refine c_X6_partOf n s _ _ _ part h.1 (by omega) (by omega) hpt ?_
  exact sb_X6_draft_93 n s Q p N T part x5 _ h.1 hQ
theorem op_draft (n : Nat) (s t : Nat → Nat → Int) (h : REL s t) (a0 : Int) (a1 : Int) (a2 : Int) (a3 : Int) : G 2 120 80 0 [(3, 2), (1, a0), (1, a1), (1, a2), (1, a3), (0, 0)] [] (n, s) (fun r s1 => G 120 140 176 0 [(3, 120), (1, a0), (1, a1), (1, a2), (1, a3), (0, 0), (0, 0), (0, 0), (0, 0), (0, 0), (0, 0), (0, 0), (0, 0), (0, 0), (0, 0), (0, 0)] [] (n, t) (Post n r s1)) := by
  obtain ⟨hn1, hn2, hn3, hn4⟩ := h.np
  have hw : wr (t 120 0 - 1) = t 120 0 - 1 := wr_id (by omega) (by omega)
  have h1 : ∀ z : Int, 0 ≤ z → z < t 120 0 → ∃ p : Nat, z = p ∧ (p : Int) < t 120 0 := fun z h1 h2 => ⟨z.toNat, by omega, by omega⟩
  have h2 : ∀ z : Int, 0 ≤ z → z ≤ 99 → ∃ p : Nat, z = p ∧ p ≤ 99 := fun z h1 h2 => ⟨z.toNat, by omega, by omega⟩
  obtain ⟨m, hm⟩ : ∃ m : Nat, t 120 0 = (m : Int) := ⟨(t 120 0).toNat, by omega⟩
  refine sb_X6_draft_0 n s _ a0 a1 a2 a3 h.1 ?_
  repeat' first | with_reducible refine And.intro ?_ ?_ | intro _
  all_goals first | omega | skip
  all_goals try (obtain ⟨p, rfl, hp⟩ := h1 a0 (by omega) (by omega); obtain ⟨N, rfl, hN⟩ := h2 a1 (by omega) (by omega); refine cl_draft n s _ h.up p N hp (by omega) a2 a3 _ (by omega) (by omega) _ ?_)
  all_goals refine sb_X7_draft_0 n t _ _ _ _ _ h.2.1 ?_
  all_goals repeat' first | with_reducible refine And.intro ?_ ?_ | intro _
  all_goals first | omega | exact post_ref h _ (by decide) | exact hn3.1 | exact hn3.2 | skip
  exact rl_draft n _ _ _ _ h.up.2.1 h.up.o h.up.w p N hp (by omega) a2 a3 _ (by omega) _ (post_v h)

theorem sb_X6_howManyHoldsFit_0 (n : Nat) (s : Nat → Nat → Int) (Q : List Vl → Sto → Prop) (a0 : Int) (hR : refs s)
    (h : G 2 120 95 4 [(3, 2), (1, a0), (1, 0), (1, 0)] [] (n, s) Q) :
    G 2 120 95 0 [(3, 2), (1, a0), (0, 0), (0, 0)] [] (n, s) Q := by
  refine G_go rfl rfl ?_
  refine G_go rfl rfl ?_
  show G 2 120 95 2 [(3, 2), (1, a0), (1, 0), (0, 0)] [] (n, s) Q
  refine G_go rfl rfl ?_
  refine G_go rfl rfl ?_
  show G 2 120 95 4 [(3, 2), (1, a0), (1, 0), (1, 0)] [] (n, s) Q
  exact h
theorem sb_X6_howManyHoldsFit_4 (n : Nat) (s : Nat → Nat → Int) (Q : List Vl → Sto → Prop) (x1 : Int) (x2 : Int) (x3 : Int) (hR : refs s)
    (h : (99 < x3 → Q [(1, x2)] (n, s)) ∧ (x3 ≤ 99 → G 2 120 91 0 [(3, 2), (1, x1), (1, x3)] [] (n, s) (fun r s1 => G 2 120 95 16 [(3, 2), (1, x1), (1, x2), (1, x3)] (r ++ []) s1 Q))) :
    G 2 120 95 4 [(3, 2), (1, x1), (1, x2), (1, x3)] [] (n, s) Q := by
  refine G_go rfl rfl ?_
  refine G_go rfl rfl ?_
  refine G_gt rfl rfl (fun c1 => ?_) (fun c1 => ?_)
  · have h := h.1 c1
    refine G_go rfl rfl ?_
    exact G_ret rfl rfl h
  · have h := h.2 c1
    refine G_go rfl rfl ?_
    refine G_go rfl rfl ?_
    refine G_go rfl rfl ?_
    exact G_call rfl rfl h
theorem sb_X6_howManyHoldsFit_16 (n : Nat) (s : Nat → Nat → Int) (Q : List Vl → Sto → Prop) (x1 : Int) (x2 : Int) (x3 : Int) (y0 : Int) (hR : refs s)
    (h : (y0 = 0 → G 2 120 95 4 [(3, 2), (1, x1), (1, x2), (1, wr (x3 + 1))] [] (n, s) Q) ∧ (y0 ≠ 0 → G 2 120 95 4 [(3, 2), (1, x1), (1, wr (x2 + 1)), (1, wr (x3 + 1))] [] (n, s) Q)) :
    G 2 120 95 16 [(3, 2), (1, x1), (1, x2), (1, x3)] [(1, y0)] (n, s) Q := by
  refine G_eq rfl rfl (fun c1 => ?_) (fun c1 => ?_)
  · have h := h.1 c1
    refine G_go rfl rfl ?_
    refine G_go rfl rfl ?_
    exact h
  · have h := h.2 c1
    refine G_go rfl rfl ?_
    refine G_go rfl rfl ?_
    refine G_go rfl rfl ?_
    exact h
theorem sb_X6_leastHoldsFit_0 (n : Nat) (s : Nat → Nat → Int) (Q : List Vl → Sto → Prop) (a0 : Int) (hR : refs s)
    (h : G 2 120 102 2 [(3, 2), (1, a0), (1, 0)] [] (n, s) Q) :
    G 2 120 102 0 [(3, 2), (1, a0), (0, 0)] [] (n, s) Q := by
  refine G_go rfl rfl ?_
  refine G_go rfl rfl ?_
  show G 2 120 102 2 [(3, 2), (1, a0), (1, 0)] [] (n, s) Q
  exact h
theorem sb_X6_leastHoldsFit_2 (n : Nat) (s : Nat → Nat → Int) (Q : List Vl → Sto → Prop) (x1 : Int) (x2 : Int) (hR : refs s)
    (h : (99 < x2 → Q [(1, (-9))] (n, s)) ∧ (x2 ≤ 99 → G 2 120 91 0 [(3, 2), (1, x1), (1, x2)] [] (n, s) (fun r s1 => G 2 120 102 14 [(3, 2), (1, x1), (1, x2)] (r ++ []) s1 Q))) :
    G 2 120 102 2 [(3, 2), (1, x1), (1, x2)] [] (n, s) Q := by
  refine G_go rfl rfl ?_
  refine G_go rfl rfl ?_
  refine G_gt rfl rfl (fun c1 => ?_) (fun c1 => ?_)
  · have h := h.1 c1
    refine G_go rfl rfl ?_
    exact G_ret rfl rfl h
  · have h := h.2 c1
    refine G_go rfl rfl ?_
    refine G_go rfl rfl ?_
    refine G_go rfl rfl ?_
    exact G_call rfl rfl h
theorem sb_X6_leastHoldsFit_14 (n : Nat) (s : Nat → Nat → Int) (Q : List Vl → Sto → Prop) (x1 : Int) (x2 : Int) (y0 : Int) (hR : refs s)
    (h : (y0 = 0 → G 2 120 102 2 [(3, 2), (1, x1), (1, wr (x2 + 1))] [] (n, s) Q) ∧ (y0 ≠ 0 → Q [(1, x2)] (n, s))) :
    G 2 120 102 14 [(3, 2), (1, x1), (1, x2)] [(1, y0)] (n, s) Q := by
  refine G_eq rfl rfl (fun c1 => ?_) (fun c1 => ?_)
  · have h := h.1 c1
    refine G_go rfl rfl ?_
    refine G_go rfl rfl ?_
    exact h
  · have h := h.2 c1
    refine G_go rfl rfl ?_
    exact G_ret rfl rfl h
theorem sb_X6_kindsFit_0 (n : Nat) (s : Nat → Nat → Int) (Q : List Vl → Sto → Prop) (a0 : Int) (hR : refs s)
    (h : G 2 120 100 4 [(3, 2), (1, a0), (1, 0), (1, 0), (0, 0)] [] (n, s) Q) :
    G 2 120 100 0 [(3, 2), (1, a0), (0, 0), (0, 0), (0, 0)] [] (n, s) Q := by
  refine G_go rfl rfl ?_
  refine G_go rfl rfl ?_
  show G 2 120 100 2 [(3, 2), (1, a0), (1, 0), (0, 0), (0, 0)] [] (n, s) Q
  refine G_go rfl rfl ?_
  refine G_go rfl rfl ?_
  show G 2 120 100 4 [(3, 2), (1, a0), (1, 0), (1, 0), (0, 0)] [] (n, s) Q
  exact h
theorem sb_X6_kindsFit_4 (n : Nat) (s : Nat → Nat → Int) (Q : List Vl → Sto → Prop) (x1 : Int) (x2 : Int) (x3 : Int) (w4 : Vl) (hR : refs s)
    (h : (5 < x3 → Q [(1, x2)] (n, s)) ∧ (x3 ≤ 5 → (0 ≤ x1 ∧ x1 < 6) ∧ ((0 ≤ s 5 x1.toNat ∧ s 5 x1.toNat ≤ 9) ∧ ((0 ≤ s 6 x1.toNat ∧ s 6 x1.toNat ≤ 2000) ∧ ((0 ≤ s 7 x1.toNat ∧ s 7 x1.toNat ≤ 200) ∧ ((0 ≤ wlt x3 (s 5 x1.toNat) (s 6 x1.toNat) (s 7 x1.toNat) ∧ wlt x3 (s 5 x1.toNat) (s 6 x1.toNat) (s 7 x1.toNat) ≤ 9999) ∧ (G 2 120 43 0 [(3, 117), (1, s 8 x1.toNat), (1, bns x3 (wlt x3 (s 5 x1.toNat) (s 6 x1.toNat) (s 7 x1.toNat))), (0, 0)] [] (n, s) (fun r s1 => G 2 120 100 64 [(3, 2), (1, x1), (1, x2), (1, x3), (1, wlt x3 (s 5 x1.toNat) (s 6 x1.toNat) (s 7 x1.toNat))] (r ++ []) s1 Q)))))))) :
    G 2 120 100 4 [(3, 2), (1, x1), (1, x2), (1, x3), w4] [] (n, s) Q := by
  refine G_go rfl rfl ?_
  refine G_go rfl rfl ?_
  refine G_gt rfl rfl (fun c1 => ?_) (fun c1 => ?_)
  · have h := h.1 c1
    refine G_go rfl rfl ?_
    exact G_ret rfl rfl h
  · have h := h.2 c1
    refine G_go rfl rfl ?_
    refine G_go rfl rfl ?_
    refine G_rf rfl rfl (by decide) (hR 2 0 3 rfl) ?_
    refine G_rf rfl rfl (by decide) (hR 3 1 5 rfl) ?_
    refine G_go rfl rfl ?_
    obtain ⟨g2, h⟩ := h
    refine G_ir (n := 6) rfl rfl (by decide) (by decide) g2 ?_
    refine G_go rfl rfl ?_
    refine G_rf rfl rfl (by decide) (hR 2 0 3 rfl) ?_
    refine G_rf rfl rfl (by decide) (hR 3 2 6 rfl) ?_
    refine G_go rfl rfl ?_
    refine G_ir (n := 6) rfl rfl (by decide) (by decide) g2 ?_
    refine G_go rfl rfl ?_
    refine G_rf rfl rfl (by decide) (hR 2 0 3 rfl) ?_
    refine G_rf rfl rfl (by decide) (hR 3 3 7 rfl) ?_
    refine G_go rfl rfl ?_
    refine G_ir (n := 6) rfl rfl (by decide) (by decide) g2 ?_
    refine G_call rfl rfl ?_
    obtain ⟨g3, h⟩ := h
    obtain ⟨g4, h⟩ := h
    obtain ⟨g5, h⟩ := h
    refine c_X1_wealth n _ _ x3 (s 5 x1.toNat) (s 6 x1.toNat) (s 7 x1.toNat) hR g3 g4 g5 ?_
    refine G_go rfl rfl ?_
    show G 2 120 100 42 [(3, 2), (1, x1), (1, x2), (1, x3), (1, wlt x3 (s 5 x1.toNat) (s 6 x1.toNat) (s 7 x1.toNat))] [] (n, s) Q
    refine G_go rfl rfl ?_
    refine G_rf rfl rfl (by decide) (hR 2 6 117 rfl) ?_
    refine G_go rfl rfl ?_
    refine G_rf rfl rfl (by decide) (hR 2 0 3 rfl) ?_
    refine G_rf rfl rfl (by decide) (hR 3 4 8 rfl) ?_
    refine G_go rfl rfl ?_
    refine G_ir (n := 6) rfl rfl (by decide) (by decide) g2 ?_
    refine G_go rfl rfl ?_
    refine G_go rfl rfl ?_
    refine G_call rfl rfl ?_
    obtain ⟨g6, h⟩ := h
    refine c_X1_burns n _ _ x3 (wlt x3 (s 5 x1.toNat) (s 6 x1.toNat) (s 7 x1.toNat)) hR g6 ?_
    exact G_call rfl rfl h
theorem sb_X6_kindsFit_64 (n : Nat) (s : Nat → Nat → Int) (Q : List Vl → Sto → Prop) (x1 : Int) (x2 : Int) (x3 : Int) (x4 : Int) (y0 : Int) (hR : refs s)
    (h : (y0 = 0 → G 2 120 100 4 [(3, 2), (1, x1), (1, x2), (1, wr (x3 + 1)), (1, x4)] [] (n, s) Q) ∧ (y0 ≠ 0 → G 2 120 100 4 [(3, 2), (1, x1), (1, xor_ x2 (xshl 1 x3)), (1, wr (x3 + 1)), (1, x4)] [] (n, s) Q)) :
    G 2 120 100 64 [(3, 2), (1, x1), (1, x2), (1, x3), (1, x4)] [(1, y0)] (n, s) Q := by
  refine G_eq rfl rfl (fun c1 => ?_) (fun c1 => ?_)
  · have h := h.1 c1
    refine G_go rfl rfl ?_
    refine G_go rfl rfl ?_
    exact h
  · have h := h.2 c1
    refine G_go rfl rfl ?_
    refine G_go rfl rfl ?_
    refine G_go rfl rfl ?_
    refine G_go rfl rfl ?_
    refine G_go rfl rfl ?_
    refine G_go rfl rfl ?_
    show G 2 120 100 73 [(3, 2), (1, x1), (1, xor_ x2 (xshl 1 x3)), (1, x3), (1, x4)] [] (n, s) Q
    refine G_go rfl rfl ?_
    refine G_go rfl rfl ?_
    exact h
theorem sb_X6_figuresFit_0 (n : Nat) (s : Nat → Nat → Int) (Q : List Vl → Sto → Prop) (a0 : Int) (hR : refs s)
    (h : (0 ≤ a0 ∧ a0 < 6) ∧ (G 2 120 82 15 [(3, 2), (1, a0), (1, 0), (1, s 4 a0.toNat), (1, 0), (0, 0)] [] (n, s) Q)) :
    G 2 120 82 0 [(3, 2), (1, a0), (0, 0), (0, 0), (0, 0), (0, 0)] [] (n, s) Q := by
  refine G_go rfl rfl ?_
  refine G_go rfl rfl ?_
  show G 2 120 82 2 [(3, 2), (1, a0), (1, 0), (0, 0), (0, 0), (0, 0)] [] (n, s) Q
  refine G_go rfl rfl ?_
  refine G_rf rfl rfl (by decide) (hR 2 0 3 rfl) ?_
  refine G_rf rfl rfl (by decide) (hR 3 0 4 rfl) ?_
  refine G_go rfl rfl ?_
  obtain ⟨g1, h⟩ := h
  refine G_ir (n := 6) rfl rfl (by decide) (by decide) g1 ?_
  refine G_go rfl rfl ?_
  show G 2 120 82 12 [(3, 2), (1, a0), (1, 0), (1, s 4 a0.toNat), (0, 0), (0, 0)] [] (n, s) Q
  refine G_go rfl rfl ?_
  refine G_go rfl rfl ?_
  show G 2 120 82 15 [(3, 2), (1, a0), (1, 0), (1, s 4 a0.toNat), (1, 0), (0, 0)] [] (n, s) Q
  exact h
theorem sb_X6_figuresFit_15 (n : Nat) (s : Nat → Nat → Int) (Q : List Vl → Sto → Prop) (x1 : Int) (x2 : Int) (x3 : Int) (x4 : Int) (w5 : Vl) (hR : refs s)
    (h : (9 < x4 → Q [(1, x2)] (n, s)) ∧ (x4 ≤ 9 → (0 ≤ x1 ∧ x1 < 6) ∧ ((0 ≤ x4 ∧ x4 ≤ 9) ∧ ((0 ≤ s 6 x1.toNat ∧ s 6 x1.toNat ≤ 2000) ∧ ((0 ≤ s 7 x1.toNat ∧ s 7 x1.toNat ≤ 200) ∧ ((0 ≤ wlt x3 x4 (s 6 x1.toNat) (s 7 x1.toNat) ∧ wlt x3 x4 (s 6 x1.toNat) (s 7 x1.toNat) ≤ 9999) ∧ (G 2 120 43 0 [(3, 117), (1, s 8 x1.toNat), (1, bns x3 (wlt x3 x4 (s 6 x1.toNat) (s 7 x1.toNat))), (0, 0)] [] (n, s) (fun r s1 => G 2 120 82 70 [(3, 2), (1, x1), (1, x2), (1, x3), (1, x4), (1, wlt x3 x4 (s 6 x1.toNat) (s 7 x1.toNat))] (r ++ []) s1 Q)))))))) :
    G 2 120 82 15 [(3, 2), (1, x1), (1, x2), (1, x3), (1, x4), w5] [] (n, s) Q := by
  refine G_go rfl rfl ?_
  refine G_go rfl rfl ?_
  refine G_gt rfl rfl (fun c1 => ?_) (fun c1 => ?_)
  · have h := h.1 c1
    refine G_go rfl rfl ?_
    exact G_ret rfl rfl h
  · have h := h.2 c1
    refine G_go rfl rfl ?_
    refine G_go rfl rfl ?_
    refine G_go rfl rfl ?_
    refine G_rf rfl rfl (by decide) (hR 2 0 3 rfl) ?_
    refine G_rf rfl rfl (by decide) (hR 3 2 6 rfl) ?_
    refine G_go rfl rfl ?_
    obtain ⟨g2, h⟩ := h
    refine G_ir (n := 6) rfl rfl (by decide) (by decide) g2 ?_
    refine G_go rfl rfl ?_
    refine G_rf rfl rfl (by decide) (hR 2 0 3 rfl) ?_
    refine G_rf rfl rfl (by decide) (hR 3 3 7 rfl) ?_
    refine G_go rfl rfl ?_
    refine G_ir (n := 6) rfl rfl (by decide) (by decide) g2 ?_
    refine G_call rfl rfl ?_
    obtain ⟨g3, h⟩ := h
    obtain ⟨g4, h⟩ := h
    obtain ⟨g5, h⟩ := h
    refine c_X1_wealth n _ _ x3 x4 (s 6 x1.toNat) (s 7 x1.toNat) hR g3 g4 g5 ?_
    refine G_go rfl rfl ?_
    show G 2 120 82 48 [(3, 2), (1, x1), (1, x2), (1, x3), (1, x4), (1, wlt x3 x4 (s 6 x1.toNat) (s 7 x1.toNat))] [] (n, s) Q
    refine G_go rfl rfl ?_
    refine G_rf rfl rfl (by decide) (hR 2 6 117 rfl) ?_
    refine G_go rfl rfl ?_
    refine G_rf rfl rfl (by decide) (hR 2 0 3 rfl) ?_
    refine G_rf rfl rfl (by decide) (hR 3 4 8 rfl) ?_
    refine G_go rfl rfl ?_
    refine G_ir (n := 6) rfl rfl (by decide) (by decide) g2 ?_
    refine G_go rfl rfl ?_
    refine G_go rfl rfl ?_
    refine G_call rfl rfl ?_
    obtain ⟨g6, h⟩ := h
    refine c_X1_burns n _ _ x3 (wlt x3 x4 (s 6 x1.toNat) (s 7 x1.toNat)) hR g6 ?_
    exact G_call rfl rfl h
theorem sb_X6_figuresFit_70 (n : Nat) (s : Nat → Nat → Int) (Q : List Vl → Sto → Prop) (x1 : Int) (x2 : Int) (x3 : Int) (x4 : Int) (x5 : Int) (y0 : Int) (hR : refs s)
    (h : (y0 = 0 → G 2 120 82 15 [(3, 2), (1, x1), (1, x2), (1, x3), (1, wr (x4 + 1)), (1, x5)] [] (n, s) Q) ∧ (y0 ≠ 0 → G 2 120 82 15 [(3, 2), (1, x1), (1, xor_ x2 (xshl 1 x4)), (1, x3), (1, wr (x4 + 1)), (1, x5)] [] (n, s) Q)) :
    G 2 120 82 70 [(3, 2), (1, x1), (1, x2), (1, x3), (1, x4), (1, x5)] [(1, y0)] (n, s) Q := by
  refine G_eq rfl rfl (fun c1 => ?_) (fun c1 => ?_)
  · have h := h.1 c1
    refine G_go rfl rfl ?_
    refine G_go rfl rfl ?_
    exact h
  · have h := h.2 c1
    refine G_go rfl rfl ?_
    refine G_go rfl rfl ?_
    refine G_go rfl rfl ?_
    refine G_go rfl rfl ?_
    refine G_go rfl rfl ?_
    refine G_go rfl rfl ?_
    show G 2 120 82 80 [(3, 2), (1, x1), (1, xor_ x2 (xshl 1 x4)), (1, x3), (1, x4), (1, x5)] [] (n, s) Q
    refine G_go rfl rfl ?_
    refine G_go rfl rfl ?_
    exact h
theorem sb_X6_whatHeHolds_0 (n : Nat) (s : Nat → Nat → Int) (Q : List Vl → Sto → Prop) (a0 : Int) (a1 : Int) (hR : refs s)
    (h : (a0 < 0 → (a1 < 0 → Q [(1, (-1))] (n, upS s 119 1 (wr ((s 119 1) + 1)))) ∧ (0 ≤ a1 → (a1 ≤ 3 → Q [(1, (-1))] (n, upS s 119 1 (wr ((s 119 1) + 1)))) ∧ (3 < a1 → Q [(1, (-1))] (n, upS s 119 1 (wr ((s 119 1) + 1)))))) ∧ (0 ≤ a0 → (s 3 9 ≤ a0 → (a1 < 0 → Q [(1, (-1))] (n, upS s 119 1 (wr ((s 119 1) + 1)))) ∧ (0 ≤ a1 → (a1 ≤ 3 → Q [(1, (-1))] (n, upS s 119 1 (wr ((s 119 1) + 1)))) ∧ (3 < a1 → Q [(1, (-1))] (n, upS s 119 1 (wr ((s 119 1) + 1)))))) ∧ (a0 < s 3 9 → (a1 < 0 → Q [(1, (-2))] (n, upS s 119 2 (wr ((s 119 2) + 1)))) ∧ (0 ≤ a1 → (a1 ≤ 3 → (a1 = 0 → G 2 120 95 0 [(3, 2), (1, a0), (0, 0), (0, 0)] [] (n, s) (fun r s1 => G 2 120 132 57 [(3, 2), (1, a0), (1, a1), (1, 0)] (r ++ []) s1 Q)) ∧ (a1 = 1 → G 2 120 102 0 [(3, 2), (1, a0), (0, 0)] [] (n, s) (fun r s1 => G 2 120 132 63 [(3, 2), (1, a0), (1, a1), (1, 0)] (r ++ []) s1 Q)) ∧ (a1 = 2 → G 2 120 100 0 [(3, 2), (1, a0), (0, 0), (0, 0), (0, 0)] [] (n, s) (fun r s1 => G 2 120 132 69 [(3, 2), (1, a0), (1, a1), (1, 0)] (r ++ []) s1 Q)) ∧ (a1 < 0 ∨ 2 < a1 → G 2 120 82 0 [(3, 2), (1, a0), (0, 0), (0, 0), (0, 0), (0, 0)] [] (n, s) (fun r s1 => G 2 120 132 75 [(3, 2), (1, a0), (1, a1), (1, 0)] (r ++ []) s1 Q))) ∧ (3 < a1 → Q [(1, (-2))] (n, upS s 119 2 (wr ((s 119 2) + 1)))))))) :
    G 2 120 132 0 [(3, 2), (1, a0), (1, a1), (0, 0)] [] (n, s) Q := by
  refine G_go rfl rfl ?_
  refine G_go rfl rfl ?_
  refine G_call rfl rfl ?_
  refine G_go rfl rfl ?_
  refine G_rf rfl rfl (by decide) (hR 2 0 3 rfl) ?_
  refine G_go rfl rfl ?_
  refine G_call rfl rfl ?_
  refine G_go rfl rfl ?_
  refine G_lt rfl rfl (fun c1 => ?_) (fun c1 => ?_)
  · have h := h.1 c1
    refine G_go rfl rfl ?_
    refine G_ret rfl rfl ?_
    refine G_brT rfl rfl rfl ?_
    refine G_go rfl rfl ?_
    refine G_ret rfl rfl ?_
    refine G_go rfl rfl ?_
    refine G_go rfl rfl ?_
    refine G_call rfl rfl ?_
    refine G_go rfl rfl ?_
    refine G_lt rfl rfl (fun c2 => ?_) (fun c2 => ?_)
    · have h := h.1 c2
      refine G_go rfl rfl ?_
      refine G_go rfl rfl ?_
      refine G_ret rfl rfl ?_
      refine G_call rfl rfl ?_
      refine G_go rfl rfl ?_
      refine G_brF rfl rfl rfl ?_
      refine G_go rfl rfl ?_
      refine G_go rfl rfl ?_
      refine G_ret rfl rfl ?_
      refine G_go rfl rfl ?_
      show G 2 120 132 14 [(3, 2), (1, a0), (1, a1), (1, (-1))] [] (n, s) Q
      refine G_go rfl rfl ?_
      refine G_brF rfl rfl rfl ?_
      refine G_go rfl rfl ?_
      refine G_go rfl rfl ?_
      refine G_call rfl rfl ?_
      refine G_go rfl rfl ?_
      refine G_go rfl rfl ?_
      refine G_go rfl rfl ?_
      refine G_go rfl rfl ?_
      refine G_brF rfl rfl rfl ?_
      refine G_go rfl rfl ?_
      refine G_go rfl rfl ?_
      refine G_rf rfl rfl (by decide) (hR 2 7 119 rfl) ?_
      refine G_go rfl rfl ?_
      refine G_brF rfl rfl rfl ?_
      refine G_go rfl rfl ?_
      refine G_rf rfl rfl (by decide) (hR 2 7 119 rfl) ?_
      refine G_go rfl rfl ?_
      refine G_go rfl rfl ?_
      refine G_ir (n := 7) rfl rfl (by decide) (by decide) (by decide) ?_
      refine G_go rfl rfl ?_
      refine G_go rfl rfl ?_
      refine G_iw (n := 7) rfl rfl (by decide) (by decide) (by decide) ?_
      have hR := refs_up (a := 119) (k := 1) (x := wr ((s 119 1) + 1)) hR rfl
      refine G_go rfl rfl ?_
      refine G_ret rfl rfl ?_
      exact G_ret rfl rfl h
    · have h := h.2 c2
      refine G_go rfl rfl ?_
      refine G_go rfl rfl ?_
      refine G_le rfl rfl (fun c3 => ?_) (fun c3 => ?_)
      · have h := h.1 c3
        refine G_go rfl rfl ?_
        refine G_ret rfl rfl ?_
        refine G_call rfl rfl ?_
        refine G_go rfl rfl ?_
        refine G_brF rfl rfl rfl ?_
        refine G_go rfl rfl ?_
        refine G_go rfl rfl ?_
        refine G_ret rfl rfl ?_
        refine G_go rfl rfl ?_
        show G 2 120 132 14 [(3, 2), (1, a0), (1, a1), (1, (-1))] [] (n, s) Q
        refine G_go rfl rfl ?_
        refine G_brF rfl rfl rfl ?_
        refine G_go rfl rfl ?_
        refine G_go rfl rfl ?_
        refine G_call rfl rfl ?_
        refine G_go rfl rfl ?_
        refine G_go rfl rfl ?_
        refine G_go rfl rfl ?_
        refine G_go rfl rfl ?_
        refine G_brF rfl rfl rfl ?_
        refine G_go rfl rfl ?_
        refine G_go rfl rfl ?_
        refine G_rf rfl rfl (by decide) (hR 2 7 119 rfl) ?_
        refine G_go rfl rfl ?_
        refine G_brF rfl rfl rfl ?_
        refine G_go rfl rfl ?_
        refine G_rf rfl rfl (by decide) (hR 2 7 119 rfl) ?_
        refine G_go rfl rfl ?_
        refine G_go rfl rfl ?_
        refine G_ir (n := 7) rfl rfl (by decide) (by decide) (by decide) ?_
        refine G_go rfl rfl ?_
        refine G_go rfl rfl ?_
        refine G_iw (n := 7) rfl rfl (by decide) (by decide) (by decide) ?_
        have hR := refs_up (a := 119) (k := 1) (x := wr ((s 119 1) + 1)) hR rfl
        refine G_go rfl rfl ?_
        refine G_ret rfl rfl ?_
        exact G_ret rfl rfl h
      · have h := h.2 c3
        refine G_go rfl rfl ?_
        refine G_go rfl rfl ?_
        refine G_ret rfl rfl ?_
        refine G_call rfl rfl ?_
        refine G_go rfl rfl ?_
        refine G_brF rfl rfl rfl ?_
        refine G_go rfl rfl ?_
        refine G_go rfl rfl ?_
        refine G_ret rfl rfl ?_
        refine G_go rfl rfl ?_
        show G 2 120 132 14 [(3, 2), (1, a0), (1, a1), (1, (-1))] [] (n, s) Q
        refine G_go rfl rfl ?_
        refine G_brF rfl rfl rfl ?_
        refine G_go rfl rfl ?_
        refine G_go rfl rfl ?_
        refine G_call rfl rfl ?_
        refine G_go rfl rfl ?_
        refine G_go rfl rfl ?_
        refine G_go rfl rfl ?_
        refine G_go rfl rfl ?_
        refine G_brF rfl rfl rfl ?_
        refine G_go rfl rfl ?_
        refine G_go rfl rfl ?_
        refine G_rf rfl rfl (by decide) (hR 2 7 119 rfl) ?_
        refine G_go rfl rfl ?_
        refine G_brF rfl rfl rfl ?_
        refine G_go rfl rfl ?_
        refine G_rf rfl rfl (by decide) (hR 2 7 119 rfl) ?_
        refine G_go rfl rfl ?_
        refine G_go rfl rfl ?_
        refine G_ir (n := 7) rfl rfl (by decide) (by decide) (by decide) ?_
        refine G_go rfl rfl ?_
        refine G_go rfl rfl ?_
        refine G_iw (n := 7) rfl rfl (by decide) (by decide) (by decide) ?_
        have hR := refs_up (a := 119) (k := 1) (x := wr ((s 119 1) + 1)) hR rfl
        refine G_go rfl rfl ?_
        refine G_ret rfl rfl ?_
        exact G_ret rfl rfl h
  · have h := h.2 c1
    refine G_go rfl rfl ?_
    refine G_go rfl rfl ?_
    refine G_rd rfl rfl (by decide) ?_
    refine G_ge rfl rfl (fun c4 => ?_) (fun c4 => ?_)
    · have h := h.1 c4
      refine G_go rfl rfl ?_
      refine G_ret rfl rfl ?_
      refine G_brT rfl rfl rfl ?_
      refine G_go rfl rfl ?_
      refine G_ret rfl rfl ?_
      refine G_go rfl rfl ?_
      refine G_go rfl rfl ?_
      refine G_call rfl rfl ?_
      refine G_go rfl rfl ?_
      refine G_lt rfl rfl (fun c5 => ?_) (fun c5 => ?_)
      · have h := h.1 c5
        refine G_go rfl rfl ?_
        refine G_go rfl rfl ?_
        refine G_ret rfl rfl ?_
        refine G_call rfl rfl ?_
        refine G_go rfl rfl ?_
        refine G_brF rfl rfl rfl ?_
        refine G_go rfl rfl ?_
        refine G_go rfl rfl ?_
        refine G_ret rfl rfl ?_
        refine G_go rfl rfl ?_
        show G 2 120 132 14 [(3, 2), (1, a0), (1, a1), (1, (-1))] [] (n, s) Q
        refine G_go rfl rfl ?_
        refine G_brF rfl rfl rfl ?_
        refine G_go rfl rfl ?_
        refine G_go rfl rfl ?_
        refine G_call rfl rfl ?_
        refine G_go rfl rfl ?_
        refine G_go rfl rfl ?_
        refine G_go rfl rfl ?_
        refine G_go rfl rfl ?_
        refine G_brF rfl rfl rfl ?_
        refine G_go rfl rfl ?_
        refine G_go rfl rfl ?_
        refine G_rf rfl rfl (by decide) (hR 2 7 119 rfl) ?_
        refine G_go rfl rfl ?_
        refine G_brF rfl rfl rfl ?_
        refine G_go rfl rfl ?_
        refine G_rf rfl rfl (by decide) (hR 2 7 119 rfl) ?_
        refine G_go rfl rfl ?_
        refine G_go rfl rfl ?_
        refine G_ir (n := 7) rfl rfl (by decide) (by decide) (by decide) ?_
        refine G_go rfl rfl ?_
        refine G_go rfl rfl ?_
        refine G_iw (n := 7) rfl rfl (by decide) (by decide) (by decide) ?_
        have hR := refs_up (a := 119) (k := 1) (x := wr ((s 119 1) + 1)) hR rfl
        refine G_go rfl rfl ?_
        refine G_ret rfl rfl ?_
        exact G_ret rfl rfl h
      · have h := h.2 c5
        refine G_go rfl rfl ?_
        refine G_go rfl rfl ?_
        refine G_le rfl rfl (fun c6 => ?_) (fun c6 => ?_)
        · have h := h.1 c6
          refine G_go rfl rfl ?_
          refine G_ret rfl rfl ?_
          refine G_call rfl rfl ?_
          refine G_go rfl rfl ?_
          refine G_brF rfl rfl rfl ?_
          refine G_go rfl rfl ?_
          refine G_go rfl rfl ?_
          refine G_ret rfl rfl ?_
          refine G_go rfl rfl ?_
          show G 2 120 132 14 [(3, 2), (1, a0), (1, a1), (1, (-1))] [] (n, s) Q
          refine G_go rfl rfl ?_
          refine G_brF rfl rfl rfl ?_
          refine G_go rfl rfl ?_
          refine G_go rfl rfl ?_
          refine G_call rfl rfl ?_
          refine G_go rfl rfl ?_
          refine G_go rfl rfl ?_
          refine G_go rfl rfl ?_
          refine G_go rfl rfl ?_
          refine G_brF rfl rfl rfl ?_
          refine G_go rfl rfl ?_
          refine G_go rfl rfl ?_
          refine G_rf rfl rfl (by decide) (hR 2 7 119 rfl) ?_
          refine G_go rfl rfl ?_
          refine G_brF rfl rfl rfl ?_
          refine G_go rfl rfl ?_
          refine G_rf rfl rfl (by decide) (hR 2 7 119 rfl) ?_
          refine G_go rfl rfl ?_
          refine G_go rfl rfl ?_
          refine G_ir (n := 7) rfl rfl (by decide) (by decide) (by decide) ?_
          refine G_go rfl rfl ?_
          refine G_go rfl rfl ?_
          refine G_iw (n := 7) rfl rfl (by decide) (by decide) (by decide) ?_
          have hR := refs_up (a := 119) (k := 1) (x := wr ((s 119 1) + 1)) hR rfl
          refine G_go rfl rfl ?_
          refine G_ret rfl rfl ?_
          exact G_ret rfl rfl h
        · have h := h.2 c6
          refine G_go rfl rfl ?_
          refine G_go rfl rfl ?_
          refine G_ret rfl rfl ?_
          refine G_call rfl rfl ?_
          refine G_go rfl rfl ?_
          refine G_brF rfl rfl rfl ?_
          refine G_go rfl rfl ?_
          refine G_go rfl rfl ?_
          refine G_ret rfl rfl ?_
          refine G_go rfl rfl ?_
          show G 2 120 132 14 [(3, 2), (1, a0), (1, a1), (1, (-1))] [] (n, s) Q
          refine G_go rfl rfl ?_
          refine G_brF rfl rfl rfl ?_
          refine G_go rfl rfl ?_
          refine G_go rfl rfl ?_
          refine G_call rfl rfl ?_
          refine G_go rfl rfl ?_
          refine G_go rfl rfl ?_
          refine G_go rfl rfl ?_
          refine G_go rfl rfl ?_
          refine G_brF rfl rfl rfl ?_
          refine G_go rfl rfl ?_
          refine G_go rfl rfl ?_
          refine G_rf rfl rfl (by decide) (hR 2 7 119 rfl) ?_
          refine G_go rfl rfl ?_
          refine G_brF rfl rfl rfl ?_
          refine G_go rfl rfl ?_
          refine G_rf rfl rfl (by decide) (hR 2 7 119 rfl) ?_
          refine G_go rfl rfl ?_
          refine G_go rfl rfl ?_
          refine G_ir (n := 7) rfl rfl (by decide) (by decide) (by decide) ?_
          refine G_go rfl rfl ?_
          refine G_go rfl rfl ?_
          refine G_iw (n := 7) rfl rfl (by decide) (by decide) (by decide) ?_
          have hR := refs_up (a := 119) (k := 1) (x := wr ((s 119 1) + 1)) hR rfl
          refine G_go rfl rfl ?_
          refine G_ret rfl rfl ?_
          exact G_ret rfl rfl h
    · have h := h.2 c4
      refine G_go rfl rfl ?_
      refine G_go rfl rfl ?_
      refine G_ret rfl rfl ?_
      refine G_brF rfl rfl rfl ?_
      refine G_go rfl rfl ?_
      refine G_go rfl rfl ?_
      refine G_ret rfl rfl ?_
      refine G_go rfl rfl ?_
      refine G_go rfl rfl ?_
      refine G_call rfl rfl ?_
      refine G_go rfl rfl ?_
      refine G_lt rfl rfl (fun c7 => ?_) (fun c7 => ?_)
      · have h := h.1 c7
        refine G_go rfl rfl ?_
        refine G_go rfl rfl ?_
        refine G_ret rfl rfl ?_
        refine G_call rfl rfl ?_
        refine G_go rfl rfl ?_
        refine G_brT rfl rfl rfl ?_
        refine G_go rfl rfl ?_
        refine G_ret rfl rfl ?_
        refine G_go rfl rfl ?_
        show G 2 120 132 14 [(3, 2), (1, a0), (1, a1), (1, (-2))] [] (n, s) Q
        refine G_go rfl rfl ?_
        refine G_brF rfl rfl rfl ?_
        refine G_go rfl rfl ?_
        refine G_go rfl rfl ?_
        refine G_call rfl rfl ?_
        refine G_go rfl rfl ?_
        refine G_go rfl rfl ?_
        refine G_go rfl rfl ?_
        refine G_go rfl rfl ?_
        refine G_brF rfl rfl rfl ?_
        refine G_go rfl rfl ?_
        refine G_go rfl rfl ?_
        refine G_rf rfl rfl (by decide) (hR 2 7 119 rfl) ?_
        refine G_go rfl rfl ?_
        refine G_brF rfl rfl rfl ?_
        refine G_go rfl rfl ?_
        refine G_rf rfl rfl (by decide) (hR 2 7 119 rfl) ?_
        refine G_go rfl rfl ?_
        refine G_go rfl rfl ?_
        refine G_ir (n := 7) rfl rfl (by decide) (by decide) (by decide) ?_
        refine G_go rfl rfl ?_
        refine G_go rfl rfl ?_
        refine G_iw (n := 7) rfl rfl (by decide) (by decide) (by decide) ?_
        have hR := refs_up (a := 119) (k := 2) (x := wr ((s 119 2) + 1)) hR rfl
        refine G_go rfl rfl ?_
        refine G_ret rfl rfl ?_
        exact G_ret rfl rfl h
      · have h := h.2 c7
        refine G_go rfl rfl ?_
        refine G_go rfl rfl ?_
        refine G_le rfl rfl (fun c8 => ?_) (fun c8 => ?_)
        · have h := h.1 c8
          refine G_go rfl rfl ?_
          refine G_ret rfl rfl ?_
          refine G_call rfl rfl ?_
          refine G_go rfl rfl ?_
          refine G_brT rfl rfl rfl ?_
          refine G_go rfl rfl ?_
          refine G_ret rfl rfl ?_
          refine G_go rfl rfl ?_
          show G 2 120 132 14 [(3, 2), (1, a0), (1, a1), (1, 0)] [] (n, s) Q
          refine G_go rfl rfl ?_
          refine G_brT rfl rfl rfl ?_
          refine G_go rfl rfl ?_
          by_cases hs25_0 : a1 = 0
          · refine G_k hs25_0 rfl rfl ?_
            have h := h.1 hs25_0
            refine G_go rfl rfl ?_
            refine G_go rfl rfl ?_
            exact G_call rfl rfl h
          replace h := h.2
          by_cases hs25_1 : a1 = 1
          · refine G_k hs25_1 rfl rfl ?_
            have h := h.1 hs25_1
            refine G_go rfl rfl ?_
            refine G_go rfl rfl ?_
            exact G_call rfl rfl h
          replace h := h.2
          by_cases hs25_2 : a1 = 2
          · refine G_k hs25_2 rfl rfl ?_
            have h := h.1 hs25_2
            refine G_go rfl rfl ?_
            refine G_go rfl rfl ?_
            exact G_call rfl rfl h
          replace h := h.2
          have hd25 : a1 < 0 ∨ 2 < a1 := by omega
          refine G_tsd rfl rfl hd25 ?_
          replace h := h hd25
          refine G_go rfl rfl ?_
          refine G_go rfl rfl ?_
          exact G_call rfl rfl h
        · have h := h.2 c8
          refine G_go rfl rfl ?_
          refine G_go rfl rfl ?_
          refine G_ret rfl rfl ?_
          refine G_call rfl rfl ?_
          refine G_go rfl rfl ?_
          refine G_brT rfl rfl rfl ?_
          refine G_go rfl rfl ?_
          refine G_ret rfl rfl ?_
          refine G_go rfl rfl ?_
          show G 2 120 132 14 [(3, 2), (1, a0), (1, a1), (1, (-2))] [] (n, s) Q
          refine G_go rfl rfl ?_
          refine G_brF rfl rfl rfl ?_
          refine G_go rfl rfl ?_
          refine G_go rfl rfl ?_
          refine G_call rfl rfl ?_
          refine G_go rfl rfl ?_
          refine G_go rfl rfl ?_
          refine G_go rfl rfl ?_
          refine G_go rfl rfl ?_
          refine G_brF rfl rfl rfl ?_
          refine G_go rfl rfl ?_
          refine G_go rfl rfl ?_
          refine G_rf rfl rfl (by decide) (hR 2 7 119 rfl) ?_
          refine G_go rfl rfl ?_
          refine G_brF rfl rfl rfl ?_
          refine G_go rfl rfl ?_
          refine G_rf rfl rfl (by decide) (hR 2 7 119 rfl) ?_
          refine G_go rfl rfl ?_
          refine G_go rfl rfl ?_
          refine G_ir (n := 7) rfl rfl (by decide) (by decide) (by decide) ?_
          refine G_go rfl rfl ?_
          refine G_go rfl rfl ?_
          refine G_iw (n := 7) rfl rfl (by decide) (by decide) (by decide) ?_
          have hR := refs_up (a := 119) (k := 2) (x := wr ((s 119 2) + 1)) hR rfl
          refine G_go rfl rfl ?_
          refine G_ret rfl rfl ?_
          exact G_ret rfl rfl h
theorem sb_X6_whatHeHolds_57 (n : Nat) (s : Nat → Nat → Int) (Q : List Vl → Sto → Prop) (x1 : Int) (x2 : Int) (x3 : Int) (y0 : Int) (hR : refs s)
    (h : Q [(1, y0)] (n, s)) :
    G 2 120 132 57 [(3, 2), (1, x1), (1, x2), (1, x3)] [(1, y0)] (n, s) Q := by
  exact G_ret rfl rfl h
theorem sb_X6_whatHeHolds_63 (n : Nat) (s : Nat → Nat → Int) (Q : List Vl → Sto → Prop) (x1 : Int) (x2 : Int) (x3 : Int) (y0 : Int) (hR : refs s)
    (h : Q [(1, y0)] (n, s)) :
    G 2 120 132 63 [(3, 2), (1, x1), (1, x2), (1, x3)] [(1, y0)] (n, s) Q := by
  exact G_ret rfl rfl h
theorem sb_X6_whatHeHolds_69 (n : Nat) (s : Nat → Nat → Int) (Q : List Vl → Sto → Prop) (x1 : Int) (x2 : Int) (x3 : Int) (y0 : Int) (hR : refs s)
    (h : Q [(1, y0)] (n, s)) :
    G 2 120 132 69 [(3, 2), (1, x1), (1, x2), (1, x3)] [(1, y0)] (n, s) Q := by
  exact G_ret rfl rfl h
theorem sb_X6_whatHeHolds_75 (n : Nat) (s : Nat → Nat → Int) (Q : List Vl → Sto → Prop) (x1 : Int) (x2 : Int) (x3 : Int) (y0 : Int) (hR : refs s)
    (h : Q [(1, y0)] (n, s)) :
    G 2 120 132 75 [(3, 2), (1, x1), (1, x2), (1, x3)] [(1, y0)] (n, s) Q := by
  exact G_ret rfl rfl h
theorem sb_X7_whatHeHolds_0 (n : Nat) (s : Nat → Nat → Int) (Q : List Vl → Sto → Prop) (a0 : Int) (a1 : Int) (hR : refs s)
    (h : (a0 < 0 → Q [(1, (-1))] (n, upS (upS s 120 10 0) 129 1 (wr ((s 129 1) + 1)))) ∧ (a0 ≥ 0 → (a0 > wr ((s 120 0) - 1) → Q [(1, (-1))] (n, upS (upS s 120 10 0) 129 1 (wr ((s 129 1) + 1)))) ∧ (a0 ≤ wr ((s 120 0) - 1) → (a1 < 0 → Q [(1, (-2))] (n, upS (upS s 120 10 0) 129 2 (wr ((s 129 2) + 1)))) ∧ (a1 ≥ 0 → (a1 > 3 → Q [(1, (-2))] (n, upS (upS s 120 10 0) 129 2 (wr ((s 129 2) + 1)))) ∧ (a1 ≤ 3 → G 120 140 143 0 [(3, 120)] [] (n, upS s 120 10 0) (fun r s1 => G 120 140 223 48 [(3, 120), (1, a0), (1, a1), (1, 0), (1, 0), (1, 0), (1, (-9)), (0, 0), (0, 0)] (r ++ []) s1 Q)))))) :
    G 120 140 223 0 [(3, 120), (1, a0), (1, a1), (0, 0), (0, 0), (0, 0), (0, 0), (0, 0), (0, 0)] [] (n, s) Q := by
  refine G_go rfl rfl ?_
  refine G_go rfl rfl ?_
  refine G_wr rfl rfl (by decide) ?_
  have hR := refs_up (a := 120) (k := 10) (x := 0) hR rfl
  refine G_go rfl rfl ?_
  refine G_go rfl rfl ?_
  refine G_call rfl rfl ?_
  refine G_go rfl rfl ?_
  refine G_go rfl rfl ?_
  refine G_go rfl rfl ?_
  refine G_go rfl rfl ?_
  refine G_rd rfl rfl (by decide) ?_
  refine G_go rfl rfl ?_
  refine G_go rfl rfl ?_
  refine G_go rfl rfl ?_
  refine G_call rfl rfl ?_
  refine G_go rfl rfl ?_
  refine G_go rfl rfl ?_
  refine G_go rfl rfl ?_
  refine G_lt rfl rfl (fun c1 => ?_) (fun c1 => ?_)
  · have c1 := xl_lt c1
    have h := h.1 c1
    refine G_go rfl rfl ?_
    refine G_ret rfl rfl ?_
    refine G_ret rfl rfl ?_
    refine G_brT rfl rfl rfl ?_
    refine G_go rfl rfl ?_
    refine G_go rfl rfl ?_
    refine G_go rfl rfl ?_
    refine G_call rfl rfl ?_
    refine G_go rfl rfl ?_
    refine G_brT rfl rfl rfl ?_
    refine G_go rfl rfl ?_
    refine G_ret rfl rfl ?_
    refine G_go rfl rfl ?_
    show G 120 140 223 24 [(3, 120), (1, a0), (1, a1), (1, (-1)), (0, 0), (0, 0), (0, 0), (0, 0), (0, 0)] [] (n, upS s 120 10 0) Q
    refine G_go rfl rfl ?_
    refine G_brF rfl rfl rfl ?_
    refine G_go rfl rfl ?_
    refine G_go rfl rfl ?_
    refine G_call rfl rfl ?_
    refine G_go rfl rfl ?_
    refine G_rf rfl rfl (by decide) (hR 120 11 129 rfl) ?_
    refine G_go rfl rfl ?_
    refine G_go rfl rfl ?_
    refine G_go rfl rfl ?_
    refine G_ir (n := 7) rfl rfl (by decide) (by decide) (by decide) ?_
    refine G_go rfl rfl ?_
    refine G_go rfl rfl ?_
    refine G_iw (n := 7) rfl rfl (by decide) (by decide) (by decide) ?_
    have hR := refs_up (a := 129) (k := 1) (x := wr ((s 129 1) + 1)) hR rfl
    refine G_go rfl rfl ?_
    refine G_ret rfl rfl ?_
    exact G_ret rfl rfl h
  · have c1 := xl_ge c1
    have h := h.2 c1
    refine G_go rfl rfl ?_
    refine G_go rfl rfl ?_
    refine G_go rfl rfl ?_
    refine G_gt rfl rfl (fun c2 => ?_) (fun c2 => ?_)
    · have c2 := xl_gt c2
      have h := h.1 c2
      refine G_go rfl rfl ?_
      refine G_ret rfl rfl ?_
      refine G_ret rfl rfl ?_
      refine G_brT rfl rfl rfl ?_
      refine G_go rfl rfl ?_
      refine G_go rfl rfl ?_
      refine G_go rfl rfl ?_
      refine G_call rfl rfl ?_
      refine G_go rfl rfl ?_
      refine G_brT rfl rfl rfl ?_
      refine G_go rfl rfl ?_
      refine G_ret rfl rfl ?_
      refine G_go rfl rfl ?_
      show G 120 140 223 24 [(3, 120), (1, a0), (1, a1), (1, (-1)), (0, 0), (0, 0), (0, 0), (0, 0), (0, 0)] [] (n, upS s 120 10 0) Q
      refine G_go rfl rfl ?_
      refine G_brF rfl rfl rfl ?_
      refine G_go rfl rfl ?_
      refine G_go rfl rfl ?_
      refine G_call rfl rfl ?_
      refine G_go rfl rfl ?_
      refine G_rf rfl rfl (by decide) (hR 120 11 129 rfl) ?_
      refine G_go rfl rfl ?_
      refine G_go rfl rfl ?_
      refine G_go rfl rfl ?_
      refine G_ir (n := 7) rfl rfl (by decide) (by decide) (by decide) ?_
      refine G_go rfl rfl ?_
      refine G_go rfl rfl ?_
      refine G_iw (n := 7) rfl rfl (by decide) (by decide) (by decide) ?_
      have hR := refs_up (a := 129) (k := 1) (x := wr ((s 129 1) + 1)) hR rfl
      refine G_go rfl rfl ?_
      refine G_ret rfl rfl ?_
      exact G_ret rfl rfl h
    · have c2 := xl_le c2
      have h := h.2 c2
      refine G_go rfl rfl ?_
      refine G_go rfl rfl ?_
      refine G_ret rfl rfl ?_
      refine G_ret rfl rfl ?_
      refine G_brF rfl rfl rfl ?_
      refine G_go rfl rfl ?_
      refine G_go rfl rfl ?_
      refine G_go rfl rfl ?_
      refine G_go rfl rfl ?_
      refine G_call rfl rfl ?_
      refine G_go rfl rfl ?_
      refine G_brF rfl rfl rfl ?_
      refine G_go rfl rfl ?_
      refine G_go rfl rfl ?_
      refine G_go rfl rfl ?_
      refine G_go rfl rfl ?_
      refine G_go rfl rfl ?_
      refine G_call rfl rfl ?_
      refine G_go rfl rfl ?_
      refine G_go rfl rfl ?_
      refine G_go rfl rfl ?_
      refine G_lt rfl rfl (fun c3 => ?_) (fun c3 => ?_)
      · have c3 := xl_lt c3
        have h := h.1 c3
        refine G_go rfl rfl ?_
        refine G_ret rfl rfl ?_
        refine G_brF rfl rfl rfl ?_
        refine G_go rfl rfl ?_
        refine G_go rfl rfl ?_
        refine G_ret rfl rfl ?_
        refine G_go rfl rfl ?_
        show G 120 140 223 24 [(3, 120), (1, a0), (1, a1), (1, (-2)), (0, 0), (0, 0), (0, 0), (0, 0), (0, 0)] [] (n, upS s 120 10 0) Q
        refine G_go rfl rfl ?_
        refine G_brF rfl rfl rfl ?_
        refine G_go rfl rfl ?_
        refine G_go rfl rfl ?_
        refine G_call rfl rfl ?_
        refine G_go rfl rfl ?_
        refine G_rf rfl rfl (by decide) (hR 120 11 129 rfl) ?_
        refine G_go rfl rfl ?_
        refine G_go rfl rfl ?_
        refine G_go rfl rfl ?_
        refine G_ir (n := 7) rfl rfl (by decide) (by decide) (by decide) ?_
        refine G_go rfl rfl ?_
        refine G_go rfl rfl ?_
        refine G_iw (n := 7) rfl rfl (by decide) (by decide) (by decide) ?_
        have hR := refs_up (a := 129) (k := 2) (x := wr ((s 129 2) + 1)) hR rfl
        refine G_go rfl rfl ?_
        refine G_ret rfl rfl ?_
        exact G_ret rfl rfl h
      · have c3 := xl_ge c3
        have h := h.2 c3
        refine G_go rfl rfl ?_
        refine G_go rfl rfl ?_
        refine G_go rfl rfl ?_
        refine G_gt rfl rfl (fun c4 => ?_) (fun c4 => ?_)
        · have c4 := xl_gt c4
          have h := h.1 c4
          refine G_go rfl rfl ?_
          refine G_ret rfl rfl ?_
          refine G_brF rfl rfl rfl ?_
          refine G_go rfl rfl ?_
          refine G_go rfl rfl ?_
          refine G_ret rfl rfl ?_
          refine G_go rfl rfl ?_
          show G 120 140 223 24 [(3, 120), (1, a0), (1, a1), (1, (-2)), (0, 0), (0, 0), (0, 0), (0, 0), (0, 0)] [] (n, upS s 120 10 0) Q
          refine G_go rfl rfl ?_
          refine G_brF rfl rfl rfl ?_
          refine G_go rfl rfl ?_
          refine G_go rfl rfl ?_
          refine G_call rfl rfl ?_
          refine G_go rfl rfl ?_
          refine G_rf rfl rfl (by decide) (hR 120 11 129 rfl) ?_
          refine G_go rfl rfl ?_
          refine G_go rfl rfl ?_
          refine G_go rfl rfl ?_
          refine G_ir (n := 7) rfl rfl (by decide) (by decide) (by decide) ?_
          refine G_go rfl rfl ?_
          refine G_go rfl rfl ?_
          refine G_iw (n := 7) rfl rfl (by decide) (by decide) (by decide) ?_
          have hR := refs_up (a := 129) (k := 2) (x := wr ((s 129 2) + 1)) hR rfl
          refine G_go rfl rfl ?_
          refine G_ret rfl rfl ?_
          exact G_ret rfl rfl h
        · have c4 := xl_le c4
          have h := h.2 c4
          refine G_go rfl rfl ?_
          refine G_go rfl rfl ?_
          refine G_ret rfl rfl ?_
          refine G_brT rfl rfl rfl ?_
          refine G_go rfl rfl ?_
          refine G_ret rfl rfl ?_
          refine G_go rfl rfl ?_
          show G 120 140 223 24 [(3, 120), (1, a0), (1, a1), (1, 0), (0, 0), (0, 0), (0, 0), (0, 0), (0, 0)] [] (n, upS s 120 10 0) Q
          refine G_go rfl rfl ?_
          refine G_brT rfl rfl rfl ?_
          refine G_go rfl rfl ?_
          refine G_go rfl rfl ?_
          show G 120 140 223 37 [(3, 120), (1, a0), (1, a1), (1, 0), (1, 0), (0, 0), (0, 0), (0, 0), (0, 0)] [] (n, upS s 120 10 0) Q
          refine G_go rfl rfl ?_
          refine G_go rfl rfl ?_
          show G 120 140 223 40 [(3, 120), (1, a0), (1, a1), (1, 0), (1, 0), (1, 0), (0, 0), (0, 0), (0, 0)] [] (n, upS s 120 10 0) Q
          refine G_go rfl rfl ?_
          refine G_go rfl rfl ?_
          show G 120 140 223 44 [(3, 120), (1, a0), (1, a1), (1, 0), (1, 0), (1, 0), (1, (-9)), (0, 0), (0, 0)] [] (n, upS s 120 10 0) Q
          refine G_go rfl rfl ?_
          exact G_call rfl rfl h
theorem sb_X7_whatHeHolds_48 (n : Nat) (s : Nat → Nat → Int) (Q : List Vl → Sto → Prop) (x1 : Int) (x2 : Int) (x3 : Int) (x4 : Int) (x5 : Int) (x6 : Int) (hR : refs s)
    (h : G 120 140 223 51 [(3, 120), (1, x1), (1, x2), (1, x3), (1, x4), (1, x5), (1, x6), (1, 0), (0, 0)] [] (n, s) Q) :
    G 120 140 223 48 [(3, 120), (1, x1), (1, x2), (1, x3), (1, x4), (1, x5), (1, x6), (0, 0), (0, 0)] [] (n, s) Q := by
  refine G_go rfl rfl ?_
  refine G_go rfl rfl ?_
  show G 120 140 223 51 [(3, 120), (1, x1), (1, x2), (1, x3), (1, x4), (1, x5), (1, x6), (1, 0), (0, 0)] [] (n, s) Q
  exact h
theorem sb_X7_whatHeHolds_51 (n : Nat) (s : Nat → Nat → Int) (Q : List Vl → Sto → Prop) (x1 : Int) (x2 : Int) (x3 : Int) (x4 : Int) (x5 : Int) (x6 : Int) (x7 : Int) (w8 : Vl) (hR : refs s)
    (h : (2 ≤ x2 → (x2 ≠ 2 → (10 ≤ x7 → G 120 140 140 0 [(3, 120)] [] (n, s) (fun r s1 => G 120 140 223 218 [(3, 120), (1, x1), (1, x2), (1, x3), (1, x4), (1, x5), (1, x6), (1, x7), w8] (r ++ []) s1 Q)) ∧ (x7 < 10 → (0 ≤ x1 ∧ x1 < 6) ∧ ((x2 ≠ 3 → G 120 140 191 0 [(3, 120), (1, x1), (0, 0), (0, 0), (0, 0), (0, 0)] [] (n, upS (upS (upS s 123 x1.toNat (s 123 x1.toNat)) 121 x1.toNat (s 121 x1.toNat)) 122 x1.toNat (s 122 x1.toNat)) (fun r s1 => G 120 140 223 149 [(3, 120), (1, x1), (1, x2), (1, x3), (1, x4), (1, x5), (1, x6), (1, x7), w8] (r ++ []) s1 Q)) ∧ (x2 = 3 → G 120 140 191 0 [(3, 120), (1, x1), (0, 0), (0, 0), (0, 0), (0, 0)] [] (n, upS (upS (upS s 123 x1.toNat (s 123 x1.toNat)) 121 x1.toNat (s 121 x1.toNat)) 122 x1.toNat x7) (fun r s1 => G 120 140 223 149 [(3, 120), (1, x1), (1, x2), (1, x3), (1, x4), (1, x5), (1, x6), (1, x7), w8] (r ++ []) s1 Q))))) ∧ (x2 = 2 → (6 ≤ x7 → G 120 140 140 0 [(3, 120)] [] (n, s) (fun r s1 => G 120 140 223 218 [(3, 120), (1, x1), (1, x2), (1, x3), (1, x4), (1, x5), (1, x6), (1, x7), w8] (r ++ []) s1 Q)) ∧ (x7 < 6 → (0 ≤ x1 ∧ x1 < 6) ∧ ((x2 ≠ 3 → G 120 140 191 0 [(3, 120), (1, x1), (0, 0), (0, 0), (0, 0), (0, 0)] [] (n, upS (upS (upS s 123 x1.toNat (s 123 x1.toNat)) 121 x1.toNat x7) 122 x1.toNat (s 122 x1.toNat)) (fun r s1 => G 120 140 223 149 [(3, 120), (1, x1), (1, x2), (1, x3), (1, x4), (1, x5), (1, x6), (1, x7), w8] (r ++ []) s1 Q)) ∧ (x2 = 3 → G 120 140 191 0 [(3, 120), (1, x1), (0, 0), (0, 0), (0, 0), (0, 0)] [] (n, upS (upS (upS s 123 x1.toNat (s 123 x1.toNat)) 121 x1.toNat x7) 122 x1.toNat x7) (fun r s1 => G 120 140 223 149 [(3, 120), (1, x1), (1, x2), (1, x3), (1, x4), (1, x5), (1, x6), (1, x7), w8] (r ++ []) s1 Q)))))) ∧ (x2 < 2 → (100 ≤ x7 → G 120 140 140 0 [(3, 120)] [] (n, s) (fun r s1 => G 120 140 223 218 [(3, 120), (1, x1), (1, x2), (1, x3), (1, x4), (1, x5), (1, x6), (1, x7), w8] (r ++ []) s1 Q)) ∧ (x7 < 100 → (0 ≤ x1 ∧ x1 < 6) ∧ ((x2 ≠ 2 → (x2 ≠ 3 → G 120 140 191 0 [(3, 120), (1, x1), (0, 0), (0, 0), (0, 0), (0, 0)] [] (n, upS (upS (upS s 123 x1.toNat x7) 121 x1.toNat (s 121 x1.toNat)) 122 x1.toNat (s 122 x1.toNat)) (fun r s1 => G 120 140 223 149 [(3, 120), (1, x1), (1, x2), (1, x3), (1, x4), (1, x5), (1, x6), (1, x7), w8] (r ++ []) s1 Q)) ∧ (x2 = 3 → G 120 140 191 0 [(3, 120), (1, x1), (0, 0), (0, 0), (0, 0), (0, 0)] [] (n, upS (upS (upS s 123 x1.toNat x7) 121 x1.toNat (s 121 x1.toNat)) 122 x1.toNat x7) (fun r s1 => G 120 140 223 149 [(3, 120), (1, x1), (1, x2), (1, x3), (1, x4), (1, x5), (1, x6), (1, x7), w8] (r ++ []) s1 Q))) ∧ (x2 = 2 → (x2 ≠ 3 → G 120 140 191 0 [(3, 120), (1, x1), (0, 0), (0, 0), (0, 0), (0, 0)] [] (n, upS (upS (upS s 123 x1.toNat x7) 121 x1.toNat x7) 122 x1.toNat (s 122 x1.toNat)) (fun r s1 => G 120 140 223 149 [(3, 120), (1, x1), (1, x2), (1, x3), (1, x4), (1, x5), (1, x6), (1, x7), w8] (r ++ []) s1 Q)) ∧ (x2 = 3 → G 120 140 191 0 [(3, 120), (1, x1), (0, 0), (0, 0), (0, 0), (0, 0)] [] (n, upS (upS (upS s 123 x1.toNat x7) 121 x1.toNat x7) 122 x1.toNat x7) (fun r s1 => G 120 140 223 149 [(3, 120), (1, x1), (1, x2), (1, x3), (1, x4), (1, x5), (1, x6), (1, x7), w8] (r ++ []) s1 Q))))))) :
    G 120 140 223 51 [(3, 120), (1, x1), (1, x2), (1, x3), (1, x4), (1, x5), (1, x6), (1, x7), w8] [] (n, s) Q := by
  refine G_go rfl rfl ?_
  refine G_go rfl rfl ?_
  refine G_go rfl rfl ?_
  refine G_ge rfl rfl (fun c1 => ?_) (fun c1 => ?_)
  · have h := h.1 c1
    refine G_go rfl rfl ?_
    refine G_go rfl rfl ?_
    refine G_ne rfl rfl (fun c2 => ?_) (fun c2 => ?_)
    · have h := h.1 c2
      refine G_go rfl rfl ?_
      refine G_ge rfl rfl (fun c3 => ?_) (fun c3 => ?_)
      · have h := h.1 c3
        refine G_go rfl rfl ?_
        exact G_call rfl rfl h
      · have h := h.2 c3
        refine G_go rfl rfl ?_
        refine G_rf rfl rfl (by decide) (hR 120 3 123 rfl) ?_
        refine G_go rfl rfl ?_
        refine G_go rfl rfl ?_
        refine G_go rfl rfl ?_
        refine G_ge rfl rfl (fun _ => ?_) (fun hc => absurd (show x2 < 2 from hc) (by omega))
        refine G_go rfl rfl ?_
        refine G_rf rfl rfl (by decide) (hR 120 3 123 rfl) ?_
        refine G_go rfl rfl ?_
        obtain ⟨g4, h⟩ := h
        refine G_ir (n := 6) rfl rfl (by decide) (by decide) g4 ?_
        refine G_iw (n := 6) rfl rfl (by decide) (by decide) g4 ?_
        have hR := refs_up (a := 123) (k := x1.toNat) (x := s 123 x1.toNat) hR rfl
        refine G_go rfl rfl ?_
        refine G_rf rfl rfl (by decide) (hR 120 1 121 rfl) ?_
        refine G_go rfl rfl ?_
        refine G_go rfl rfl ?_
        refine G_go rfl rfl ?_
        refine G_ne rfl rfl (fun _ => ?_) (fun hc => absurd (show x2 = 2 from hc) (by omega))
        refine G_go rfl rfl ?_
        refine G_rf rfl rfl (by decide) (hR 120 1 121 rfl) ?_
        refine G_go rfl rfl ?_
        refine G_ir (n := 6) rfl rfl (by decide) (by decide) g4 ?_
        refine G_iw (n := 6) rfl rfl (by decide) (by decide) g4 ?_
        have hR := refs_up (a := 121) (k := x1.toNat) (x := s 121 x1.toNat) hR rfl
        refine G_go rfl rfl ?_
        refine G_rf rfl rfl (by decide) (hR 120 2 122 rfl) ?_
        refine G_go rfl rfl ?_
        refine G_go rfl rfl ?_
        refine G_go rfl rfl ?_
        refine G_ne rfl rfl (fun c5 => ?_) (fun c5 => ?_)
        · have h := h.1 c5
          refine G_go rfl rfl ?_
          refine G_rf rfl rfl (by decide) (hR 120 2 122 rfl) ?_
          refine G_go rfl rfl ?_
          refine G_ir (n := 6) rfl rfl (by decide) (by decide) g4 ?_
          refine G_iw (n := 6) rfl rfl (by decide) (by decide) g4 ?_
          have hR := refs_up (a := 122) (k := x1.toNat) (x := s 122 x1.toNat) hR rfl
          refine G_go rfl rfl ?_
          refine G_go rfl rfl ?_
          exact G_call rfl rfl h
        · have h := h.2 c5
          refine G_go rfl rfl ?_
          refine G_go rfl rfl ?_
          refine G_iw (n := 6) rfl rfl (by decide) (by decide) g4 ?_
          have hR := refs_up (a := 122) (k := x1.toNat) (x := x7) hR rfl
          refine G_go rfl rfl ?_
          refine G_go rfl rfl ?_
          exact G_call rfl rfl h
    · have h := h.2 c2
      refine G_go rfl rfl ?_
      refine G_go rfl rfl ?_
      refine G_ge rfl rfl (fun c6 => ?_) (fun c6 => ?_)
      · have h := h.1 c6
        refine G_go rfl rfl ?_
        exact G_call rfl rfl h
      · have h := h.2 c6
        refine G_go rfl rfl ?_
        refine G_rf rfl rfl (by decide) (hR 120 3 123 rfl) ?_
        refine G_go rfl rfl ?_
        refine G_go rfl rfl ?_
        refine G_go rfl rfl ?_
        refine G_ge rfl rfl (fun _ => ?_) (fun hc => absurd (show x2 < 2 from hc) (by omega))
        refine G_go rfl rfl ?_
        refine G_rf rfl rfl (by decide) (hR 120 3 123 rfl) ?_
        refine G_go rfl rfl ?_
        obtain ⟨g7, h⟩ := h
        refine G_ir (n := 6) rfl rfl (by decide) (by decide) g7 ?_
        refine G_iw (n := 6) rfl rfl (by decide) (by decide) g7 ?_
        have hR := refs_up (a := 123) (k := x1.toNat) (x := s 123 x1.toNat) hR rfl
        refine G_go rfl rfl ?_
        refine G_rf rfl rfl (by decide) (hR 120 1 121 rfl) ?_
        refine G_go rfl rfl ?_
        refine G_go rfl rfl ?_
        refine G_go rfl rfl ?_
        refine G_ne rfl rfl (fun hc => absurd (show x2 ≠ 2 from hc) (by omega)) (fun _ => ?_)
        refine G_go rfl rfl ?_
        refine G_go rfl rfl ?_
        refine G_iw (n := 6) rfl rfl (by decide) (by decide) g7 ?_
        have hR := refs_up (a := 121) (k := x1.toNat) (x := x7) hR rfl
        refine G_go rfl rfl ?_
        refine G_rf rfl rfl (by decide) (hR 120 2 122 rfl) ?_
        refine G_go rfl rfl ?_
        refine G_go rfl rfl ?_
        refine G_go rfl rfl ?_
        refine G_ne rfl rfl (fun c8 => ?_) (fun c8 => ?_)
        · have h := h.1 c8
          refine G_go rfl rfl ?_
          refine G_rf rfl rfl (by decide) (hR 120 2 122 rfl) ?_
          refine G_go rfl rfl ?_
          refine G_ir (n := 6) rfl rfl (by decide) (by decide) g7 ?_
          refine G_iw (n := 6) rfl rfl (by decide) (by decide) g7 ?_
          have hR := refs_up (a := 122) (k := x1.toNat) (x := s 122 x1.toNat) hR rfl
          refine G_go rfl rfl ?_
          refine G_go rfl rfl ?_
          exact G_call rfl rfl h
        · have h := h.2 c8
          refine G_go rfl rfl ?_
          refine G_go rfl rfl ?_
          refine G_iw (n := 6) rfl rfl (by decide) (by decide) g7 ?_
          have hR := refs_up (a := 122) (k := x1.toNat) (x := x7) hR rfl
          refine G_go rfl rfl ?_
          refine G_go rfl rfl ?_
          exact G_call rfl rfl h
  · have h := h.2 c1
    refine G_go rfl rfl ?_
    refine G_go rfl rfl ?_
    refine G_ge rfl rfl (fun c9 => ?_) (fun c9 => ?_)
    · have h := h.1 c9
      refine G_go rfl rfl ?_
      exact G_call rfl rfl h
    · have h := h.2 c9
      refine G_go rfl rfl ?_
      refine G_rf rfl rfl (by decide) (hR 120 3 123 rfl) ?_
      refine G_go rfl rfl ?_
      refine G_go rfl rfl ?_
      refine G_go rfl rfl ?_
      refine G_ge rfl rfl (fun hc => absurd (show 2 ≤ x2 from hc) (by omega)) (fun _ => ?_)
      refine G_go rfl rfl ?_
      refine G_go rfl rfl ?_
      obtain ⟨g10, h⟩ := h
      refine G_iw (n := 6) rfl rfl (by decide) (by decide) g10 ?_
      have hR := refs_up (a := 123) (k := x1.toNat) (x := x7) hR rfl
      refine G_go rfl rfl ?_
      refine G_rf rfl rfl (by decide) (hR 120 1 121 rfl) ?_
      refine G_go rfl rfl ?_
      refine G_go rfl rfl ?_
      refine G_go rfl rfl ?_
      refine G_ne rfl rfl (fun c11 => ?_) (fun c11 => ?_)
      · have h := h.1 c11
        refine G_go rfl rfl ?_
        refine G_rf rfl rfl (by decide) (hR 120 1 121 rfl) ?_
        refine G_go rfl rfl ?_
        refine G_ir (n := 6) rfl rfl (by decide) (by decide) g10 ?_
        refine G_iw (n := 6) rfl rfl (by decide) (by decide) g10 ?_
        have hR := refs_up (a := 121) (k := x1.toNat) (x := s 121 x1.toNat) hR rfl
        refine G_go rfl rfl ?_
        refine G_rf rfl rfl (by decide) (hR 120 2 122 rfl) ?_
        refine G_go rfl rfl ?_
        refine G_go rfl rfl ?_
        refine G_go rfl rfl ?_
        refine G_ne rfl rfl (fun c12 => ?_) (fun c12 => ?_)
        · have h := h.1 c12
          refine G_go rfl rfl ?_
          refine G_rf rfl rfl (by decide) (hR 120 2 122 rfl) ?_
          refine G_go rfl rfl ?_
          refine G_ir (n := 6) rfl rfl (by decide) (by decide) g10 ?_
          refine G_iw (n := 6) rfl rfl (by decide) (by decide) g10 ?_
          have hR := refs_up (a := 122) (k := x1.toNat) (x := s 122 x1.toNat) hR rfl
          refine G_go rfl rfl ?_
          refine G_go rfl rfl ?_
          exact G_call rfl rfl h
        · have h := h.2 c12
          refine G_go rfl rfl ?_
          refine G_go rfl rfl ?_
          refine G_iw (n := 6) rfl rfl (by decide) (by decide) g10 ?_
          have hR := refs_up (a := 122) (k := x1.toNat) (x := x7) hR rfl
          refine G_go rfl rfl ?_
          refine G_go rfl rfl ?_
          exact G_call rfl rfl h
      · have h := h.2 c11
        refine G_go rfl rfl ?_
        refine G_go rfl rfl ?_
        refine G_iw (n := 6) rfl rfl (by decide) (by decide) g10 ?_
        have hR := refs_up (a := 121) (k := x1.toNat) (x := x7) hR rfl
        refine G_go rfl rfl ?_
        refine G_rf rfl rfl (by decide) (hR 120 2 122 rfl) ?_
        refine G_go rfl rfl ?_
        refine G_go rfl rfl ?_
        refine G_go rfl rfl ?_
        refine G_ne rfl rfl (fun c13 => ?_) (fun c13 => ?_)
        · have h := h.1 c13
          refine G_go rfl rfl ?_
          refine G_rf rfl rfl (by decide) (hR 120 2 122 rfl) ?_
          refine G_go rfl rfl ?_
          refine G_ir (n := 6) rfl rfl (by decide) (by decide) g10 ?_
          refine G_iw (n := 6) rfl rfl (by decide) (by decide) g10 ?_
          have hR := refs_up (a := 122) (k := x1.toNat) (x := s 122 x1.toNat) hR rfl
          refine G_go rfl rfl ?_
          refine G_go rfl rfl ?_
          exact G_call rfl rfl h
        · have h := h.2 c13
          refine G_go rfl rfl ?_
          refine G_go rfl rfl ?_
          refine G_iw (n := 6) rfl rfl (by decide) (by decide) g10 ?_
          have hR := refs_up (a := 122) (k := x1.toNat) (x := x7) hR rfl
          refine G_go rfl rfl ?_
          refine G_go rfl rfl ?_
          exact G_call rfl rfl h
theorem sb_X7_whatHeHolds_149 (n : Nat) (s : Nat → Nat → Int) (Q : List Vl → Sto → Prop) (x1 : Int) (x2 : Int) (x3 : Int) (x4 : Int) (x5 : Int) (x6 : Int) (x7 : Int) (y0 : Int) (w8 : Vl) (hR : refs s)
    (h : (y0 = 0 → G 120 140 223 51 [(3, 120), (1, x1), (1, x2), (1, x3), (1, xor_ x4 0), (1, wr (x5 + 0)), (1, x6), (1, wr (x7 + 1)), (1, y0)] [] (n, s) Q) ∧ (y0 ≠ 0 → (x2 ≤ 1 → (0 ≤ x6 → G 120 140 223 51 [(3, 120), (1, x1), (1, x2), (1, x3), (1, xor_ x4 0), (1, wr (x5 + 1)), (1, x6), (1, wr (x7 + 1)), (1, y0)] [] (n, s) Q) ∧ (x6 < 0 → G 120 140 223 51 [(3, 120), (1, x1), (1, x2), (1, x3), (1, xor_ x4 0), (1, wr (x5 + 1)), (1, x7), (1, wr (x7 + 1)), (1, y0)] [] (n, s) Q)) ∧ (1 < x2 → (0 ≤ x6 → G 120 140 223 51 [(3, 120), (1, x1), (1, x2), (1, x3), (1, xor_ x4 (xshl 1 x7)), (1, wr (x5 + 1)), (1, x6), (1, wr (x7 + 1)), (1, y0)] [] (n, s) Q) ∧ (x6 < 0 → G 120 140 223 51 [(3, 120), (1, x1), (1, x2), (1, x3), (1, xor_ x4 (xshl 1 x7)), (1, wr (x5 + 1)), (1, x7), (1, wr (x7 + 1)), (1, y0)] [] (n, s) Q)))) :
    G 120 140 223 149 [(3, 120), (1, x1), (1, x2), (1, x3), (1, x4), (1, x5), (1, x6), (1, x7), w8] [(1, y0)] (n, s) Q := by
  refine G_go rfl rfl ?_
  show G 120 140 223 151 [(3, 120), (1, x1), (1, x2), (1, x3), (1, x4), (1, x5), (1, x6), (1, x7), (1, y0)] [] (n, s) Q
  refine G_go rfl rfl ?_
  refine G_go rfl rfl ?_
  refine G_eq rfl rfl (fun c1 => ?_) (fun c1 => ?_)
  · have h := h.1 c1
    refine G_go rfl rfl ?_
    refine G_go rfl rfl ?_
    refine G_go rfl rfl ?_
    show G 120 140 223 174 [(3, 120), (1, x1), (1, x2), (1, x3), (1, xor_ x4 0), (1, x5), (1, x6), (1, x7), (1, y0)] [] (n, s) Q
    refine G_go rfl rfl ?_
    refine G_go rfl rfl ?_
    refine G_eq rfl rfl (fun _ => ?_) (fun hc => absurd (show y0 ≠ 0 from hc) (by omega))
    refine G_go rfl rfl ?_
    refine G_go rfl rfl ?_
    refine G_go rfl rfl ?_
    show G 120 140 223 189 [(3, 120), (1, x1), (1, x2), (1, x3), (1, xor_ x4 0), (1, wr (x5 + 0)), (1, x6), (1, x7), (1, y0)] [] (n, s) Q
    refine G_go rfl rfl ?_
    refine G_eq rfl rfl (fun _ => ?_) (fun hc => absurd (show y0 ≠ 0 from hc) (by omega))
    refine G_go rfl rfl ?_
    refine G_go rfl rfl ?_
    show G 120 140 223 208 [(3, 120), (1, x1), (1, x2), (1, x3), (1, xor_ x4 0), (1, wr (x5 + 0)), (1, x6), (1, x7), (1, y0)] [] (n, s) Q
    refine G_go rfl rfl ?_
    refine G_go rfl rfl ?_
    exact h
  · have h := h.2 c1
    refine G_go rfl rfl ?_
    refine G_go rfl rfl ?_
    refine G_le rfl rfl (fun c2 => ?_) (fun c2 => ?_)
    · have h := h.1 c2
      refine G_go rfl rfl ?_
      refine G_go rfl rfl ?_
      refine G_go rfl rfl ?_
      show G 120 140 223 174 [(3, 120), (1, x1), (1, x2), (1, x3), (1, xor_ x4 0), (1, x5), (1, x6), (1, x7), (1, y0)] [] (n, s) Q
      refine G_go rfl rfl ?_
      refine G_go rfl rfl ?_
      refine G_eq rfl rfl (fun hc => absurd (show y0 = 0 from hc) (by omega)) (fun _ => ?_)
      refine G_go rfl rfl ?_
      refine G_go rfl rfl ?_
      refine G_go rfl rfl ?_
      refine G_go rfl rfl ?_
      show G 120 140 223 189 [(3, 120), (1, x1), (1, x2), (1, x3), (1, xor_ x4 0), (1, wr (x5 + 1)), (1, x6), (1, x7), (1, y0)] [] (n, s) Q
      refine G_go rfl rfl ?_
      refine G_eq rfl rfl (fun hc => absurd (show y0 = 0 from hc) (by omega)) (fun _ => ?_)
      refine G_go rfl rfl ?_
      refine G_ge rfl rfl (fun c3 => ?_) (fun c3 => ?_)
      · have h := h.1 c3
        refine G_go rfl rfl ?_
        refine G_go rfl rfl ?_
        show G 120 140 223 208 [(3, 120), (1, x1), (1, x2), (1, x3), (1, xor_ x4 0), (1, wr (x5 + 1)), (1, x6), (1, x7), (1, y0)] [] (n, s) Q
        refine G_go rfl rfl ?_
        refine G_go rfl rfl ?_
        exact h
      · have h := h.2 c3
        refine G_go rfl rfl ?_
        refine G_go rfl rfl ?_
        refine G_go rfl rfl ?_
        show G 120 140 223 208 [(3, 120), (1, x1), (1, x2), (1, x3), (1, xor_ x4 0), (1, wr (x5 + 1)), (1, x7), (1, x7), (1, y0)] [] (n, s) Q
        refine G_go rfl rfl ?_
        refine G_go rfl rfl ?_
        exact h
    · have h := h.2 c2
      refine G_go rfl rfl ?_
      refine G_go rfl rfl ?_
      refine G_go rfl rfl ?_
      refine G_go rfl rfl ?_
      refine G_go rfl rfl ?_
      refine G_go rfl rfl ?_
      show G 120 140 223 174 [(3, 120), (1, x1), (1, x2), (1, x3), (1, xor_ x4 (xshl 1 x7)), (1, x5), (1, x6), (1, x7), (1, y0)] [] (n, s) Q
      refine G_go rfl rfl ?_
      refine G_go rfl rfl ?_
      refine G_eq rfl rfl (fun hc => absurd (show y0 = 0 from hc) (by omega)) (fun _ => ?_)
      refine G_go rfl rfl ?_
      refine G_go rfl rfl ?_
      refine G_go rfl rfl ?_
      refine G_go rfl rfl ?_
      show G 120 140 223 189 [(3, 120), (1, x1), (1, x2), (1, x3), (1, xor_ x4 (xshl 1 x7)), (1, wr (x5 + 1)), (1, x6), (1, x7), (1, y0)] [] (n, s) Q
      refine G_go rfl rfl ?_
      refine G_eq rfl rfl (fun hc => absurd (show y0 = 0 from hc) (by omega)) (fun _ => ?_)
      refine G_go rfl rfl ?_
      refine G_ge rfl rfl (fun c4 => ?_) (fun c4 => ?_)
      · have h := h.1 c4
        refine G_go rfl rfl ?_
        refine G_go rfl rfl ?_
        show G 120 140 223 208 [(3, 120), (1, x1), (1, x2), (1, x3), (1, xor_ x4 (xshl 1 x7)), (1, wr (x5 + 1)), (1, x6), (1, x7), (1, y0)] [] (n, s) Q
        refine G_go rfl rfl ?_
        refine G_go rfl rfl ?_
        exact h
      · have h := h.2 c4
        refine G_go rfl rfl ?_
        refine G_go rfl rfl ?_
        refine G_go rfl rfl ?_
        show G 120 140 223 208 [(3, 120), (1, x1), (1, x2), (1, x3), (1, xor_ x4 (xshl 1 x7)), (1, wr (x5 + 1)), (1, x7), (1, x7), (1, y0)] [] (n, s) Q
        refine G_go rfl rfl ?_
        refine G_go rfl rfl ?_
        exact h
theorem sb_X7_whatHeHolds_218 (n : Nat) (s : Nat → Nat → Int) (Q : List Vl → Sto → Prop) (x1 : Int) (x2 : Int) (x3 : Int) (x4 : Int) (x5 : Int) (x6 : Int) (x7 : Int) (w8 : Vl) (hR : refs s)
    (h : (x2 ≠ 0 → (x2 ≠ 1 → Q [(1, x4)] (n, s)) ∧ (x2 = 1 → Q [(1, x6)] (n, s))) ∧ (x2 = 0 → Q [(1, x5)] (n, s))) :
    G 120 140 223 218 [(3, 120), (1, x1), (1, x2), (1, x3), (1, x4), (1, x5), (1, x6), (1, x7), w8] [] (n, s) Q := by
  refine G_go rfl rfl ?_
  refine G_ne rfl rfl (fun c1 => ?_) (fun c1 => ?_)
  · have h := h.1 c1
    refine G_go rfl rfl ?_
    refine G_go rfl rfl ?_
    refine G_ne rfl rfl (fun c2 => ?_) (fun c2 => ?_)
    · have h := h.1 c2
      refine G_go rfl rfl ?_
      exact G_ret rfl rfl h
    · have h := h.2 c2
      refine G_go rfl rfl ?_
      refine G_go rfl rfl ?_
      exact G_ret rfl rfl h
  · have h := h.2 c1
    refine G_go rfl rfl ?_
    refine G_go rfl rfl ?_
    exact G_ret rfl rfl h
/-! WHAT HE HOLDS. -/
def wfB (t : Nat → Nat → Int) (p : Nat) (w k : Int) : Int := if w < 2 then bnV (vw 121 t) p k else if w = 2 then bns k (wlt k (t 122 p) (t 123 p) (t 124 p)) else bns (t 121 p) (wlt (t 121 p) k (t 123 p) (t 124 p))
def wfV (t : Nat → Nat → Int) (p : Nat) (w k : Int) : Int := rwV (t 139) (t 125 p) (wfB t p w k) (t 120 31).toNat
def whS (t : Nat → Nat → Int) (p : Nat) (w : Int) (k : Nat) (b : Int × Int × Int) : Int × Int × Int := if wfV t p w k = 0 then (xor_ b.1 0, wr (b.2.1 + 0), b.2.2) else (if w ≤ 1 then xor_ b.1 0 else xor_ b.1 (xshl 1 k), wr (b.2.1 + 1), if 0 ≤ b.2.2 then b.2.2 else (k : Int))
def whN (w : Int) : Nat := if w < 2 then 100 else if w = 2 then 6 else 10
def whI (_ : Nat) (b : Int × Int × Int) : Prop := inI 0 b.1 ∧ inI 0 b.2.1
theorem whS_in {t : Nat → Nat → Int} {p : Nat} {w : Int} (k : Nat) (b : Int × Int × Int) : whI (k + 1) (whS t p w k b) := by
  unfold whS
  split
  · exact ⟨xor_in _ _, wr_in _⟩
  · refine ⟨?_, wr_in _⟩
    dsimp only
    split
    · exact xor_in _ _
    · exact xor_in _ _
theorem whS_0 {t : Nat → Nat → Int} {p : Nat} {w : Int} {k : Nat} {b : Int × Int × Int} (h : whI k b) (c : wfV t p w k = 0) : whS t p w k b = b := by
  unfold whS
  rw [if_pos c, xor_0 h.1, wr_0 h.2]
theorem whS_1 {t : Nat → Nat → Int} {p : Nat} {w : Int} {k : Nat} {b : Int × Int × Int} (c : wfV t p w k ≠ 0) : whS t p w k b = (if w ≤ 1 then xor_ b.1 0 else xor_ b.1 (xshl 1 k), wr (b.2.1 + 1), if 0 ≤ b.2.2 then b.2.2 else (k : Int)) := if_neg c
def whR (t : Nat → Nat → Int) (p : Nat) (w : Int) (N : Nat) : Int × Int × Int := itr (whS t p w) (0, 0, -9) N
def whV (t : Nat → Nat → Int) (p : Nat) (w : Int) : Int := if w = 0 then (whR t p w (whN w)).2.1 else if w = 1 then (whR t p w (whN w)).2.2 else (whR t p w (whN w)).1
theorem wh_stay {t : Nat → Nat → Int} {p : Nat} {w b : Int} {k : Nat} (hb : 0 ≤ b) (e : (whR t p w k).2.2 = b) : ∀ d, (whR t p w (k + d)).2.2 = b
  | 0 => e
  | d + 1 => by
    show (whS t p w (k + d) (whR t p w (k + d))).2.2 = b
    have i := wh_stay hb e d
    unfold whS
    split
    · exact i
    · dsimp only
      rw [i, if_pos hb]
theorem wI0 : whI 0 (0, 0, -9) := by
  unfold whI inI
  exact ⟨⟨by decide, by decide⟩, ⟨by decide, by decide⟩⟩
theorem c_howMany (n : Nat) (s t : Nat → Nat → Int) (h : REL s t) (Q : List Vl → Sto → Prop) (p : Nat) (hp : (p : Int) < t 120 0) (hq : Q [(1, (whR t p 0 100).2.1)] (n, s)) : G 2 120 95 0 [(3, 2), (1, (p : Int)), (0, 0), (0, 0)] [] (n, s) Q := by
  refine sb_X6_howManyHoldsFit_0 n s Q p h.1 ?_
  refine G_up 100 (fun k b => G 2 120 95 4 [(3, 2), (1, (p : Int)), (1, b.2.1), (1, (k : Int))] [] (n, s) Q) (whS t p 0) whI (0, 0, -9) wI0 (fun k b _ _ => whS_in k b) (fun k b hk hb hg => ?_) (fun _ => ?_)
  · rw [← wr_s hk (by omega)] at hg
    refine sb_X6_howManyHoldsFit_4 n s Q _ _ k h.1 ⟨fun e => by omega, fun _ => ?_⟩
    refine c_holdsFit n s t h _ p hp k (by omega) ?_
    have e : hfV t p k = wfV t p 0 k := rfl
    rw [e]
    refine sb_X6_howManyHoldsFit_16 n s Q _ _ k _ h.1 ⟨fun c => ?_, fun c => ?_⟩
    · rw [whS_0 hb c] at hg
      exact hg
    · rw [whS_1 c] at hg
      exact hg
  · exact sb_X6_howManyHoldsFit_4 n s Q _ _ _ h.1 ⟨fun _ => hq, fun e => by omega⟩
theorem c_leastFit (n : Nat) (s t : Nat → Nat → Int) (h : REL s t) (Q : List Vl → Sto → Prop) (p : Nat) (hp : (p : Int) < t 120 0) (hq : Q [(1, (whR t p 1 100).2.2)] (n, s)) : G 2 120 102 0 [(3, 2), (1, (p : Int)), (0, 0)] [] (n, s) Q := by
  refine sb_X6_leastHoldsFit_0 n s Q p h.1 ?_
  have loop : ∀ d k : Nat, k + d = 100 → (whR t p 1 k).2.2 = -9 → G 2 120 102 2 [(3, 2), (1, (p : Int)), (1, (k : Int))] [] (n, s) Q := by
    intro d
    induction d with
    | zero =>
      intro k hk e
      have hk : k = 100 := by omega
      subst hk
      rw [e] at hq
      exact sb_X6_leastHoldsFit_2 n s Q _ _ h.1 ⟨fun _ => hq, fun e => by omega⟩
    | succ d ih =>
      intro k hk e
      have ih := ih (k + 1) (by omega)
      rw [← wr_s (show k < 100 by omega) (by omega)] at ih
      have es : (whR t p 1 (k + 1)).2.2 = (whS t p 1 k (whR t p 1 k)).2.2 := rfl
      refine sb_X6_leastHoldsFit_2 n s Q _ k h.1 ⟨fun e => by omega, fun _ => ?_⟩
      refine c_holdsFit n s t h _ p hp k (by omega) ?_
      have eh : hfV t p k = wfV t p 1 k := rfl
      rw [eh]
      refine sb_X6_leastHoldsFit_14 n s Q _ k _ h.1 ⟨fun c => ?_, fun c => ?_⟩
      · unfold whS at es
        rw [if_pos c] at es
        exact ih (es.trans e)
      · rw [whS_1 c] at es
        dsimp only at es
        rw [e, if_neg (by decide)] at es
        have st := wh_stay (by omega) es d
        rw [show k + 1 + d = 100 by omega] at st
        rw [st] at hq
        exact hq
  exact loop 100 0 rfl rfl
theorem c_kindsFit (n : Nat) (s t : Nat → Nat → Int) (h : REL s t) (Q : List Vl → Sto → Prop) (p : Nat) (hp : (p : Int) < t 120 0) (hq : Q [(1, (whR t p 2 6).1)] (n, s)) : G 2 120 100 0 [(3, 2), (1, (p : Int)), (0, 0), (0, 0), (0, 0)] [] (n, s) Q := by
  obtain ⟨hn1, hn2, hn3, hn4⟩ := h.np
  obtain ⟨s0, s1, s2, s3, s4, s5, s6, s7⟩ := h.s p hp
  obtain ⟨t0, t1, t2, t3, t4, t5, t6, t7⟩ := h.t p hp
  refine sb_X6_kindsFit_0 n s Q p h.1 ?_
  refine G_up 6 (fun k b => ∀ w, G 2 120 100 4 [(3, 2), (1, (p : Int)), (1, b.1), (1, (k : Int)), w] [] (n, s) Q) (whS t p 2) whI (0, 0, -9) wI0 (fun k b _ _ => whS_in k b) (fun k b hk hb hg w => ?_) (fun _ w => ?_) (0, 0)
  · rw [← wr_s hk (by omega)] at hg
    have gw := wlt_rg (k := (k : Int)) (f := t 122 p) (h := t 123 p) (d := t 124 p) (by omega) (by omega) (by omega)
    have gb := bns_rg (k := (k : Int)) gw
    refine sb_X6_kindsFit_4 n s Q _ _ k w h.1 ?_
    rw [Int.toNat_natCast, s1, s2, s3, s4]
    refine ⟨fun e => by omega, fun _ => ⟨by omega, by omega, by omega, by omega, gw, ?_⟩⟩
    refine c_X4_fits n s t h _ _ _ t4 (by omega) ?_
    have e : rwV (t 139) (t 125 p) (bns k (wlt k (t 122 p) (t 123 p) (t 124 p))) (t 120 31).toNat = wfV t p 2 k := rfl
    rw [e]
    refine sb_X6_kindsFit_64 n s Q _ _ k _ _ h.1 ⟨fun c => ?_, fun c => ?_⟩
    · rw [whS_0 hb c] at hg
      exact hg _
    · rw [whS_1 c, if_neg (by decide)] at hg
      exact hg _
  · exact sb_X6_kindsFit_4 n s Q _ _ _ _ h.1 ⟨fun _ => hq, fun e => by omega⟩
theorem c_figuresFit (n : Nat) (s t : Nat → Nat → Int) (h : REL s t) (Q : List Vl → Sto → Prop) (p : Nat) (hp : (p : Int) < t 120 0) (hq : Q [(1, (whR t p 3 10).1)] (n, s)) : G 2 120 82 0 [(3, 2), (1, (p : Int)), (0, 0), (0, 0), (0, 0), (0, 0)] [] (n, s) Q := by
  obtain ⟨hn1, hn2, hn3, hn4⟩ := h.np
  obtain ⟨s0, s1, s2, s3, s4, s5, s6, s7⟩ := h.s p hp
  obtain ⟨t0, t1, t2, t3, t4, t5, t6, t7⟩ := h.t p hp
  refine sb_X6_figuresFit_0 n s Q p h.1 ⟨by omega, ?_⟩
  rw [Int.toNat_natCast, s0]
  refine G_up 10 (fun k b => ∀ w, G 2 120 82 15 [(3, 2), (1, (p : Int)), (1, b.1), (1, t 121 p), (1, (k : Int)), w] [] (n, s) Q) (whS t p 3) whI (0, 0, -9) wI0 (fun k b _ _ => whS_in k b) (fun k b hk hb hg w => ?_) (fun _ w => ?_) (0, 0)
  · rw [← wr_s hk (by omega)] at hg
    have gw := wlt_rg (k := t 121 p) (f := (k : Int)) (h := t 123 p) (d := t 124 p) (by omega) (by omega) (by omega)
    have gb := bns_rg (k := t 121 p) gw
    refine sb_X6_figuresFit_15 n s Q _ _ _ k w h.1 ?_
    rw [Int.toNat_natCast, s2, s3, s4]
    refine ⟨fun e => by omega, fun _ => ⟨by omega, by omega, by omega, by omega, gw, ?_⟩⟩
    refine c_X4_fits n s t h _ _ _ t4 (by omega) ?_
    have e : rwV (t 139) (t 125 p) (bns (t 121 p) (wlt (t 121 p) k (t 123 p) (t 124 p))) (t 120 31).toNat = wfV t p 3 k := rfl
    rw [e]
    refine sb_X6_figuresFit_70 n s Q _ _ _ k _ _ h.1 ⟨fun c => ?_, fun c => ?_⟩
    · rw [whS_0 hb c] at hg
      exact hg _
    · rw [whS_1 c, if_neg (by decide)] at hg
      exact hg _
  · exact sb_X6_figuresFit_15 n s Q _ _ _ _ _ h.1 ⟨fun _ => hq, fun e => by omega⟩
def whJ (w : Int) : Nat := if w < 2 then 2 else if w = 2 then 0 else 1
theorem rl_what (n : Nat) (s t : Nat → Nat → Int) (h : REL s t) (p : Nat) (hp : (p : Int) < t 120 0) (w x3 : Int) (hw : 0 ≤ w ∧ w ≤ 3) (Q : List Vl → Sto → Prop) (hQ : ∀ t1, refs t1 → frX 135 t t1 → twR t1 (t 120 0) (t 120 9) (vw 121 t) → Q [(1, whV t p w)] (n, t1)) : G 120 140 143 0 [(3, 120)] [] (n, t) (fun r s1 => G 120 140 223 48 [(3, 120), (1, (p : Int)), (1, w), (1, x3), (1, 0), (1, 0), (1, (-9)), (0, 0), (0, 0)] (r ++ []) s1 Q) := by
  obtain ⟨hn1, hn2, hn3, hn4⟩ := h.np
  obtain ⟨r1, r2, r3⟩ := h.r
  obtain ⟨t0, t1, t2, t3, t4, t5, t6, t7⟩ := h.t p hp
  refine c_think n t _ _ _ _ h.2.1 hn3.2 h.w (fun t1' q1 f1 u1 k1 => ?_)
  refine sb_X7_whatHeHolds_48 n t1' Q _ _ _ _ _ _ q1 ?_
  have fin : ∀ (b : Int × Int × Int) (x7 : Int) (w8 : Vl) t2, b = whR t p w (whN w) → refs t2 → frX 135 t t2 → twK 135 0 t2 (t 120 0) (t 120 9) (vw 121 t) → G 120 140 140 0 [(3, 120)] [] (n, t2) (fun r s1 => G 120 140 223 218 [(3, 120), (1, (p : Int)), (1, w), (1, x3), (1, b.1), (1, b.2.1), (1, b.2.2), (1, x7), w8] (r ++ []) s1 Q) := fun b x7 w8 t2 eb q2 f2 k2 => c_again n t2 _ _ _ _ q2 hn3.2 k2 (fun t3 q3 f3 u3 => by
    have q := hQ t3 q3 (frX_trans f2 (frX_w f3)) u3
    unfold whV at q
    rw [← eb] at q
    refine sb_X7_whatHeHolds_218 n t3 Q _ _ _ _ _ _ _ _ q3 ⟨fun c => ⟨fun d => ?_, fun d => ?_⟩, fun c => ?_⟩
    · rw [if_neg c, if_neg d] at q
      exact q
    · rw [if_neg c, if_pos d] at q
      exact q
    · rw [if_pos c] at q
      exact q)
  refine G_up (whN w) (fun k b => ∀ w8 t2, refs t2 → (frX 135 t t2 ∧ twK 135 0 t2 (t 120 0) (t 120 9) (vw 121 t) ∧ ∃ x, twR t2 (t 120 0) (t 120 9) (upS (vw 121 t) (whJ w) p x)) → G 120 140 223 51 [(3, 120), (1, (p : Int)), (1, w), (1, x3), (1, b.1), (1, b.2.1), (1, b.2.2), (1, (k : Int)), w8] [] (n, t2) Q) (whS t p w) whI (0, 0, -9) wI0 (fun k b _ _ => whS_in k b) (fun k b hk hb hg w8 t2 q2 hI => ?_) (fun _ w8 t2 q2 hI => ?_) (0, 0) t1' q1 ⟨f1, k1, vw 121 t (whJ w) p, by rw [upS_self]; exact u1⟩
  · obtain ⟨f2, k2, x, u2⟩ := hI
    have hN : whN w ≤ 100 := by
      unfold whN
      repeat' split
      all_goals omega
    rw [← wr_s hk (by omega)] at hg
    have row : ∀ (j : Nat) (T : Nat → Nat → Int), T = upS t2 (121 + j) p k → j = whJ w → (j = 0 ∨ j = 1 ∨ j = 2) → refs T → (0 ≤ upS (vw 121 t) j p k 1 p ∧ upS (vw 121 t) j p k 1 p ≤ 9) → (0 ≤ upS (vw 121 t) j p k 2 p ∧ upS (vw 121 t) j p k 2 p ≤ 2000) → bnW (upS (vw 121 t) j p k) p = wfB t p w k → G 120 140 191 0 [(3, 120), (1, (p : Int)), (0, 0), (0, 0), (0, 0), (0, 0)] [] (n, T) (fun r s1 => G 120 140 223 149 [(3, 120), (1, (p : Int)), (1, w), (1, x3), (1, b.1), (1, b.2.1), (1, b.2.2), (1, (k : Int)), w8] (r ++ []) s1 Q) := by
      intro j T eT ej hj qT gf gh eb
      rw [← ej] at u2
      have uT : twR T (t 120 0) (t 120 9) (upS (vw 121 t) j p k) := by
        rw [eT, ← upS_again (t := vw 121 t) (a := j) (p := p) (x := x)]
        exact twR_set u2
      have fT : frX 135 t T := by
        rw [eT]
        exact frX_trans f2 (frX_up (by omega) (by omega))
      have kT : twK 135 0 T (t 120 0) (t 120 9) (vw 121 t) := twK_fr k2 (by rw [eT]; exact upS_row (by omega))
      have e0 := uT.2.2 0 (by decide) p hp
      have e1 : T 122 p = _ := uT.2.2 1 (by decide) p hp
      have e2 : T 123 p = _ := uT.2.2 2 (by decide) p hp
      have e3 : T 124 p = t 124 p := (uT.2.2 3 (by decide) p hp).trans (upS_1 (by omega))
      have e4 : T 125 p = t 125 p := (uT.2.2 4 (by decide) p hp).trans (upS_1 (by omega))
      have e31 : T 120 31 = t 120 31 := fT.2 31 (by decide) (by decide) (by decide) (by decide) (by decide)
      have e139 : T 139 = t 139 := fT.1 139 (by decide) (by decide) (by decide)
      refine c_X7_isRow n T _ p (by omega) qT ⟨?_, ?_⟩ (by rw [e2]; exact gh) (by rw [e4]; exact t4) (by rw [e31, ← r1]; exact r2) ?_
      · show 0 ≤ T 122 p ∧ T 122 p ≤ 9
        rw [e1]
        exact gf
      · show 0 ≤ T 124 p ∧ T 124 p ≤ 200
        rw [e3]
        omega
      · have ebT : bnW (vw 121 T) p = wfB t p w k := by
          rw [← eb]
          show bnV (vw 121 T) p (T 123 p) = bnV (upS (vw 121 t) j p k) p (upS (vw 121 t) j p k 2 p)
          rw [e2]
          exact congrFun (bnV_eq (C := vw 121 T) e0 e1 (uT.2.2 3 (by decide) p hp)) _
        rw [ebT, e4, e31, e139]
        have ev : rwV (t 139) (t 125 p) (wfB t p w k) (t 120 31).toNat = wfV t p w k := rfl
        rw [ev]
        refine sb_X7_whatHeHolds_149 n T Q _ _ _ _ _ _ k _ w8 qT ⟨fun c => ?_, fun c => ⟨fun d => ⟨fun e => ?_, fun e => ?_⟩, fun d => ⟨fun e => ?_, fun e => ?_⟩⟩⟩
        · unfold whS at hg
          rw [if_pos c] at hg
          exact hg _ T qT ⟨fT, kT, k, by rw [← ej]; exact uT⟩
        · rw [whS_1 c, if_pos d, if_pos e] at hg
          exact hg _ T qT ⟨fT, kT, k, by rw [← ej]; exact uT⟩
        · rw [whS_1 c, if_pos d, if_neg (by omega)] at hg
          exact hg _ T qT ⟨fT, kT, k, by rw [← ej]; exact uT⟩
        · rw [whS_1 c, if_neg (by omega), if_pos e] at hg
          exact hg _ T qT ⟨fT, kT, k, by rw [← ej]; exact uT⟩
        · rw [whS_1 c, if_neg (by omega), if_neg (by omega)] at hg
          exact hg _ T qT ⟨fT, kT, k, by rw [← ej]; exact uT⟩
    have v1 : vw 121 t 1 p = t 122 p := rfl
    have v2 : vw 121 t 2 p = t 123 p := rfl
    refine sb_X7_whatHeHolds_51 n t2 Q _ _ _ _ _ _ k w8 q2 ?_
    rw [Int.toNat_natCast]
    unfold whN at hk
    refine ⟨fun c => ⟨fun d => ⟨fun e => ?_, fun e => ⟨by omega, fun f => by omega, fun f => ?_⟩⟩, fun d => ⟨fun e => ?_, fun e => ⟨by omega, fun f => ?_, fun f => by omega⟩⟩⟩, fun c => ⟨fun e => ?_, fun e => ⟨by omega, fun d => ⟨fun f => ?_, fun f => by omega⟩, fun d => by omega⟩⟩⟩
    · rw [if_neg (by omega), if_neg d] at hk
      omega
    · rw [upS_id (f := t2) rfl, upS_id (f := t2) rfl]
      refine row 1 _ rfl (by unfold whJ; rw [if_neg (by omega), if_neg d]) (by omega) (refs_up q2 rfl) ?_ ?_ ?_
      · rw [upS_eq]
        omega
      · rw [upS_1 (by decide), v2]
        omega
      · unfold wfB bnW bnV
        rw [if_neg (by omega), if_neg d, upS_1 (by decide), upS_eq, upS_1 (by decide), upS_1 (by decide)]
        rfl
    · rw [if_neg (by omega), if_pos d] at hk
      omega
    · rw [upS_id (f := t2) rfl, upS_id (f := upS t2 121 p k) (a := 122) (k := p) (x := t2 122 p) rfl]
      refine row 0 _ rfl (by unfold whJ; rw [if_neg (by omega), if_pos d]) (by omega) (refs_up q2 rfl) ?_ ?_ ?_
      · rw [upS_1 (by decide), v1]
        omega
      · rw [upS_1 (by decide), v2]
        omega
      · unfold wfB bnW bnV
        rw [if_neg (by omega), if_pos d, upS_eq, upS_1 (by decide), upS_1 (by decide), upS_1 (by decide)]
        rfl
    · rw [if_pos c] at hk
      omega
    · rw [upS_id (f := upS t2 123 p k) (a := 121) (k := p) (x := t2 121 p) rfl, upS_id (f := upS t2 123 p k) (a := 122) (k := p) (x := t2 122 p) rfl]
      refine row 2 _ rfl (by unfold whJ; rw [if_pos c]) (by omega) (refs_up q2 rfl) ?_ ?_ ?_
      · rw [upS_1 (by decide), v1]
        omega
      · rw [upS_eq]
        omega
      · unfold wfB bnW bnV
        rw [if_pos c, upS_1 (by decide), upS_1 (by decide), upS_eq, upS_1 (by decide)]
  · obtain ⟨f2, k2, _⟩ := hI
    have hN2 : (2 ≤ w → w ≠ 2 → whN w = 10) ∧ (w = 2 → whN w = 6) ∧ (w < 2 → whN w = 100) := by
      unfold whN
      refine ⟨fun c d => by rw [if_neg (by omega), if_neg d], fun c => by rw [if_neg (by omega), if_pos c], fun c => by rw [if_pos c]⟩
    have e0 : whR t p w (whN w) = itr (whS t p w) (0, 0, -9) (whN w) := rfl
    rw [← e0]
    refine sb_X7_whatHeHolds_51 n t2 Q _ _ _ _ _ _ _ w8 q2 ⟨fun c => ⟨fun d => ⟨fun e => fin _ _ w8 t2 rfl q2 f2 k2, fun e => ?_⟩, fun d => ⟨fun e => fin _ _ w8 t2 rfl q2 f2 k2, fun e => ?_⟩⟩, fun c => ⟨fun e => fin _ _ w8 t2 rfl q2 f2 k2, fun e => ?_⟩⟩
    · have := hN2.1 c d
      omega
    · have := hN2.2.1 d
      omega
    · have := hN2.2.2 c
      omega
theorem op_whatHeHolds (n : Nat) (s t : Nat → Nat → Int) (h : REL s t) (a0 a1 : Int) : G 2 120 132 0 [(3, 2), (1, a0), (1, a1), (0, 0)] [] (n, s) (fun r s1 => G 120 140 223 0 [(3, 120), (1, a0), (1, a1), (0, 0), (0, 0), (0, 0), (0, 0), (0, 0), (0, 0)] [] (n, t) (Post n r s1)) := by
  obtain ⟨hn1, hn2, hn3, hn4⟩ := h.np
  have hw : wr (t 120 0 - 1) = t 120 0 - 1 := wr_id (by omega) (by omega)
  by_cases hv : 0 ≤ a0 ∧ a0 < t 120 0
  · obtain ⟨p, rfl⟩ : ∃ p : Nat, a0 = (p : Int) := ⟨a0.toNat, by omega⟩
    have hp := hv.2
    have good : 0 ≤ a1 → a1 ≤ 3 → G 120 140 223 0 [(3, 120), (1, (p : Int)), (1, a1), (0, 0), (0, 0), (0, 0), (0, 0), (0, 0), (0, 0)] [] (n, t) (Post n [(1, whV (upS t 120 10 0) p a1)] (n, s)) := fun g1 g2 => sb_X7_whatHeHolds_0 n t _ _ _ h.2.1 ⟨fun e => by omega, fun _ => ⟨fun e => by omega, fun _ => ⟨fun e => by omega, fun _ => ⟨fun e => by omega, fun _ => rl_what n s _ h.up p hp a1 _ ⟨g1, g2⟩ _ (fun t1 q1 f1 u1 => post_mind h.up h.1 frT_rfl q1 f1 u1)⟩⟩⟩⟩
    have bad : a1 < 0 ∨ 3 < a1 → G 120 140 223 0 [(3, 120), (1, (p : Int)), (1, a1), (0, 0), (0, 0), (0, 0), (0, 0), (0, 0), (0, 0)] [] (n, t) (Post n [(1, (-2))] (n, upS s 119 2 (wr (s 119 2 + 1)))) := fun g => sb_X7_whatHeHolds_0 n t _ _ _ h.2.1 ⟨fun e => by omega, fun _ => ⟨fun e => by omega, fun _ => ⟨fun e => post_ref h 2 (by decide), fun _ => ⟨fun e => post_ref h 2 (by decide), fun _ => by omega⟩⟩⟩⟩
    refine sb_X6_whatHeHolds_0 n s _ p a1 h.1 ⟨fun e => by omega, fun _ => ⟨fun e => by omega, fun _ => ⟨fun e => bad (Or.inl e), fun c1 => ⟨fun c2 => ⟨fun c => ?_, fun c => ?_, fun c => ?_, fun c => ?_⟩, fun e => bad (Or.inr e)⟩⟩⟩⟩
    · refine c_howMany n s _ h.up _ p hp (sb_X6_whatHeHolds_57 n s _ _ _ _ _ h.1 ?_)
      have g := good c1 c2
      rw [show whV (upS t 120 10 0) p a1 = (whR (upS t 120 10 0) p 0 100).2.1 by rw [c]; rfl] at g
      exact g
    · refine c_leastFit n s _ h.up _ p hp (sb_X6_whatHeHolds_63 n s _ _ _ _ _ h.1 ?_)
      have g := good c1 c2
      rw [show whV (upS t 120 10 0) p a1 = (whR (upS t 120 10 0) p 1 100).2.2 by rw [c]; rfl] at g
      exact g
    · refine c_kindsFit n s _ h.up _ p hp (sb_X6_whatHeHolds_69 n s _ _ _ _ _ h.1 ?_)
      have g := good c1 c2
      rw [show whV (upS t 120 10 0) p a1 = (whR (upS t 120 10 0) p 2 6).1 by rw [c]; rfl] at g
      exact g
    · refine c_figuresFit n s _ h.up _ p hp (sb_X6_whatHeHolds_75 n s _ _ _ _ _ h.1 ?_)
      have g := good c1 c2
      rw [show whV (upS t 120 10 0) p a1 = (whR (upS t 120 10 0) p 3 10).1 by rw [show a1 = 3 by omega]; rfl] at g
      exact g
  · have rf : ∀ {Q : List Vl → Sto → Prop}, Q [(1, (-1))] (n, upS (upS t 120 10 0) 129 1 (wr (t 129 1 + 1))) → G 120 140 223 0 [(3, 120), (1, a0), (1, a1), (0, 0), (0, 0), (0, 0), (0, 0), (0, 0), (0, 0)] [] (n, t) Q := fun {Q} q => sb_X7_whatHeHolds_0 n t _ _ _ h.2.1 ⟨fun _ => q, fun e => ⟨fun _ => q, fun f => by omega⟩⟩
    refine sb_X6_whatHeHolds_0 n s _ a0 a1 h.1 ?_
    repeat' first | with_reducible refine And.intro ?_ ?_ | intro _
    all_goals first | exact rf (post_ref h 1 (by decide)) | omega

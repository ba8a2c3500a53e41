theorem sb_X6_hide_0 (n : Nat) (s : Nat → Nat → Int) (Q : List Vl → Sto → Prop) (a0 : Int) (hR : refs s)
    (h : (a0 < 0 → Q [(1, (-1))] (n, upS s 119 1 (wr ((s 119 1) + 1)))) ∧ (0 ≤ a0 → (s 3 9 ≤ a0 → Q [(1, (-1))] (n, upS s 119 1 (wr ((s 119 1) + 1)))) ∧ (a0 < s 3 9 → (0 ≤ a0 ∧ a0 < 6) ∧ ((0 ≤ s 5 a0.toNat ∧ s 5 a0.toNat ≤ 9) ∧ ((0 ≤ s 6 a0.toNat ∧ s 6 a0.toNat ≤ 2000) ∧ ((0 ≤ s 7 a0.toNat ∧ s 7 a0.toNat ≤ 200) ∧ (G 2 120 90 75 [(3, 2), (1, a0), (1, 0), (1, s 4 a0.toNat), (1, s 5 a0.toNat), (1, s 6 a0.toNat), (1, s 7 a0.toNat), (1, 0), (1, wlt (s 4 a0.toNat) (s 5 a0.toNat) (s 6 a0.toNat) (s 7 a0.toNat)), (1, 1), (0, 0)] [] (n, s) Q))))))) :
    G 2 120 90 0 [(3, 2), (1, a0), (0, 0), (0, 0), (0, 0), (0, 0), (0, 0), (0, 0), (0, 0), (0, 0), (0, 0)] [] (n, s) Q := by
  refine G_go rfl rfl ?_
  refine G_go rfl rfl ?_
  refine G_call rfl rfl ?_
  refine G_go rfl rfl ?_
  refine G_rf rfl rfl (by decide) (hR 2 0 3 rfl) ?_
  refine G_go rfl rfl ?_
  refine G_call rfl rfl ?_
  refine G_go rfl rfl ?_
  refine G_lt rfl rfl (fun c1 => ?_) (fun c1 => ?_)
  · have h := h.1 c1
    refine G_go rfl rfl ?_
    refine G_ret rfl rfl ?_
    refine G_brT rfl rfl rfl ?_
    refine G_go rfl rfl ?_
    refine G_ret rfl rfl ?_
    refine G_go rfl rfl ?_
    show G 2 120 90 6 [(3, 2), (1, a0), (1, (-1)), (0, 0), (0, 0), (0, 0), (0, 0), (0, 0), (0, 0), (0, 0), (0, 0)] [] (n, s) Q
    refine G_go rfl rfl ?_
    refine G_brF rfl rfl rfl ?_
    refine G_go rfl rfl ?_
    refine G_go rfl rfl ?_
    refine G_call rfl rfl ?_
    refine G_go rfl rfl ?_
    refine G_go rfl rfl ?_
    refine G_go rfl rfl ?_
    refine G_go rfl rfl ?_
    refine G_brF rfl rfl rfl ?_
    refine G_go rfl rfl ?_
    refine G_go rfl rfl ?_
    refine G_rf rfl rfl (by decide) (hR 2 7 119 rfl) ?_
    refine G_go rfl rfl ?_
    refine G_brF rfl rfl rfl ?_
    refine G_go rfl rfl ?_
    refine G_rf rfl rfl (by decide) (hR 2 7 119 rfl) ?_
    refine G_go rfl rfl ?_
    refine G_go rfl rfl ?_
    refine G_ir (n := 7) rfl rfl (by decide) (by decide) (by decide) ?_
    refine G_go rfl rfl ?_
    refine G_go rfl rfl ?_
    refine G_iw (n := 7) rfl rfl (by decide) (by decide) (by decide) ?_
    have hR := refs_up (a := 119) (k := 1) (x := wr ((s 119 1) + 1)) hR rfl
    refine G_go rfl rfl ?_
    refine G_ret rfl rfl ?_
    exact G_ret rfl rfl h
  · have h := h.2 c1
    refine G_go rfl rfl ?_
    refine G_go rfl rfl ?_
    refine G_rd rfl rfl (by decide) ?_
    refine G_ge rfl rfl (fun c2 => ?_) (fun c2 => ?_)
    · have h := h.1 c2
      refine G_go rfl rfl ?_
      refine G_ret rfl rfl ?_
      refine G_brT rfl rfl rfl ?_
      refine G_go rfl rfl ?_
      refine G_ret rfl rfl ?_
      refine G_go rfl rfl ?_
      show G 2 120 90 6 [(3, 2), (1, a0), (1, (-1)), (0, 0), (0, 0), (0, 0), (0, 0), (0, 0), (0, 0), (0, 0), (0, 0)] [] (n, s) Q
      refine G_go rfl rfl ?_
      refine G_brF rfl rfl rfl ?_
      refine G_go rfl rfl ?_
      refine G_go rfl rfl ?_
      refine G_call rfl rfl ?_
      refine G_go rfl rfl ?_
      refine G_go rfl rfl ?_
      refine G_go rfl rfl ?_
      refine G_go rfl rfl ?_
      refine G_brF rfl rfl rfl ?_
      refine G_go rfl rfl ?_
      refine G_go rfl rfl ?_
      refine G_rf rfl rfl (by decide) (hR 2 7 119 rfl) ?_
      refine G_go rfl rfl ?_
      refine G_brF rfl rfl rfl ?_
      refine G_go rfl rfl ?_
      refine G_rf rfl rfl (by decide) (hR 2 7 119 rfl) ?_
      refine G_go rfl rfl ?_
      refine G_go rfl rfl ?_
      refine G_ir (n := 7) rfl rfl (by decide) (by decide) (by decide) ?_
      refine G_go rfl rfl ?_
      refine G_go rfl rfl ?_
      refine G_iw (n := 7) rfl rfl (by decide) (by decide) (by decide) ?_
      have hR := refs_up (a := 119) (k := 1) (x := wr ((s 119 1) + 1)) hR rfl
      refine G_go rfl rfl ?_
      refine G_ret rfl rfl ?_
      exact G_ret rfl rfl h
    · have h := h.2 c2
      refine G_go rfl rfl ?_
      refine G_go rfl rfl ?_
      refine G_ret rfl rfl ?_
      refine G_brF rfl rfl rfl ?_
      refine G_go rfl rfl ?_
      refine G_go rfl rfl ?_
      refine G_ret rfl rfl ?_
      refine G_go rfl rfl ?_
      show G 2 120 90 6 [(3, 2), (1, a0), (1, 0), (0, 0), (0, 0), (0, 0), (0, 0), (0, 0), (0, 0), (0, 0), (0, 0)] [] (n, s) Q
      refine G_go rfl rfl ?_
      refine G_brT rfl rfl rfl ?_
      refine G_go rfl rfl ?_
      refine G_rf rfl rfl (by decide) (hR 2 0 3 rfl) ?_
      refine G_rf rfl rfl (by decide) (hR 3 0 4 rfl) ?_
      refine G_go rfl rfl ?_
      obtain ⟨g3, h⟩ := h
      refine G_ir (n := 6) rfl rfl (by decide) (by decide) g3 ?_
      refine G_go rfl rfl ?_
      show G 2 120 90 26 [(3, 2), (1, a0), (1, 0), (1, s 4 a0.toNat), (0, 0), (0, 0), (0, 0), (0, 0), (0, 0), (0, 0), (0, 0)] [] (n, s) Q
      refine G_go rfl rfl ?_
      refine G_rf rfl rfl (by decide) (hR 2 0 3 rfl) ?_
      refine G_rf rfl rfl (by decide) (hR 3 1 5 rfl) ?_
      refine G_go rfl rfl ?_
      refine G_ir (n := 6) rfl rfl (by decide) (by decide) g3 ?_
      refine G_go rfl rfl ?_
      show G 2 120 90 37 [(3, 2), (1, a0), (1, 0), (1, s 4 a0.toNat), (1, s 5 a0.toNat), (0, 0), (0, 0), (0, 0), (0, 0), (0, 0), (0, 0)] [] (n, s) Q
      refine G_go rfl rfl ?_
      refine G_rf rfl rfl (by decide) (hR 2 0 3 rfl) ?_
      refine G_rf rfl rfl (by decide) (hR 3 2 6 rfl) ?_
      refine G_go rfl rfl ?_
      refine G_ir (n := 6) rfl rfl (by decide) (by decide) g3 ?_
      refine G_go rfl rfl ?_
      show G 2 120 90 48 [(3, 2), (1, a0), (1, 0), (1, s 4 a0.toNat), (1, s 5 a0.toNat), (1, s 6 a0.toNat), (0, 0), (0, 0), (0, 0), (0, 0), (0, 0)] [] (n, s) Q
      refine G_go rfl rfl ?_
      refine G_rf rfl rfl (by decide) (hR 2 0 3 rfl) ?_
      refine G_rf rfl rfl (by decide) (hR 3 3 7 rfl) ?_
      refine G_go rfl rfl ?_
      refine G_ir (n := 6) rfl rfl (by decide) (by decide) g3 ?_
      refine G_go rfl rfl ?_
      show G 2 120 90 59 [(3, 2), (1, a0), (1, 0), (1, s 4 a0.toNat), (1, s 5 a0.toNat), (1, s 6 a0.toNat), (1, s 7 a0.toNat), (0, 0), (0, 0), (0, 0), (0, 0)] [] (n, s) Q
      refine G_go rfl rfl ?_
      refine G_go rfl rfl ?_
      show G 2 120 90 62 [(3, 2), (1, a0), (1, 0), (1, s 4 a0.toNat), (1, s 5 a0.toNat), (1, s 6 a0.toNat), (1, s 7 a0.toNat), (1, 0), (0, 0), (0, 0), (0, 0)] [] (n, s) Q
      refine G_go rfl rfl ?_
      refine G_rf rfl rfl (by decide) (hR 2 0 3 rfl) ?_
      refine G_go rfl rfl ?_
      refine G_call rfl rfl ?_
      refine G_go rfl rfl ?_
      refine G_rf rfl rfl (by decide) (hR 3 0 4 rfl) ?_
      refine G_go rfl rfl ?_
      refine G_ir (n := 6) rfl rfl (by decide) (by decide) g3 ?_
      refine G_go rfl rfl ?_
      refine G_rf rfl rfl (by decide) (hR 3 1 5 rfl) ?_
      refine G_go rfl rfl ?_
      refine G_ir (n := 6) rfl rfl (by decide) (by decide) g3 ?_
      refine G_go rfl rfl ?_
      refine G_rf rfl rfl (by decide) (hR 3 2 6 rfl) ?_
      refine G_go rfl rfl ?_
      refine G_ir (n := 6) rfl rfl (by decide) (by decide) g3 ?_
      refine G_go rfl rfl ?_
      refine G_rf rfl rfl (by decide) (hR 3 3 7 rfl) ?_
      refine G_go rfl rfl ?_
      refine G_ir (n := 6) rfl rfl (by decide) (by decide) g3 ?_
      refine G_call rfl rfl ?_
      obtain ⟨g4, h⟩ := h
      obtain ⟨g5, h⟩ := h
      obtain ⟨g6, h⟩ := h
      refine c_X1_wealth n _ _ (s 4 a0.toNat) (s 5 a0.toNat) (s 6 a0.toNat) (s 7 a0.toNat) hR g4 g5 g6 ?_
      refine G_ret rfl rfl ?_
      refine G_go rfl rfl ?_
      show G 2 120 90 72 [(3, 2), (1, a0), (1, 0), (1, s 4 a0.toNat), (1, s 5 a0.toNat), (1, s 6 a0.toNat), (1, s 7 a0.toNat), (1, 0), (1, wlt (s 4 a0.toNat) (s 5 a0.toNat) (s 6 a0.toNat) (s 7 a0.toNat)), (0, 0), (0, 0)] [] (n, s) Q
      refine G_go rfl rfl ?_
      refine G_go rfl rfl ?_
      show G 2 120 90 75 [(3, 2), (1, a0), (1, 0), (1, s 4 a0.toNat), (1, s 5 a0.toNat), (1, s 6 a0.toNat), (1, s 7 a0.toNat), (1, 0), (1, wlt (s 4 a0.toNat) (s 5 a0.toNat) (s 6 a0.toNat) (s 7 a0.toNat)), (1, 1), (0, 0)] [] (n, s) Q
      exact h
theorem sb_X6_hide_6 (n : Nat) (s : Nat → Nat → Int) (Q : List Vl → Sto → Prop) (x1 : Int) (x2 : Int) (hR : refs s)
    (h : (x2 = 0 → (0 ≤ x1 ∧ x1 < 6) ∧ ((0 ≤ s 5 x1.toNat ∧ s 5 x1.toNat ≤ 9) ∧ ((0 ≤ s 6 x1.toNat ∧ s 6 x1.toNat ≤ 2000) ∧ ((0 ≤ s 7 x1.toNat ∧ s 7 x1.toNat ≤ 200) ∧ (G 2 120 90 75 [(3, 2), (1, x1), (1, x2), (1, s 4 x1.toNat), (1, s 5 x1.toNat), (1, s 6 x1.toNat), (1, s 7 x1.toNat), (1, 0), (1, wlt (s 4 x1.toNat) (s 5 x1.toNat) (s 6 x1.toNat) (s 7 x1.toNat)), (1, 1), (0, 0)] [] (n, s) Q))))) ∧ (x2 ≠ 0 → (wr (-x2) ≤ 0 → Q [(1, x2)] (n, s)) ∧ (0 < wr (-x2) → (7 ≤ wr (-x2) → Q [(1, x2)] (n, s)) ∧ (wr (-x2) < 7 → (0 ≤ wr (-x2) ∧ wr (-x2) < 7) ∧ (Q [(1, x2)] (n, upS s 119 ((wr (-x2)).toNat) (wr ((s 119 ((wr (-x2)).toNat)) + 1)))))))) :
    G 2 120 90 6 [(3, 2), (1, x1), (1, x2), (0, 0), (0, 0), (0, 0), (0, 0), (0, 0), (0, 0), (0, 0), (0, 0)] [] (n, s) Q := by
  refine G_go rfl rfl ?_
  refine G_eq rfl rfl (fun c1 => ?_) (fun c1 => ?_)
  · have h := h.1 c1
    refine G_go rfl rfl ?_
    refine G_rf rfl rfl (by decide) (hR 2 0 3 rfl) ?_
    refine G_rf rfl rfl (by decide) (hR 3 0 4 rfl) ?_
    refine G_go rfl rfl ?_
    obtain ⟨g2, h⟩ := h
    refine G_ir (n := 6) rfl rfl (by decide) (by decide) g2 ?_
    refine G_go rfl rfl ?_
    show G 2 120 90 26 [(3, 2), (1, x1), (1, x2), (1, s 4 x1.toNat), (0, 0), (0, 0), (0, 0), (0, 0), (0, 0), (0, 0), (0, 0)] [] (n, s) Q
    refine G_go rfl rfl ?_
    refine G_rf rfl rfl (by decide) (hR 2 0 3 rfl) ?_
    refine G_rf rfl rfl (by decide) (hR 3 1 5 rfl) ?_
    refine G_go rfl rfl ?_
    refine G_ir (n := 6) rfl rfl (by decide) (by decide) g2 ?_
    refine G_go rfl rfl ?_
    show G 2 120 90 37 [(3, 2), (1, x1), (1, x2), (1, s 4 x1.toNat), (1, s 5 x1.toNat), (0, 0), (0, 0), (0, 0), (0, 0), (0, 0), (0, 0)] [] (n, s) Q
    refine G_go rfl rfl ?_
    refine G_rf rfl rfl (by decide) (hR 2 0 3 rfl) ?_
    refine G_rf rfl rfl (by decide) (hR 3 2 6 rfl) ?_
    refine G_go rfl rfl ?_
    refine G_ir (n := 6) rfl rfl (by decide) (by decide) g2 ?_
    refine G_go rfl rfl ?_
    show G 2 120 90 48 [(3, 2), (1, x1), (1, x2), (1, s 4 x1.toNat), (1, s 5 x1.toNat), (1, s 6 x1.toNat), (0, 0), (0, 0), (0, 0), (0, 0), (0, 0)] [] (n, s) Q
    refine G_go rfl rfl ?_
    refine G_rf rfl rfl (by decide) (hR 2 0 3 rfl) ?_
    refine G_rf rfl rfl (by decide) (hR 3 3 7 rfl) ?_
    refine G_go rfl rfl ?_
    refine G_ir (n := 6) rfl rfl (by decide) (by decide) g2 ?_
    refine G_go rfl rfl ?_
    show G 2 120 90 59 [(3, 2), (1, x1), (1, x2), (1, s 4 x1.toNat), (1, s 5 x1.toNat), (1, s 6 x1.toNat), (1, s 7 x1.toNat), (0, 0), (0, 0), (0, 0), (0, 0)] [] (n, s) Q
    refine G_go rfl rfl ?_
    refine G_go rfl rfl ?_
    show G 2 120 90 62 [(3, 2), (1, x1), (1, x2), (1, s 4 x1.toNat), (1, s 5 x1.toNat), (1, s 6 x1.toNat), (1, s 7 x1.toNat), (1, 0), (0, 0), (0, 0), (0, 0)] [] (n, s) Q
    refine G_go rfl rfl ?_
    refine G_rf rfl rfl (by decide) (hR 2 0 3 rfl) ?_
    refine G_go rfl rfl ?_
    refine G_call rfl rfl ?_
    refine G_go rfl rfl ?_
    refine G_rf rfl rfl (by decide) (hR 3 0 4 rfl) ?_
    refine G_go rfl rfl ?_
    refine G_ir (n := 6) rfl rfl (by decide) (by decide) g2 ?_
    refine G_go rfl rfl ?_
    refine G_rf rfl rfl (by decide) (hR 3 1 5 rfl) ?_
    refine G_go rfl rfl ?_
    refine G_ir (n := 6) rfl rfl (by decide) (by decide) g2 ?_
    refine G_go rfl rfl ?_
    refine G_rf rfl rfl (by decide) (hR 3 2 6 rfl) ?_
    refine G_go rfl rfl ?_
    refine G_ir (n := 6) rfl rfl (by decide) (by decide) g2 ?_
    refine G_go rfl rfl ?_
    refine G_rf rfl rfl (by decide) (hR 3 3 7 rfl) ?_
    refine G_go rfl rfl ?_
    refine G_ir (n := 6) rfl rfl (by decide) (by decide) g2 ?_
    refine G_call rfl rfl ?_
    obtain ⟨g3, h⟩ := h
    obtain ⟨g4, h⟩ := h
    obtain ⟨g5, h⟩ := h
    refine c_X1_wealth n _ _ (s 4 x1.toNat) (s 5 x1.toNat) (s 6 x1.toNat) (s 7 x1.toNat) hR g3 g4 g5 ?_
    refine G_ret rfl rfl ?_
    refine G_go rfl rfl ?_
    show G 2 120 90 72 [(3, 2), (1, x1), (1, x2), (1, s 4 x1.toNat), (1, s 5 x1.toNat), (1, s 6 x1.toNat), (1, s 7 x1.toNat), (1, 0), (1, wlt (s 4 x1.toNat) (s 5 x1.toNat) (s 6 x1.toNat) (s 7 x1.toNat)), (0, 0), (0, 0)] [] (n, s) Q
    refine G_go rfl rfl ?_
    refine G_go rfl rfl ?_
    show G 2 120 90 75 [(3, 2), (1, x1), (1, x2), (1, s 4 x1.toNat), (1, s 5 x1.toNat), (1, s 6 x1.toNat), (1, s 7 x1.toNat), (1, 0), (1, wlt (s 4 x1.toNat) (s 5 x1.toNat) (s 6 x1.toNat) (s 7 x1.toNat)), (1, 1), (0, 0)] [] (n, s) Q
    exact h
  · have h := h.2 c1
    refine G_go rfl rfl ?_
    refine G_go rfl rfl ?_
    refine G_call rfl rfl ?_
    refine G_go rfl rfl ?_
    refine G_go rfl rfl ?_
    refine G_go rfl rfl ?_
    refine G_go rfl rfl ?_
    refine G_le rfl rfl (fun c6 => ?_) (fun c6 => ?_)
    · have h := h.1 c6
      refine G_go rfl rfl ?_
      refine G_ret rfl rfl ?_
      exact G_ret rfl rfl h
    · have h := h.2 c6
      refine G_go rfl rfl ?_
      refine G_go rfl rfl ?_
      refine G_rf rfl rfl (by decide) (hR 2 7 119 rfl) ?_
      refine G_go rfl rfl ?_
      refine G_ge rfl rfl (fun c7 => ?_) (fun c7 => ?_)
      · have h := h.1 c7
        refine G_go rfl rfl ?_
        refine G_ret rfl rfl ?_
        exact G_ret rfl rfl h
      · have h := h.2 c7
        refine G_go rfl rfl ?_
        refine G_rf rfl rfl (by decide) (hR 2 7 119 rfl) ?_
        refine G_go rfl rfl ?_
        refine G_go rfl rfl ?_
        obtain ⟨g8, h⟩ := h
        refine G_ir (n := 7) rfl rfl (by decide) (by decide) g8 ?_
        refine G_go rfl rfl ?_
        refine G_go rfl rfl ?_
        refine G_iw (n := 7) rfl rfl (by decide) (by decide) g8 ?_
        have hR := refs_up (a := 119) (k := (wr (-x2)).toNat) (x := wr ((s 119 ((wr (-x2)).toNat)) + 1)) hR rfl
        refine G_go rfl rfl ?_
        refine G_ret rfl rfl ?_
        exact G_ret rfl rfl h
theorem sb_X6_hide_26 (n : Nat) (s : Nat → Nat → Int) (Q : List Vl → Sto → Prop) (x1 : Int) (x2 : Int) (x3 : Int) (hR : refs s)
    (h : (0 ≤ x1 ∧ x1 < 6) ∧ ((0 ≤ s 5 x1.toNat ∧ s 5 x1.toNat ≤ 9) ∧ ((0 ≤ s 6 x1.toNat ∧ s 6 x1.toNat ≤ 2000) ∧ ((0 ≤ s 7 x1.toNat ∧ s 7 x1.toNat ≤ 200) ∧ (G 2 120 90 75 [(3, 2), (1, x1), (1, x2), (1, x3), (1, s 5 x1.toNat), (1, s 6 x1.toNat), (1, s 7 x1.toNat), (1, 0), (1, wlt (s 4 x1.toNat) (s 5 x1.toNat) (s 6 x1.toNat) (s 7 x1.toNat)), (1, 1), (0, 0)] [] (n, s) Q))))) :
    G 2 120 90 26 [(3, 2), (1, x1), (1, x2), (1, x3), (0, 0), (0, 0), (0, 0), (0, 0), (0, 0), (0, 0), (0, 0)] [] (n, s) Q := by
  refine G_go rfl rfl ?_
  refine G_rf rfl rfl (by decide) (hR 2 0 3 rfl) ?_
  refine G_rf rfl rfl (by decide) (hR 3 1 5 rfl) ?_
  refine G_go rfl rfl ?_
  obtain ⟨g1, h⟩ := h
  refine G_ir (n := 6) rfl rfl (by decide) (by decide) g1 ?_
  refine G_go rfl rfl ?_
  show G 2 120 90 37 [(3, 2), (1, x1), (1, x2), (1, x3), (1, s 5 x1.toNat), (0, 0), (0, 0), (0, 0), (0, 0), (0, 0), (0, 0)] [] (n, s) Q
  refine G_go rfl rfl ?_
  refine G_rf rfl rfl (by decide) (hR 2 0 3 rfl) ?_
  refine G_rf rfl rfl (by decide) (hR 3 2 6 rfl) ?_
  refine G_go rfl rfl ?_
  refine G_ir (n := 6) rfl rfl (by decide) (by decide) g1 ?_
  refine G_go rfl rfl ?_
  show G 2 120 90 48 [(3, 2), (1, x1), (1, x2), (1, x3), (1, s 5 x1.toNat), (1, s 6 x1.toNat), (0, 0), (0, 0), (0, 0), (0, 0), (0, 0)] [] (n, s) Q
  refine G_go rfl rfl ?_
  refine G_rf rfl rfl (by decide) (hR 2 0 3 rfl) ?_
  refine G_rf rfl rfl (by decide) (hR 3 3 7 rfl) ?_
  refine G_go rfl rfl ?_
  refine G_ir (n := 6) rfl rfl (by decide) (by decide) g1 ?_
  refine G_go rfl rfl ?_
  show G 2 120 90 59 [(3, 2), (1, x1), (1, x2), (1, x3), (1, s 5 x1.toNat), (1, s 6 x1.toNat), (1, s 7 x1.toNat), (0, 0), (0, 0), (0, 0), (0, 0)] [] (n, s) Q
  refine G_go rfl rfl ?_
  refine G_go rfl rfl ?_
  show G 2 120 90 62 [(3, 2), (1, x1), (1, x2), (1, x3), (1, s 5 x1.toNat), (1, s 6 x1.toNat), (1, s 7 x1.toNat), (1, 0), (0, 0), (0, 0), (0, 0)] [] (n, s) Q
  refine G_go rfl rfl ?_
  refine G_rf rfl rfl (by decide) (hR 2 0 3 rfl) ?_
  refine G_go rfl rfl ?_
  refine G_call rfl rfl ?_
  refine G_go rfl rfl ?_
  refine G_rf rfl rfl (by decide) (hR 3 0 4 rfl) ?_
  refine G_go rfl rfl ?_
  refine G_ir (n := 6) rfl rfl (by decide) (by decide) g1 ?_
  refine G_go rfl rfl ?_
  refine G_rf rfl rfl (by decide) (hR 3 1 5 rfl) ?_
  refine G_go rfl rfl ?_
  refine G_ir (n := 6) rfl rfl (by decide) (by decide) g1 ?_
  refine G_go rfl rfl ?_
  refine G_rf rfl rfl (by decide) (hR 3 2 6 rfl) ?_
  refine G_go rfl rfl ?_
  refine G_ir (n := 6) rfl rfl (by decide) (by decide) g1 ?_
  refine G_go rfl rfl ?_
  refine G_rf rfl rfl (by decide) (hR 3 3 7 rfl) ?_
  refine G_go rfl rfl ?_
  refine G_ir (n := 6) rfl rfl (by decide) (by decide) g1 ?_
  refine G_call rfl rfl ?_
  obtain ⟨g2, h⟩ := h
  obtain ⟨g3, h⟩ := h
  obtain ⟨g4, h⟩ := h
  refine c_X1_wealth n _ _ (s 4 x1.toNat) (s 5 x1.toNat) (s 6 x1.toNat) (s 7 x1.toNat) hR g2 g3 g4 ?_
  refine G_ret rfl rfl ?_
  refine G_go rfl rfl ?_
  show G 2 120 90 72 [(3, 2), (1, x1), (1, x2), (1, x3), (1, s 5 x1.toNat), (1, s 6 x1.toNat), (1, s 7 x1.toNat), (1, 0), (1, wlt (s 4 x1.toNat) (s 5 x1.toNat) (s 6 x1.toNat) (s 7 x1.toNat)), (0, 0), (0, 0)] [] (n, s) Q
  refine G_go rfl rfl ?_
  refine G_go rfl rfl ?_
  show G 2 120 90 75 [(3, 2), (1, x1), (1, x2), (1, x3), (1, s 5 x1.toNat), (1, s 6 x1.toNat), (1, s 7 x1.toNat), (1, 0), (1, wlt (s 4 x1.toNat) (s 5 x1.toNat) (s 6 x1.toNat) (s 7 x1.toNat)), (1, 1), (0, 0)] [] (n, s) Q
  exact h
theorem sb_X6_hide_37 (n : Nat) (s : Nat → Nat → Int) (Q : List Vl → Sto → Prop) (x1 : Int) (x2 : Int) (x3 : Int) (x4 : Int) (hR : refs s)
    (h : (0 ≤ x1 ∧ x1 < 6) ∧ ((0 ≤ s 5 x1.toNat ∧ s 5 x1.toNat ≤ 9) ∧ ((0 ≤ s 6 x1.toNat ∧ s 6 x1.toNat ≤ 2000) ∧ ((0 ≤ s 7 x1.toNat ∧ s 7 x1.toNat ≤ 200) ∧ (G 2 120 90 75 [(3, 2), (1, x1), (1, x2), (1, x3), (1, x4), (1, s 6 x1.toNat), (1, s 7 x1.toNat), (1, 0), (1, wlt (s 4 x1.toNat) (s 5 x1.toNat) (s 6 x1.toNat) (s 7 x1.toNat)), (1, 1), (0, 0)] [] (n, s) Q))))) :
    G 2 120 90 37 [(3, 2), (1, x1), (1, x2), (1, x3), (1, x4), (0, 0), (0, 0), (0, 0), (0, 0), (0, 0), (0, 0)] [] (n, s) Q := by
  refine G_go rfl rfl ?_
  refine G_rf rfl rfl (by decide) (hR 2 0 3 rfl) ?_
  refine G_rf rfl rfl (by decide) (hR 3 2 6 rfl) ?_
  refine G_go rfl rfl ?_
  obtain ⟨g1, h⟩ := h
  refine G_ir (n := 6) rfl rfl (by decide) (by decide) g1 ?_
  refine G_go rfl rfl ?_
  show G 2 120 90 48 [(3, 2), (1, x1), (1, x2), (1, x3), (1, x4), (1, s 6 x1.toNat), (0, 0), (0, 0), (0, 0), (0, 0), (0, 0)] [] (n, s) Q
  refine G_go rfl rfl ?_
  refine G_rf rfl rfl (by decide) (hR 2 0 3 rfl) ?_
  refine G_rf rfl rfl (by decide) (hR 3 3 7 rfl) ?_
  refine G_go rfl rfl ?_
  refine G_ir (n := 6) rfl rfl (by decide) (by decide) g1 ?_
  refine G_go rfl rfl ?_
  show G 2 120 90 59 [(3, 2), (1, x1), (1, x2), (1, x3), (1, x4), (1, s 6 x1.toNat), (1, s 7 x1.toNat), (0, 0), (0, 0), (0, 0), (0, 0)] [] (n, s) Q
  refine G_go rfl rfl ?_
  refine G_go rfl rfl ?_
  show G 2 120 90 62 [(3, 2), (1, x1), (1, x2), (1, x3), (1, x4), (1, s 6 x1.toNat), (1, s 7 x1.toNat), (1, 0), (0, 0), (0, 0), (0, 0)] [] (n, s) Q
  refine G_go rfl rfl ?_
  refine G_rf rfl rfl (by decide) (hR 2 0 3 rfl) ?_
  refine G_go rfl rfl ?_
  refine G_call rfl rfl ?_
  refine G_go rfl rfl ?_
  refine G_rf rfl rfl (by decide) (hR 3 0 4 rfl) ?_
  refine G_go rfl rfl ?_
  refine G_ir (n := 6) rfl rfl (by decide) (by decide) g1 ?_
  refine G_go rfl rfl ?_
  refine G_rf rfl rfl (by decide) (hR 3 1 5 rfl) ?_
  refine G_go rfl rfl ?_
  refine G_ir (n := 6) rfl rfl (by decide) (by decide) g1 ?_
  refine G_go rfl rfl ?_
  refine G_rf rfl rfl (by decide) (hR 3 2 6 rfl) ?_
  refine G_go rfl rfl ?_
  refine G_ir (n := 6) rfl rfl (by decide) (by decide) g1 ?_
  refine G_go rfl rfl ?_
  refine G_rf rfl rfl (by decide) (hR 3 3 7 rfl) ?_
  refine G_go rfl rfl ?_
  refine G_ir (n := 6) rfl rfl (by decide) (by decide) g1 ?_
  refine G_call rfl rfl ?_
  obtain ⟨g2, h⟩ := h
  obtain ⟨g3, h⟩ := h
  obtain ⟨g4, h⟩ := h
  refine c_X1_wealth n _ _ (s 4 x1.toNat) (s 5 x1.toNat) (s 6 x1.toNat) (s 7 x1.toNat) hR g2 g3 g4 ?_
  refine G_ret rfl rfl ?_
  refine G_go rfl rfl ?_
  show G 2 120 90 72 [(3, 2), (1, x1), (1, x2), (1, x3), (1, x4), (1, s 6 x1.toNat), (1, s 7 x1.toNat), (1, 0), (1, wlt (s 4 x1.toNat) (s 5 x1.toNat) (s 6 x1.toNat) (s 7 x1.toNat)), (0, 0), (0, 0)] [] (n, s) Q
  refine G_go rfl rfl ?_
  refine G_go rfl rfl ?_
  show G 2 120 90 75 [(3, 2), (1, x1), (1, x2), (1, x3), (1, x4), (1, s 6 x1.toNat), (1, s 7 x1.toNat), (1, 0), (1, wlt (s 4 x1.toNat) (s 5 x1.toNat) (s 6 x1.toNat) (s 7 x1.toNat)), (1, 1), (0, 0)] [] (n, s) Q
  exact h
theorem sb_X6_hide_48 (n : Nat) (s : Nat → Nat → Int) (Q : List Vl → Sto → Prop) (x1 : Int) (x2 : Int) (x3 : Int) (x4 : Int) (x5 : Int) (hR : refs s)
    (h : (0 ≤ x1 ∧ x1 < 6) ∧ ((0 ≤ s 5 x1.toNat ∧ s 5 x1.toNat ≤ 9) ∧ ((0 ≤ s 6 x1.toNat ∧ s 6 x1.toNat ≤ 2000) ∧ ((0 ≤ s 7 x1.toNat ∧ s 7 x1.toNat ≤ 200) ∧ (G 2 120 90 75 [(3, 2), (1, x1), (1, x2), (1, x3), (1, x4), (1, x5), (1, s 7 x1.toNat), (1, 0), (1, wlt (s 4 x1.toNat) (s 5 x1.toNat) (s 6 x1.toNat) (s 7 x1.toNat)), (1, 1), (0, 0)] [] (n, s) Q))))) :
    G 2 120 90 48 [(3, 2), (1, x1), (1, x2), (1, x3), (1, x4), (1, x5), (0, 0), (0, 0), (0, 0), (0, 0), (0, 0)] [] (n, s) Q := by
  refine G_go rfl rfl ?_
  refine G_rf rfl rfl (by decide) (hR 2 0 3 rfl) ?_
  refine G_rf rfl rfl (by decide) (hR 3 3 7 rfl) ?_
  refine G_go rfl rfl ?_
  obtain ⟨g1, h⟩ := h
  refine G_ir (n := 6) rfl rfl (by decide) (by decide) g1 ?_
  refine G_go rfl rfl ?_
  show G 2 120 90 59 [(3, 2), (1, x1), (1, x2), (1, x3), (1, x4), (1, x5), (1, s 7 x1.toNat), (0, 0), (0, 0), (0, 0), (0, 0)] [] (n, s) Q
  refine G_go rfl rfl ?_
  refine G_go rfl rfl ?_
  show G 2 120 90 62 [(3, 2), (1, x1), (1, x2), (1, x3), (1, x4), (1, x5), (1, s 7 x1.toNat), (1, 0), (0, 0), (0, 0), (0, 0)] [] (n, s) Q
  refine G_go rfl rfl ?_
  refine G_rf rfl rfl (by decide) (hR 2 0 3 rfl) ?_
  refine G_go rfl rfl ?_
  refine G_call rfl rfl ?_
  refine G_go rfl rfl ?_
  refine G_rf rfl rfl (by decide) (hR 3 0 4 rfl) ?_
  refine G_go rfl rfl ?_
  refine G_ir (n := 6) rfl rfl (by decide) (by decide) g1 ?_
  refine G_go rfl rfl ?_
  refine G_rf rfl rfl (by decide) (hR 3 1 5 rfl) ?_
  refine G_go rfl rfl ?_
  refine G_ir (n := 6) rfl rfl (by decide) (by decide) g1 ?_
  refine G_go rfl rfl ?_
  refine G_rf rfl rfl (by decide) (hR 3 2 6 rfl) ?_
  refine G_go rfl rfl ?_
  refine G_ir (n := 6) rfl rfl (by decide) (by decide) g1 ?_
  refine G_go rfl rfl ?_
  refine G_rf rfl rfl (by decide) (hR 3 3 7 rfl) ?_
  refine G_go rfl rfl ?_
  refine G_ir (n := 6) rfl rfl (by decide) (by decide) g1 ?_
  refine G_call rfl rfl ?_
  obtain ⟨g2, h⟩ := h
  obtain ⟨g3, h⟩ := h
  obtain ⟨g4, h⟩ := h
  refine c_X1_wealth n _ _ (s 4 x1.toNat) (s 5 x1.toNat) (s 6 x1.toNat) (s 7 x1.toNat) hR g2 g3 g4 ?_
  refine G_ret rfl rfl ?_
  refine G_go rfl rfl ?_
  show G 2 120 90 72 [(3, 2), (1, x1), (1, x2), (1, x3), (1, x4), (1, x5), (1, s 7 x1.toNat), (1, 0), (1, wlt (s 4 x1.toNat) (s 5 x1.toNat) (s 6 x1.toNat) (s 7 x1.toNat)), (0, 0), (0, 0)] [] (n, s) Q
  refine G_go rfl rfl ?_
  refine G_go rfl rfl ?_
  show G 2 120 90 75 [(3, 2), (1, x1), (1, x2), (1, x3), (1, x4), (1, x5), (1, s 7 x1.toNat), (1, 0), (1, wlt (s 4 x1.toNat) (s 5 x1.toNat) (s 6 x1.toNat) (s 7 x1.toNat)), (1, 1), (0, 0)] [] (n, s) Q
  exact h
theorem sb_X6_hide_59 (n : Nat) (s : Nat → Nat → Int) (Q : List Vl → Sto → Prop) (x1 : Int) (x2 : Int) (x3 : Int) (x4 : Int) (x5 : Int) (x6 : Int) (hR : refs s)
    (h : (0 ≤ x1 ∧ x1 < 6) ∧ ((0 ≤ s 5 x1.toNat ∧ s 5 x1.toNat ≤ 9) ∧ ((0 ≤ s 6 x1.toNat ∧ s 6 x1.toNat ≤ 2000) ∧ ((0 ≤ s 7 x1.toNat ∧ s 7 x1.toNat ≤ 200) ∧ (G 2 120 90 75 [(3, 2), (1, x1), (1, x2), (1, x3), (1, x4), (1, x5), (1, x6), (1, 0), (1, wlt (s 4 x1.toNat) (s 5 x1.toNat) (s 6 x1.toNat) (s 7 x1.toNat)), (1, 1), (0, 0)] [] (n, s) Q))))) :
    G 2 120 90 59 [(3, 2), (1, x1), (1, x2), (1, x3), (1, x4), (1, x5), (1, x6), (0, 0), (0, 0), (0, 0), (0, 0)] [] (n, s) Q := by
  refine G_go rfl rfl ?_
  refine G_go rfl rfl ?_
  show G 2 120 90 62 [(3, 2), (1, x1), (1, x2), (1, x3), (1, x4), (1, x5), (1, x6), (1, 0), (0, 0), (0, 0), (0, 0)] [] (n, s) Q
  refine G_go rfl rfl ?_
  refine G_rf rfl rfl (by decide) (hR 2 0 3 rfl) ?_
  refine G_go rfl rfl ?_
  refine G_call rfl rfl ?_
  refine G_go rfl rfl ?_
  refine G_rf rfl rfl (by decide) (hR 3 0 4 rfl) ?_
  refine G_go rfl rfl ?_
  obtain ⟨g1, h⟩ := h
  refine G_ir (n := 6) rfl rfl (by decide) (by decide) g1 ?_
  refine G_go rfl rfl ?_
  refine G_rf rfl rfl (by decide) (hR 3 1 5 rfl) ?_
  refine G_go rfl rfl ?_
  refine G_ir (n := 6) rfl rfl (by decide) (by decide) g1 ?_
  refine G_go rfl rfl ?_
  refine G_rf rfl rfl (by decide) (hR 3 2 6 rfl) ?_
  refine G_go rfl rfl ?_
  refine G_ir (n := 6) rfl rfl (by decide) (by decide) g1 ?_
  refine G_go rfl rfl ?_
  refine G_rf rfl rfl (by decide) (hR 3 3 7 rfl) ?_
  refine G_go rfl rfl ?_
  refine G_ir (n := 6) rfl rfl (by decide) (by decide) g1 ?_
  refine G_call rfl rfl ?_
  obtain ⟨g2, h⟩ := h
  obtain ⟨g3, h⟩ := h
  obtain ⟨g4, h⟩ := h
  refine c_X1_wealth n _ _ (s 4 x1.toNat) (s 5 x1.toNat) (s 6 x1.toNat) (s 7 x1.toNat) hR g2 g3 g4 ?_
  refine G_ret rfl rfl ?_
  refine G_go rfl rfl ?_
  show G 2 120 90 72 [(3, 2), (1, x1), (1, x2), (1, x3), (1, x4), (1, x5), (1, x6), (1, 0), (1, wlt (s 4 x1.toNat) (s 5 x1.toNat) (s 6 x1.toNat) (s 7 x1.toNat)), (0, 0), (0, 0)] [] (n, s) Q
  refine G_go rfl rfl ?_
  refine G_go rfl rfl ?_
  show G 2 120 90 75 [(3, 2), (1, x1), (1, x2), (1, x3), (1, x4), (1, x5), (1, x6), (1, 0), (1, wlt (s 4 x1.toNat) (s 5 x1.toNat) (s 6 x1.toNat) (s 7 x1.toNat)), (1, 1), (0, 0)] [] (n, s) Q
  exact h
theorem sb_X6_hide_62 (n : Nat) (s : Nat → Nat → Int) (Q : List Vl → Sto → Prop) (x1 : Int) (x2 : Int) (x3 : Int) (x4 : Int) (x5 : Int) (x6 : Int) (x7 : Int) (hR : refs s)
    (h : (0 ≤ x1 ∧ x1 < 6) ∧ ((0 ≤ s 5 x1.toNat ∧ s 5 x1.toNat ≤ 9) ∧ ((0 ≤ s 6 x1.toNat ∧ s 6 x1.toNat ≤ 2000) ∧ ((0 ≤ s 7 x1.toNat ∧ s 7 x1.toNat ≤ 200) ∧ (G 2 120 90 75 [(3, 2), (1, x1), (1, x2), (1, x3), (1, x4), (1, x5), (1, x6), (1, x7), (1, wlt (s 4 x1.toNat) (s 5 x1.toNat) (s 6 x1.toNat) (s 7 x1.toNat)), (1, 1), (0, 0)] [] (n, s) Q))))) :
    G 2 120 90 62 [(3, 2), (1, x1), (1, x2), (1, x3), (1, x4), (1, x5), (1, x6), (1, x7), (0, 0), (0, 0), (0, 0)] [] (n, s) Q := by
  refine G_go rfl rfl ?_
  refine G_rf rfl rfl (by decide) (hR 2 0 3 rfl) ?_
  refine G_go rfl rfl ?_
  refine G_call rfl rfl ?_
  refine G_go rfl rfl ?_
  refine G_rf rfl rfl (by decide) (hR 3 0 4 rfl) ?_
  refine G_go rfl rfl ?_
  obtain ⟨g1, h⟩ := h
  refine G_ir (n := 6) rfl rfl (by decide) (by decide) g1 ?_
  refine G_go rfl rfl ?_
  refine G_rf rfl rfl (by decide) (hR 3 1 5 rfl) ?_
  refine G_go rfl rfl ?_
  refine G_ir (n := 6) rfl rfl (by decide) (by decide) g1 ?_
  refine G_go rfl rfl ?_
  refine G_rf rfl rfl (by decide) (hR 3 2 6 rfl) ?_
  refine G_go rfl rfl ?_
  refine G_ir (n := 6) rfl rfl (by decide) (by decide) g1 ?_
  refine G_go rfl rfl ?_
  refine G_rf rfl rfl (by decide) (hR 3 3 7 rfl) ?_
  refine G_go rfl rfl ?_
  refine G_ir (n := 6) rfl rfl (by decide) (by decide) g1 ?_
  refine G_call rfl rfl ?_
  obtain ⟨g2, h⟩ := h
  obtain ⟨g3, h⟩ := h
  obtain ⟨g4, h⟩ := h
  refine c_X1_wealth n _ _ (s 4 x1.toNat) (s 5 x1.toNat) (s 6 x1.toNat) (s 7 x1.toNat) hR g2 g3 g4 ?_
  refine G_ret rfl rfl ?_
  refine G_go rfl rfl ?_
  show G 2 120 90 72 [(3, 2), (1, x1), (1, x2), (1, x3), (1, x4), (1, x5), (1, x6), (1, x7), (1, wlt (s 4 x1.toNat) (s 5 x1.toNat) (s 6 x1.toNat) (s 7 x1.toNat)), (0, 0), (0, 0)] [] (n, s) Q
  refine G_go rfl rfl ?_
  refine G_go rfl rfl ?_
  show G 2 120 90 75 [(3, 2), (1, x1), (1, x2), (1, x3), (1, x4), (1, x5), (1, x6), (1, x7), (1, wlt (s 4 x1.toNat) (s 5 x1.toNat) (s 6 x1.toNat) (s 7 x1.toNat)), (1, 1), (0, 0)] [] (n, s) Q
  exact h
theorem sb_X6_hide_72 (n : Nat) (s : Nat → Nat → Int) (Q : List Vl → Sto → Prop) (x1 : Int) (x2 : Int) (x3 : Int) (x4 : Int) (x5 : Int) (x6 : Int) (x7 : Int) (x8 : Int) (hR : refs s)
    (h : G 2 120 90 75 [(3, 2), (1, x1), (1, x2), (1, x3), (1, x4), (1, x5), (1, x6), (1, x7), (1, x8), (1, 1), (0, 0)] [] (n, s) Q) :
    G 2 120 90 72 [(3, 2), (1, x1), (1, x2), (1, x3), (1, x4), (1, x5), (1, x6), (1, x7), (1, x8), (0, 0), (0, 0)] [] (n, s) Q := by
  refine G_go rfl rfl ?_
  refine G_go rfl rfl ?_
  show G 2 120 90 75 [(3, 2), (1, x1), (1, x2), (1, x3), (1, x4), (1, x5), (1, x6), (1, x7), (1, x8), (1, 1), (0, 0)] [] (n, s) Q
  exact h
theorem sb_X6_hide_75 (n : Nat) (s : Nat → Nat → Int) (Q : List Vl → Sto → Prop) (x1 : Int) (x2 : Int) (x3 : Int) (x4 : Int) (x5 : Int) (x6 : Int) (x7 : Int) (x8 : Int) (x9 : Int) (w10 : Vl) (hR : refs s)
    (h : (x5 < x9 → Q [(1, x7)] (n, s)) ∧ (x9 ≤ x5 → (99 < wr (x6 + x9) → Q [(1, x7)] (n, s)) ∧ (wr (x6 + x9) ≤ 99 → (0 ≤ x4 ∧ x4 ≤ 9) ∧ ((0 ≤ wr (x5 - x9) ∧ wr (x5 - x9) ≤ 2000) ∧ ((0 ≤ wr (x6 + x9) ∧ wr (x6 + x9) ≤ 200) ∧ ((x8 ≤ wlt x3 x4 (wr (x5 - x9)) (wr (x6 + x9)) → G 2 120 90 75 [(3, 2), (1, x1), (1, x2), (1, x3), (1, x4), (1, x5), (1, x6), (1, x7), (1, x8), (1, wr (x9 + 1)), (1, wlt x3 x4 (wr (x5 - x9)) (wr (x6 + x9)))] [] (n, s) Q) ∧ (wlt x3 x4 (wr (x5 - x9)) (wr (x6 + x9)) < x8 → G 2 120 90 75 [(3, 2), (1, x1), (1, x2), (1, x3), (1, x4), (1, x5), (1, x6), (1, x9), (1, wlt x3 x4 (wr (x5 - x9)) (wr (x6 + x9))), (1, wr (x9 + 1)), (1, wlt x3 x4 (wr (x5 - x9)) (wr (x6 + x9)))] [] (n, s) Q))))))) :
    G 2 120 90 75 [(3, 2), (1, x1), (1, x2), (1, x3), (1, x4), (1, x5), (1, x6), (1, x7), (1, x8), (1, x9), w10] [] (n, s) Q := by
  refine G_go rfl rfl ?_
  refine G_go rfl rfl ?_
  refine G_gt rfl rfl (fun c1 => ?_) (fun c1 => ?_)
  · have h := h.1 c1
    refine G_go rfl rfl ?_
    exact G_ret rfl rfl h
  · have h := h.2 c1
    refine G_go rfl rfl ?_
    refine G_go rfl rfl ?_
    refine G_go rfl rfl ?_
    refine G_go rfl rfl ?_
    refine G_gt rfl rfl (fun c2 => ?_) (fun c2 => ?_)
    · have h := h.1 c2
      refine G_go rfl rfl ?_
      exact G_ret rfl rfl h
    · have h := h.2 c2
      refine G_go rfl rfl ?_
      refine G_go rfl rfl ?_
      refine G_go rfl rfl ?_
      refine G_go rfl rfl ?_
      refine G_go rfl rfl ?_
      refine G_go rfl rfl ?_
      refine G_go rfl rfl ?_
      refine G_go rfl rfl ?_
      refine G_call rfl rfl ?_
      obtain ⟨g3, h⟩ := h
      obtain ⟨g4, h⟩ := h
      obtain ⟨g5, h⟩ := h
      refine c_X1_wealth n _ _ x3 x4 (wr (x5 - x9)) (wr (x6 + x9)) hR g3 g4 g5 ?_
      refine G_go rfl rfl ?_
      show G 2 120 90 110 [(3, 2), (1, x1), (1, x2), (1, x3), (1, x4), (1, x5), (1, x6), (1, x7), (1, x8), (1, x9), (1, wlt x3 x4 (wr (x5 - x9)) (wr (x6 + x9)))] [] (n, s) Q
      refine G_go rfl rfl ?_
      refine G_go rfl rfl ?_
      refine G_ge rfl rfl (fun c6 => ?_) (fun c6 => ?_)
      · have h := h.1 c6
        refine G_go rfl rfl ?_
        refine G_go rfl rfl ?_
        exact h
      · have h := h.2 c6
        refine G_go rfl rfl ?_
        refine G_go rfl rfl ?_
        show G 2 120 90 121 [(3, 2), (1, x1), (1, x2), (1, x3), (1, x4), (1, x5), (1, x6), (1, x7), (1, wlt x3 x4 (wr (x5 - x9)) (wr (x6 + x9))), (1, x9), (1, wlt x3 x4 (wr (x5 - x9)) (wr (x6 + x9)))] [] (n, s) Q
        refine G_go rfl rfl ?_
        refine G_go rfl rfl ?_
        show G 2 120 90 125 [(3, 2), (1, x1), (1, x2), (1, x3), (1, x4), (1, x5), (1, x6), (1, x9), (1, wlt x3 x4 (wr (x5 - x9)) (wr (x6 + x9))), (1, x9), (1, wlt x3 x4 (wr (x5 - x9)) (wr (x6 + x9)))] [] (n, s) Q
        refine G_go rfl rfl ?_
        refine G_go rfl rfl ?_
        exact h
theorem sb_X6_hide_110 (n : Nat) (s : Nat → Nat → Int) (Q : List Vl → Sto → Prop) (x1 : Int) (x2 : Int) (x3 : Int) (x4 : Int) (x5 : Int) (x6 : Int) (x7 : Int) (x8 : Int) (x9 : Int) (x10 : Int) (hR : refs s)
    (h : (x8 ≤ x10 → G 2 120 90 75 [(3, 2), (1, x1), (1, x2), (1, x3), (1, x4), (1, x5), (1, x6), (1, x7), (1, x8), (1, wr (x9 + 1)), (1, x10)] [] (n, s) Q) ∧ (x10 < x8 → G 2 120 90 75 [(3, 2), (1, x1), (1, x2), (1, x3), (1, x4), (1, x5), (1, x6), (1, x9), (1, x10), (1, wr (x9 + 1)), (1, x10)] [] (n, s) Q)) :
    G 2 120 90 110 [(3, 2), (1, x1), (1, x2), (1, x3), (1, x4), (1, x5), (1, x6), (1, x7), (1, x8), (1, x9), (1, x10)] [] (n, s) Q := by
  refine G_go rfl rfl ?_
  refine G_go rfl rfl ?_
  refine G_ge rfl rfl (fun c1 => ?_) (fun c1 => ?_)
  · have h := h.1 c1
    refine G_go rfl rfl ?_
    refine G_go rfl rfl ?_
    exact h
  · have h := h.2 c1
    refine G_go rfl rfl ?_
    refine G_go rfl rfl ?_
    show G 2 120 90 121 [(3, 2), (1, x1), (1, x2), (1, x3), (1, x4), (1, x5), (1, x6), (1, x7), (1, x10), (1, x9), (1, x10)] [] (n, s) Q
    refine G_go rfl rfl ?_
    refine G_go rfl rfl ?_
    show G 2 120 90 125 [(3, 2), (1, x1), (1, x2), (1, x3), (1, x4), (1, x5), (1, x6), (1, x9), (1, x10), (1, x9), (1, x10)] [] (n, s) Q
    refine G_go rfl rfl ?_
    refine G_go rfl rfl ?_
    exact h
theorem sb_X6_hide_121 (n : Nat) (s : Nat → Nat → Int) (Q : List Vl → Sto → Prop) (x1 : Int) (x2 : Int) (x3 : Int) (x4 : Int) (x5 : Int) (x6 : Int) (x7 : Int) (x8 : Int) (x9 : Int) (x10 : Int) (hR : refs s)
    (h : G 2 120 90 75 [(3, 2), (1, x1), (1, x2), (1, x3), (1, x4), (1, x5), (1, x6), (1, x9), (1, x8), (1, wr (x9 + 1)), (1, x10)] [] (n, s) Q) :
    G 2 120 90 121 [(3, 2), (1, x1), (1, x2), (1, x3), (1, x4), (1, x5), (1, x6), (1, x7), (1, x8), (1, x9), (1, x10)] [] (n, s) Q := by
  refine G_go rfl rfl ?_
  refine G_go rfl rfl ?_
  show G 2 120 90 125 [(3, 2), (1, x1), (1, x2), (1, x3), (1, x4), (1, x5), (1, x6), (1, x9), (1, x8), (1, x9), (1, x10)] [] (n, s) Q
  refine G_go rfl rfl ?_
  refine G_go rfl rfl ?_
  exact h
theorem sb_X6_hide_125 (n : Nat) (s : Nat → Nat → Int) (Q : List Vl → Sto → Prop) (x1 : Int) (x2 : Int) (x3 : Int) (x4 : Int) (x5 : Int) (x6 : Int) (x7 : Int) (x8 : Int) (x9 : Int) (x10 : Int) (hR : refs s)
    (h : G 2 120 90 75 [(3, 2), (1, x1), (1, x2), (1, x3), (1, x4), (1, x5), (1, x6), (1, x7), (1, x8), (1, wr (x9 + 1)), (1, x10)] [] (n, s) Q) :
    G 2 120 90 125 [(3, 2), (1, x1), (1, x2), (1, x3), (1, x4), (1, x5), (1, x6), (1, x7), (1, x8), (1, x9), (1, x10)] [] (n, s) Q := by
  refine G_go rfl rfl ?_
  refine G_go rfl rfl ?_
  exact h
theorem sb_X7_hide_0 (n : Nat) (s : Nat → Nat → Int) (Q : List Vl → Sto → Prop) (a0 : Int) (hR : refs s)
    (h : (a0 < 0 → Q [(1, (-1))] (n, upS (upS s 120 10 0) 129 1 (wr ((s 129 1) + 1)))) ∧ (a0 ≥ 0 → (a0 > wr ((s 120 0) - 1) → Q [(1, (-1))] (n, upS (upS s 120 10 0) 129 1 (wr ((s 129 1) + 1)))) ∧ (a0 ≤ wr ((s 120 0) - 1) → (0 ≤ a0 ∧ a0 < 6) ∧ (G 120 140 186 42 [(3, 120), (1, a0), (1, s 123 a0.toNat), (1, s 124 a0.toNat), (1, 0), (1, (-1)), (1, 0), (0, 0)] [] (n, upS s 120 10 0) Q)))) :
    G 120 140 186 0 [(3, 120), (1, a0), (0, 0), (0, 0), (0, 0), (0, 0), (0, 0), (0, 0)] [] (n, s) Q := by
  refine G_go rfl rfl ?_
  refine G_go rfl rfl ?_
  refine G_wr rfl rfl (by decide) ?_
  have hR := refs_up (a := 120) (k := 10) (x := 0) hR rfl
  refine G_go rfl rfl ?_
  refine G_go rfl rfl ?_
  refine G_call rfl rfl ?_
  refine G_go rfl rfl ?_
  refine G_go rfl rfl ?_
  refine G_go rfl rfl ?_
  refine G_go rfl rfl ?_
  refine G_rd rfl rfl (by decide) ?_
  refine G_go rfl rfl ?_
  refine G_go rfl rfl ?_
  refine G_go rfl rfl ?_
  refine G_call rfl rfl ?_
  refine G_go rfl rfl ?_
  refine G_go rfl rfl ?_
  refine G_go rfl rfl ?_
  refine G_lt rfl rfl (fun c1 => ?_) (fun c1 => ?_)
  · have c1 := xl_lt c1
    have h := h.1 c1
    refine G_go rfl rfl ?_
    refine G_ret rfl rfl ?_
    refine G_ret rfl rfl ?_
    refine G_brF rfl rfl rfl ?_
    refine G_go rfl rfl ?_
    refine G_go rfl rfl ?_
    refine G_call rfl rfl ?_
    refine G_go rfl rfl ?_
    refine G_rf rfl rfl (by decide) (hR 120 11 129 rfl) ?_
    refine G_go rfl rfl ?_
    refine G_go rfl rfl ?_
    refine G_go rfl rfl ?_
    refine G_ir (n := 7) rfl rfl (by decide) (by decide) (by decide) ?_
    refine G_go rfl rfl ?_
    refine G_go rfl rfl ?_
    refine G_iw (n := 7) rfl rfl (by decide) (by decide) (by decide) ?_
    have hR := refs_up (a := 129) (k := 1) (x := wr ((s 129 1) + 1)) hR rfl
    refine G_go rfl rfl ?_
    refine G_ret rfl rfl ?_
    exact G_ret rfl rfl h
  · have c1 := xl_ge c1
    have h := h.2 c1
    refine G_go rfl rfl ?_
    refine G_go rfl rfl ?_
    refine G_go rfl rfl ?_
    refine G_gt rfl rfl (fun c2 => ?_) (fun c2 => ?_)
    · have c2 := xl_gt c2
      have h := h.1 c2
      refine G_go rfl rfl ?_
      refine G_ret rfl rfl ?_
      refine G_ret rfl rfl ?_
      refine G_brF rfl rfl rfl ?_
      refine G_go rfl rfl ?_
      refine G_go rfl rfl ?_
      refine G_call rfl rfl ?_
      refine G_go rfl rfl ?_
      refine G_rf rfl rfl (by decide) (hR 120 11 129 rfl) ?_
      refine G_go rfl rfl ?_
      refine G_go rfl rfl ?_
      refine G_go rfl rfl ?_
      refine G_ir (n := 7) rfl rfl (by decide) (by decide) (by decide) ?_
      refine G_go rfl rfl ?_
      refine G_go rfl rfl ?_
      refine G_iw (n := 7) rfl rfl (by decide) (by decide) (by decide) ?_
      have hR := refs_up (a := 129) (k := 1) (x := wr ((s 129 1) + 1)) hR rfl
      refine G_go rfl rfl ?_
      refine G_ret rfl rfl ?_
      exact G_ret rfl rfl h
    · have c2 := xl_le c2
      have h := h.2 c2
      refine G_go rfl rfl ?_
      refine G_go rfl rfl ?_
      refine G_ret rfl rfl ?_
      refine G_ret rfl rfl ?_
      refine G_brT rfl rfl rfl ?_
      refine G_go rfl rfl ?_
      refine G_rf rfl rfl (by decide) (hR 120 3 123 rfl) ?_
      refine G_go rfl rfl ?_
      obtain ⟨g3, h⟩ := h
      refine G_ir (n := 6) rfl rfl (by decide) (by decide) g3 ?_
      refine G_go rfl rfl ?_
      show G 120 140 186 26 [(3, 120), (1, a0), (1, s 123 a0.toNat), (0, 0), (0, 0), (0, 0), (0, 0), (0, 0)] [] (n, upS s 120 10 0) Q
      refine G_go rfl rfl ?_
      refine G_rf rfl rfl (by decide) (hR 120 4 124 rfl) ?_
      refine G_go rfl rfl ?_
      refine G_ir (n := 6) rfl rfl (by decide) (by decide) g3 ?_
      refine G_go rfl rfl ?_
      show G 120 140 186 33 [(3, 120), (1, a0), (1, s 123 a0.toNat), (1, s 124 a0.toNat), (0, 0), (0, 0), (0, 0), (0, 0)] [] (n, upS s 120 10 0) Q
      refine G_go rfl rfl ?_
      refine G_go rfl rfl ?_
      show G 120 140 186 36 [(3, 120), (1, a0), (1, s 123 a0.toNat), (1, s 124 a0.toNat), (1, 0), (0, 0), (0, 0), (0, 0)] [] (n, upS s 120 10 0) Q
      refine G_go rfl rfl ?_
      refine G_go rfl rfl ?_
      show G 120 140 186 39 [(3, 120), (1, a0), (1, s 123 a0.toNat), (1, s 124 a0.toNat), (1, 0), (1, (-1)), (0, 0), (0, 0)] [] (n, upS s 120 10 0) Q
      refine G_go rfl rfl ?_
      refine G_go rfl rfl ?_
      show G 120 140 186 42 [(3, 120), (1, a0), (1, s 123 a0.toNat), (1, s 124 a0.toNat), (1, 0), (1, (-1)), (1, 0), (0, 0)] [] (n, upS s 120 10 0) Q
      exact h
theorem sb_X7_hide_26 (n : Nat) (s : Nat → Nat → Int) (Q : List Vl → Sto → Prop) (x1 : Int) (x2 : Int) (hR : refs s)
    (h : (0 ≤ x1 ∧ x1 < 6) ∧ (G 120 140 186 42 [(3, 120), (1, x1), (1, x2), (1, s 124 x1.toNat), (1, 0), (1, (-1)), (1, 0), (0, 0)] [] (n, s) Q)) :
    G 120 140 186 26 [(3, 120), (1, x1), (1, x2), (0, 0), (0, 0), (0, 0), (0, 0), (0, 0)] [] (n, s) Q := by
  refine G_go rfl rfl ?_
  refine G_rf rfl rfl (by decide) (hR 120 4 124 rfl) ?_
  refine G_go rfl rfl ?_
  obtain ⟨g1, h⟩ := h
  refine G_ir (n := 6) rfl rfl (by decide) (by decide) g1 ?_
  refine G_go rfl rfl ?_
  show G 120 140 186 33 [(3, 120), (1, x1), (1, x2), (1, s 124 x1.toNat), (0, 0), (0, 0), (0, 0), (0, 0)] [] (n, s) Q
  refine G_go rfl rfl ?_
  refine G_go rfl rfl ?_
  show G 120 140 186 36 [(3, 120), (1, x1), (1, x2), (1, s 124 x1.toNat), (1, 0), (0, 0), (0, 0), (0, 0)] [] (n, s) Q
  refine G_go rfl rfl ?_
  refine G_go rfl rfl ?_
  show G 120 140 186 39 [(3, 120), (1, x1), (1, x2), (1, s 124 x1.toNat), (1, 0), (1, (-1)), (0, 0), (0, 0)] [] (n, s) Q
  refine G_go rfl rfl ?_
  refine G_go rfl rfl ?_
  show G 120 140 186 42 [(3, 120), (1, x1), (1, x2), (1, s 124 x1.toNat), (1, 0), (1, (-1)), (1, 0), (0, 0)] [] (n, s) Q
  exact h
theorem sb_X7_hide_33 (n : Nat) (s : Nat → Nat → Int) (Q : List Vl → Sto → Prop) (x1 : Int) (x2 : Int) (x3 : Int) (hR : refs s)
    (h : G 120 140 186 42 [(3, 120), (1, x1), (1, x2), (1, x3), (1, 0), (1, (-1)), (1, 0), (0, 0)] [] (n, s) Q) :
    G 120 140 186 33 [(3, 120), (1, x1), (1, x2), (1, x3), (0, 0), (0, 0), (0, 0), (0, 0)] [] (n, s) Q := by
  refine G_go rfl rfl ?_
  refine G_go rfl rfl ?_
  show G 120 140 186 36 [(3, 120), (1, x1), (1, x2), (1, x3), (1, 0), (0, 0), (0, 0), (0, 0)] [] (n, s) Q
  refine G_go rfl rfl ?_
  refine G_go rfl rfl ?_
  show G 120 140 186 39 [(3, 120), (1, x1), (1, x2), (1, x3), (1, 0), (1, (-1)), (0, 0), (0, 0)] [] (n, s) Q
  refine G_go rfl rfl ?_
  refine G_go rfl rfl ?_
  show G 120 140 186 42 [(3, 120), (1, x1), (1, x2), (1, x3), (1, 0), (1, (-1)), (1, 0), (0, 0)] [] (n, s) Q
  exact h
theorem sb_X7_hide_36 (n : Nat) (s : Nat → Nat → Int) (Q : List Vl → Sto → Prop) (x1 : Int) (x2 : Int) (x3 : Int) (x4 : Int) (hR : refs s)
    (h : G 120 140 186 42 [(3, 120), (1, x1), (1, x2), (1, x3), (1, x4), (1, (-1)), (1, 0), (0, 0)] [] (n, s) Q) :
    G 120 140 186 36 [(3, 120), (1, x1), (1, x2), (1, x3), (1, x4), (0, 0), (0, 0), (0, 0)] [] (n, s) Q := by
  refine G_go rfl rfl ?_
  refine G_go rfl rfl ?_
  show G 120 140 186 39 [(3, 120), (1, x1), (1, x2), (1, x3), (1, x4), (1, (-1)), (0, 0), (0, 0)] [] (n, s) Q
  refine G_go rfl rfl ?_
  refine G_go rfl rfl ?_
  show G 120 140 186 42 [(3, 120), (1, x1), (1, x2), (1, x3), (1, x4), (1, (-1)), (1, 0), (0, 0)] [] (n, s) Q
  exact h
theorem sb_X7_hide_39 (n : Nat) (s : Nat → Nat → Int) (Q : List Vl → Sto → Prop) (x1 : Int) (x2 : Int) (x3 : Int) (x4 : Int) (x5 : Int) (hR : refs s)
    (h : G 120 140 186 42 [(3, 120), (1, x1), (1, x2), (1, x3), (1, x4), (1, x5), (1, 0), (0, 0)] [] (n, s) Q) :
    G 120 140 186 39 [(3, 120), (1, x1), (1, x2), (1, x3), (1, x4), (1, x5), (0, 0), (0, 0)] [] (n, s) Q := by
  refine G_go rfl rfl ?_
  refine G_go rfl rfl ?_
  show G 120 140 186 42 [(3, 120), (1, x1), (1, x2), (1, x3), (1, x4), (1, x5), (1, 0), (0, 0)] [] (n, s) Q
  exact h
theorem sb_X7_hide_42 (n : Nat) (s : Nat → Nat → Int) (Q : List Vl → Sto → Prop) (x1 : Int) (x2 : Int) (x3 : Int) (x4 : Int) (x5 : Int) (x6 : Int) (w7 : Vl) (hR : refs s)
    (h : (x2 < x6 → (0 ≤ x1 ∧ x1 < 6) ∧ (Q [(1, x4)] (n, upS (upS s 123 x1.toNat x2) 124 x1.toNat x3))) ∧ (x6 ≤ x2 → (99 < wr (x3 + x6) → (0 ≤ x1 ∧ x1 < 6) ∧ (Q [(1, x4)] (n, upS (upS s 123 x1.toNat x2) 124 x1.toNat x3))) ∧ (wr (x3 + x6) ≤ 99 → (0 ≤ x1 ∧ x1 < 6) ∧ ((rgP (vw 121 (upS (upS s 123 x1.toNat (wr (x2 - x6))) 124 x1.toNat (wr (x3 + x6)))) x1.toNat) ∧ ((0 ≤ vw 121 (upS (upS s 123 x1.toNat (wr (x2 - x6))) 124 x1.toNat (wr (x3 + x6))) 2 x1.toNat ∧ vw 121 (upS (upS s 123 x1.toNat (wr (x2 - x6))) 124 x1.toNat (wr (x3 + x6))) 2 x1.toNat ≤ 2000) ∧ ((x5 < 0 → G 120 140 186 42 [(3, 120), (1, x1), (1, x2), (1, x3), (1, x6), (1, wlW (vw 121 (upS (upS s 123 x1.toNat (wr (x2 - x6))) 124 x1.toNat (wr (x3 + x6)))) x1.toNat), (1, wr (x6 + 1)), (1, wlW (vw 121 (upS (upS s 123 x1.toNat (wr (x2 - x6))) 124 x1.toNat (wr (x3 + x6)))) x1.toNat)] [] (n, upS (upS s 123 x1.toNat (wr (x2 - x6))) 124 x1.toNat (wr (x3 + x6))) Q) ∧ (0 ≤ x5 → (x5 ≤ wlW (vw 121 (upS (upS s 123 x1.toNat (wr (x2 - x6))) 124 x1.toNat (wr (x3 + x6)))) x1.toNat → G 120 140 186 42 [(3, 120), (1, x1), (1, x2), (1, x3), (1, x4), (1, x5), (1, wr (x6 + 1)), (1, wlW (vw 121 (upS (upS s 123 x1.toNat (wr (x2 - x6))) 124 x1.toNat (wr (x3 + x6)))) x1.toNat)] [] (n, upS (upS s 123 x1.toNat (wr (x2 - x6))) 124 x1.toNat (wr (x3 + x6))) Q) ∧ (wlW (vw 121 (upS (upS s 123 x1.toNat (wr (x2 - x6))) 124 x1.toNat (wr (x3 + x6)))) x1.toNat < x5 → G 120 140 186 42 [(3, 120), (1, x1), (1, x2), (1, x3), (1, x6), (1, wlW (vw 121 (upS (upS s 123 x1.toNat (wr (x2 - x6))) 124 x1.toNat (wr (x3 + x6)))) x1.toNat), (1, wr (x6 + 1)), (1, wlW (vw 121 (upS (upS s 123 x1.toNat (wr (x2 - x6))) 124 x1.toNat (wr (x3 + x6)))) x1.toNat)] [] (n, upS (upS s 123 x1.toNat (wr (x2 - x6))) 124 x1.toNat (wr (x3 + x6))) Q)))))))) :
    G 120 140 186 42 [(3, 120), (1, x1), (1, x2), (1, x3), (1, x4), (1, x5), (1, x6), w7] [] (n, s) Q := by
  refine G_go rfl rfl ?_
  refine G_go rfl rfl ?_
  refine G_gt rfl rfl (fun c1 => ?_) (fun c1 => ?_)
  · have h := h.1 c1
    refine G_go rfl rfl ?_
    refine G_rf rfl rfl (by decide) (hR 120 3 123 rfl) ?_
    refine G_go rfl rfl ?_
    refine G_go rfl rfl ?_
    obtain ⟨g2, h⟩ := h
    refine G_iw (n := 6) rfl rfl (by decide) (by decide) g2 ?_
    have hR := refs_up (a := 123) (k := x1.toNat) (x := x2) hR rfl
    refine G_go rfl rfl ?_
    refine G_rf rfl rfl (by decide) (hR 120 4 124 rfl) ?_
    refine G_go rfl rfl ?_
    refine G_go rfl rfl ?_
    refine G_iw (n := 6) rfl rfl (by decide) (by decide) g2 ?_
    have hR := refs_up (a := 124) (k := x1.toNat) (x := x3) hR rfl
    refine G_go rfl rfl ?_
    exact G_ret rfl rfl h
  · have h := h.2 c1
    refine G_go rfl rfl ?_
    refine G_go rfl rfl ?_
    refine G_go rfl rfl ?_
    refine G_go rfl rfl ?_
    refine G_gt rfl rfl (fun c3 => ?_) (fun c3 => ?_)
    · have h := h.1 c3
      refine G_go rfl rfl ?_
      refine G_rf rfl rfl (by decide) (hR 120 3 123 rfl) ?_
      refine G_go rfl rfl ?_
      refine G_go rfl rfl ?_
      obtain ⟨g4, h⟩ := h
      refine G_iw (n := 6) rfl rfl (by decide) (by decide) g4 ?_
      have hR := refs_up (a := 123) (k := x1.toNat) (x := x2) hR rfl
      refine G_go rfl rfl ?_
      refine G_rf rfl rfl (by decide) (hR 120 4 124 rfl) ?_
      refine G_go rfl rfl ?_
      refine G_go rfl rfl ?_
      refine G_iw (n := 6) rfl rfl (by decide) (by decide) g4 ?_
      have hR := refs_up (a := 124) (k := x1.toNat) (x := x3) hR rfl
      refine G_go rfl rfl ?_
      exact G_ret rfl rfl h
    · have h := h.2 c3
      refine G_go rfl rfl ?_
      refine G_rf rfl rfl (by decide) (hR 120 3 123 rfl) ?_
      refine G_go rfl rfl ?_
      refine G_go rfl rfl ?_
      refine G_go rfl rfl ?_
      refine G_go rfl rfl ?_
      obtain ⟨g5, h⟩ := h
      refine G_iw (n := 6) rfl rfl (by decide) (by decide) g5 ?_
      have hR := refs_up (a := 123) (k := x1.toNat) (x := wr (x2 - x6)) hR rfl
      refine G_go rfl rfl ?_
      refine G_rf rfl rfl (by decide) (hR 120 4 124 rfl) ?_
      refine G_go rfl rfl ?_
      refine G_go rfl rfl ?_
      refine G_go rfl rfl ?_
      refine G_go rfl rfl ?_
      refine G_iw (n := 6) rfl rfl (by decide) (by decide) g5 ?_
      have hR := refs_up (a := 124) (k := x1.toNat) (x := wr (x3 + x6)) hR rfl
      refine G_go rfl rfl ?_
      refine G_go rfl rfl ?_
      refine G_call rfl rfl ?_
      obtain ⟨g6, h⟩ := h
      obtain ⟨g7, h⟩ := h
      refine c_X7_wealthOf n _ _ x1 hR g5 g6 g7 ?_
      refine G_go rfl rfl ?_
      show G 120 140 186 84 [(3, 120), (1, x1), (1, x2), (1, x3), (1, x4), (1, x5), (1, x6), (1, wlW (vw 121 (upS (upS s 123 x1.toNat (wr (x2 - x6))) 124 x1.toNat (wr (x3 + x6)))) x1.toNat)] [] (n, upS (upS s 123 x1.toNat (wr (x2 - x6))) 124 x1.toNat (wr (x3 + x6))) Q
      refine G_go rfl rfl ?_
      refine G_lt rfl rfl (fun c8 => ?_) (fun c8 => ?_)
      · have h := h.1 c8
        refine G_go rfl rfl ?_
        refine G_go rfl rfl ?_
        refine G_go rfl rfl ?_
        show G 120 140 186 105 [(3, 120), (1, x1), (1, x2), (1, x3), (1, x6), (1, x5), (1, x6), (1, wlW (vw 121 (upS (upS s 123 x1.toNat (wr (x2 - x6))) 124 x1.toNat (wr (x3 + x6)))) x1.toNat)] [] (n, upS (upS s 123 x1.toNat (wr (x2 - x6))) 124 x1.toNat (wr (x3 + x6))) Q
        refine G_go rfl rfl ?_
        refine G_lt rfl rfl (fun _ => ?_) (fun hc => absurd (show 0 ≤ x5 from hc) (by omega))
        refine G_go rfl rfl ?_
        refine G_go rfl rfl ?_
        refine G_go rfl rfl ?_
        show G 120 140 186 126 [(3, 120), (1, x1), (1, x2), (1, x3), (1, x6), (1, wlW (vw 121 (upS (upS s 123 x1.toNat (wr (x2 - x6))) 124 x1.toNat (wr (x3 + x6)))) x1.toNat), (1, x6), (1, wlW (vw 121 (upS (upS s 123 x1.toNat (wr (x2 - x6))) 124 x1.toNat (wr (x3 + x6)))) x1.toNat)] [] (n, upS (upS s 123 x1.toNat (wr (x2 - x6))) 124 x1.toNat (wr (x3 + x6))) Q
        refine G_go rfl rfl ?_
        refine G_go rfl rfl ?_
        exact h
      · have h := h.2 c8
        refine G_go rfl rfl ?_
        refine G_go rfl rfl ?_
        refine G_ge rfl rfl (fun c9 => ?_) (fun c9 => ?_)
        · have h := h.1 c9
          refine G_go rfl rfl ?_
          refine G_go rfl rfl ?_
          show G 120 140 186 105 [(3, 120), (1, x1), (1, x2), (1, x3), (1, x4), (1, x5), (1, x6), (1, wlW (vw 121 (upS (upS s 123 x1.toNat (wr (x2 - x6))) 124 x1.toNat (wr (x3 + x6)))) x1.toNat)] [] (n, upS (upS s 123 x1.toNat (wr (x2 - x6))) 124 x1.toNat (wr (x3 + x6))) Q
          refine G_go rfl rfl ?_
          refine G_lt rfl rfl (fun hc => absurd (show x5 < 0 from hc) (by omega)) (fun _ => ?_)
          refine G_go rfl rfl ?_
          refine G_go rfl rfl ?_
          refine G_ge rfl rfl (fun _ => ?_) (fun hc => absurd (show wlW (vw 121 (upS (upS s 123 x1.toNat (wr (x2 - x6))) 124 x1.toNat (wr (x3 + x6)))) x1.toNat < x5 from hc) (by omega))
          refine G_go rfl rfl ?_
          refine G_go rfl rfl ?_
          show G 120 140 186 126 [(3, 120), (1, x1), (1, x2), (1, x3), (1, x4), (1, x5), (1, x6), (1, wlW (vw 121 (upS (upS s 123 x1.toNat (wr (x2 - x6))) 124 x1.toNat (wr (x3 + x6)))) x1.toNat)] [] (n, upS (upS s 123 x1.toNat (wr (x2 - x6))) 124 x1.toNat (wr (x3 + x6))) Q
          refine G_go rfl rfl ?_
          refine G_go rfl rfl ?_
          exact h
        · have h := h.2 c9
          refine G_go rfl rfl ?_
          refine G_go rfl rfl ?_
          refine G_go rfl rfl ?_
          show G 120 140 186 105 [(3, 120), (1, x1), (1, x2), (1, x3), (1, x6), (1, x5), (1, x6), (1, wlW (vw 121 (upS (upS s 123 x1.toNat (wr (x2 - x6))) 124 x1.toNat (wr (x3 + x6)))) x1.toNat)] [] (n, upS (upS s 123 x1.toNat (wr (x2 - x6))) 124 x1.toNat (wr (x3 + x6))) Q
          refine G_go rfl rfl ?_
          refine G_lt rfl rfl (fun hc => absurd (show x5 < 0 from hc) (by omega)) (fun _ => ?_)
          refine G_go rfl rfl ?_
          refine G_go rfl rfl ?_
          refine G_ge rfl rfl (fun hc => absurd (show x5 ≤ wlW (vw 121 (upS (upS s 123 x1.toNat (wr (x2 - x6))) 124 x1.toNat (wr (x3 + x6)))) x1.toNat from hc) (by omega)) (fun _ => ?_)
          refine G_go rfl rfl ?_
          refine G_go rfl rfl ?_
          refine G_go rfl rfl ?_
          show G 120 140 186 126 [(3, 120), (1, x1), (1, x2), (1, x3), (1, x6), (1, wlW (vw 121 (upS (upS s 123 x1.toNat (wr (x2 - x6))) 124 x1.toNat (wr (x3 + x6)))) x1.toNat), (1, x6), (1, wlW (vw 121 (upS (upS s 123 x1.toNat (wr (x2 - x6))) 124 x1.toNat (wr (x3 + x6)))) x1.toNat)] [] (n, upS (upS s 123 x1.toNat (wr (x2 - x6))) 124 x1.toNat (wr (x3 + x6))) Q
          refine G_go rfl rfl ?_
          refine G_go rfl rfl ?_
          exact h
theorem sb_X7_hide_84 (n : Nat) (s : Nat → Nat → Int) (Q : List Vl → Sto → Prop) (x1 : Int) (x2 : Int) (x3 : Int) (x4 : Int) (x5 : Int) (x6 : Int) (x7 : Int) (hR : refs s)
    (h : (x5 < 0 → G 120 140 186 42 [(3, 120), (1, x1), (1, x2), (1, x3), (1, x6), (1, x7), (1, wr (x6 + 1)), (1, x7)] [] (n, s) Q) ∧ (0 ≤ x5 → (x5 ≤ x7 → G 120 140 186 42 [(3, 120), (1, x1), (1, x2), (1, x3), (1, x4), (1, x5), (1, wr (x6 + 1)), (1, x7)] [] (n, s) Q) ∧ (x7 < x5 → G 120 140 186 42 [(3, 120), (1, x1), (1, x2), (1, x3), (1, x6), (1, x7), (1, wr (x6 + 1)), (1, x7)] [] (n, s) Q))) :
    G 120 140 186 84 [(3, 120), (1, x1), (1, x2), (1, x3), (1, x4), (1, x5), (1, x6), (1, x7)] [] (n, s) Q := by
  refine G_go rfl rfl ?_
  refine G_lt rfl rfl (fun c1 => ?_) (fun c1 => ?_)
  · have h := h.1 c1
    refine G_go rfl rfl ?_
    refine G_go rfl rfl ?_
    refine G_go rfl rfl ?_
    show G 120 140 186 105 [(3, 120), (1, x1), (1, x2), (1, x3), (1, x6), (1, x5), (1, x6), (1, x7)] [] (n, s) Q
    refine G_go rfl rfl ?_
    refine G_lt rfl rfl (fun _ => ?_) (fun hc => absurd (show 0 ≤ x5 from hc) (by omega))
    refine G_go rfl rfl ?_
    refine G_go rfl rfl ?_
    refine G_go rfl rfl ?_
    show G 120 140 186 126 [(3, 120), (1, x1), (1, x2), (1, x3), (1, x6), (1, x7), (1, x6), (1, x7)] [] (n, s) Q
    refine G_go rfl rfl ?_
    refine G_go rfl rfl ?_
    exact h
  · have h := h.2 c1
    refine G_go rfl rfl ?_
    refine G_go rfl rfl ?_
    refine G_ge rfl rfl (fun c2 => ?_) (fun c2 => ?_)
    · have h := h.1 c2
      refine G_go rfl rfl ?_
      refine G_go rfl rfl ?_
      show G 120 140 186 105 [(3, 120), (1, x1), (1, x2), (1, x3), (1, x4), (1, x5), (1, x6), (1, x7)] [] (n, s) Q
      refine G_go rfl rfl ?_
      refine G_lt rfl rfl (fun hc => absurd (show x5 < 0 from hc) (by omega)) (fun _ => ?_)
      refine G_go rfl rfl ?_
      refine G_go rfl rfl ?_
      refine G_ge rfl rfl (fun _ => ?_) (fun hc => absurd (show x7 < x5 from hc) (by omega))
      refine G_go rfl rfl ?_
      refine G_go rfl rfl ?_
      show G 120 140 186 126 [(3, 120), (1, x1), (1, x2), (1, x3), (1, x4), (1, x5), (1, x6), (1, x7)] [] (n, s) Q
      refine G_go rfl rfl ?_
      refine G_go rfl rfl ?_
      exact h
    · have h := h.2 c2
      refine G_go rfl rfl ?_
      refine G_go rfl rfl ?_
      refine G_go rfl rfl ?_
      show G 120 140 186 105 [(3, 120), (1, x1), (1, x2), (1, x3), (1, x6), (1, x5), (1, x6), (1, x7)] [] (n, s) Q
      refine G_go rfl rfl ?_
      refine G_lt rfl rfl (fun hc => absurd (show x5 < 0 from hc) (by omega)) (fun _ => ?_)
      refine G_go rfl rfl ?_
      refine G_go rfl rfl ?_
      refine G_ge rfl rfl (fun hc => absurd (show x5 ≤ x7 from hc) (by omega)) (fun _ => ?_)
      refine G_go rfl rfl ?_
      refine G_go rfl rfl ?_
      refine G_go rfl rfl ?_
      show G 120 140 186 126 [(3, 120), (1, x1), (1, x2), (1, x3), (1, x6), (1, x7), (1, x6), (1, x7)] [] (n, s) Q
      refine G_go rfl rfl ?_
      refine G_go rfl rfl ?_
      exact h
theorem sb_X7_hide_105 (n : Nat) (s : Nat → Nat → Int) (Q : List Vl → Sto → Prop) (x1 : Int) (x2 : Int) (x3 : Int) (x4 : Int) (x5 : Int) (x6 : Int) (x7 : Int) (hR : refs s)
    (h : (x5 < 0 → G 120 140 186 42 [(3, 120), (1, x1), (1, x2), (1, x3), (1, x4), (1, x7), (1, wr (x6 + 1)), (1, x7)] [] (n, s) Q) ∧ (0 ≤ x5 → (x5 ≤ x7 → G 120 140 186 42 [(3, 120), (1, x1), (1, x2), (1, x3), (1, x4), (1, x5), (1, wr (x6 + 1)), (1, x7)] [] (n, s) Q) ∧ (x7 < x5 → G 120 140 186 42 [(3, 120), (1, x1), (1, x2), (1, x3), (1, x4), (1, x7), (1, wr (x6 + 1)), (1, x7)] [] (n, s) Q))) :
    G 120 140 186 105 [(3, 120), (1, x1), (1, x2), (1, x3), (1, x4), (1, x5), (1, x6), (1, x7)] [] (n, s) Q := by
  refine G_go rfl rfl ?_
  refine G_lt rfl rfl (fun c1 => ?_) (fun c1 => ?_)
  · have h := h.1 c1
    refine G_go rfl rfl ?_
    refine G_go rfl rfl ?_
    refine G_go rfl rfl ?_
    show G 120 140 186 126 [(3, 120), (1, x1), (1, x2), (1, x3), (1, x4), (1, x7), (1, x6), (1, x7)] [] (n, s) Q
    refine G_go rfl rfl ?_
    refine G_go rfl rfl ?_
    exact h
  · have h := h.2 c1
    refine G_go rfl rfl ?_
    refine G_go rfl rfl ?_
    refine G_ge rfl rfl (fun c2 => ?_) (fun c2 => ?_)
    · have h := h.1 c2
      refine G_go rfl rfl ?_
      refine G_go rfl rfl ?_
      show G 120 140 186 126 [(3, 120), (1, x1), (1, x2), (1, x3), (1, x4), (1, x5), (1, x6), (1, x7)] [] (n, s) Q
      refine G_go rfl rfl ?_
      refine G_go rfl rfl ?_
      exact h
    · have h := h.2 c2
      refine G_go rfl rfl ?_
      refine G_go rfl rfl ?_
      refine G_go rfl rfl ?_
      show G 120 140 186 126 [(3, 120), (1, x1), (1, x2), (1, x3), (1, x4), (1, x7), (1, x6), (1, x7)] [] (n, s) Q
      refine G_go rfl rfl ?_
      refine G_go rfl rfl ?_
      exact h
theorem sb_X7_hide_126 (n : Nat) (s : Nat → Nat → Int) (Q : List Vl → Sto → Prop) (x1 : Int) (x2 : Int) (x3 : Int) (x4 : Int) (x5 : Int) (x6 : Int) (x7 : Int) (hR : refs s)
    (h : G 120 140 186 42 [(3, 120), (1, x1), (1, x2), (1, x3), (1, x4), (1, x5), (1, wr (x6 + 1)), (1, x7)] [] (n, s) Q) :
    G 120 140 186 126 [(3, 120), (1, x1), (1, x2), (1, x3), (1, x4), (1, x5), (1, x6), (1, x7)] [] (n, s) Q := by
  refine G_go rfl rfl ?_
  refine G_go rfl rfl ?_
  exact h
/-! HIDE -/
def hdW (t : Nat → Nat → Int) (p : Nat) (d : Int) : Int := wlt (t 121 p) (t 122 p) (t 123 p - d) (t 124 p + d)
def hdF (t : Nat → Nat → Int) (p : Nat) (k : Nat) (b : Int) : Int := if hdW t p ((k + 1 : Nat) : Int) < hdW t p b then ((k + 1 : Nat) : Int) else b
def hdM (t : Nat → Nat → Int) (p : Nat) : Nat := (min (t 123 p) (99 - t 124 p)).toNat
def hdI (k : Nat) (b : Int) : Prop := 0 ≤ b ∧ b ≤ k
theorem hdF_in {t : Nat → Nat → Int} {p k : Nat} {b : Int} (h : hdI k b) : hdI (k + 1) (hdF t p k b) := by
  unfold hdF hdI at *
  split
  all_goals omega
theorem cl_hide (n : Nat) (s t : Nat → Nat → Int) (h : REL s t) (p : Nat) (hp : (p : Int) < t 120 0) (Q : List Vl → Sto → Prop) (hq : Q [(1, itr (hdF t p) 0 (hdM t p))] (n, s)) : G 2 120 90 75 [(3, 2), (1, (p : Int)), (1, 0), (1, s 4 p), (1, s 5 p), (1, s 6 p), (1, s 7 p), (1, 0), (1, wlt (s 4 p) (s 5 p) (s 6 p) (s 7 p)), (1, 1), (0, 0)] [] (n, s) Q := by
  have ht := h.t p hp
  obtain ⟨s0, s1, s2, s3, _⟩ := h.s p hp
  rw [s0, s1, s2, s3]
  have e0 : wlt (t 121 p) (t 122 p) (t 123 p) (t 124 p) = hdW t p 0 := by
    unfold hdW
    rw [Int.sub_zero, Int.add_zero]
  rw [e0]
  refine G_up (hdM t p) (fun k b => ∀ w, G 2 120 90 75 [(3, 2), (1, (p : Int)), (1, 0), (1, t 121 p), (1, t 122 p), (1, t 123 p), (1, t 124 p), (1, b), (1, hdW t p b), (1, ((k + 1 : Nat) : Int)), w] [] (n, s) Q) (hdF t p) hdI 0 ⟨by omega, by omega⟩ (fun k b _ hb => hdF_in hb) (fun k b hk hb hg w => ?_) (fun _ w => ?_) (0, 0)
  · have hk2 : k < (min (t 123 p) (99 - t 124 p)).toNat := hk
    rw [← wr_s (show k + 1 < 2000 by omega) (by omega)] at hg
    refine sb_X6_hide_75 n s Q _ _ _ _ _ _ _ _ _ w h.1 ⟨fun e => by omega, fun _ => ?_⟩
    rw [wr_id (x := t 124 p + ((k + 1 : Nat) : Int)) (by omega) (by omega), wr_id (x := t 123 p - ((k + 1 : Nat) : Int)) (by omega) (by omega)]
    refine ⟨fun e => by omega, fun _ => ⟨by omega, by omega, by omega, fun c => ?_, fun c => ?_⟩⟩
    · have c : hdW t p b ≤ hdW t p ((k + 1 : Nat) : Int) := c
      rw [show hdF t p k b = b from if_neg (by omega)] at hg
      exact hg _
    · have c : hdW t p ((k + 1 : Nat) : Int) < hdW t p b := c
      rw [show hdF t p k b = ((k + 1 : Nat) : Int) from if_pos c] at hg
      exact hg _
  · have hM : hdM t p = (min (t 123 p) (99 - t 124 p)).toNat := rfl
    refine sb_X6_hide_75 n s Q _ _ _ _ _ _ _ _ _ w h.1 ⟨fun _ => hq, fun _ => ?_⟩
    rw [wr_id (x := t 124 p + ((hdM t p + 1 : Nat) : Int)) (by omega) (by omega)]
    exact ⟨fun _ => hq, fun e => by omega⟩
theorem upS_col {t : Nat → Nat → Int} {p : Nat} {x y x' y' : Int} : upS (upS (upS (upS t 123 p x) 124 p y) 123 p x') 124 p y' = upS (upS t 123 p x') 124 p y' := by
  funext i j
  simp only [upS]
  by_cases c1 : i = 123 <;> by_cases c2 : i = 124 <;> by_cases c3 : j = p <;> simp_all
theorem wlW_c {t : Nat → Nat → Int} {p : Nat} {x y : Int} : wlW (vw 121 (upS (upS t 123 p x) 124 p y)) p = wlt (t 121 p) (t 122 p) x y := by
  unfold wlW vw upS
  simp
theorem rl_hide (n : Nat) (s t : Nat → Nat → Int) (h : REL s t) (p : Nat) (hp : (p : Int) < t 120 0) (Q : List Vl → Sto → Prop) (hq : Q [(1, itr (hdF t p) 0 (hdM t p))] (n, t)) : G 120 140 186 42 [(3, 120), (1, (p : Int)), (1, t 123 p), (1, t 124 p), (1, 0), (1, (-1)), (1, 0), (0, 0)] [] (n, t) Q := by
  obtain ⟨hn1, hn2, hn3, hn4⟩ := h.np
  have ht := h.t p hp
  have hw0 : ∀ d : Int, 0 ≤ d → d ≤ t 123 p → d ≤ 99 - t 124 p → 0 ≤ hdW t p d := fun d d1 d2 d3 => (wlt_rg ht.2.1 ⟨by omega, by omega⟩ ⟨by omega, by omega⟩).1
  have step : ∀ (t1 : Nat → Nat → Int), upS (upS t1 123 p (t 123 p)) 124 p (t 124 p) = t → t1 121 p = t 121 p ∧ t1 122 p = t 122 p := by
    intro t1 e
    constructor
    · rw [← e]
      simp [upS]
    · rw [← e]
      simp [upS]
  have rgs : ∀ (t1 : Nat → Nat → Int) (x y : Int), upS (upS t1 123 p (t 123 p)) 124 p (t 124 p) = t → 0 ≤ x ∧ x ≤ 2000 → 0 ≤ y ∧ y ≤ 200 → rgP (vw 121 (upS (upS t1 123 p x) 124 p y)) p ∧ (0 ≤ vw 121 (upS (upS t1 123 p x) 124 p y) 2 p ∧ vw 121 (upS (upS t1 123 p x) 124 p y) 2 p ≤ 2000) := by
    intro t1 x y e hx hy
    have e2 := (step t1 e).2
    refine ⟨⟨?_, ?_⟩, ?_⟩
    · show 0 ≤ upS (upS t1 123 p x) 124 p y 122 p ∧ upS (upS t1 123 p x) 124 p y 122 p ≤ 9
      simp [upS]
      omega
    · show 0 ≤ upS (upS t1 123 p x) 124 p y 124 p ∧ upS (upS t1 123 p x) 124 p y 124 p ≤ 200
      simp [upS]
      omega
    · show 0 ≤ upS (upS t1 123 p x) 124 p y 123 p ∧ upS (upS t1 123 p x) 124 p y 123 p ≤ 2000
      simp [upS]
      omega
  have loop : ∀ w t1, refs t1 → upS (upS t1 123 p (t 123 p)) 124 p (t 124 p) = t → G 120 140 186 42 [(3, 120), (1, (p : Int)), (1, t 123 p), (1, t 124 p), (1, 0), (1, hdW t p 0), (1, 1), w] [] (n, t1) Q := by
    refine G_up (hdM t p) (fun k b => ∀ w t1, refs t1 → upS (upS t1 123 p (t 123 p)) 124 p (t 124 p) = t → G 120 140 186 42 [(3, 120), (1, (p : Int)), (1, t 123 p), (1, t 124 p), (1, b), (1, hdW t p b), (1, ((k + 1 : Nat) : Int)), w] [] (n, t1) Q) (hdF t p) hdI 0 ⟨by omega, by omega⟩ (fun k b _ hb => hdF_in hb) (fun k b hk hb hg w t1 hR he => ?_) (fun _ w t1 hR he => ?_)
    · have hk2 : k < (min (t 123 p) (99 - t 124 p)).toNat := hk
      have hb2 : 0 ≤ b ∧ b ≤ k := hb
      have hb0 := hw0 b (by omega) (by omega) (by omega)
      rw [← wr_s (show k + 1 < 2000 by omega) (by omega)] at hg
      refine sb_X7_hide_42 n t1 Q _ _ _ _ _ _ w hR ⟨fun e => by omega, fun _ => ?_⟩
      rw [wr_id (x := t 124 p + ((k + 1 : Nat) : Int)) (by omega) (by omega), wr_id (x := t 123 p - ((k + 1 : Nat) : Int)) (by omega) (by omega), Int.toNat_natCast]
      have hr := rgs t1 (t 123 p - ((k + 1 : Nat) : Int)) (t 124 p + ((k + 1 : Nat) : Int)) he (by omega) (by omega)
      have ew : wlW (vw 121 (upS (upS t1 123 p (t 123 p - ((k + 1 : Nat) : Int))) 124 p (t 124 p + ((k + 1 : Nat) : Int)))) p = hdW t p ((k + 1 : Nat) : Int) := by
        rw [wlW_c, (step t1 he).1, (step t1 he).2]
        rfl
      rw [ew]
      have hR2 : refs (upS (upS t1 123 p (t 123 p - ((k + 1 : Nat) : Int))) 124 p (t 124 p + ((k + 1 : Nat) : Int))) := refs_up (refs_up hR rfl) rfl
      have he2 : upS (upS (upS (upS t1 123 p (t 123 p - ((k + 1 : Nat) : Int))) 124 p (t 124 p + ((k + 1 : Nat) : Int))) 123 p (t 123 p)) 124 p (t 124 p) = t := by rw [upS_col]; exact he
      refine ⟨fun e => by omega, fun _ => ⟨by omega, hr.1, hr.2, fun c => by omega, fun _ => ⟨fun c => ?_, fun c => ?_⟩⟩⟩
      · rw [show hdF t p k b = b from if_neg (by omega)] at hg
        exact hg _ _ hR2 he2
      · rw [show hdF t p k b = ((k + 1 : Nat) : Int) from if_pos c] at hg
        exact hg _ _ hR2 he2
    · have hM : hdM t p = (min (t 123 p) (99 - t 124 p)).toNat := rfl
      refine sb_X7_hide_42 n t1 Q _ _ _ _ _ _ w hR ?_
      rw [wr_id (x := t 124 p + ((hdM t p + 1 : Nat) : Int)) (by omega) (by omega), Int.toNat_natCast, he]
      exact ⟨fun _ => ⟨by omega, hq⟩, fun _ => ⟨fun _ => ⟨by omega, hq⟩, fun e => by omega⟩⟩
  refine sb_X7_hide_42 n t Q _ _ _ _ _ _ _ h.2.1 ⟨fun e => by omega, fun _ => ?_⟩
  have et : upS (upS t 123 p (t 123 p)) 124 p (t 124 p) = t := by
    funext i j
    simp only [upS]
    by_cases c1 : i = 123 <;> by_cases c2 : i = 124 <;> by_cases c3 : j = p <;> simp_all
  rw [Int.add_zero, Int.sub_zero, wr_id (x := t 124 p) (by omega) (by omega), wr_id (x := t 123 p) (by omega) (by omega), Int.toNat_natCast, et]
  refine ⟨fun e => by omega, fun _ => ⟨by omega, (h.rg p hp).2.1, (h.rg p hp).2.2.2.1, fun _ => ?_, fun c => by omega⟩⟩
  have e0 : wlW (vw 121 t) p = hdW t p 0 := by
    unfold hdW
    rw [Int.sub_zero, Int.add_zero]
    rfl
  rw [e0]
  exact loop _ t h.2.1 et
theorem op_hide (n : Nat) (s t : Nat → Nat → Int) (h : REL s t) (a0 : Int) : G 2 120 90 0 [(3, 2), (1, a0), (0, 0), (0, 0), (0, 0), (0, 0), (0, 0), (0, 0), (0, 0), (0, 0), (0, 0)] [] (n, s) (fun r s1 => G 120 140 186 0 [(3, 120), (1, a0), (0, 0), (0, 0), (0, 0), (0, 0), (0, 0), (0, 0)] [] (n, t) (Post n r s1)) := by
  obtain ⟨hn1, hn2, hn3, hn4⟩ := h.np
  have hw : wr (t 120 0 - 1) = t 120 0 - 1 := wr_id (by omega) (by omega)
  have h1 : ∀ z : Int, 0 ≤ z → z < t 120 0 → ∃ p : Nat, z = p ∧ (p : Int) < t 120 0 := fun z h1 h2 => ⟨z.toNat, by omega, by omega⟩
  refine sb_X6_hide_0 n s _ a0 h.1 ⟨fun c => ?_, fun c => ⟨fun d => ?_, fun d => ?_⟩⟩
  · refine sb_X7_hide_0 n t _ a0 h.2.1 ⟨fun c => post_ref h 1 (by decide), fun e => by omega⟩
  · refine sb_X7_hide_0 n t _ a0 h.2.1 ⟨fun c => by omega, fun e => ⟨fun f => post_ref h 1 (by decide), fun f => by omega⟩⟩
  · obtain ⟨p, rfl, hp⟩ := h1 a0 c (by omega)
    obtain ⟨⟨g1, g2⟩, _, g3, g4, g5, g6⟩ := h.rg p hp
    rw [Int.toNat_natCast]
    refine ⟨by omega, g1, g3, g2, ?_⟩
    refine cl_hide n s _ h.up p hp _ ?_
    refine sb_X7_hide_0 n t _ _ h.2.1 ⟨fun c => by omega, fun e => ⟨fun f => by omega, fun f => ⟨by omega, ?_⟩⟩⟩
    rw [Int.toNat_natCast]
    exact rl_hide n s _ h.up p hp _ (post_same h rfl)


/-! WHO GAVE -/
theorem sb_X6_holdsFit_0 (n : Nat) (s : Nat → Nat → Int) (Q : List Vl → Sto → Prop) (a0 : Int) (a1 : Int) (hR : refs s)
    (h : (0 ≤ a0 ∧ a0 < 6) ∧ ((rgP (vw 4 s) a0.toNat) ∧ ((0 ≤ a1 ∧ a1 ≤ 2000) ∧ (G 2 120 43 0 [(3, 117), (1, s 8 a0.toNat), (1, bnV (vw 4 s) a0.toNat a1), (0, 0)] [] (n, s) (fun r s1 => G 2 120 91 25 [(3, 2), (1, a0), (1, a1)] (r ++ []) s1 Q))))) :
    G 2 120 91 0 [(3, 2), (1, a0), (1, a1)] [] (n, s) Q := by
  refine G_go rfl rfl ?_
  refine G_rf rfl rfl (by decide) (hR 2 6 117 rfl) ?_
  refine G_go rfl rfl ?_
  refine G_rf rfl rfl (by decide) (hR 2 0 3 rfl) ?_
  refine G_rf rfl rfl (by decide) (hR 3 4 8 rfl) ?_
  refine G_go rfl rfl ?_
  obtain ⟨g1, h⟩ := h
  refine G_ir (n := 6) rfl rfl (by decide) (by decide) g1 ?_
  refine G_go rfl rfl ?_
  refine G_rf rfl rfl (by decide) (hR 2 0 3 rfl) ?_
  refine G_go rfl rfl ?_
  refine G_go rfl rfl ?_
  refine G_call rfl rfl ?_
  obtain ⟨g2, h⟩ := h
  obtain ⟨g3, h⟩ := h
  refine c_X5_burnsHolding_3 n _ _ a0 a1 hR g1 g2 g3 ?_
  exact G_call rfl rfl h
theorem sb_X6_whoGave_0 (n : Nat) (s : Nat → Nat → Int) (Q : List Vl → Sto → Prop) (a0 : Int) (hR : refs s)
    (h : (a0 < 0 → Q [(1, (-1))] (n, upS s 119 1 (wr ((s 119 1) + 1)))) ∧ (0 ≤ a0 → (s 3 9 ≤ a0 → Q [(1, (-1))] (n, upS s 119 1 (wr ((s 119 1) + 1)))) ∧ (a0 < s 3 9 → G 2 120 133 21 [(3, 2), (1, a0), (1, 0), (1, 0), (1, 0)] [] (n, s) Q))) :
    G 2 120 133 0 [(3, 2), (1, a0), (0, 0), (0, 0), (0, 0)] [] (n, s) Q := by
  refine G_go rfl rfl ?_
  refine G_go rfl rfl ?_
  refine G_call rfl rfl ?_
  refine G_go rfl rfl ?_
  refine G_rf rfl rfl (by decide) (hR 2 0 3 rfl) ?_
  refine G_go rfl rfl ?_
  refine G_call rfl rfl ?_
  refine G_go rfl rfl ?_
  refine G_lt rfl rfl (fun c1 => ?_) (fun c1 => ?_)
  · have h := h.1 c1
    refine G_go rfl rfl ?_
    refine G_ret rfl rfl ?_
    refine G_brT rfl rfl rfl ?_
    refine G_go rfl rfl ?_
    refine G_ret rfl rfl ?_
    refine G_go rfl rfl ?_
    show G 2 120 133 6 [(3, 2), (1, a0), (1, (-1)), (0, 0), (0, 0)] [] (n, s) Q
    refine G_go rfl rfl ?_
    refine G_brF rfl rfl rfl ?_
    refine G_go rfl rfl ?_
    refine G_go rfl rfl ?_
    refine G_call rfl rfl ?_
    refine G_go rfl rfl ?_
    refine G_go rfl rfl ?_
    refine G_go rfl rfl ?_
    refine G_go rfl rfl ?_
    refine G_brF rfl rfl rfl ?_
    refine G_go rfl rfl ?_
    refine G_go rfl rfl ?_
    refine G_rf rfl rfl (by decide) (hR 2 7 119 rfl) ?_
    refine G_go rfl rfl ?_
    refine G_brF rfl rfl rfl ?_
    refine G_go rfl rfl ?_
    refine G_rf rfl rfl (by decide) (hR 2 7 119 rfl) ?_
    refine G_go rfl rfl ?_
    refine G_go rfl rfl ?_
    refine G_ir (n := 7) rfl rfl (by decide) (by decide) (by decide) ?_
    refine G_go rfl rfl ?_
    refine G_go rfl rfl ?_
    refine G_iw (n := 7) rfl rfl (by decide) (by decide) (by decide) ?_
    have hR := refs_up (a := 119) (k := 1) (x := wr ((s 119 1) + 1)) hR rfl
    refine G_go rfl rfl ?_
    refine G_ret rfl rfl ?_
    exact G_ret rfl rfl h
  · have h := h.2 c1
    refine G_go rfl rfl ?_
    refine G_go rfl rfl ?_
    refine G_rd rfl rfl (by decide) ?_
    refine G_ge rfl rfl (fun c2 => ?_) (fun c2 => ?_)
    · have h := h.1 c2
      refine G_go rfl rfl ?_
      refine G_ret rfl rfl ?_
      refine G_brT rfl rfl rfl ?_
      refine G_go rfl rfl ?_
      refine G_ret rfl rfl ?_
      refine G_go rfl rfl ?_
      show G 2 120 133 6 [(3, 2), (1, a0), (1, (-1)), (0, 0), (0, 0)] [] (n, s) Q
      refine G_go rfl rfl ?_
      refine G_brF rfl rfl rfl ?_
      refine G_go rfl rfl ?_
      refine G_go rfl rfl ?_
      refine G_call rfl rfl ?_
      refine G_go rfl rfl ?_
      refine G_go rfl rfl ?_
      refine G_go rfl rfl ?_
      refine G_go rfl rfl ?_
      refine G_brF rfl rfl rfl ?_
      refine G_go rfl rfl ?_
      refine G_go rfl rfl ?_
      refine G_rf rfl rfl (by decide) (hR 2 7 119 rfl) ?_
      refine G_go rfl rfl ?_
      refine G_brF rfl rfl rfl ?_
      refine G_go rfl rfl ?_
      refine G_rf rfl rfl (by decide) (hR 2 7 119 rfl) ?_
      refine G_go rfl rfl ?_
      refine G_go rfl rfl ?_
      refine G_ir (n := 7) rfl rfl (by decide) (by decide) (by decide) ?_
      refine G_go rfl rfl ?_
      refine G_go rfl rfl ?_
      refine G_iw (n := 7) rfl rfl (by decide) (by decide) (by decide) ?_
      have hR := refs_up (a := 119) (k := 1) (x := wr ((s 119 1) + 1)) hR rfl
      refine G_go rfl rfl ?_
      refine G_ret rfl rfl ?_
      exact G_ret rfl rfl h
    · have h := h.2 c2
      refine G_go rfl rfl ?_
      refine G_go rfl rfl ?_
      refine G_ret rfl rfl ?_
      refine G_brF rfl rfl rfl ?_
      refine G_go rfl rfl ?_
      refine G_go rfl rfl ?_
      refine G_ret rfl rfl ?_
      refine G_go rfl rfl ?_
      show G 2 120 133 6 [(3, 2), (1, a0), (1, 0), (0, 0), (0, 0)] [] (n, s) Q
      refine G_go rfl rfl ?_
      refine G_brT rfl rfl rfl ?_
      refine G_go rfl rfl ?_
      refine G_go rfl rfl ?_
      show G 2 120 133 18 [(3, 2), (1, a0), (1, 0), (1, 0), (0, 0)] [] (n, s) Q
      refine G_go rfl rfl ?_
      refine G_go rfl rfl ?_
      show G 2 120 133 21 [(3, 2), (1, a0), (1, 0), (1, 0), (1, 0)] [] (n, s) Q
      exact h
theorem sb_X6_whoGave_21 (n : Nat) (s : Nat → Nat → Int) (Q : List Vl → Sto → Prop) (x1 : Int) (x2 : Int) (x3 : Int) (x4 : Int) (hR : refs s)
    (h : (s 3 9 ≤ x4 → Q [(1, x3)] (n, s)) ∧ (x4 < s 3 9 → (x4 = x1 → G 2 120 133 21 [(3, 2), (1, x1), (1, x2), (1, x3), (1, wr (x4 + 1))] [] (n, s) Q) ∧ (x4 ≠ x1 → (0 ≤ x4 ∧ x4 < 6) ∧ ((0 ≤ x1 ∧ x1 < 6) ∧ (G 2 120 91 0 [(3, 2), (1, x1), (1, min 999 (wr ((s 6 x1.toNat) + (s 6 x4.toNat))))] [] (n, s) (fun r s1 => G 2 120 133 62 [(3, 2), (1, x1), (1, x2), (1, x3), (1, x4)] (r ++ []) s1 Q)))))) :
    G 2 120 133 21 [(3, 2), (1, x1), (1, x2), (1, x3), (1, x4)] [] (n, s) Q := by
  refine G_go rfl rfl ?_
  refine G_go rfl rfl ?_
  refine G_rf rfl rfl (by decide) (hR 2 0 3 rfl) ?_
  refine G_rd rfl rfl (by decide) ?_
  refine G_ge rfl rfl (fun c1 => ?_) (fun c1 => ?_)
  · have h := h.1 c1
    refine G_go rfl rfl ?_
    exact G_ret rfl rfl h
  · have h := h.2 c1
    refine G_go rfl rfl ?_
    refine G_go rfl rfl ?_
    refine G_eq rfl rfl (fun c2 => ?_) (fun c2 => ?_)
    · have h := h.1 c2
      refine G_go rfl rfl ?_
      refine G_go rfl rfl ?_
      exact h
    · have h := h.2 c2
      refine G_go rfl rfl ?_
      refine G_go rfl rfl ?_
      refine G_go rfl rfl ?_
      refine G_rf rfl rfl (by decide) (hR 2 0 3 rfl) ?_
      refine G_go rfl rfl ?_
      refine G_go rfl rfl ?_
      refine G_rf rfl rfl (by decide) (hR 2 0 3 rfl) ?_
      refine G_rf rfl rfl (by decide) (hR 3 2 6 rfl) ?_
      refine G_go rfl rfl ?_
      obtain ⟨g3, h⟩ := h
      refine G_ir (n := 6) rfl rfl (by decide) (by decide) g3 ?_
      refine G_call rfl rfl ?_
      refine G_go rfl rfl ?_
      refine G_go rfl rfl ?_
      refine G_rf rfl rfl (by decide) (hR 3 2 6 rfl) ?_
      refine G_go rfl rfl ?_
      obtain ⟨g4, h⟩ := h
      refine G_ir (n := 6) rfl rfl (by decide) (by decide) g4 ?_
      refine G_go rfl rfl ?_
      refine G_go rfl rfl ?_
      refine G_min rfl rfl ?_
      refine G_ret rfl rfl ?_
      exact G_call rfl rfl h
theorem sb_X7_whoGave_0 (n : Nat) (s : Nat → Nat → Int) (Q : List Vl → Sto → Prop) (a0 : Int) (hR : refs s)
    (h : (a0 < 0 → Q [(1, (-1))] (n, upS (upS s 120 10 0) 129 1 (wr ((s 129 1) + 1)))) ∧ (a0 ≥ 0 → (a0 > wr ((s 120 0) - 1) → Q [(1, (-1))] (n, upS (upS s 120 10 0) 129 1 (wr ((s 129 1) + 1)))) ∧ (a0 ≤ wr ((s 120 0) - 1) → (0 ≤ a0 ∧ a0 < 6) ∧ (G 120 140 224 31 [(3, 120), (1, a0), (1, s 123 a0.toNat), (1, 0), (1, 0)] [] (n, upS s 120 10 0) Q)))) :
    G 120 140 224 0 [(3, 120), (1, a0), (0, 0), (0, 0), (0, 0)] [] (n, s) Q := by
  refine G_go rfl rfl ?_
  refine G_go rfl rfl ?_
  refine G_wr rfl rfl (by decide) ?_
  have hR := refs_up (a := 120) (k := 10) (x := 0) hR rfl
  refine G_go rfl rfl ?_
  refine G_go rfl rfl ?_
  refine G_call rfl rfl ?_
  refine G_go rfl rfl ?_
  refine G_go rfl rfl ?_
  refine G_go rfl rfl ?_
  refine G_go rfl rfl ?_
  refine G_rd rfl rfl (by decide) ?_
  refine G_go rfl rfl ?_
  refine G_go rfl rfl ?_
  refine G_go rfl rfl ?_
  refine G_call rfl rfl ?_
  refine G_go rfl rfl ?_
  refine G_go rfl rfl ?_
  refine G_go rfl rfl ?_
  refine G_lt rfl rfl (fun c1 => ?_) (fun c1 => ?_)
  · have c1 := xl_lt c1
    have h := h.1 c1
    refine G_go rfl rfl ?_
    refine G_ret rfl rfl ?_
    refine G_ret rfl rfl ?_
    refine G_brF rfl rfl rfl ?_
    refine G_go rfl rfl ?_
    refine G_go rfl rfl ?_
    refine G_call rfl rfl ?_
    refine G_go rfl rfl ?_
    refine G_rf rfl rfl (by decide) (hR 120 11 129 rfl) ?_
    refine G_go rfl rfl ?_
    refine G_go rfl rfl ?_
    refine G_go rfl rfl ?_
    refine G_ir (n := 7) rfl rfl (by decide) (by decide) (by decide) ?_
    refine G_go rfl rfl ?_
    refine G_go rfl rfl ?_
    refine G_iw (n := 7) rfl rfl (by decide) (by decide) (by decide) ?_
    have hR := refs_up (a := 129) (k := 1) (x := wr ((s 129 1) + 1)) hR rfl
    refine G_go rfl rfl ?_
    refine G_ret rfl rfl ?_
    exact G_ret rfl rfl h
  · have c1 := xl_ge c1
    have h := h.2 c1
    refine G_go rfl rfl ?_
    refine G_go rfl rfl ?_
    refine G_go rfl rfl ?_
    refine G_gt rfl rfl (fun c2 => ?_) (fun c2 => ?_)
    · have c2 := xl_gt c2
      have h := h.1 c2
      refine G_go rfl rfl ?_
      refine G_ret rfl rfl ?_
      refine G_ret rfl rfl ?_
      refine G_brF rfl rfl rfl ?_
      refine G_go rfl rfl ?_
      refine G_go rfl rfl ?_
      refine G_call rfl rfl ?_
      refine G_go rfl rfl ?_
      refine G_rf rfl rfl (by decide) (hR 120 11 129 rfl) ?_
      refine G_go rfl rfl ?_
      refine G_go rfl rfl ?_
      refine G_go rfl rfl ?_
      refine G_ir (n := 7) rfl rfl (by decide) (by decide) (by decide) ?_
      refine G_go rfl rfl ?_
      refine G_go rfl rfl ?_
      refine G_iw (n := 7) rfl rfl (by decide) (by decide) (by decide) ?_
      have hR := refs_up (a := 129) (k := 1) (x := wr ((s 129 1) + 1)) hR rfl
      refine G_go rfl rfl ?_
      refine G_ret rfl rfl ?_
      exact G_ret rfl rfl h
    · have c2 := xl_le c2
      have h := h.2 c2
      refine G_go rfl rfl ?_
      refine G_go rfl rfl ?_
      refine G_ret rfl rfl ?_
      refine G_ret rfl rfl ?_
      refine G_brT rfl rfl rfl ?_
      refine G_go rfl rfl ?_
      refine G_rf rfl rfl (by decide) (hR 120 3 123 rfl) ?_
      refine G_go rfl rfl ?_
      obtain ⟨g3, h⟩ := h
      refine G_ir (n := 6) rfl rfl (by decide) (by decide) g3 ?_
      refine G_go rfl rfl ?_
      show G 120 140 224 26 [(3, 120), (1, a0), (1, s 123 a0.toNat), (0, 0), (0, 0)] [] (n, upS s 120 10 0) Q
      refine G_go rfl rfl ?_
      refine G_go rfl rfl ?_
      show G 120 140 224 28 [(3, 120), (1, a0), (1, s 123 a0.toNat), (1, 0), (0, 0)] [] (n, upS s 120 10 0) Q
      refine G_go rfl rfl ?_
      refine G_go rfl rfl ?_
      show G 120 140 224 31 [(3, 120), (1, a0), (1, s 123 a0.toNat), (1, 0), (1, 0)] [] (n, upS s 120 10 0) Q
      exact h
theorem sb_X7_whoGave_31 (n : Nat) (s : Nat → Nat → Int) (Q : List Vl → Sto → Prop) (x1 : Int) (x2 : Int) (x3 : Int) (x4 : Int) (hR : refs s)
    (h : (s 120 0 ≤ x4 → Q [(1, x3)] (n, s)) ∧ (x4 < s 120 0 → (x4 = x1 → G 120 140 224 31 [(3, 120), (1, x1), (1, x2), (1, x3), (1, wr (x4 + 1))] [] (n, s) Q) ∧ (x4 ≠ x1 → (0 ≤ x4 ∧ x4 < 6) ∧ ((0 ≤ x1 ∧ x1 < 6) ∧ (G 120 140 191 0 [(3, 120), (1, x1), (0, 0), (0, 0), (0, 0), (0, 0)] [] (n, upS s 123 x1.toNat (min 999 (wr (x2 + (s 123 x4.toNat))))) (fun r s1 => G 120 140 224 73 [(3, 120), (1, x1), (1, x2), (1, x3), (1, x4)] (r ++ [(1, x3)]) s1 Q)))))) :
    G 120 140 224 31 [(3, 120), (1, x1), (1, x2), (1, x3), (1, x4)] [] (n, s) Q := by
  refine G_go rfl rfl ?_
  refine G_go rfl rfl ?_
  refine G_rd rfl rfl (by decide) ?_
  refine G_ge rfl rfl (fun c1 => ?_) (fun c1 => ?_)
  · have h := h.1 c1
    refine G_go rfl rfl ?_
    exact G_ret rfl rfl h
  · have h := h.2 c1
    refine G_go rfl rfl ?_
    refine G_go rfl rfl ?_
    refine G_eq rfl rfl (fun c2 => ?_) (fun c2 => ?_)
    · have h := h.1 c2
      refine G_go rfl rfl ?_
      refine G_go rfl rfl ?_
      exact h
    · have h := h.2 c2
      refine G_go rfl rfl ?_
      refine G_rf rfl rfl (by decide) (hR 120 3 123 rfl) ?_
      refine G_go rfl rfl ?_
      refine G_go rfl rfl ?_
      refine G_go rfl rfl ?_
      refine G_go rfl rfl ?_
      refine G_rf rfl rfl (by decide) (hR 120 3 123 rfl) ?_
      refine G_go rfl rfl ?_
      obtain ⟨g3, h⟩ := h
      refine G_ir (n := 6) rfl rfl (by decide) (by decide) g3 ?_
      refine G_go rfl rfl ?_
      refine G_call rfl rfl ?_
      refine c_X7_least n _ _ 999 (wr (x2 + (s 123 x4.toNat))) hR ?_
      obtain ⟨g4, h⟩ := h
      refine G_iw (n := 6) rfl rfl (by decide) (by decide) g4 ?_
      have hR := refs_up (a := 123) (k := x1.toNat) (x := min 999 (wr (x2 + (s 123 x4.toNat)))) hR rfl
      refine G_go rfl rfl ?_
      refine G_go rfl rfl ?_
      refine G_go rfl rfl ?_
      exact G_call rfl rfl h
theorem sb_X7_whoGave_73 (n : Nat) (s : Nat → Nat → Int) (Q : List Vl → Sto → Prop) (x1 : Int) (x2 : Int) (x3 : Int) (x4 : Int) (r : Int) (hR : refs s)
    (h : (r = 0 → (0 ≤ x1 ∧ x1 < 6) ∧ (G 120 140 224 31 [(3, 120), (1, x1), (1, x2), (1, xor_ x3 0), (1, wr (x4 + 1))] [] (n, upS s 123 x1.toNat x2) Q)) ∧ (r ≠ 0 → (0 ≤ x1 ∧ x1 < 6) ∧ (G 120 140 224 31 [(3, 120), (1, x1), (1, x2), (1, xor_ x3 (xshl 1 x4)), (1, wr (x4 + 1))] [] (n, upS s 123 x1.toNat x2) Q))) :
    G 120 140 224 73 [(3, 120), (1, x1), (1, x2), (1, x3), (1, x4)] [(1, r), (1, x3)] (n, s) Q := by
  refine G_eq rfl rfl (fun c1 => ?_) (fun c1 => ?_)
  · have h := h.1 c1
    refine G_go rfl rfl ?_
    refine G_go rfl rfl ?_
    refine G_go rfl rfl ?_
    show G 120 140 224 86 [(3, 120), (1, x1), (1, x2), (1, xor_ x3 0), (1, x4)] [] (n, s) Q
    refine G_go rfl rfl ?_
    refine G_rf rfl rfl (by decide) (hR 120 3 123 rfl) ?_
    refine G_go rfl rfl ?_
    refine G_go rfl rfl ?_
    obtain ⟨g2, h⟩ := h
    refine G_iw (n := 6) rfl rfl (by decide) (by decide) g2 ?_
    have hR := refs_up (a := 123) (k := x1.toNat) (x := x2) hR rfl
    refine G_go rfl rfl ?_
    refine G_go rfl rfl ?_
    exact h
  · have h := h.2 c1
    refine G_go rfl rfl ?_
    refine G_go rfl rfl ?_
    refine G_go rfl rfl ?_
    refine G_go rfl rfl ?_
    refine G_go rfl rfl ?_
    refine G_go rfl rfl ?_
    show G 120 140 224 86 [(3, 120), (1, x1), (1, x2), (1, xor_ x3 (xshl 1 x4)), (1, x4)] [] (n, s) Q
    refine G_go rfl rfl ?_
    refine G_rf rfl rfl (by decide) (hR 120 3 123 rfl) ?_
    refine G_go rfl rfl ?_
    refine G_go rfl rfl ?_
    obtain ⟨g3, h⟩ := h
    refine G_iw (n := 6) rfl rfl (by decide) (by decide) g3 ?_
    have hR := refs_up (a := 123) (k := x1.toNat) (x := x2) hR rfl
    refine G_go rfl rfl ?_
    refine G_go rfl rfl ?_
    exact h
theorem sb_X6_whoGave_62 (n : Nat) (s : Nat → Nat → Int) (Q : List Vl → Sto → Prop) (x1 : Int) (x2 : Int) (x3 : Int) (x4 : Int) (r : Int) (hR : refs s)
    (h : (r = 0 → G 2 120 133 21 [(3, 2), (1, x1), (1, x2), (1, x3), (1, wr (x4 + 1))] [] (n, s) Q) ∧ (r ≠ 0 → G 2 120 133 21 [(3, 2), (1, x1), (1, x2), (1, xor_ x3 (xshl 1 x4)), (1, wr (x4 + 1))] [] (n, s) Q)) :
    G 2 120 133 62 [(3, 2), (1, x1), (1, x2), (1, x3), (1, x4)] [(1, r)] (n, s) Q := by
  refine G_eq rfl rfl (fun c1 => ?_) (fun c1 => ?_)
  · have h := h.1 c1
    refine G_go rfl rfl ?_
    refine G_go rfl rfl ?_
    exact h
  · have h := h.2 c1
    refine G_go rfl rfl ?_
    refine G_go rfl rfl ?_
    refine G_go rfl rfl ?_
    refine G_go rfl rfl ?_
    refine G_go rfl rfl ?_
    refine G_go rfl rfl ?_
    show G 2 120 133 72 [(3, 2), (1, x1), (1, x2), (1, xor_ x3 (xshl 1 x4)), (1, x4)] [] (n, s) Q
    refine G_go rfl rfl ?_
    refine G_go rfl rfl ?_
    exact h
theorem sb_X6_holdsFit_25 (n : Nat) (s : Nat → Nat → Int) (Q : List Vl → Sto → Prop) (x1 : Int) (x2 : Int) (r : Int) (hR : refs s)
    (h : (r = 0 ∨ r = 1) ∧ (Q [(1, r)] (n, s))) :
    G 2 120 91 25 [(3, 2), (1, x1), (1, x2)] [(1, r)] (n, s) Q := by
  obtain ⟨g1, h⟩ := h
  exact G_retZ rfl rfl g1 h
theorem rw_01 (r : Nat → Int) (c b : Int) : ∀ N, rwV r c b N = 0 ∨ rwV r c b N = 1
  | 0 => Or.inr rfl
  | N + 1 => by
    show rwF r c b N _ = 0 ∨ rwF r c b N _ = 1
    unfold rwF
    split
    · exact Or.inr rfl
    · exact Or.inl rfl
def hfV (t : Nat → Nat → Int) (p : Nat) (c : Int) : Int := rwV (t 139) (t 125 p) (bnV (vw 121 t) p c) (t 120 31).toNat
theorem c_holdsFit (n : Nat) (s t : Nat → Nat → Int) (h : REL s t) (Q : List Vl → Sto → Prop) (p : Nat) (hp : (p : Int) < t 120 0) (c : Int) (hc : 0 ≤ c ∧ c ≤ 2000) (hq : Q [(1, hfV t p c)] (n, s)) : G 2 120 91 0 [(3, 2), (1, (p : Int)), (1, c)] [] (n, s) Q := by
  obtain ⟨hn1, hn2, hn3, hn4⟩ := h.np
  obtain ⟨p1, p2, p3, p4, p5, p6⟩ := h.rg p hp
  have tp := h.t p hp
  have sp := h.s p hp
  have br := h.br p hp c hc
  refine sb_X6_holdsFit_0 n s Q p c h.1 ?_
  rw [Int.toNat_natCast, sp.2.2.2.2.1, h.bn p hp]
  refine ⟨by omega, p1, hc, ?_⟩
  refine c_X4_fits n s t h _ _ _ tp.2.2.2.2.1 ⟨by omega, by omega⟩ ?_
  exact sb_X6_holdsFit_25 n s Q _ _ _ h.1 ⟨rw_01 _ _ _ _, hq⟩
def wgF (t : Nat → Nat → Int) (p k : Nat) (x : Int) : Int := if k = p then x else if hfV t p (min 999 (t 123 p + t 123 k)) = 0 then xor_ x 0 else xor_ x (xshl 1 k)
theorem wgF_in {t : Nat → Nat → Int} {p : Nat} (k : Nat) (b : Int) (h : inI k b) : inI (k + 1) (wgF t p k b) := by
  unfold wgF
  repeat' split
  · exact h
  · exact xor_in _ _
  · exact xor_in _ _
theorem cl_wg (n : Nat) (s t : Nat → Nat → Int) (h : REL s t) (p : Nat) (hp : (p : Int) < t 120 0) (x2 : Int) (Q : List Vl → Sto → Prop) (hq : Q [(1, itr (wgF t p) 0 (t 120 0).toNat)] (n, s)) : G 2 120 133 21 [(3, 2), (1, (p : Int)), (1, x2), (1, 0), (1, 0)] [] (n, s) Q := by
  obtain ⟨hn1, hn2, hn3, hn4⟩ := h.np
  have tp := h.t p hp
  have sp := h.s p hp
  refine G_up (t 120 0).toNat (fun k b => G 2 120 133 21 [(3, 2), (1, (p : Int)), (1, x2), (1, b), (1, (k : Int))] [] (n, s) Q) (wgF t p) inI 0 (by unfold inI; omega) (fun k b _ hb => wgF_in k b hb) (fun k b hk hb hg => ?_) (fun _ => ?_)
  · have hk2 : (k : Int) < t 120 0 := by omega
    have tk := h.t k hk2
    have sk := h.s k hk2
    rw [← wr_s hk (by omega)] at hg
    refine sb_X6_whoGave_21 n s Q _ _ b k h.1 ⟨fun e => by omega, fun _ => ⟨fun c => ?_, fun c => ?_⟩⟩
    · rw [show wgF t p k b = b from if_pos (by omega)] at hg
      exact hg
    · rw [Int.toNat_natCast, Int.toNat_natCast, sp.2.2.1, sk.2.2.1, wr_id (x := t 123 p + t 123 k) (by omega) (by omega)]
      refine ⟨by omega, by omega, ?_⟩
      refine c_holdsFit n s t h _ p hp _ (by omega) ?_
      refine sb_X6_whoGave_62 n s Q _ _ b k _ h.1 ⟨fun d => ?_, fun d => ?_⟩
      · rw [show wgF t p k b = b by unfold wgF; rw [if_neg (by omega), if_pos d]; exact xor_0 hb] at hg
        exact hg
      · rw [show wgF t p k b = xor_ b (xshl 1 k) by unfold wgF; rw [if_neg (by omega), if_neg d]] at hg
        exact hg
  · exact sb_X6_whoGave_21 n s Q _ _ _ _ h.1 ⟨fun _ => hq, fun e => by omega⟩
theorem bnW_c {p : Nat} {s : Nat → Nat → Int} {x : Int} : bnW (vw 121 (upS s 123 p x)) p = bnV (vw 121 s) p x := by
  unfold bnW bnV vw upS
  simp
theorem upS_self {t : Nat → Nat → Int} {a p : Nat} : upS t a p (t a p) = t := by
  funext i j
  simp only [upS]
  by_cases c1 : i = a <;> by_cases c3 : j = p <;> simp_all
theorem rl_wg (n : Nat) (s t : Nat → Nat → Int) (h : REL s t) (p : Nat) (hp : (p : Int) < t 120 0) (Q : List Vl → Sto → Prop) (hq : Q [(1, itr (wgF t p) 0 (t 120 0).toNat)] (n, t)) : G 120 140 224 31 [(3, 120), (1, (p : Int)), (1, t 123 p), (1, 0), (1, 0)] [] (n, t) Q := by
  obtain ⟨hn1, hn2, hn3, hn4⟩ := h.np
  obtain ⟨r1, r2, r3⟩ := h.r
  obtain ⟨p1, p2, p3, p4, p5, p6⟩ := h.rg p hp
  have tp := h.t p hp
  refine G_up (t 120 0).toNat (fun k b => G 120 140 224 31 [(3, 120), (1, (p : Int)), (1, t 123 p), (1, b), (1, (k : Int))] [] (n, t) Q) (wgF t p) inI 0 (by unfold inI; omega) (fun k b _ hb => wgF_in k b hb) (fun k b hk hb hg => ?_) (fun _ => ?_)
  · have hk2 : (k : Int) < t 120 0 := by omega
    have tk := h.t k hk2
    rw [← wr_s hk (by omega)] at hg
    refine sb_X7_whoGave_31 n t Q _ _ b k h.2.1 ⟨fun e => by omega, fun _ => ⟨fun c => ?_, fun c => ?_⟩⟩
    · rw [show wgF t p k b = b from if_pos (by omega)] at hg
      exact hg
    · rw [Int.toNat_natCast, Int.toNat_natCast, wr_id (x := t 123 p + t 123 k) (by omega) (by omega)]
      refine ⟨by omega, by omega, ?_⟩
      have hR2 : refs (upS t 123 p (min 999 (t 123 p + t 123 k))) := refs_up h.2.1 rfl
      have e5 : upS t 123 p (min 999 (t 123 p + t 123 k)) 125 p = t 125 p := rfl
      have e3 : upS t 123 p (min 999 (t 123 p + t 123 k)) 123 p = min 999 (t 123 p + t 123 k) := by simp [upS]
      have e31 : upS t 123 p (min 999 (t 123 p + t 123 k)) 120 31 = t 120 31 := rfl
      have e139 : upS t 123 p (min 999 (t 123 p + t 123 k)) 139 = t 139 := rfl
      have eb : upS (upS t 123 p (min 999 (t 123 p + t 123 k))) 123 p (t 123 p) = t := by rw [upS_again, upS_self]
      refine c_X7_isRow n _ _ p (by omega) hR2 (rgP_c p2) (by rw [e3]; omega) (by rw [e5]; exact tp.2.2.2.2.1) (by rw [e31]; omega) ?_
      rw [bnW_c, e5, e31, e139]
      refine sb_X7_whoGave_73 n _ Q _ _ b k _ hR2 ?_
      rw [Int.toNat_natCast, eb]
      refine ⟨fun d => ⟨by omega, ?_⟩, fun d => ⟨by omega, ?_⟩⟩
      · have d : hfV t p (min 999 (t 123 p + t 123 k)) = 0 := d
        rw [show wgF t p k b = xor_ b 0 by unfold wgF; rw [if_neg (by omega), if_pos d]] at hg
        exact hg
      · have d : hfV t p (min 999 (t 123 p + t 123 k)) ≠ 0 := d
        rw [show wgF t p k b = xor_ b (xshl 1 k) by unfold wgF; rw [if_neg (by omega), if_neg d]] at hg
        exact hg
  · exact sb_X7_whoGave_31 n t Q _ _ _ _ h.2.1 ⟨fun _ => hq, fun e => by omega⟩
theorem op_whoGave (n : Nat) (s t : Nat → Nat → Int) (h : REL s t) (a0 : Int) : G 2 120 133 0 [(3, 2), (1, a0), (0, 0), (0, 0), (0, 0)] [] (n, s) (fun r s1 => G 120 140 224 0 [(3, 120), (1, a0), (0, 0), (0, 0), (0, 0)] [] (n, t) (Post n r s1)) := by
  obtain ⟨hn1, hn2, hn3, hn4⟩ := h.np
  have hw : wr (t 120 0 - 1) = t 120 0 - 1 := wr_id (by omega) (by omega)
  have h1 : ∀ z : Int, 0 ≤ z → z < t 120 0 → ∃ p : Nat, z = p ∧ (p : Int) < t 120 0 := fun z h1 h2 => ⟨z.toNat, by omega, by omega⟩
  refine sb_X6_whoGave_0 n s _ a0 h.1 ?_
  repeat' first | with_reducible refine And.intro ?_ ?_ | intro _
  all_goals first | omega | skip
  all_goals try (obtain ⟨p, rfl, hp⟩ := h1 a0 (by omega) (by omega); refine cl_wg n s _ h.up p hp _ _ ?_)
  all_goals refine sb_X7_whoGave_0 n t _ _ h.2.1 ?_
  all_goals repeat' first | with_reducible refine And.intro ?_ ?_ | intro _
  all_goals first | omega | exact post_ref h _ (by decide) | skip
  rw [Int.toNat_natCast]
  exact rl_wg n s _ h.up p hp _ (post_same h rfl)

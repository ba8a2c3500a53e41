theorem sb_X6_partOf_0 (n : Nat) (s : Nat → Nat → Int) (Q : List Vl → Sto → Prop) (a0 : Int) (a1 : Int) (a2 : Int) (hR : refs s)
    (h : G 2 120 79 9 [(2, a0), (0, 0), (2, a1), (0, 0), (1, a2), (2, a0), (0, 0), (2, a1), (0, 0), (1, 0), (0, 0), (0, 0)] [] (n, s) Q) :
    G 2 120 79 0 [(2, a0), (0, 0), (2, a1), (0, 0), (1, a2), (0, 0), (0, 0), (0, 0), (0, 0), (0, 0), (0, 0), (0, 0)] [] (n, s) Q := by
  refine G_go rfl rfl ?_
  refine G_go rfl rfl ?_
  refine G_go rfl rfl ?_
  refine G_go rfl rfl ?_
  refine G_go rfl rfl ?_
  refine G_go rfl rfl ?_
  show G 2 120 79 9 [(2, a0), (0, 0), (2, a1), (0, 0), (1, a2), (2, a0), (0, 0), (2, a1), (0, 0), (1, 0), (0, 0), (0, 0)] [] (n, s) Q
  exact h
theorem sb_X6_partOf_9 (n : Nat) (s : Nat → Nat → Int) (Q : List Vl → Sto → Prop) (x0 : Int) (x2 : Int) (x4 : Int) (x5 : Int) (x7 : Int) (x9 : Int) (w10 : Vl) (hR : refs s)
    (h : (1000 ≤ x9 → (x5 ≠ 0 → (x4 ≠ 0 → Q [(2, xldiv x2 x5)] (n, s)) ∧ (x4 = 0 → Q [(2, xldiv x0 x5)] (n, s))) ∧ (x5 = 0 → Q [(2, x4)] (n, s))) ∧ (x9 < 1000 → (x7 = 0 → (x5 ≠ 0 → (x4 ≠ 0 → Q [(2, xldiv x2 x5)] (n, s)) ∧ (x4 = 0 → Q [(2, xldiv x0 x5)] (n, s))) ∧ (x5 = 0 → Q [(2, x4)] (n, s))) ∧ (x7 ≠ 0 → G 2 120 79 9 [(2, x0), (0, 0), (2, x2), (0, 0), (1, x4), (2, x7), (0, 0), (2, xlrem x5 x7), (0, 0), (1, wr (x9 + 1)), (2, xlrem x5 x7), (0, 0)] [] (n, s) Q))) :
    G 2 120 79 9 [(2, x0), (0, 0), (2, x2), (0, 0), (1, x4), (2, x5), (0, 0), (2, x7), (0, 0), (1, x9), w10, (0, 0)] [] (n, s) Q := by
  refine G_go rfl rfl ?_
  refine G_go rfl rfl ?_
  refine G_ge rfl rfl (fun c1 => ?_) (fun c1 => ?_)
  · have h := h.1 c1
    refine G_go rfl rfl ?_
    refine G_go rfl rfl ?_
    refine G_go rfl rfl ?_
    refine G_ne rfl rfl (fun c2 => ?_) (fun c2 => ?_)
    · have c2 := xl_ne c2
      have h := h.1 c2
      refine G_go rfl rfl ?_
      refine G_ne rfl rfl (fun c3 => ?_) (fun c3 => ?_)
      · have h := h.1 c3
        refine G_go rfl rfl ?_
        refine G_go rfl rfl ?_
        refine G_ldiv rfl c2 ?_
        exact G_ret rfl rfl h
      · have h := h.2 c3
        refine G_go rfl rfl ?_
        refine G_go rfl rfl ?_
        refine G_ldiv rfl c2 ?_
        refine G_go rfl rfl ?_
        exact G_ret rfl rfl h
    · have c2 := xl_eq c2
      have h := h.2 c2
      refine G_go rfl rfl ?_
      refine G_go rfl rfl ?_
      exact G_ret rfl rfl h
  · have h := h.2 c1
    refine G_go rfl rfl ?_
    refine G_go rfl rfl ?_
    refine G_go rfl rfl ?_
    refine G_eq rfl rfl (fun c4 => ?_) (fun c4 => ?_)
    · have c4 := xl_eq c4
      have h := h.1 c4
      refine G_go rfl rfl ?_
      refine G_go rfl rfl ?_
      refine G_go rfl rfl ?_
      refine G_ne rfl rfl (fun c5 => ?_) (fun c5 => ?_)
      · have c5 := xl_ne c5
        have h := h.1 c5
        refine G_go rfl rfl ?_
        refine G_ne rfl rfl (fun c6 => ?_) (fun c6 => ?_)
        · have h := h.1 c6
          refine G_go rfl rfl ?_
          refine G_go rfl rfl ?_
          refine G_ldiv rfl c5 ?_
          exact G_ret rfl rfl h
        · have h := h.2 c6
          refine G_go rfl rfl ?_
          refine G_go rfl rfl ?_
          refine G_ldiv rfl c5 ?_
          refine G_go rfl rfl ?_
          exact G_ret rfl rfl h
      · have c5 := xl_eq c5
        have h := h.2 c5
        refine G_go rfl rfl ?_
        refine G_go rfl rfl ?_
        exact G_ret rfl rfl h
    · have c4 := xl_ne c4
      have h := h.2 c4
      refine G_go rfl rfl ?_
      refine G_go rfl rfl ?_
      refine G_lrem rfl c4 ?_
      refine G_go rfl rfl ?_
      refine G_go rfl rfl ?_
      refine G_go rfl rfl ?_
      refine G_go rfl rfl ?_
      refine G_go rfl rfl ?_
      refine G_go rfl rfl ?_
      refine G_go rfl rfl ?_
      exact h
theorem sb_X7_divisor_0 (n : Nat) (s : Nat → Nat → Int) (Q : List Vl → Sto → Prop) (a0 : Int) (a1 : Int) (hR : refs s)
    (h : G 120 140 173 6 [(2, a0), (0, 0), (2, a1), (0, 0), (2, a0), (0, 0), (2, a1), (0, 0), (0, 0), (0, 0)] [] (n, s) Q) :
    G 120 140 173 0 [(2, a0), (0, 0), (2, a1), (0, 0), (0, 0), (0, 0), (0, 0), (0, 0), (0, 0), (0, 0)] [] (n, s) Q := by
  refine G_go rfl rfl ?_
  refine G_go rfl rfl ?_
  refine G_go rfl rfl ?_
  refine G_go rfl rfl ?_
  exact h
theorem sb_X7_divisor_6 (n : Nat) (s : Nat → Nat → Int) (Q : List Vl → Sto → Prop) (x0 : Int) (x2 : Int) (x4 : Int) (x6 : Int) (w8 : Vl) (hR : refs s)
    (h : (x6 = 0 → Q [(2, x4)] (n, s)) ∧ (x6 ≠ 0 → G 120 140 173 6 [(2, x0), (0, 0), (2, x2), (0, 0), (2, x6), (0, 0), (2, xlrem x4 x6), (0, 0), (2, xlrem x4 x6), (0, 0)] [] (n, s) Q)) :
    G 120 140 173 6 [(2, x0), (0, 0), (2, x2), (0, 0), (2, x4), (0, 0), (2, x6), (0, 0), w8, (0, 0)] [] (n, s) Q := by
  refine G_go rfl rfl ?_
  refine G_go rfl rfl ?_
  refine G_go rfl rfl ?_
  refine G_eq rfl rfl (fun c1 => ?_) (fun c1 => ?_)
  · have c1 := xl_eq c1
    have h := h.1 c1
    refine G_go rfl rfl ?_
    exact G_ret rfl rfl h
  · have c1 := xl_ne c1
    have h := h.2 c1
    refine G_go rfl rfl ?_
    refine G_go rfl rfl ?_
    refine G_lrem rfl c1 ?_
    refine G_go rfl rfl ?_
    refine G_go rfl rfl ?_
    refine G_go rfl rfl ?_
    refine G_go rfl rfl ?_
    refine G_go rfl rfl ?_
    refine G_go rfl rfl ?_
    exact h
theorem sb_X7_partOf_0 (n : Nat) (s : Nat → Nat → Int) (Q : List Vl → Sto → Prop) (a0 : Int) (a1 : Int) (a2 : Int) (hR : refs s)
    (h : (a0 ≠ 0 → G 120 140 173 0 [(2, a0), (0, 0), (2, a1), (0, 0), (0, 0), (0, 0), (0, 0), (0, 0), (0, 0), (0, 0)] [] (n, s) (fun r s1 => G 120 140 175 15 [(2, a0), (0, 0), (2, a1), (0, 0), (1, a2), (0, 0), (0, 0)] (r ++ []) s1 Q)) ∧ (a0 = 0 → Q [(2, a2)] (n, s))) :
    G 120 140 175 0 [(2, a0), (0, 0), (2, a1), (0, 0), (1, a2), (0, 0), (0, 0)] [] (n, s) Q := by
  refine G_go rfl rfl ?_
  refine G_go rfl rfl ?_
  refine G_go rfl rfl ?_
  refine G_ne rfl rfl (fun c1 => ?_) (fun c1 => ?_)
  · have c1 := xl_ne c1
    have h := h.1 c1
    refine G_go rfl rfl ?_
    refine G_go rfl rfl ?_
    exact G_call rfl rfl h
  · have c1 := xl_eq c1
    have h := h.2 c1
    refine G_go rfl rfl ?_
    refine G_go rfl rfl ?_
    exact G_ret rfl rfl h
theorem sb_X7_partOf_15 (n : Nat) (s : Nat → Nat → Int) (Q : List Vl → Sto → Prop) (x0 : Int) (x2 : Int) (x4 : Int) (y0 : Int) (hR : refs s)
    (h : (x4 ≠ 0 → (y0 ≠ 0) ∧ (Q [(2, xldiv x2 y0)] (n, s))) ∧ (x4 = 0 → (y0 ≠ 0) ∧ (Q [(2, xldiv x0 y0)] (n, s)))) :
    G 120 140 175 15 [(2, x0), (0, 0), (2, x2), (0, 0), (1, x4), (0, 0), (0, 0)] [(2, y0)] (n, s) Q := by
  refine G_go rfl rfl ?_
  refine G_go rfl rfl ?_
  refine G_ne rfl rfl (fun c1 => ?_) (fun c1 => ?_)
  · have h := h.1 c1
    refine G_go rfl rfl ?_
    refine G_go rfl rfl ?_
    obtain ⟨g2, h⟩ := h
    refine G_ldiv rfl g2 ?_
    exact G_ret rfl rfl h
  · have h := h.2 c1
    refine G_go rfl rfl ?_
    refine G_go rfl rfl ?_
    obtain ⟨g3, h⟩ := h
    refine G_ldiv rfl g3 ?_
    refine G_go rfl rfl ?_
    exact G_ret rfl rfl h
theorem sb_X7_allWealth_0 (n : Nat) (s : Nat → Nat → Int) (Q : List Vl → Sto → Prop) (hR : refs s)
    (h : G 120 140 153 4 [(3, 120), (1, 0), (1, 0)] [] (n, s) Q) :
    G 120 140 153 0 [(3, 120), (0, 0), (0, 0)] [] (n, s) Q := by
  refine G_go rfl rfl ?_
  refine G_go rfl rfl ?_
  show G 120 140 153 2 [(3, 120), (1, 0), (0, 0)] [] (n, s) Q
  refine G_go rfl rfl ?_
  refine G_go rfl rfl ?_
  show G 120 140 153 4 [(3, 120), (1, 0), (1, 0)] [] (n, s) Q
  exact h
theorem sb_X7_allWealth_4 (n : Nat) (s : Nat → Nat → Int) (Q : List Vl → Sto → Prop) (x1 : Int) (x2 : Int) (hR : refs s)
    (h : (s 120 0 ≤ x2 → Q [(1, x1)] (n, s)) ∧ (x2 < s 120 0 → (0 ≤ x2 ∧ x2 < 6) ∧ ((rgP (vw 121 s) x2.toNat) ∧ ((0 ≤ vw 121 s 2 x2.toNat ∧ vw 121 s 2 x2.toNat ≤ 2000) ∧ (G 120 140 153 4 [(3, 120), (1, wr (x1 + (wlW (vw 121 s) x2.toNat))), (1, wr (x2 + 1))] [] (n, s) Q))))) :
    G 120 140 153 4 [(3, 120), (1, x1), (1, x2)] [] (n, s) Q := by
  refine G_go rfl rfl ?_
  refine G_go rfl rfl ?_
  refine G_rd rfl rfl (by decide) ?_
  refine G_ge rfl rfl (fun c1 => ?_) (fun c1 => ?_)
  · have h := h.1 c1
    refine G_go rfl rfl ?_
    exact G_ret rfl rfl h
  · have h := h.2 c1
    refine G_go rfl rfl ?_
    refine G_go rfl rfl ?_
    refine G_go rfl rfl ?_
    refine G_call rfl rfl ?_
    obtain ⟨g2, h⟩ := h
    obtain ⟨g3, h⟩ := h
    obtain ⟨g4, h⟩ := h
    refine c_X7_wealthOf n _ _ x2 hR g2 g3 g4 ?_
    refine G_go rfl rfl ?_
    refine G_go rfl rfl ?_
    show G 120 140 153 20 [(3, 120), (1, wr (x1 + (wlW (vw 121 s) x2.toNat))), (1, x2)] [] (n, s) Q
    refine G_go rfl rfl ?_
    refine G_go rfl rfl ?_
    exact h
theorem sb_X6_mean_0 (n : Nat) (s : Nat → Nat → Int) (Q : List Vl → Sto → Prop) (a0 : Int) (hR : refs s)
    (h : (a0 < 0 → Q [(2, wl (4000000000000000000 - (-2)))] (n, upS s 119 2 (wr ((s 119 2) + 1)))) ∧ (0 ≤ a0 → (a0 ≤ 1 → G 2 120 110 26 [(3, 2), (1, a0), (1, 0), (2, 0), (0, 0), (1, 0)] [] (n, s) Q) ∧ (1 < a0 → Q [(2, wl (4000000000000000000 - (-2)))] (n, upS s 119 2 (wr ((s 119 2) + 1)))))) :
    G 2 120 110 0 [(3, 2), (1, a0), (0, 0), (0, 0), (0, 0), (0, 0)] [] (n, s) Q := by
  refine G_go rfl rfl ?_
  refine G_go rfl rfl ?_
  refine G_call rfl rfl ?_
  refine G_go rfl rfl ?_
  refine G_lt rfl rfl (fun c1 => ?_) (fun c1 => ?_)
  · have h := h.1 c1
    refine G_go rfl rfl ?_
    refine G_go rfl rfl ?_
    refine G_ret rfl rfl ?_
    refine G_go rfl rfl ?_
    show G 2 120 110 6 [(3, 2), (1, a0), (1, (-2)), (0, 0), (0, 0), (0, 0)] [] (n, s) Q
    refine G_go rfl rfl ?_
    refine G_brF rfl rfl rfl ?_
    refine G_go rfl rfl ?_
    refine G_go rfl rfl ?_
    refine G_go rfl rfl ?_
    refine G_call rfl rfl ?_
    refine G_go rfl rfl ?_
    refine G_go rfl rfl ?_
    refine G_go rfl rfl ?_
    refine G_go rfl rfl ?_
    refine G_brF rfl rfl rfl ?_
    refine G_go rfl rfl ?_
    refine G_go rfl rfl ?_
    refine G_rf rfl rfl (by decide) (hR 2 7 119 rfl) ?_
    refine G_go rfl rfl ?_
    refine G_brF rfl rfl rfl ?_
    refine G_go rfl rfl ?_
    refine G_rf rfl rfl (by decide) (hR 2 7 119 rfl) ?_
    refine G_go rfl rfl ?_
    refine G_go rfl rfl ?_
    refine G_ir (n := 7) rfl rfl (by decide) (by decide) (by decide) ?_
    refine G_go rfl rfl ?_
    refine G_go rfl rfl ?_
    refine G_iw (n := 7) rfl rfl (by decide) (by decide) (by decide) ?_
    have hR := refs_up (a := 119) (k := 2) (x := wr ((s 119 2) + 1)) hR rfl
    refine G_go rfl rfl ?_
    refine G_ret rfl rfl ?_
    refine G_go rfl rfl ?_
    refine G_go rfl rfl ?_
    exact G_ret rfl rfl h
  · have h := h.2 c1
    refine G_go rfl rfl ?_
    refine G_go rfl rfl ?_
    refine G_le rfl rfl (fun c2 => ?_) (fun c2 => ?_)
    · have h := h.1 c2
      refine G_go rfl rfl ?_
      refine G_ret rfl rfl ?_
      refine G_go rfl rfl ?_
      show G 2 120 110 6 [(3, 2), (1, a0), (1, 0), (0, 0), (0, 0), (0, 0)] [] (n, s) Q
      refine G_go rfl rfl ?_
      refine G_brT rfl rfl rfl ?_
      refine G_go rfl rfl ?_
      refine G_go rfl rfl ?_
      refine G_go rfl rfl ?_
      refine G_go rfl rfl ?_
      show G 2 120 110 26 [(3, 2), (1, a0), (1, 0), (2, 0), (0, 0), (1, 0)] [] (n, s) Q
      exact h
    · have h := h.2 c2
      refine G_go rfl rfl ?_
      refine G_go rfl rfl ?_
      refine G_ret rfl rfl ?_
      refine G_go rfl rfl ?_
      show G 2 120 110 6 [(3, 2), (1, a0), (1, (-2)), (0, 0), (0, 0), (0, 0)] [] (n, s) Q
      refine G_go rfl rfl ?_
      refine G_brF rfl rfl rfl ?_
      refine G_go rfl rfl ?_
      refine G_go rfl rfl ?_
      refine G_go rfl rfl ?_
      refine G_call rfl rfl ?_
      refine G_go rfl rfl ?_
      refine G_go rfl rfl ?_
      refine G_go rfl rfl ?_
      refine G_go rfl rfl ?_
      refine G_brF rfl rfl rfl ?_
      refine G_go rfl rfl ?_
      refine G_go rfl rfl ?_
      refine G_rf rfl rfl (by decide) (hR 2 7 119 rfl) ?_
      refine G_go rfl rfl ?_
      refine G_brF rfl rfl rfl ?_
      refine G_go rfl rfl ?_
      refine G_rf rfl rfl (by decide) (hR 2 7 119 rfl) ?_
      refine G_go rfl rfl ?_
      refine G_go rfl rfl ?_
      refine G_ir (n := 7) rfl rfl (by decide) (by decide) (by decide) ?_
      refine G_go rfl rfl ?_
      refine G_go rfl rfl ?_
      refine G_iw (n := 7) rfl rfl (by decide) (by decide) (by decide) ?_
      have hR := refs_up (a := 119) (k := 2) (x := wr ((s 119 2) + 1)) hR rfl
      refine G_go rfl rfl ?_
      refine G_ret rfl rfl ?_
      refine G_go rfl rfl ?_
      refine G_go rfl rfl ?_
      exact G_ret rfl rfl h
theorem sb_X6_mean_26 (n : Nat) (s : Nat → Nat → Int) (Q : List Vl → Sto → Prop) (x1 : Int) (x2 : Int) (x3 : Int) (x5 : Int) (hR : refs s)
    (h : (s 3 9 ≤ x5 → G 2 120 79 0 [(2, x3), (0, 0), (2, max 1 (s 3 9)), (0, 0), (1, x1), (0, 0), (0, 0), (0, 0), (0, 0), (0, 0), (0, 0), (0, 0)] [] (n, s) (fun r s1 => G 2 120 110 74 [(3, 2), (1, x1), (1, x2), (2, x3), (0, 0), (1, x5)] (r ++ []) s1 Q)) ∧ (x5 < s 3 9 → (0 ≤ x5 ∧ x5 < 6) ∧ ((0 ≤ s 5 x5.toNat ∧ s 5 x5.toNat ≤ 9) ∧ ((0 ≤ s 6 x5.toNat ∧ s 6 x5.toNat ≤ 2000) ∧ ((0 ≤ s 7 x5.toNat ∧ s 7 x5.toNat ≤ 200) ∧ (G 2 120 110 26 [(3, 2), (1, x1), (1, x2), (2, wl (x3 + (wlt (s 4 x5.toNat) (s 5 x5.toNat) (s 6 x5.toNat) (s 7 x5.toNat)))), (0, 0), (1, wr (x5 + 1))] [] (n, s) Q)))))) :
    G 2 120 110 26 [(3, 2), (1, x1), (1, x2), (2, x3), (0, 0), (1, x5)] [] (n, s) Q := by
  refine G_go rfl rfl ?_
  refine G_go rfl rfl ?_
  refine G_rf rfl rfl (by decide) (hR 2 0 3 rfl) ?_
  refine G_rd rfl rfl (by decide) ?_
  refine G_ge rfl rfl (fun c1 => ?_) (fun c1 => ?_)
  · have h := h.1 c1
    refine G_go rfl rfl ?_
    refine G_go rfl rfl ?_
    refine G_go rfl rfl ?_
    refine G_rf rfl rfl (by decide) (hR 2 0 3 rfl) ?_
    refine G_rd rfl rfl (by decide) ?_
    refine G_max rfl rfl ?_
    refine G_go rfl rfl ?_
    refine G_go rfl rfl ?_
    exact G_call rfl rfl h
  · have h := h.2 c1
    refine G_go rfl rfl ?_
    refine G_go rfl rfl ?_
    refine G_rf rfl rfl (by decide) (hR 2 0 3 rfl) ?_
    refine G_go rfl rfl ?_
    refine G_call rfl rfl ?_
    refine G_go rfl rfl ?_
    refine G_rf rfl rfl (by decide) (hR 3 0 4 rfl) ?_
    refine G_go rfl rfl ?_
    obtain ⟨g2, h⟩ := h
    refine G_ir (n := 6) rfl rfl (by decide) (by decide) g2 ?_
    refine G_go rfl rfl ?_
    refine G_rf rfl rfl (by decide) (hR 3 1 5 rfl) ?_
    refine G_go rfl rfl ?_
    refine G_ir (n := 6) rfl rfl (by decide) (by decide) g2 ?_
    refine G_go rfl rfl ?_
    refine G_rf rfl rfl (by decide) (hR 3 2 6 rfl) ?_
    refine G_go rfl rfl ?_
    refine G_ir (n := 6) rfl rfl (by decide) (by decide) g2 ?_
    refine G_go rfl rfl ?_
    refine G_rf rfl rfl (by decide) (hR 3 3 7 rfl) ?_
    refine G_go rfl rfl ?_
    refine G_ir (n := 6) rfl rfl (by decide) (by decide) g2 ?_
    refine G_call rfl rfl ?_
    obtain ⟨g3, h⟩ := h
    obtain ⟨g4, h⟩ := h
    obtain ⟨g5, h⟩ := h
    refine c_X1_wealth n _ _ (s 4 x5.toNat) (s 5 x5.toNat) (s 6 x5.toNat) (s 7 x5.toNat) hR g3 g4 g5 ?_
    refine G_ret rfl rfl ?_
    refine G_go rfl rfl ?_
    refine G_go rfl rfl ?_
    refine G_go rfl rfl ?_
    refine G_go rfl rfl ?_
    refine G_go rfl rfl ?_
    exact h
theorem sb_X6_mean_74 (n : Nat) (s : Nat → Nat → Int) (Q : List Vl → Sto → Prop) (x1 : Int) (x2 : Int) (x3 : Int) (x5 : Int) (y0 : Int) (hR : refs s)
    (h : Q [(2, y0)] (n, s)) :
    G 2 120 110 74 [(3, 2), (1, x1), (1, x2), (2, x3), (0, 0), (1, x5)] [(2, y0)] (n, s) Q := by
  exact G_ret rfl rfl h
theorem sb_X7_mean_0 (n : Nat) (s : Nat → Nat → Int) (Q : List Vl → Sto → Prop) (a0 : Int) (hR : refs s)
    (h : (a0 < 0 → Q [(2, wl (4000000000000000000 - (-2)))] (n, upS (upS s 120 10 0) 129 2 (wr ((s 129 2) + 1)))) ∧ (a0 ≥ 0 → (a0 > 1 → Q [(2, wl (4000000000000000000 - (-2)))] (n, upS (upS s 120 10 0) 129 2 (wr ((s 129 2) + 1)))) ∧ (a0 ≤ 1 → G 120 140 153 0 [(3, 120), (0, 0), (0, 0)] [] (n, upS s 120 10 0) (fun r s1 => G 120 140 198 19 [(3, 120), (1, a0)] (r ++ []) s1 Q)))) :
    G 120 140 198 0 [(3, 120), (1, a0)] [] (n, s) Q := by
  refine G_go rfl rfl ?_
  refine G_go rfl rfl ?_
  refine G_wr rfl rfl (by decide) ?_
  have hR := refs_up (a := 120) (k := 10) (x := 0) hR rfl
  refine G_go rfl rfl ?_
  refine G_go rfl rfl ?_
  refine G_go rfl rfl ?_
  refine G_go rfl rfl ?_
  refine G_call rfl rfl ?_
  refine G_go rfl rfl ?_
  refine G_go rfl rfl ?_
  refine G_go rfl rfl ?_
  refine G_lt rfl rfl (fun c1 => ?_) (fun c1 => ?_)
  · have c1 := xl_lt c1
    have h := h.1 c1
    refine G_go rfl rfl ?_
    refine G_ret rfl rfl ?_
    refine G_brT rfl rfl rfl ?_
    refine G_go rfl rfl ?_
    refine G_go rfl rfl ?_
    refine G_go rfl rfl ?_
    refine G_call rfl rfl ?_
    refine G_go rfl rfl ?_
    refine G_rf rfl rfl (by decide) (hR 120 11 129 rfl) ?_
    refine G_go rfl rfl ?_
    refine G_go rfl rfl ?_
    refine G_go rfl rfl ?_
    refine G_ir (n := 7) rfl rfl (by decide) (by decide) (by decide) ?_
    refine G_go rfl rfl ?_
    refine G_go rfl rfl ?_
    refine G_iw (n := 7) rfl rfl (by decide) (by decide) (by decide) ?_
    have hR := refs_up (a := 129) (k := 2) (x := wr ((s 129 2) + 1)) hR rfl
    refine G_go rfl rfl ?_
    refine G_ret rfl rfl ?_
    refine G_go rfl rfl ?_
    refine G_go rfl rfl ?_
    exact G_ret rfl rfl h
  · have c1 := xl_ge c1
    have h := h.2 c1
    refine G_go rfl rfl ?_
    refine G_go rfl rfl ?_
    refine G_go rfl rfl ?_
    refine G_gt rfl rfl (fun c2 => ?_) (fun c2 => ?_)
    · have c2 := xl_gt c2
      have h := h.1 c2
      refine G_go rfl rfl ?_
      refine G_ret rfl rfl ?_
      refine G_brT rfl rfl rfl ?_
      refine G_go rfl rfl ?_
      refine G_go rfl rfl ?_
      refine G_go rfl rfl ?_
      refine G_call rfl rfl ?_
      refine G_go rfl rfl ?_
      refine G_rf rfl rfl (by decide) (hR 120 11 129 rfl) ?_
      refine G_go rfl rfl ?_
      refine G_go rfl rfl ?_
      refine G_go rfl rfl ?_
      refine G_ir (n := 7) rfl rfl (by decide) (by decide) (by decide) ?_
      refine G_go rfl rfl ?_
      refine G_go rfl rfl ?_
      refine G_iw (n := 7) rfl rfl (by decide) (by decide) (by decide) ?_
      have hR := refs_up (a := 129) (k := 2) (x := wr ((s 129 2) + 1)) hR rfl
      refine G_go rfl rfl ?_
      refine G_ret rfl rfl ?_
      refine G_go rfl rfl ?_
      refine G_go rfl rfl ?_
      exact G_ret rfl rfl h
    · have c2 := xl_le c2
      have h := h.2 c2
      refine G_go rfl rfl ?_
      refine G_go rfl rfl ?_
      refine G_ret rfl rfl ?_
      refine G_brF rfl rfl rfl ?_
      refine G_go rfl rfl ?_
      exact G_call rfl rfl h
theorem sb_X7_mean_19 (n : Nat) (s : Nat → Nat → Int) (Q : List Vl → Sto → Prop) (x1 : Int) (y0 : Int) (hR : refs s)
    (h : G 120 140 175 0 [(2, y0), (0, 0), (2, s 120 0), (0, 0), (1, x1), (0, 0), (0, 0)] [] (n, s) (fun r s1 => G 120 140 198 29 [(3, 120), (1, x1)] (r ++ []) s1 Q)) :
    G 120 140 198 19 [(3, 120), (1, x1)] [(1, y0)] (n, s) Q := by
  refine G_go rfl rfl ?_
  refine G_go rfl rfl ?_
  refine G_rd rfl rfl (by decide) ?_
  refine G_go rfl rfl ?_
  refine G_go rfl rfl ?_
  exact G_call rfl rfl h
theorem sb_X7_mean_29 (n : Nat) (s : Nat → Nat → Int) (Q : List Vl → Sto → Prop) (x1 : Int) (y0 : Int) (hR : refs s)
    (h : Q [(2, y0)] (n, s)) :
    G 120 140 198 29 [(3, 120), (1, x1)] [(2, y0)] (n, s) Q := by
  refine G_go rfl rfl ?_
  exact G_ret rfl rfl h
/-! FRACTIONS; MEAN WEALTH. -/
theorem wl_id {x : Int} (h1 : -9223372036854775808 ≤ x) (h2 : x < 9223372036854775808) : wl x = x := by
  unfold wl
  simp only [Int.bmod]
  split <;> omega
theorem ofInt64_id {x : Int} (h1 : -9223372036854775808 ≤ x) (h2 : x < 9223372036854775808) : (Int64.ofInt x).toInt = x := by
  rw [Int64.toInt_ofInt]
  exact wl_id h1 h2
theorem xldiv_nn {a b : Int} (h1 : 0 ≤ a) (h2 : a < 9223372036854775808) (h3 : 0 < b) (h4 : b < 9223372036854775808) : xldiv a b = a / b := by
  unfold xldiv lB
  rw [Int64.toInt_div, ofInt64_id (by omega) h2, ofInt64_id (by omega) h4, Int.tdiv_eq_ediv_of_nonneg h1]
  have g1 : 0 ≤ a / b := Int.ediv_nonneg h1 (by omega)
  have g2 : a / b ≤ a := Int.ediv_le_self b h1
  exact wl_id (by omega) (by omega)
theorem xlrem_nn {a b : Int} (h1 : 0 ≤ a) (h2 : a < 9223372036854775808) (h3 : 0 < b) (h4 : b < 9223372036854775808) : xlrem a b = a % b := by
  have hq : (Int64.ofInt a / Int64.ofInt b).toInt = a / b := xldiv_nn h1 h2 h3 h4
  have g1 : 0 ≤ a / b := Int.ediv_nonneg h1 (by omega)
  have g2 : a / b ≤ a := Int.ediv_le_self b h1
  have g3 := Int.emod_nonneg a (show b ≠ 0 by omega)
  have g4 : b * (a / b) + a % b = a := Int.mul_ediv_add_emod a b
  have g6 : a / b * b = a - a % b := by rw [Int.mul_comm]; omega
  have g5 : a % b ≤ a := by
    have : 0 ≤ b * (a / b) := Int.mul_nonneg (by omega) g1
    omega
  unfold xlrem lB
  rw [Int64.toInt_sub, Int64.toInt_mul, hq, ofInt64_id (by omega) h2, ofInt64_id (by omega) h4, g6, show Int.bmod (a - a % b) (2 ^ 64) = a - a % b from wl_id (by omega) (by omega)]
  rw [show a - (a - a % b) = a % b by omega]
  exact wl_id (by omega) (by omega)
def gdV : Nat → Int → Int → Int
  | 0, x, _ => x
  | f + 1, x, y => if y = 0 then x else gdV f y (x % y)
theorem gd_pos : ∀ (f : Nat) (x y : Int), 0 ≤ x → 0 ≤ y → y < f → (0 < x ∨ 0 < y) → 0 < gdV f x y
  | 0, x, y, _, h2, h3, _ => by omega
  | f + 1, x, y, h1, h2, h3, h4 => by
    unfold gdV
    split
    · omega
    · have e1 := Int.emod_nonneg x (show y ≠ 0 by omega)
      have e2 := Int.emod_lt_of_pos x (show 0 < y by omega)
      exact gd_pos f y (x % y) h2 e1 (by omega) (Or.inl (by omega))
def ptV (a b p : Int) : Int := if a = 0 then p else if p = 0 then xldiv a (gdV (b.toNat + 1) a b) else xldiv b (gdV (b.toNat + 1) a b)
def hv2 : Nat → Int
  | 0 => 1
  | k + 1 => 2 * hv2 k
theorem rem_half {y r : Int} (h1 : 0 < r) (h2 : r ≤ y) : y % r ≤ y - r := by
  have g4 : r * (y / r) + y % r = y := Int.mul_ediv_add_emod y r
  have g1 : 0 ≤ y / r := Int.ediv_nonneg (by omega) (by omega)
  have g5 := Int.emod_lt_of_pos y h1
  by_cases c : y / r = 0
  · rw [c, Int.mul_zero] at g4
    omega
  · have g6 : r * 1 ≤ r * (y / r) := Int.mul_le_mul_of_nonneg_left (by omega) (by omega)
    omega
theorem c_X6_partOf (n : Nat) (s : Nat → Nat → Int) (Q : List Vl → Sto → Prop) (a b p : Int) (hR : refs s) (ha : 0 ≤ a ∧ a < 4611686018427387904) (hb : 0 < b ∧ b < 4611686018427387904) (hp : p = 0 ∨ p = 1) (hq : Q [(2, ptV a b p)] (n, s)) : G 2 120 79 0 [(2, a), (0, 0), (2, b), (0, 0), (1, p), (0, 0), (0, 0), (0, 0), (0, 0), (0, 0), (0, 0), (0, 0)] [] (n, s) Q := by
  have stop : ∀ (f : Nat) (x y j : Int) (w : Vl), y = 0 → j < 1000 → 0 < gdV (f + 1) x y → Q [(2, if p = 0 then xldiv a (gdV (f + 1) x y) else xldiv b (gdV (f + 1) x y))] (n, s) → G 2 120 79 9 [(2, a), (0, 0), (2, b), (0, 0), (1, p), (2, x), (0, 0), (2, y), (0, 0), (1, j), w, (0, 0)] [] (n, s) Q := by
    intro f x y j w e hj hg q
    have eg : gdV (f + 1) x y = x := if_pos e
    rw [eg] at q hg
    refine sb_X6_partOf_9 n s Q a b p x y j w hR ⟨fun e => by omega, fun _ => ⟨fun _ => ⟨fun _ => ⟨fun c => ?_, fun c => ?_⟩, fun e => by omega⟩, fun e2 => absurd e e2⟩⟩
    · rw [if_neg c] at q
      exact q
    · rw [if_pos c] at q
      exact q
  have step : ∀ (x y j : Int) (w : Vl), 0 ≤ x → x < 4611686018427387904 → 0 < y → y < 4611686018427387904 → 0 ≤ j → j < 1000 → G 2 120 79 9 [(2, a), (0, 0), (2, b), (0, 0), (1, p), (2, y), (0, 0), (2, x % y), (0, 0), (1, j + 1), (2, x % y), (0, 0)] [] (n, s) Q → G 2 120 79 9 [(2, a), (0, 0), (2, b), (0, 0), (1, p), (2, x), (0, 0), (2, y), (0, 0), (1, j), w, (0, 0)] [] (n, s) Q := by
    intro x y j w h1 h2 h3 h4 h5 h6 g
    refine sb_X6_partOf_9 n s Q a b p x y j w hR ⟨fun e => by omega, fun _ => ⟨fun e => by omega, fun _ => ?_⟩⟩
    rw [xlrem_nn h1 (by omega) h3 (by omega), wr_id (x := j + 1) (by omega) (by omega)]
    exact g
  have loop : ∀ (k f : Nat) (x y j : Int) (w : Vl), 0 ≤ x → x < 4611686018427387904 → 0 ≤ y → y < f → y < hv2 k → y < 4611686018427387904 → 0 ≤ j → j + 2 * k < 1000 → 0 < gdV f x y → Q [(2, if p = 0 then xldiv a (gdV f x y) else xldiv b (gdV f x y))] (n, s) → G 2 120 79 9 [(2, a), (0, 0), (2, b), (0, 0), (1, p), (2, x), (0, 0), (2, y), (0, 0), (1, j), w, (0, 0)] [] (n, s) Q := by
    intro k
    induction k with
    | zero =>
      intro f x y j w h1 h2 h3 h4 h5 h6 h7 h8 hg q
      have h5 : y < 1 := h5
      obtain ⟨f1, rfl⟩ : ∃ f1 : Nat, f = f1 + 1 := ⟨f - 1, by omega⟩
      exact stop f1 x y j w (by omega) (by omega) hg q
    | succ k ih =>
      intro f x y j w h1 h2 h3 h4 h5 h6 h7 h8 hg q
      have h5 : y < 2 * hv2 k := h5
      obtain ⟨f1, rfl⟩ : ∃ f1 : Nat, f = f1 + 1 := ⟨f - 1, by omega⟩
      by_cases c : y = 0
      · exact stop f1 x y j w c (by omega) hg q
      · have eg : gdV (f1 + 1) x y = gdV f1 y (x % y) := if_neg c
        have e1 := Int.emod_nonneg x c
        have e2 := Int.emod_lt_of_pos x (show 0 < y by omega)
        rw [eg] at q hg
        refine step x y j w h1 h2 (by omega) h6 h7 (by omega) ?_
        obtain ⟨f2, rfl⟩ : ∃ f2 : Nat, f1 = f2 + 1 := ⟨f1 - 1, by omega⟩
        by_cases d : x % y = 0
        · exact stop f2 y (x % y) (j + 1) _ d (by omega) hg q
        · have eg2 : gdV (f2 + 1) y (x % y) = gdV f2 (x % y) (y % (x % y)) := if_neg d
          have e3 := Int.emod_nonneg y d
          have e4 := Int.emod_lt_of_pos y (show 0 < x % y by omega)
          have e5 := rem_half (show 0 < x % y by omega) (show x % y ≤ y by omega)
          rw [eg2] at q hg
          refine step y (x % y) (j + 1) _ h3 h6 (by omega) (by omega) (by omega) (by omega) ?_
          exact ih f2 (x % y) (y % (x % y)) (j + 1 + 1) _ e1 (by omega) e3 (by omega) (by omega) (by omega) (by omega) (by omega) hg q
  refine sb_X6_partOf_0 n s Q a b p hR ?_
  have hg := gd_pos (b.toNat + 1) a b ha.1 (by omega) (by omega) (Or.inr hb.1)
  have e62 : hv2 62 = 4611686018427387904 := by decide +kernel
  refine loop 62 (b.toNat + 1) a b 0 _ ha.1 ha.2 (by omega) (by omega) (by rw [e62]; exact hb.2) hb.2 (by omega) (by omega) hg ?_
  unfold ptV at hq
  by_cases c : a = 0
  · rw [if_pos c] at hq
    have e1 : gdV (b.toNat + 1) a b = b := by
      obtain ⟨k, hk⟩ : ∃ k : Nat, b.toNat = k + 1 := ⟨b.toNat - 1, by omega⟩
      rw [hk, c]
      show (if b = 0 then 0 else gdV (k + 1) b (0 % b)) = b
      rw [if_neg (by omega), Int.zero_emod]
      exact if_pos rfl
    rw [e1]
    rcases hp with hp | hp
    · rw [if_pos hp, c, xldiv_nn (by omega) (by omega) hb.1 (by omega), Int.zero_ediv]
      rw [hp] at hq
      exact hq
    · rw [if_neg (by omega), xldiv_nn (by omega) (by omega) hb.1 (by omega), Int.ediv_self (by omega)]
      rw [hp] at hq
      exact hq
  · rw [if_neg c] at hq
    exact hq
theorem c_X7_partOf (n : Nat) (s : Nat → Nat → Int) (Q : List Vl → Sto → Prop) (a b p : Int) (hR : refs s) (ha : 0 ≤ a ∧ a < 4611686018427387904) (hb : 0 ≤ b ∧ b < 4611686018427387904) (hq : Q [(2, ptV a b p)] (n, s)) : G 120 140 175 0 [(2, a), (0, 0), (2, b), (0, 0), (1, p), (0, 0), (0, 0)] [] (n, s) Q := by
  unfold ptV at hq
  refine sb_X7_partOf_0 n s Q a b p hR ⟨fun c => ?_, fun c => ?_⟩
  · rw [if_neg c] at hq
    have hg := gd_pos (b.toNat + 1) a b ha.1 hb.1 (by omega) (Or.inl (by omega))
    have loop : ∀ (Q2 : List Vl → Sto → Prop) (f : Nat) (x y : Int) (w : Vl), 0 ≤ x → x < 4611686018427387904 → 0 ≤ y → y < f → y < 4611686018427387904 → Q2 [(2, gdV f x y)] (n, s) → G 120 140 173 6 [(2, a), (0, 0), (2, b), (0, 0), (2, x), (0, 0), (2, y), (0, 0), w, (0, 0)] [] (n, s) Q2 := by
      intro Q2 f
      induction f with
      | zero =>
        intro x y w h1 h2 h3 h4
        omega
      | succ f ih =>
        intro x y w h1 h2 h3 h4 h5 q
        refine sb_X7_divisor_6 n s Q2 a b x y w hR ⟨fun e => ?_, fun e => ?_⟩
        · have eg : gdV (f + 1) x y = x := if_pos e
          rw [eg] at q
          exact q
        · have eg : gdV (f + 1) x y = gdV f y (x % y) := if_neg e
          have e1 := Int.emod_nonneg x (show y ≠ 0 by omega)
          have e2 := Int.emod_lt_of_pos x (show 0 < y by omega)
          rw [eg] at q
          rw [xlrem_nn h1 (by omega) (by omega) (by omega)]
          exact ih y (x % y) _ h3 (by omega) e1 (by omega) (by omega) q
    refine sb_X7_divisor_0 n s _ a b hR ?_
    refine loop _ (b.toNat + 1) a b _ ha.1 ha.2 hb.1 (by omega) hb.2 ?_
    refine sb_X7_partOf_15 n s Q a b p _ hR ⟨fun d => ⟨by omega, ?_⟩, fun d => ⟨by omega, ?_⟩⟩
    · rw [if_neg d] at hq
      exact hq
    · rw [if_pos d] at hq
      exact hq
  · rw [if_pos c] at hq
    exact hq
def smI (k : Nat) (b : Int) : Prop := 0 ≤ b ∧ b ≤ 9999 * (k : Int)
theorem post_v {n : Nat} {s t : Nat → Nat → Int} {v : Vl} (h : REL s t) : Post n [v] (n, s) [v] (n, upS t 120 10 0) := ⟨v, rfl, rfl, h.up, rfl, rfl⟩
theorem op_mean (n : Nat) (s t : Nat → Nat → Int) (h : REL s t) (a0 : Int) : G 2 120 110 0 [(3, 2), (1, a0), (0, 0), (0, 0), (0, 0), (0, 0)] [] (n, s) (fun r s1 => G 120 140 198 0 [(3, 120), (1, a0)] [] (n, t) (Post n r s1)) := by
  obtain ⟨hn1, hn2, hn3, hn4⟩ := h.np
  have sI : ∀ k b, k < (t 120 0).toNat → smI k b → smI (k + 1) (smF (wlW (vw 121 t)) k b) := fun k b hk hb => by
    have g := h.wr k (by omega)
    unfold smI smF at *
    rw [wr_id (by omega) (by omega)]
    omega
  have s0 : smI 0 0 := ⟨Int.le_refl 0, by decide⟩
  have rg := itr_inv (f := smF (wlW (vw 121 t))) smI s0 (t 120 0).toNat sI
  have rf : ∀ (t0 : Nat → Nat → Int) (Q : List Vl → Sto → Prop), t0 = upS t 120 10 0 → Q [(2, ptV (itr (smF (wlW (vw 121 t))) 0 (t 120 0).toNat) (t 120 0) a0)] (n, t0) → G 120 140 153 0 [(3, 120), (0, 0), (0, 0)] [] (n, t0) (fun r s1 => G 120 140 198 19 [(3, 120), (1, a0)] (r ++ []) s1 Q) := by
    intro t0 Q e0 hq
    subst e0
    refine sb_X7_allWealth_0 n _ _ h.up.2.1 ?_
    refine G_up (t 120 0).toNat (fun k b => G 120 140 153 4 [(3, 120), (1, b), (1, (k : Int))] [] (n, upS t 120 10 0) (fun r s1 => G 120 140 198 19 [(3, 120), (1, a0)] (r ++ []) s1 Q)) (smF (wlW (vw 121 t))) (fun _ _ => True) 0 trivial (fun _ _ _ _ => trivial) (fun k b hk _ hg => ?_) (fun _ => ?_)
    · have hp : (k : Int) < t 120 0 := by omega
      obtain ⟨_, g2, _, ⟨g4, g4'⟩, _, _⟩ := h.up.rg k hp
      rw [← wr_s hk (by omega)] at hg
      refine sb_X7_allWealth_4 n _ _ b k h.up.2.1 ⟨fun e => ?_, fun _ => ⟨by omega, g2, ⟨g4, g4'⟩, hg⟩⟩
      have e : t 120 0 ≤ (k : Int) := e
      omega
    · refine sb_X7_allWealth_4 n _ _ _ _ h.up.2.1 ⟨fun _ => ?_, fun e => ?_⟩
      · refine sb_X7_mean_19 n _ Q a0 _ h.up.2.1 ?_
        unfold smI at rg
        refine c_X7_partOf n _ _ _ _ a0 h.up.2.1 (by omega) (by show 0 ≤ t 120 0 ∧ t 120 0 < _; omega) ?_
        exact sb_X7_mean_29 n _ Q a0 _ h.up.2.1 hq
      · have e : ((t 120 0).toNat : Int) < t 120 0 := e
        omega
  refine sb_X6_mean_0 n s _ a0 h.1 ⟨fun c => ?_, fun c => ⟨fun d => ?_, fun d => ?_⟩⟩
  · exact sb_X7_mean_0 n t _ a0 h.2.1 ⟨fun _ => post_ref h 2 (by decide), fun e => by omega⟩
  · refine G_up (t 120 0).toNat (fun k b => G 2 120 110 26 [(3, 2), (1, a0), (1, 0), (2, b), (0, 0), (1, (k : Int))] [] (n, s) _) (smF (wlW (vw 121 t))) smI 0 s0 sI (fun k b hk hb hg => ?_) (fun _ => ?_)
    · have hp : (k : Int) < t 120 0 := by omega
      obtain ⟨⟨g1, g1'⟩, _, g3, _, _, _⟩ := h.rg k hp
      have gw := h.wr k hp
      unfold smI at hb
      rw [← wr_s hk (by omega)] at hg
      refine sb_X6_mean_26 n s _ a0 0 b k h.1 ?_
      rw [Int.toNat_natCast, h.wl k hp, wl_id (x := b + wlW (vw 121 t) k) (by omega) (by omega)]
      refine ⟨fun e => by omega, fun _ => ⟨by omega, g1, g3, g1', ?_⟩⟩
      unfold smF at hg
      rw [wr_id (x := b + wlW (vw 121 t) k) (by omega) (by omega)] at hg
      exact hg
    · refine sb_X6_mean_26 n s _ a0 0 _ _ h.1 ⟨fun _ => ?_, fun e => by omega⟩
      unfold smI at rg
      refine c_X6_partOf n s _ _ _ a0 h.1 (by omega) (by omega) (by omega) ?_
      refine sb_X6_mean_74 n s _ a0 0 _ _ _ h.1 ?_
      refine sb_X7_mean_0 n t _ a0 h.2.1 ⟨fun e => by omega, fun _ => ⟨fun e => by omega, fun _ => rf _ _ rfl ?_⟩⟩
      have e : ptV (itr (smF (wlW (vw 121 t))) 0 (t 120 0).toNat) (max 1 (s 3 9)) a0 = ptV (itr (smF (wlW (vw 121 t))) 0 (t 120 0).toNat) (t 120 0) a0 := by
        by_cases z : t 120 0 = 0
        · have ez : itr (smF (wlW (vw 121 t))) 0 (t 120 0).toNat = 0 := by rw [z]; rfl
          rw [ez]
          unfold ptV
          rw [if_pos rfl, if_pos rfl]
        · rw [show max 1 (s 3 9) = t 120 0 by omega]
      rw [e]
      exact post_v h
  · exact sb_X7_mean_0 n t _ a0 h.2.1 ⟨fun e => by omega, fun _ => ⟨fun _ => post_ref h 2 (by decide), fun e => by omega⟩⟩

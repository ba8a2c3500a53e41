theorem sb_X6_ring_0 (n : Nat) (s : Nat → Nat → Int) (Q : List Vl → Sto → Prop) (a0 : Int) (hR : refs s)
    (h : (a0 < 0 → Q [(1, (-1))] (n, upS s 119 1 (wr ((s 119 1) + 1)))) ∧ (0 ≤ a0 → (s 3 9 ≤ a0 → Q [(1, (-1))] (n, upS s 119 1 (wr ((s 119 1) + 1)))) ∧ (a0 < s 3 9 → G 2 120 120 27 [(3, 2), (1, a0), (1, 0), (1, 0), (1, 0), (1, a0), (1, 0)] [] (n, s) Q))) :
    G 2 120 120 0 [(3, 2), (1, a0), (0, 0), (0, 0), (0, 0), (0, 0), (0, 0)] [] (n, s) Q := by
  refine G_go rfl rfl ?_
  refine G_go rfl rfl ?_
  refine G_call rfl rfl ?_
  refine G_go rfl rfl ?_
  refine G_rf rfl rfl (by decide) (hR 2 0 3 rfl) ?_
  refine G_go rfl rfl ?_
  refine G_call rfl rfl ?_
  refine G_go rfl rfl ?_
  refine G_lt rfl rfl (fun c1 => ?_) (fun c1 => ?_)
  · have h := h.1 c1
    refine G_go rfl rfl ?_
    refine G_ret rfl rfl ?_
    refine G_brT rfl rfl rfl ?_
    refine G_go rfl rfl ?_
    refine G_ret rfl rfl ?_
    refine G_go rfl rfl ?_
    show G 2 120 120 6 [(3, 2), (1, a0), (1, (-1)), (0, 0), (0, 0), (0, 0), (0, 0)] [] (n, s) Q
    refine G_go rfl rfl ?_
    refine G_brF rfl rfl rfl ?_
    refine G_go rfl rfl ?_
    refine G_go rfl rfl ?_
    refine G_call rfl rfl ?_
    refine G_go rfl rfl ?_
    refine G_go rfl rfl ?_
    refine G_go rfl rfl ?_
    refine G_go rfl rfl ?_
    refine G_brF rfl rfl rfl ?_
    refine G_go rfl rfl ?_
    refine G_go rfl rfl ?_
    refine G_rf rfl rfl (by decide) (hR 2 7 119 rfl) ?_
    refine G_go rfl rfl ?_
    refine G_brF rfl rfl rfl ?_
    refine G_go rfl rfl ?_
    refine G_rf rfl rfl (by decide) (hR 2 7 119 rfl) ?_
    refine G_go rfl rfl ?_
    refine G_go rfl rfl ?_
    refine G_ir (n := 7) rfl rfl (by decide) (by decide) (by decide) ?_
    refine G_go rfl rfl ?_
    refine G_go rfl rfl ?_
    refine G_iw (n := 7) rfl rfl (by decide) (by decide) (by decide) ?_
    have hR := refs_up (a := 119) (k := 1) (x := wr ((s 119 1) + 1)) hR rfl
    refine G_go rfl rfl ?_
    refine G_ret rfl rfl ?_
    exact G_ret rfl rfl h
  · have h := h.2 c1
    refine G_go rfl rfl ?_
    refine G_go rfl rfl ?_
    refine G_rd rfl rfl (by decide) ?_
    refine G_ge rfl rfl (fun c2 => ?_) (fun c2 => ?_)
    · have h := h.1 c2
      refine G_go rfl rfl ?_
      refine G_ret rfl rfl ?_
      refine G_brT rfl rfl rfl ?_
      refine G_go rfl rfl ?_
      refine G_ret rfl rfl ?_
      refine G_go rfl rfl ?_
      show G 2 120 120 6 [(3, 2), (1, a0), (1, (-1)), (0, 0), (0, 0), (0, 0), (0, 0)] [] (n, s) Q
      refine G_go rfl rfl ?_
      refine G_brF rfl rfl rfl ?_
      refine G_go rfl rfl ?_
      refine G_go rfl rfl ?_
      refine G_call rfl rfl ?_
      refine G_go rfl rfl ?_
      refine G_go rfl rfl ?_
      refine G_go rfl rfl ?_
      refine G_go rfl rfl ?_
      refine G_brF rfl rfl rfl ?_
      refine G_go rfl rfl ?_
      refine G_go rfl rfl ?_
      refine G_rf rfl rfl (by decide) (hR 2 7 119 rfl) ?_
      refine G_go rfl rfl ?_
      refine G_brF rfl rfl rfl ?_
      refine G_go rfl rfl ?_
      refine G_rf rfl rfl (by decide) (hR 2 7 119 rfl) ?_
      refine G_go rfl rfl ?_
      refine G_go rfl rfl ?_
      refine G_ir (n := 7) rfl rfl (by decide) (by decide) (by decide) ?_
      refine G_go rfl rfl ?_
      refine G_go rfl rfl ?_
      refine G_iw (n := 7) rfl rfl (by decide) (by decide) (by decide) ?_
      have hR := refs_up (a := 119) (k := 1) (x := wr ((s 119 1) + 1)) hR rfl
      refine G_go rfl rfl ?_
      refine G_ret rfl rfl ?_
      exact G_ret rfl rfl h
    · have h := h.2 c2
      refine G_go rfl rfl ?_
      refine G_go rfl rfl ?_
      refine G_ret rfl rfl ?_
      refine G_brF rfl rfl rfl ?_
      refine G_go rfl rfl ?_
      refine G_go rfl rfl ?_
      refine G_ret rfl rfl ?_
      refine G_go rfl rfl ?_
      show G 2 120 120 6 [(3, 2), (1, a0), (1, 0), (0, 0), (0, 0), (0, 0), (0, 0)] [] (n, s) Q
      refine G_go rfl rfl ?_
      refine G_brT rfl rfl rfl ?_
      refine G_go rfl rfl ?_
      refine G_go rfl rfl ?_
      show G 2 120 120 18 [(3, 2), (1, a0), (1, 0), (1, 0), (0, 0), (0, 0), (0, 0)] [] (n, s) Q
      refine G_go rfl rfl ?_
      refine G_go rfl rfl ?_
      show G 2 120 120 21 [(3, 2), (1, a0), (1, 0), (1, 0), (1, 0), (0, 0), (0, 0)] [] (n, s) Q
      refine G_go rfl rfl ?_
      refine G_go rfl rfl ?_
      show G 2 120 120 24 [(3, 2), (1, a0), (1, 0), (1, 0), (1, 0), (1, a0), (0, 0)] [] (n, s) Q
      refine G_go rfl rfl ?_
      refine G_go rfl rfl ?_
      show G 2 120 120 27 [(3, 2), (1, a0), (1, 0), (1, 0), (1, 0), (1, a0), (1, 0)] [] (n, s) Q
      exact h
theorem sb_X6_ring_27 (n : Nat) (s : Nat → Nat → Int) (Q : List Vl → Sto → Prop) (x1 : Int) (x2 : Int) (x3 : Int) (x4 : Int) (x5 : Int) (x6 : Int) (hR : refs s)
    (h : (6 ≤ x6 → Q [(1, x4)] (n, s)) ∧ (x6 < 6 → (x5 < 0 → Q [(1, x4)] (n, s)) ∧ (0 ≤ x5 → (s 3 9 ≤ x5 → Q [(1, x4)] (n, s)) ∧ (x5 < s 3 9 → (xand (xshr x3 x5) 1 ≠ 0 → Q [(1, x4)] (n, s)) ∧ (xand (xshr x3 x5) 1 = 0 → (0 ≤ x5 ∧ x5 < 6) ∧ (G 2 120 120 27 [(3, 2), (1, x1), (1, x2), (1, xor_ x3 (xshl 1 x5)), (1, wr (x4 + 1)), (1, s 11 x5.toNat), (1, wr (x6 + 1))] [] (n, s) Q)))))) :
    G 2 120 120 27 [(3, 2), (1, x1), (1, x2), (1, x3), (1, x4), (1, x5), (1, x6)] [] (n, s) Q := by
  refine G_go rfl rfl ?_
  refine G_go rfl rfl ?_
  refine G_ge rfl rfl (fun c1 => ?_) (fun c1 => ?_)
  · have h := h.1 c1
    refine G_go rfl rfl ?_
    exact G_ret rfl rfl h
  · have h := h.2 c1
    refine G_go rfl rfl ?_
    refine G_rf rfl rfl (by decide) (hR 2 0 3 rfl) ?_
    refine G_go rfl rfl ?_
    refine G_call rfl rfl ?_
    refine G_go rfl rfl ?_
    refine G_lt rfl rfl (fun c2 => ?_) (fun c2 => ?_)
    · have h := h.1 c2
      refine G_go rfl rfl ?_
      refine G_ret rfl rfl ?_
      refine G_brT rfl rfl rfl ?_
      refine G_go rfl rfl ?_
      exact G_ret rfl rfl h
    · have h := h.2 c2
      refine G_go rfl rfl ?_
      refine G_go rfl rfl ?_
      refine G_rd rfl rfl (by decide) ?_
      refine G_ge rfl rfl (fun c3 => ?_) (fun c3 => ?_)
      · have h := h.1 c3
        refine G_go rfl rfl ?_
        refine G_ret rfl rfl ?_
        refine G_brT rfl rfl rfl ?_
        refine G_go rfl rfl ?_
        exact G_ret rfl rfl h
      · have h := h.2 c3
        refine G_go rfl rfl ?_
        refine G_go rfl rfl ?_
        refine G_ret rfl rfl ?_
        refine G_brF rfl rfl rfl ?_
        refine G_go rfl rfl ?_
        refine G_go rfl rfl ?_
        refine G_go rfl rfl ?_
        refine G_go rfl rfl ?_
        refine G_go rfl rfl ?_
        refine G_ne rfl rfl (fun c4 => ?_) (fun c4 => ?_)
        · have h := h.1 c4
          refine G_go rfl rfl ?_
          exact G_ret rfl rfl h
        · have h := h.2 c4
          refine G_go rfl rfl ?_
          refine G_go rfl rfl ?_
          refine G_go rfl rfl ?_
          refine G_go rfl rfl ?_
          refine G_go rfl rfl ?_
          refine G_go rfl rfl ?_
          show G 2 120 120 62 [(3, 2), (1, x1), (1, x2), (1, xor_ x3 (xshl 1 x5)), (1, x4), (1, x5), (1, x6)] [] (n, s) Q
          refine G_go rfl rfl ?_
          refine G_go rfl rfl ?_
          refine G_rf rfl rfl (by decide) (hR 2 0 3 rfl) ?_
          refine G_rf rfl rfl (by decide) (hR 3 7 11 rfl) ?_
          refine G_go rfl rfl ?_
          obtain ⟨g5, h⟩ := h
          refine G_ir (n := 6) rfl rfl (by decide) (by decide) g5 ?_
          refine G_go rfl rfl ?_
          show G 2 120 120 77 [(3, 2), (1, x1), (1, x2), (1, xor_ x3 (xshl 1 x5)), (1, wr (x4 + 1)), (1, s 11 x5.toNat), (1, x6)] [] (n, s) Q
          refine G_go rfl rfl ?_
          refine G_go rfl rfl ?_
          exact h
theorem sb_X6_keepsTo_0 (n : Nat) (s : Nat → Nat → Int) (Q : List Vl → Sto → Prop) (a0 : Int) (a1 : Int) (a2 : Int) (a3 : Int) (hR : refs s)
    (h : (0 ≤ a0 ∧ a0 < 6) ∧ ((0 ≤ a1 ∧ a1 < 6) ∧ ((rgP (vw 4 s) a0.toNat) ∧ ((0 ≤ min 999 (wr ((s 6 a0.toNat) + (wr ((min a3 (s 6 a1.toNat)) - (min a2 (s 6 a0.toNat)))))) ∧ min 999 (wr ((s 6 a0.toNat) + (wr ((min a3 (s 6 a1.toNat)) - (min a2 (s 6 a0.toNat)))))) ≤ 2000) ∧ ((0 ≤ vw 4 s 4 a0.toNat ∧ vw 4 s 4 a0.toNat ≤ 99) ∧ ((0 ≤ min 999 (wr ((s 6 a0.toNat) + (wr ((min a3 (s 6 a1.toNat)) - (min (wr (1 - a2)) (s 6 a0.toNat)))))) ∧ min 999 (wr ((s 6 a0.toNat) + (wr ((min a3 (s 6 a1.toNat)) - (min (wr (1 - a2)) (s 6 a0.toNat)))))) ≤ 2000) ∧ ((lsV (vw 4 s) a0.toNat (min 999 (wr ((s 6 a0.toNat) + (wr ((min a3 (s 6 a1.toNat)) - (min a2 (s 6 a0.toNat))))))) < lsV (vw 4 s) a0.toNat (min 999 (wr ((s 6 a0.toNat) + (wr ((min a3 (s 6 a1.toNat)) - (min (wr (1 - a2)) (s 6 a0.toNat))))))) → Q [(1, 0)] (n, s)) ∧ (lsV (vw 4 s) a0.toNat (min 999 (wr ((s 6 a0.toNat) + (wr ((min a3 (s 6 a1.toNat)) - (min (wr (1 - a2)) (s 6 a0.toNat))))))) ≤ lsV (vw 4 s) a0.toNat (min 999 (wr ((s 6 a0.toNat) + (wr ((min a3 (s 6 a1.toNat)) - (min a2 (s 6 a0.toNat))))))) → Q [(1, 1)] (n, s))))))))) :
    G 2 120 88 0 [(3, 2), (1, a0), (1, a1), (1, a2), (1, a3)] [] (n, s) Q := by
  refine G_go rfl rfl ?_
  refine G_go rfl rfl ?_
  refine G_go rfl rfl ?_
  refine G_go rfl rfl ?_
  refine G_go rfl rfl ?_
  refine G_call rfl rfl ?_
  refine G_go rfl rfl ?_
  refine G_go rfl rfl ?_
  refine G_rf rfl rfl (by decide) (hR 2 0 3 rfl) ?_
  refine G_rf rfl rfl (by decide) (hR 3 2 6 rfl) ?_
  refine G_go rfl rfl ?_
  obtain ⟨g1, h⟩ := h
  refine G_ir (n := 6) rfl rfl (by decide) (by decide) g1 ?_
  refine G_min rfl rfl ?_
  refine G_go rfl rfl ?_
  refine G_go rfl rfl ?_
  refine G_go rfl rfl ?_
  refine G_rf rfl rfl (by decide) (hR 2 0 3 rfl) ?_
  refine G_rf rfl rfl (by decide) (hR 3 2 6 rfl) ?_
  refine G_go rfl rfl ?_
  obtain ⟨g2, h⟩ := h
  refine G_ir (n := 6) rfl rfl (by decide) (by decide) g2 ?_
  refine G_min rfl rfl ?_
  refine G_go rfl rfl ?_
  refine G_go rfl rfl ?_
  refine G_rf rfl rfl (by decide) (hR 2 0 3 rfl) ?_
  refine G_go rfl rfl ?_
  refine G_go rfl rfl ?_
  refine G_go rfl rfl ?_
  refine G_go rfl rfl ?_
  refine G_call rfl rfl ?_
  refine G_go rfl rfl ?_
  refine G_go rfl rfl ?_
  refine G_go rfl rfl ?_
  refine G_go rfl rfl ?_
  refine G_go rfl rfl ?_
  refine G_call rfl rfl ?_
  refine G_go rfl rfl ?_
  refine G_go rfl rfl ?_
  refine G_rf rfl rfl (by decide) (hR 3 2 6 rfl) ?_
  refine G_go rfl rfl ?_
  refine G_ir (n := 6) rfl rfl (by decide) (by decide) g1 ?_
  refine G_go rfl rfl ?_
  refine G_go rfl rfl ?_
  refine G_min rfl rfl ?_
  refine G_ret rfl rfl ?_
  refine G_call rfl rfl ?_
  obtain ⟨g3, h⟩ := h
  obtain ⟨g4, h⟩ := h
  obtain ⟨g5, h⟩ := h
  refine c_X5_lastsHolding_3 n _ _ a0 (min 999 (wr ((s 6 a0.toNat) + (wr ((min a3 (s 6 a1.toNat)) - (min a2 (s 6 a0.toNat))))))) hR g1 g3 g4 g5 ?_
  refine G_ret rfl rfl ?_
  refine G_ret rfl rfl ?_
  refine G_go rfl rfl ?_
  refine G_go rfl rfl ?_
  refine G_go rfl rfl ?_
  refine G_go rfl rfl ?_
  refine G_go rfl rfl ?_
  refine G_go rfl rfl ?_
  refine G_go rfl rfl ?_
  refine G_call rfl rfl ?_
  refine G_go rfl rfl ?_
  refine G_go rfl rfl ?_
  refine G_rf rfl rfl (by decide) (hR 2 0 3 rfl) ?_
  refine G_rf rfl rfl (by decide) (hR 3 2 6 rfl) ?_
  refine G_go rfl rfl ?_
  refine G_ir (n := 6) rfl rfl (by decide) (by decide) g1 ?_
  refine G_min rfl rfl ?_
  refine G_go rfl rfl ?_
  refine G_go rfl rfl ?_
  refine G_go rfl rfl ?_
  refine G_rf rfl rfl (by decide) (hR 2 0 3 rfl) ?_
  refine G_rf rfl rfl (by decide) (hR 3 2 6 rfl) ?_
  refine G_go rfl rfl ?_
  refine G_ir (n := 6) rfl rfl (by decide) (by decide) g2 ?_
  refine G_min rfl rfl ?_
  refine G_go rfl rfl ?_
  refine G_go rfl rfl ?_
  refine G_rf rfl rfl (by decide) (hR 2 0 3 rfl) ?_
  refine G_go rfl rfl ?_
  refine G_go rfl rfl ?_
  refine G_go rfl rfl ?_
  refine G_go rfl rfl ?_
  refine G_call rfl rfl ?_
  refine G_go rfl rfl ?_
  refine G_go rfl rfl ?_
  refine G_go rfl rfl ?_
  refine G_go rfl rfl ?_
  refine G_go rfl rfl ?_
  refine G_call rfl rfl ?_
  refine G_go rfl rfl ?_
  refine G_go rfl rfl ?_
  refine G_rf rfl rfl (by decide) (hR 3 2 6 rfl) ?_
  refine G_go rfl rfl ?_
  refine G_ir (n := 6) rfl rfl (by decide) (by decide) g1 ?_
  refine G_go rfl rfl ?_
  refine G_go rfl rfl ?_
  refine G_min rfl rfl ?_
  refine G_ret rfl rfl ?_
  refine G_call rfl rfl ?_
  obtain ⟨g6, h⟩ := h
  refine c_X5_lastsHolding_3 n _ _ a0 (min 999 (wr ((s 6 a0.toNat) + (wr ((min a3 (s 6 a1.toNat)) - (min (wr (1 - a2)) (s 6 a0.toNat))))))) hR g1 g3 g6 g5 ?_
  refine G_ret rfl rfl ?_
  refine G_ret rfl rfl ?_
  refine G_lt rfl rfl (fun c7 => ?_) (fun c7 => ?_)
  · have h := h.1 c7
    refine G_go rfl rfl ?_
    exact G_ret rfl rfl h
  · have h := h.2 c7
    refine G_go rfl rfl ?_
    refine G_go rfl rfl ?_
    exact G_ret rfl rfl h
theorem sb_X6_halve_0 (n : Nat) (s : Nat → Nat → Int) (Q : List Vl → Sto → Prop) (a0 : Int) (a1 : Int) (hR : refs s)
    (h : (a0 < 0 → Q [(1, (-1))] (n, upS s 119 1 (wr ((s 119 1) + 1)))) ∧ (0 ≤ a0 → (s 3 9 ≤ a0 → Q [(1, (-1))] (n, upS s 119 1 (wr ((s 119 1) + 1)))) ∧ (a0 < s 3 9 → (a1 < 0 → Q [(1, (-1))] (n, upS s 119 1 (wr ((s 119 1) + 1)))) ∧ (0 ≤ a1 → (s 3 9 ≤ a1 → Q [(1, (-1))] (n, upS s 119 1 (wr ((s 119 1) + 1)))) ∧ (a1 < s 3 9 → (a0 = a1 → Q [(1, (-1))] (n, upS s 119 1 (wr ((s 119 1) + 1)))) ∧ (a0 ≠ a1 → G 2 120 89 20 [(3, 2), (1, a0), (1, a1), (1, 0), (1, 0), (0, 0)] [] (n, s) Q)))))) :
    G 2 120 89 0 [(3, 2), (1, a0), (1, a1), (0, 0), (0, 0), (0, 0)] [] (n, s) Q := by
  refine G_go rfl rfl ?_
  refine G_go rfl rfl ?_
  refine G_go rfl rfl ?_
  refine G_call rfl rfl ?_
  refine G_go rfl rfl ?_
  refine G_rf rfl rfl (by decide) (hR 2 0 3 rfl) ?_
  refine G_go rfl rfl ?_
  refine G_call rfl rfl ?_
  refine G_go rfl rfl ?_
  refine G_lt rfl rfl (fun c1 => ?_) (fun c1 => ?_)
  · have h := h.1 c1
    refine G_go rfl rfl ?_
    refine G_ret rfl rfl ?_
    refine G_brT rfl rfl rfl ?_
    refine G_go rfl rfl ?_
    refine G_ret rfl rfl ?_
    refine G_go rfl rfl ?_
    show G 2 120 89 7 [(3, 2), (1, a0), (1, a1), (1, (-1)), (0, 0), (0, 0)] [] (n, s) Q
    refine G_go rfl rfl ?_
    refine G_brF rfl rfl rfl ?_
    refine G_go rfl rfl ?_
    refine G_go rfl rfl ?_
    refine G_call rfl rfl ?_
    refine G_go rfl rfl ?_
    refine G_go rfl rfl ?_
    refine G_go rfl rfl ?_
    refine G_go rfl rfl ?_
    refine G_brF rfl rfl rfl ?_
    refine G_go rfl rfl ?_
    refine G_go rfl rfl ?_
    refine G_rf rfl rfl (by decide) (hR 2 7 119 rfl) ?_
    refine G_go rfl rfl ?_
    refine G_brF rfl rfl rfl ?_
    refine G_go rfl rfl ?_
    refine G_rf rfl rfl (by decide) (hR 2 7 119 rfl) ?_
    refine G_go rfl rfl ?_
    refine G_go rfl rfl ?_
    refine G_ir (n := 7) rfl rfl (by decide) (by decide) (by decide) ?_
    refine G_go rfl rfl ?_
    refine G_go rfl rfl ?_
    refine G_iw (n := 7) rfl rfl (by decide) (by decide) (by decide) ?_
    have hR := refs_up (a := 119) (k := 1) (x := wr ((s 119 1) + 1)) hR rfl
    refine G_go rfl rfl ?_
    refine G_ret rfl rfl ?_
    exact G_ret rfl rfl h
  · have h := h.2 c1
    refine G_go rfl rfl ?_
    refine G_go rfl rfl ?_
    refine G_rd rfl rfl (by decide) ?_
    refine G_ge rfl rfl (fun c2 => ?_) (fun c2 => ?_)
    · have h := h.1 c2
      refine G_go rfl rfl ?_
      refine G_ret rfl rfl ?_
      refine G_brT rfl rfl rfl ?_
      refine G_go rfl rfl ?_
      refine G_ret rfl rfl ?_
      refine G_go rfl rfl ?_
      show G 2 120 89 7 [(3, 2), (1, a0), (1, a1), (1, (-1)), (0, 0), (0, 0)] [] (n, s) Q
      refine G_go rfl rfl ?_
      refine G_brF rfl rfl rfl ?_
      refine G_go rfl rfl ?_
      refine G_go rfl rfl ?_
      refine G_call rfl rfl ?_
      refine G_go rfl rfl ?_
      refine G_go rfl rfl ?_
      refine G_go rfl rfl ?_
      refine G_go rfl rfl ?_
      refine G_brF rfl rfl rfl ?_
      refine G_go rfl rfl ?_
      refine G_go rfl rfl ?_
      refine G_rf rfl rfl (by decide) (hR 2 7 119 rfl) ?_
      refine G_go rfl rfl ?_
      refine G_brF rfl rfl rfl ?_
      refine G_go rfl rfl ?_
      refine G_rf rfl rfl (by decide) (hR 2 7 119 rfl) ?_
      refine G_go rfl rfl ?_
      refine G_go rfl rfl ?_
      refine G_ir (n := 7) rfl rfl (by decide) (by decide) (by decide) ?_
      refine G_go rfl rfl ?_
      refine G_go rfl rfl ?_
      refine G_iw (n := 7) rfl rfl (by decide) (by decide) (by decide) ?_
      have hR := refs_up (a := 119) (k := 1) (x := wr ((s 119 1) + 1)) hR rfl
      refine G_go rfl rfl ?_
      refine G_ret rfl rfl ?_
      exact G_ret rfl rfl h
    · have h := h.2 c2
      refine G_go rfl rfl ?_
      refine G_go rfl rfl ?_
      refine G_ret rfl rfl ?_
      refine G_brF rfl rfl rfl ?_
      refine G_go rfl rfl ?_
      refine G_rf rfl rfl (by decide) (hR 2 0 3 rfl) ?_
      refine G_go rfl rfl ?_
      refine G_call rfl rfl ?_
      refine G_go rfl rfl ?_
      refine G_lt rfl rfl (fun c3 => ?_) (fun c3 => ?_)
      · have h := h.1 c3
        refine G_go rfl rfl ?_
        refine G_ret rfl rfl ?_
        refine G_brT rfl rfl rfl ?_
        refine G_go rfl rfl ?_
        refine G_ret rfl rfl ?_
        refine G_go rfl rfl ?_
        show G 2 120 89 7 [(3, 2), (1, a0), (1, a1), (1, (-1)), (0, 0), (0, 0)] [] (n, s) Q
        refine G_go rfl rfl ?_
        refine G_brF rfl rfl rfl ?_
        refine G_go rfl rfl ?_
        refine G_go rfl rfl ?_
        refine G_call rfl rfl ?_
        refine G_go rfl rfl ?_
        refine G_go rfl rfl ?_
        refine G_go rfl rfl ?_
        refine G_go rfl rfl ?_
        refine G_brF rfl rfl rfl ?_
        refine G_go rfl rfl ?_
        refine G_go rfl rfl ?_
        refine G_rf rfl rfl (by decide) (hR 2 7 119 rfl) ?_
        refine G_go rfl rfl ?_
        refine G_brF rfl rfl rfl ?_
        refine G_go rfl rfl ?_
        refine G_rf rfl rfl (by decide) (hR 2 7 119 rfl) ?_
        refine G_go rfl rfl ?_
        refine G_go rfl rfl ?_
        refine G_ir (n := 7) rfl rfl (by decide) (by decide) (by decide) ?_
        refine G_go rfl rfl ?_
        refine G_go rfl rfl ?_
        refine G_iw (n := 7) rfl rfl (by decide) (by decide) (by decide) ?_
        have hR := refs_up (a := 119) (k := 1) (x := wr ((s 119 1) + 1)) hR rfl
        refine G_go rfl rfl ?_
        refine G_ret rfl rfl ?_
        exact G_ret rfl rfl h
      · have h := h.2 c3
        refine G_go rfl rfl ?_
        refine G_go rfl rfl ?_
        refine G_rd rfl rfl (by decide) ?_
        refine G_ge rfl rfl (fun c4 => ?_) (fun c4 => ?_)
        · have h := h.1 c4
          refine G_go rfl rfl ?_
          refine G_ret rfl rfl ?_
          refine G_brT rfl rfl rfl ?_
          refine G_go rfl rfl ?_
          refine G_ret rfl rfl ?_
          refine G_go rfl rfl ?_
          show G 2 120 89 7 [(3, 2), (1, a0), (1, a1), (1, (-1)), (0, 0), (0, 0)] [] (n, s) Q
          refine G_go rfl rfl ?_
          refine G_brF rfl rfl rfl ?_
          refine G_go rfl rfl ?_
          refine G_go rfl rfl ?_
          refine G_call rfl rfl ?_
          refine G_go rfl rfl ?_
          refine G_go rfl rfl ?_
          refine G_go rfl rfl ?_
          refine G_go rfl rfl ?_
          refine G_brF rfl rfl rfl ?_
          refine G_go rfl rfl ?_
          refine G_go rfl rfl ?_
          refine G_rf rfl rfl (by decide) (hR 2 7 119 rfl) ?_
          refine G_go rfl rfl ?_
          refine G_brF rfl rfl rfl ?_
          refine G_go rfl rfl ?_
          refine G_rf rfl rfl (by decide) (hR 2 7 119 rfl) ?_
          refine G_go rfl rfl ?_
          refine G_go rfl rfl ?_
          refine G_ir (n := 7) rfl rfl (by decide) (by decide) (by decide) ?_
          refine G_go rfl rfl ?_
          refine G_go rfl rfl ?_
          refine G_iw (n := 7) rfl rfl (by decide) (by decide) (by decide) ?_
          have hR := refs_up (a := 119) (k := 1) (x := wr ((s 119 1) + 1)) hR rfl
          refine G_go rfl rfl ?_
          refine G_ret rfl rfl ?_
          exact G_ret rfl rfl h
        · have h := h.2 c4
          refine G_go rfl rfl ?_
          refine G_go rfl rfl ?_
          refine G_ret rfl rfl ?_
          refine G_brF rfl rfl rfl ?_
          refine G_go rfl rfl ?_
          refine G_go rfl rfl ?_
          refine G_eq rfl rfl (fun c5 => ?_) (fun c5 => ?_)
          · have h := h.1 c5
            refine G_go rfl rfl ?_
            refine G_ret rfl rfl ?_
            refine G_go rfl rfl ?_
            show G 2 120 89 7 [(3, 2), (1, a0), (1, a1), (1, (-1)), (0, 0), (0, 0)] [] (n, s) Q
            refine G_go rfl rfl ?_
            refine G_brF rfl rfl rfl ?_
            refine G_go rfl rfl ?_
            refine G_go rfl rfl ?_
            refine G_call rfl rfl ?_
            refine G_go rfl rfl ?_
            refine G_go rfl rfl ?_
            refine G_go rfl rfl ?_
            refine G_go rfl rfl ?_
            refine G_brF rfl rfl rfl ?_
            refine G_go rfl rfl ?_
            refine G_go rfl rfl ?_
            refine G_rf rfl rfl (by decide) (hR 2 7 119 rfl) ?_
            refine G_go rfl rfl ?_
            refine G_brF rfl rfl rfl ?_
            refine G_go rfl rfl ?_
            refine G_rf rfl rfl (by decide) (hR 2 7 119 rfl) ?_
            refine G_go rfl rfl ?_
            refine G_go rfl rfl ?_
            refine G_ir (n := 7) rfl rfl (by decide) (by decide) (by decide) ?_
            refine G_go rfl rfl ?_
            refine G_go rfl rfl ?_
            refine G_iw (n := 7) rfl rfl (by decide) (by decide) (by decide) ?_
            have hR := refs_up (a := 119) (k := 1) (x := wr ((s 119 1) + 1)) hR rfl
            refine G_go rfl rfl ?_
            refine G_ret rfl rfl ?_
            exact G_ret rfl rfl h
          · have h := h.2 c5
            refine G_go rfl rfl ?_
            refine G_go rfl rfl ?_
            refine G_ret rfl rfl ?_
            refine G_go rfl rfl ?_
            show G 2 120 89 7 [(3, 2), (1, a0), (1, a1), (1, 0), (0, 0), (0, 0)] [] (n, s) Q
            refine G_go rfl rfl ?_
            refine G_brT rfl rfl rfl ?_
            refine G_go rfl rfl ?_
            refine G_go rfl rfl ?_
            show G 2 120 89 20 [(3, 2), (1, a0), (1, a1), (1, 0), (1, 0), (0, 0)] [] (n, s) Q
            exact h
theorem sb_X6_halve_20 (n : Nat) (s : Nat → Nat → Int) (Q : List Vl → Sto → Prop) (x1 : Int) (x2 : Int) (x3 : Int) (x4 : Int) (w5 : Vl) (hR : refs s)
    (h : (1 < x4 → Q [(1, (-9))] (n, s)) ∧ (x4 ≤ 1 → G 2 120 89 29 [(3, 2), (1, x1), (1, x2), (1, x3), (1, x4), (1, 0)] [] (n, s) Q)) :
    G 2 120 89 20 [(3, 2), (1, x1), (1, x2), (1, x3), (1, x4), w5] [] (n, s) Q := by
  refine G_go rfl rfl ?_
  refine G_go rfl rfl ?_
  refine G_gt rfl rfl (fun c1 => ?_) (fun c1 => ?_)
  · have h := h.1 c1
    refine G_go rfl rfl ?_
    exact G_ret rfl rfl h
  · have h := h.2 c1
    refine G_go rfl rfl ?_
    refine G_go rfl rfl ?_
    show G 2 120 89 29 [(3, 2), (1, x1), (1, x2), (1, x3), (1, x4), (1, 0)] [] (n, s) Q
    exact h
theorem sb_X6_halve_29 (n : Nat) (s : Nat → Nat → Int) (Q : List Vl → Sto → Prop) (x1 : Int) (x2 : Int) (x3 : Int) (x4 : Int) (x5 : Int) (hR : refs s)
    (h : (1 < x5 → G 2 120 89 20 [(3, 2), (1, x1), (1, x2), (1, x3), (1, wr (x4 + 1)), (1, x5)] [] (n, s) Q) ∧ (x5 ≤ 1 → G 2 120 88 0 [(3, 2), (1, x1), (1, x2), (1, x4), (1, x5)] [] (n, s) (fun r s1 => G 2 120 89 45 [(3, 2), (1, x1), (1, x2), (1, x3), (1, x4), (1, x5)] (r ++ []) s1 Q))) :
    G 2 120 89 29 [(3, 2), (1, x1), (1, x2), (1, x3), (1, x4), (1, x5)] [] (n, s) Q := by
  refine G_go rfl rfl ?_
  refine G_go rfl rfl ?_
  refine G_gt rfl rfl (fun c1 => ?_) (fun c1 => ?_)
  · have h := h.1 c1
    refine G_go rfl rfl ?_
    refine G_go rfl rfl ?_
    exact h
  · have h := h.2 c1
    refine G_go rfl rfl ?_
    refine G_go rfl rfl ?_
    refine G_go rfl rfl ?_
    refine G_go rfl rfl ?_
    refine G_go rfl rfl ?_
    exact G_call rfl rfl h
theorem sb_X6_halve_45 (n : Nat) (s : Nat → Nat → Int) (Q : List Vl → Sto → Prop) (x1 : Int) (x2 : Int) (x3 : Int) (x4 : Int) (x5 : Int) (y0 : Int) (hR : refs s)
    (h : (y0 = 0 → G 2 120 89 29 [(3, 2), (1, x1), (1, x2), (1, x3), (1, x4), (1, wr (x5 + 1))] [] (n, s) Q) ∧ (y0 ≠ 0 → G 2 120 88 0 [(3, 2), (1, x2), (1, x1), (1, x5), (1, x4)] [] (n, s) (fun r s1 => G 2 120 89 58 [(3, 2), (1, x1), (1, x2), (1, x3), (1, x4), (1, x5)] (r ++ []) s1 Q))) :
    G 2 120 89 45 [(3, 2), (1, x1), (1, x2), (1, x3), (1, x4), (1, x5)] [(1, y0)] (n, s) Q := by
  refine G_eq rfl rfl (fun c1 => ?_) (fun c1 => ?_)
  · have h := h.1 c1
    refine G_go rfl rfl ?_
    refine G_go rfl rfl ?_
    exact h
  · have h := h.2 c1
    refine G_go rfl rfl ?_
    refine G_go rfl rfl ?_
    refine G_go rfl rfl ?_
    refine G_go rfl rfl ?_
    refine G_go rfl rfl ?_
    exact G_call rfl rfl h
theorem sb_X6_halve_58 (n : Nat) (s : Nat → Nat → Int) (Q : List Vl → Sto → Prop) (x1 : Int) (x2 : Int) (x3 : Int) (x4 : Int) (x5 : Int) (y0 : Int) (hR : refs s)
    (h : (y0 = 0 → G 2 120 89 29 [(3, 2), (1, x1), (1, x2), (1, x3), (1, x4), (1, wr (x5 + 1))] [] (n, s) Q) ∧ (y0 ≠ 0 → Q [(1, wr ((wr (10 * x4)) + x5))] (n, s))) :
    G 2 120 89 58 [(3, 2), (1, x1), (1, x2), (1, x3), (1, x4), (1, x5)] [(1, y0)] (n, s) Q := by
  refine G_eq rfl rfl (fun c1 => ?_) (fun c1 => ?_)
  · have h := h.1 c1
    refine G_go rfl rfl ?_
    refine G_go rfl rfl ?_
    exact h
  · have h := h.2 c1
    refine G_go rfl rfl ?_
    refine G_go rfl rfl ?_
    refine G_go rfl rfl ?_
    refine G_go rfl rfl ?_
    refine G_go rfl rfl ?_
    exact G_ret rfl rfl h
theorem sb_X7_ring_0 (n : Nat) (s : Nat → Nat → Int) (Q : List Vl → Sto → Prop) (a0 : Int) (hR : refs s)
    (h : (a0 < 0 → Q [(1, (-1))] (n, upS (upS s 120 10 0) 129 1 (wr ((s 129 1) + 1)))) ∧ (a0 ≥ 0 → (a0 > wr ((s 120 0) - 1) → Q [(1, (-1))] (n, upS (upS s 120 10 0) 129 1 (wr ((s 129 1) + 1)))) ∧ (a0 ≤ wr ((s 120 0) - 1) → G 120 140 211 26 [(3, 120), (1, a0), (1, 0), (1, a0), (1, 0)] [] (n, upS s 120 10 0) Q))) :
    G 120 140 211 0 [(3, 120), (1, a0), (0, 0), (0, 0), (0, 0)] [] (n, s) Q := by
  refine G_go rfl rfl ?_
  refine G_go rfl rfl ?_
  refine G_wr rfl rfl (by decide) ?_
  have hR := refs_up (a := 120) (k := 10) (x := 0) hR rfl
  refine G_go rfl rfl ?_
  refine G_go rfl rfl ?_
  refine G_call rfl rfl ?_
  refine G_go rfl rfl ?_
  refine G_go rfl rfl ?_
  refine G_go rfl rfl ?_
  refine G_go rfl rfl ?_
  refine G_rd rfl rfl (by decide) ?_
  refine G_go rfl rfl ?_
  refine G_go rfl rfl ?_
  refine G_go rfl rfl ?_
  refine G_call rfl rfl ?_
  refine G_go rfl rfl ?_
  refine G_go rfl rfl ?_
  refine G_go rfl rfl ?_
  refine G_lt rfl rfl (fun c1 => ?_) (fun c1 => ?_)
  · have c1 := xl_lt c1
    have h := h.1 c1
    refine G_go rfl rfl ?_
    refine G_ret rfl rfl ?_
    refine G_ret rfl rfl ?_
    refine G_brF rfl rfl rfl ?_
    refine G_go rfl rfl ?_
    refine G_go rfl rfl ?_
    refine G_call rfl rfl ?_
    refine G_go rfl rfl ?_
    refine G_rf rfl rfl (by decide) (hR 120 11 129 rfl) ?_
    refine G_go rfl rfl ?_
    refine G_go rfl rfl ?_
    refine G_go rfl rfl ?_
    refine G_ir (n := 7) rfl rfl (by decide) (by decide) (by decide) ?_
    refine G_go rfl rfl ?_
    refine G_go rfl rfl ?_
    refine G_iw (n := 7) rfl rfl (by decide) (by decide) (by decide) ?_
    have hR := refs_up (a := 129) (k := 1) (x := wr ((s 129 1) + 1)) hR rfl
    refine G_go rfl rfl ?_
    refine G_ret rfl rfl ?_
    exact G_ret rfl rfl h
  · have c1 := xl_ge c1
    have h := h.2 c1
    refine G_go rfl rfl ?_
    refine G_go rfl rfl ?_
    refine G_go rfl rfl ?_
    refine G_gt rfl rfl (fun c2 => ?_) (fun c2 => ?_)
    · have c2 := xl_gt c2
      have h := h.1 c2
      refine G_go rfl rfl ?_
      refine G_ret rfl rfl ?_
      refine G_ret rfl rfl ?_
      refine G_brF rfl rfl rfl ?_
      refine G_go rfl rfl ?_
      refine G_go rfl rfl ?_
      refine G_call rfl rfl ?_
      refine G_go rfl rfl ?_
      refine G_rf rfl rfl (by decide) (hR 120 11 129 rfl) ?_
      refine G_go rfl rfl ?_
      refine G_go rfl rfl ?_
      refine G_go rfl rfl ?_
      refine G_ir (n := 7) rfl rfl (by decide) (by decide) (by decide) ?_
      refine G_go rfl rfl ?_
      refine G_go rfl rfl ?_
      refine G_iw (n := 7) rfl rfl (by decide) (by decide) (by decide) ?_
      have hR := refs_up (a := 129) (k := 1) (x := wr ((s 129 1) + 1)) hR rfl
      refine G_go rfl rfl ?_
      refine G_ret rfl rfl ?_
      exact G_ret rfl rfl h
    · have c2 := xl_le c2
      have h := h.2 c2
      refine G_go rfl rfl ?_
      refine G_go rfl rfl ?_
      refine G_ret rfl rfl ?_
      refine G_ret rfl rfl ?_
      refine G_brT rfl rfl rfl ?_
      refine G_go rfl rfl ?_
      refine G_go rfl rfl ?_
      show G 120 140 211 21 [(3, 120), (1, a0), (1, 0), (0, 0), (0, 0)] [] (n, upS s 120 10 0) Q
      refine G_go rfl rfl ?_
      refine G_go rfl rfl ?_
      show G 120 140 211 23 [(3, 120), (1, a0), (1, 0), (1, a0), (0, 0)] [] (n, upS s 120 10 0) Q
      refine G_go rfl rfl ?_
      refine G_go rfl rfl ?_
      show G 120 140 211 26 [(3, 120), (1, a0), (1, 0), (1, a0), (1, 0)] [] (n, upS s 120 10 0) Q
      exact h
theorem sb_X7_ring_26 (n : Nat) (s : Nat → Nat → Int) (Q : List Vl → Sto → Prop) (x1 : Int) (x2 : Int) (x3 : Int) (x4 : Int) (hR : refs s)
    (h : (x3 < 0 → Q [(1, x4)] (n, s)) ∧ (0 ≤ x3 → (xand (xshr x2 x3) 1 ≠ 1 → (0 ≤ x3 ∧ x3 < 6) ∧ (G 120 140 211 26 [(3, 120), (1, x1), (1, xor_ x2 (xshl 1 x3)), (1, s 128 x3.toNat), (1, wr (x4 + 1))] [] (n, s) Q)) ∧ (xand (xshr x2 x3) 1 = 1 → Q [(1, x4)] (n, s)))) :
    G 120 140 211 26 [(3, 120), (1, x1), (1, x2), (1, x3), (1, x4)] [] (n, s) Q := by
  refine G_go rfl rfl ?_
  refine G_lt rfl rfl (fun c1 => ?_) (fun c1 => ?_)
  · have h := h.1 c1
    refine G_go rfl rfl ?_
    exact G_ret rfl rfl h
  · have h := h.2 c1
    refine G_go rfl rfl ?_
    refine G_go rfl rfl ?_
    refine G_call rfl rfl ?_
    refine G_go rfl rfl ?_
    refine G_go rfl rfl ?_
    refine G_go rfl rfl ?_
    refine G_go rfl rfl ?_
    refine G_go rfl rfl ?_
    refine G_go rfl rfl ?_
    refine G_ne rfl rfl (fun c2 => ?_) (fun c2 => ?_)
    · have h := h.1 c2
      refine G_go rfl rfl ?_
      refine G_ret rfl rfl ?_
      refine G_brF rfl rfl rfl ?_
      refine G_go rfl rfl ?_
      refine G_go rfl rfl ?_
      refine G_go rfl rfl ?_
      refine G_go rfl rfl ?_
      refine G_go rfl rfl ?_
      refine G_go rfl rfl ?_
      show G 120 140 211 44 [(3, 120), (1, x1), (1, xor_ x2 (xshl 1 x3)), (1, x3), (1, x4)] [] (n, s) Q
      refine G_go rfl rfl ?_
      refine G_go rfl rfl ?_
      refine G_rf rfl rfl (by decide) (hR 120 8 128 rfl) ?_
      refine G_go rfl rfl ?_
      obtain ⟨g3, h⟩ := h
      refine G_ir (n := 6) rfl rfl (by decide) (by decide) g3 ?_
      refine G_go rfl rfl ?_
      show G 120 140 211 54 [(3, 120), (1, x1), (1, xor_ x2 (xshl 1 x3)), (1, s 128 x3.toNat), (1, wr (x4 + 1))] [] (n, s) Q
      refine G_go rfl rfl ?_
      exact h
    · have h := h.2 c2
      refine G_go rfl rfl ?_
      refine G_go rfl rfl ?_
      refine G_ret rfl rfl ?_
      refine G_brT rfl rfl rfl ?_
      refine G_go rfl rfl ?_
      exact G_ret rfl rfl h
theorem sb_X7_halve_0 (n : Nat) (s : Nat → Nat → Int) (Q : List Vl → Sto → Prop) (a0 : Int) (a1 : Int) (hR : refs s)
    (h : (a0 < 0 → Q [(1, (-1))] (n, upS (upS s 120 10 0) 129 1 (wr ((s 129 1) + 1)))) ∧ (a0 ≥ 0 → (a0 > wr ((s 120 0) - 1) → Q [(1, (-1))] (n, upS (upS s 120 10 0) 129 1 (wr ((s 129 1) + 1)))) ∧ (a0 ≤ wr ((s 120 0) - 1) → (a1 < 0 → Q [(1, (-1))] (n, upS (upS s 120 10 0) 129 1 (wr ((s 129 1) + 1)))) ∧ (a1 ≥ 0 → (a1 > wr ((s 120 0) - 1) → Q [(1, (-1))] (n, upS (upS s 120 10 0) 129 1 (wr ((s 129 1) + 1)))) ∧ (a1 ≤ wr ((s 120 0) - 1) → (a0 = a1 → Q [(1, (-1))] (n, upS (upS s 120 10 0) 129 1 (wr ((s 129 1) + 1)))) ∧ (a0 ≠ a1 → G 120 140 184 22 [(3, 120), (1, a0), (1, a1), (1, 0), (0, 0), (0, 0)] [] (n, upS s 120 10 0) Q)))))) :
    G 120 140 184 0 [(3, 120), (1, a0), (1, a1), (0, 0), (0, 0), (0, 0)] [] (n, s) Q := by
  refine G_go rfl rfl ?_
  refine G_go rfl rfl ?_
  refine G_wr rfl rfl (by decide) ?_
  have hR := refs_up (a := 120) (k := 10) (x := 0) hR rfl
  refine G_go rfl rfl ?_
  refine G_go rfl rfl ?_
  refine G_go rfl rfl ?_
  refine G_call rfl rfl ?_
  refine G_go rfl rfl ?_
  refine G_go rfl rfl ?_
  refine G_call rfl rfl ?_
  refine G_go rfl rfl ?_
  refine G_go rfl rfl ?_
  refine G_go rfl rfl ?_
  refine G_go rfl rfl ?_
  refine G_rd rfl rfl (by decide) ?_
  refine G_go rfl rfl ?_
  refine G_go rfl rfl ?_
  refine G_go rfl rfl ?_
  refine G_call rfl rfl ?_
  refine G_go rfl rfl ?_
  refine G_go rfl rfl ?_
  refine G_go rfl rfl ?_
  refine G_lt rfl rfl (fun c1 => ?_) (fun c1 => ?_)
  · have c1 := xl_lt c1
    have h := h.1 c1
    refine G_go rfl rfl ?_
    refine G_ret rfl rfl ?_
    refine G_ret rfl rfl ?_
    refine G_brT rfl rfl rfl ?_
    refine G_go rfl rfl ?_
    refine G_ret rfl rfl ?_
    refine G_brF rfl rfl rfl ?_
    refine G_go rfl rfl ?_
    refine G_go rfl rfl ?_
    refine G_call rfl rfl ?_
    refine G_go rfl rfl ?_
    refine G_rf rfl rfl (by decide) (hR 120 11 129 rfl) ?_
    refine G_go rfl rfl ?_
    refine G_go rfl rfl ?_
    refine G_go rfl rfl ?_
    refine G_ir (n := 7) rfl rfl (by decide) (by decide) (by decide) ?_
    refine G_go rfl rfl ?_
    refine G_go rfl rfl ?_
    refine G_iw (n := 7) rfl rfl (by decide) (by decide) (by decide) ?_
    have hR := refs_up (a := 129) (k := 1) (x := wr ((s 129 1) + 1)) hR rfl
    refine G_go rfl rfl ?_
    refine G_ret rfl rfl ?_
    exact G_ret rfl rfl h
  · have c1 := xl_ge c1
    have h := h.2 c1
    refine G_go rfl rfl ?_
    refine G_go rfl rfl ?_
    refine G_go rfl rfl ?_
    refine G_gt rfl rfl (fun c2 => ?_) (fun c2 => ?_)
    · have c2 := xl_gt c2
      have h := h.1 c2
      refine G_go rfl rfl ?_
      refine G_ret rfl rfl ?_
      refine G_ret rfl rfl ?_
      refine G_brT rfl rfl rfl ?_
      refine G_go rfl rfl ?_
      refine G_ret rfl rfl ?_
      refine G_brF rfl rfl rfl ?_
      refine G_go rfl rfl ?_
      refine G_go rfl rfl ?_
      refine G_call rfl rfl ?_
      refine G_go rfl rfl ?_
      refine G_rf rfl rfl (by decide) (hR 120 11 129 rfl) ?_
      refine G_go rfl rfl ?_
      refine G_go rfl rfl ?_
      refine G_go rfl rfl ?_
      refine G_ir (n := 7) rfl rfl (by decide) (by decide) (by decide) ?_
      refine G_go rfl rfl ?_
      refine G_go rfl rfl ?_
      refine G_iw (n := 7) rfl rfl (by decide) (by decide) (by decide) ?_
      have hR := refs_up (a := 129) (k := 1) (x := wr ((s 129 1) + 1)) hR rfl
      refine G_go rfl rfl ?_
      refine G_ret rfl rfl ?_
      exact G_ret rfl rfl h
    · have c2 := xl_le c2
      have h := h.2 c2
      refine G_go rfl rfl ?_
      refine G_go rfl rfl ?_
      refine G_ret rfl rfl ?_
      refine G_ret rfl rfl ?_
      refine G_brF rfl rfl rfl ?_
      refine G_go rfl rfl ?_
      refine G_go rfl rfl ?_
      refine G_call rfl rfl ?_
      refine G_go rfl rfl ?_
      refine G_go rfl rfl ?_
      refine G_go rfl rfl ?_
      refine G_go rfl rfl ?_
      refine G_rd rfl rfl (by decide) ?_
      refine G_go rfl rfl ?_
      refine G_go rfl rfl ?_
      refine G_go rfl rfl ?_
      refine G_call rfl rfl ?_
      refine G_go rfl rfl ?_
      refine G_go rfl rfl ?_
      refine G_go rfl rfl ?_
      refine G_lt rfl rfl (fun c3 => ?_) (fun c3 => ?_)
      · have c3 := xl_lt c3
        have h := h.1 c3
        refine G_go rfl rfl ?_
        refine G_ret rfl rfl ?_
        refine G_ret rfl rfl ?_
        refine G_brT rfl rfl rfl ?_
        refine G_go rfl rfl ?_
        refine G_ret rfl rfl ?_
        refine G_brF rfl rfl rfl ?_
        refine G_go rfl rfl ?_
        refine G_go rfl rfl ?_
        refine G_call rfl rfl ?_
        refine G_go rfl rfl ?_
        refine G_rf rfl rfl (by decide) (hR 120 11 129 rfl) ?_
        refine G_go rfl rfl ?_
        refine G_go rfl rfl ?_
        refine G_go rfl rfl ?_
        refine G_ir (n := 7) rfl rfl (by decide) (by decide) (by decide) ?_
        refine G_go rfl rfl ?_
        refine G_go rfl rfl ?_
        refine G_iw (n := 7) rfl rfl (by decide) (by decide) (by decide) ?_
        have hR := refs_up (a := 129) (k := 1) (x := wr ((s 129 1) + 1)) hR rfl
        refine G_go rfl rfl ?_
        refine G_ret rfl rfl ?_
        exact G_ret rfl rfl h
      · have c3 := xl_ge c3
        have h := h.2 c3
        refine G_go rfl rfl ?_
        refine G_go rfl rfl ?_
        refine G_go rfl rfl ?_
        refine G_gt rfl rfl (fun c4 => ?_) (fun c4 => ?_)
        · have c4 := xl_gt c4
          have h := h.1 c4
          refine G_go rfl rfl ?_
          refine G_ret rfl rfl ?_
          refine G_ret rfl rfl ?_
          refine G_brT rfl rfl rfl ?_
          refine G_go rfl rfl ?_
          refine G_ret rfl rfl ?_
          refine G_brF rfl rfl rfl ?_
          refine G_go rfl rfl ?_
          refine G_go rfl rfl ?_
          refine G_call rfl rfl ?_
          refine G_go rfl rfl ?_
          refine G_rf rfl rfl (by decide) (hR 120 11 129 rfl) ?_
          refine G_go rfl rfl ?_
          refine G_go rfl rfl ?_
          refine G_go rfl rfl ?_
          refine G_ir (n := 7) rfl rfl (by decide) (by decide) (by decide) ?_
          refine G_go rfl rfl ?_
          refine G_go rfl rfl ?_
          refine G_iw (n := 7) rfl rfl (by decide) (by decide) (by decide) ?_
          have hR := refs_up (a := 129) (k := 1) (x := wr ((s 129 1) + 1)) hR rfl
          refine G_go rfl rfl ?_
          refine G_ret rfl rfl ?_
          exact G_ret rfl rfl h
        · have c4 := xl_le c4
          have h := h.2 c4
          refine G_go rfl rfl ?_
          refine G_go rfl rfl ?_
          refine G_ret rfl rfl ?_
          refine G_ret rfl rfl ?_
          refine G_brF rfl rfl rfl ?_
          refine G_go rfl rfl ?_
          refine G_go rfl rfl ?_
          refine G_eq rfl rfl (fun c5 => ?_) (fun c5 => ?_)
          · have h := h.1 c5
            refine G_go rfl rfl ?_
            refine G_ret rfl rfl ?_
            refine G_brF rfl rfl rfl ?_
            refine G_go rfl rfl ?_
            refine G_go rfl rfl ?_
            refine G_call rfl rfl ?_
            refine G_go rfl rfl ?_
            refine G_rf rfl rfl (by decide) (hR 120 11 129 rfl) ?_
            refine G_go rfl rfl ?_
            refine G_go rfl rfl ?_
            refine G_go rfl rfl ?_
            refine G_ir (n := 7) rfl rfl (by decide) (by decide) (by decide) ?_
            refine G_go rfl rfl ?_
            refine G_go rfl rfl ?_
            refine G_iw (n := 7) rfl rfl (by decide) (by decide) (by decide) ?_
            have hR := refs_up (a := 129) (k := 1) (x := wr ((s 129 1) + 1)) hR rfl
            refine G_go rfl rfl ?_
            refine G_ret rfl rfl ?_
            exact G_ret rfl rfl h
          · have h := h.2 c5
            refine G_go rfl rfl ?_
            refine G_go rfl rfl ?_
            refine G_ret rfl rfl ?_
            refine G_brT rfl rfl rfl ?_
            refine G_go rfl rfl ?_
            refine G_go rfl rfl ?_
            show G 120 140 184 22 [(3, 120), (1, a0), (1, a1), (1, 0), (0, 0), (0, 0)] [] (n, upS s 120 10 0) Q
            exact h
theorem sb_X7_halve_22 (n : Nat) (s : Nat → Nat → Int) (Q : List Vl → Sto → Prop) (x1 : Int) (x2 : Int) (x3 : Int) (w4 : Vl) (w5 : Vl) (hR : refs s)
    (h : (4 ≤ x3 → Q [(1, (-9))] (n, s)) ∧ (x3 < 4 → G 120 140 183 0 [(3, 120), (1, x1), (1, x2), (1, wr (1 - (xdiv x3 2))), (1, xrem x3 2), (1, 0), (0, 0), (0, 0), (0, 0), (0, 0), (0, 0)] [] (n, s) (fun r s1 => G 120 140 184 50 [(3, 120), (1, x1), (1, x2), (1, x3), (1, xdiv x3 2), (1, xrem x3 2)] (r ++ []) s1 Q))) :
    G 120 140 184 22 [(3, 120), (1, x1), (1, x2), (1, x3), w4, w5] [] (n, s) Q := by
  refine G_go rfl rfl ?_
  refine G_go rfl rfl ?_
  refine G_ge rfl rfl (fun c1 => ?_) (fun c1 => ?_)
  · have h := h.1 c1
    refine G_go rfl rfl ?_
    exact G_ret rfl rfl h
  · have h := h.2 c1
    refine G_go rfl rfl ?_
    refine G_go rfl rfl ?_
    refine G_go rfl rfl ?_
    refine G_go rfl rfl ?_
    show G 120 140 184 32 [(3, 120), (1, x1), (1, x2), (1, x3), (1, xdiv x3 2), w5] [] (n, s) Q
    refine G_go rfl rfl ?_
    refine G_go rfl rfl ?_
    refine G_go rfl rfl ?_
    refine G_go rfl rfl ?_
    show G 120 140 184 37 [(3, 120), (1, x1), (1, x2), (1, x3), (1, xdiv x3 2), (1, xrem x3 2)] [] (n, s) Q
    refine G_go rfl rfl ?_
    refine G_go rfl rfl ?_
    refine G_go rfl rfl ?_
    refine G_go rfl rfl ?_
    refine G_go rfl rfl ?_
    refine G_go rfl rfl ?_
    refine G_go rfl rfl ?_
    refine G_go rfl rfl ?_
    exact G_call rfl rfl h
theorem sb_X7_halve_50 (n : Nat) (s : Nat → Nat → Int) (Q : List Vl → Sto → Prop) (x1 : Int) (x2 : Int) (x3 : Int) (x4 : Int) (x5 : Int) (y0 : Int) (hR : refs s)
    (h : G 120 140 183 0 [(3, 120), (1, x1), (1, x2), (1, x4), (1, x5), (1, 0), (0, 0), (0, 0), (0, 0), (0, 0), (0, 0)] [] (n, s) (fun r s1 => G 120 140 184 61 [(3, 120), (1, x1), (1, x2), (1, x3), (1, x4), (1, x5)] (r ++ [(1, y0)]) s1 Q)) :
    G 120 140 184 50 [(3, 120), (1, x1), (1, x2), (1, x3), (1, x4), (1, x5)] [(1, y0)] (n, s) Q := by
  refine G_go rfl rfl ?_
  refine G_go rfl rfl ?_
  refine G_go rfl rfl ?_
  refine G_go rfl rfl ?_
  refine G_go rfl rfl ?_
  refine G_go rfl rfl ?_
  exact G_call rfl rfl h
theorem sb_X7_halve_61 (n : Nat) (s : Nat → Nat → Int) (Q : List Vl → Sto → Prop) (x1 : Int) (x2 : Int) (x3 : Int) (x4 : Int) (x5 : Int) (y0 : Int) (y1 : Int) (hR : refs s)
    (h : (y0 < y1 → G 120 140 184 22 [(3, 120), (1, x1), (1, x2), (1, wr (x3 + 1)), (1, x4), (1, x5)] [] (n, s) Q) ∧ (y1 ≤ y0 → G 120 140 183 0 [(3, 120), (1, x1), (1, x2), (1, x4), (1, wr (1 - x5)), (1, 1), (0, 0), (0, 0), (0, 0), (0, 0), (0, 0)] [] (n, s) (fun r s1 => G 120 140 184 77 [(3, 120), (1, x1), (1, x2), (1, x3), (1, x4), (1, x5)] (r ++ []) s1 Q))) :
    G 120 140 184 61 [(3, 120), (1, x1), (1, x2), (1, x3), (1, x4), (1, x5)] [(1, y0), (1, y1)] (n, s) Q := by
  refine G_gt rfl rfl (fun c1 => ?_) (fun c1 => ?_)
  · have h := h.1 c1
    refine G_go rfl rfl ?_
    refine G_go rfl rfl ?_
    exact h
  · have h := h.2 c1
    refine G_go rfl rfl ?_
    refine G_go rfl rfl ?_
    refine G_go rfl rfl ?_
    refine G_go rfl rfl ?_
    refine G_go rfl rfl ?_
    refine G_go rfl rfl ?_
    refine G_go rfl rfl ?_
    refine G_go rfl rfl ?_
    exact G_call rfl rfl h
theorem sb_X7_halve_77 (n : Nat) (s : Nat → Nat → Int) (Q : List Vl → Sto → Prop) (x1 : Int) (x2 : Int) (x3 : Int) (x4 : Int) (x5 : Int) (y0 : Int) (hR : refs s)
    (h : G 120 140 183 0 [(3, 120), (1, x1), (1, x2), (1, x4), (1, x5), (1, 1), (0, 0), (0, 0), (0, 0), (0, 0), (0, 0)] [] (n, s) (fun r s1 => G 120 140 184 88 [(3, 120), (1, x1), (1, x2), (1, x3), (1, x4), (1, x5)] (r ++ [(1, y0)]) s1 Q)) :
    G 120 140 184 77 [(3, 120), (1, x1), (1, x2), (1, x3), (1, x4), (1, x5)] [(1, y0)] (n, s) Q := by
  refine G_go rfl rfl ?_
  refine G_go rfl rfl ?_
  refine G_go rfl rfl ?_
  refine G_go rfl rfl ?_
  refine G_go rfl rfl ?_
  refine G_go rfl rfl ?_
  exact G_call rfl rfl h
theorem sb_X7_halve_88 (n : Nat) (s : Nat → Nat → Int) (Q : List Vl → Sto → Prop) (x1 : Int) (x2 : Int) (x3 : Int) (x4 : Int) (x5 : Int) (y0 : Int) (y1 : Int) (hR : refs s)
    (h : (y0 < y1 → G 120 140 184 22 [(3, 120), (1, x1), (1, x2), (1, wr (x3 + 1)), (1, x4), (1, x5)] [] (n, s) Q) ∧ (y1 ≤ y0 → Q [(1, wr ((wr (10 * x4)) + x5))] (n, s))) :
    G 120 140 184 88 [(3, 120), (1, x1), (1, x2), (1, x3), (1, x4), (1, x5)] [(1, y0), (1, y1)] (n, s) Q := by
  refine G_gt rfl rfl (fun c1 => ?_) (fun c1 => ?_)
  · have h := h.1 c1
    refine G_go rfl rfl ?_
    refine G_go rfl rfl ?_
    exact h
  · have h := h.2 c1
    refine G_go rfl rfl ?_
    refine G_go rfl rfl ?_
    refine G_go rfl rfl ?_
    refine G_go rfl rfl ?_
    refine G_go rfl rfl ?_
    exact G_ret rfl rfl h
theorem sb_X7_lastsIn_0 (n : Nat) (s : Nat → Nat → Int) (Q : List Vl → Sto → Prop) (a0 : Int) (a1 : Int) (a2 : Int) (a3 : Int) (a4 : Int) (hR : refs s)
    (h : (0 ≤ a0 ∧ a0 < 6) ∧ ((0 ≤ a1 ∧ a1 < 6) ∧ ((a2 ≠ 1 → (a3 ≠ 1 → G 120 140 183 51 [(3, 120), (1, a0), (1, a1), (1, a2), (1, a3), (1, a4), (1, s 123 a0.toNat), (1, s 123 a1.toNat), (1, 0), (1, 0), (0, 0)] [] (n, s) Q) ∧ (a3 = 1 → (s 123 a1.toNat ≤ 0 → G 120 140 183 51 [(3, 120), (1, a0), (1, a1), (1, a2), (1, a3), (1, a4), (1, s 123 a0.toNat), (1, s 123 a1.toNat), (1, 0), (1, 0), (0, 0)] [] (n, s) Q) ∧ (0 < s 123 a1.toNat → G 120 140 183 51 [(3, 120), (1, a0), (1, a1), (1, a2), (1, a3), (1, a4), (1, s 123 a0.toNat), (1, s 123 a1.toNat), (1, 0), (1, 1), (0, 0)] [] (n, s) Q))) ∧ (a2 = 1 → (s 123 a0.toNat ≤ 0 → (a3 ≠ 1 → G 120 140 183 51 [(3, 120), (1, a0), (1, a1), (1, a2), (1, a3), (1, a4), (1, s 123 a0.toNat), (1, s 123 a1.toNat), (1, 0), (1, 0), (0, 0)] [] (n, s) Q) ∧ (a3 = 1 → (s 123 a1.toNat ≤ 0 → G 120 140 183 51 [(3, 120), (1, a0), (1, a1), (1, a2), (1, a3), (1, a4), (1, s 123 a0.toNat), (1, s 123 a1.toNat), (1, 0), (1, 0), (0, 0)] [] (n, s) Q) ∧ (0 < s 123 a1.toNat → G 120 140 183 51 [(3, 120), (1, a0), (1, a1), (1, a2), (1, a3), (1, a4), (1, s 123 a0.toNat), (1, s 123 a1.toNat), (1, 0), (1, 1), (0, 0)] [] (n, s) Q))) ∧ (0 < s 123 a0.toNat → (a3 ≠ 1 → G 120 140 183 51 [(3, 120), (1, a0), (1, a1), (1, a2), (1, a3), (1, a4), (1, s 123 a0.toNat), (1, s 123 a1.toNat), (1, 1), (1, 0), (0, 0)] [] (n, s) Q) ∧ (a3 = 1 → (s 123 a1.toNat ≤ 0 → G 120 140 183 51 [(3, 120), (1, a0), (1, a1), (1, a2), (1, a3), (1, a4), (1, s 123 a0.toNat), (1, s 123 a1.toNat), (1, 1), (1, 0), (0, 0)] [] (n, s) Q) ∧ (0 < s 123 a1.toNat → G 120 140 183 51 [(3, 120), (1, a0), (1, a1), (1, a2), (1, a3), (1, a4), (1, s 123 a0.toNat), (1, s 123 a1.toNat), (1, 1), (1, 1), (0, 0)] [] (n, s) Q))))))) :
    G 120 140 183 0 [(3, 120), (1, a0), (1, a1), (1, a2), (1, a3), (1, a4), (0, 0), (0, 0), (0, 0), (0, 0), (0, 0)] [] (n, s) Q := by
  refine G_go rfl rfl ?_
  refine G_rf rfl rfl (by decide) (hR 120 3 123 rfl) ?_
  refine G_go rfl rfl ?_
  obtain ⟨g1, h⟩ := h
  refine G_ir (n := 6) rfl rfl (by decide) (by decide) g1 ?_
  refine G_go rfl rfl ?_
  show G 120 140 183 8 [(3, 120), (1, a0), (1, a1), (1, a2), (1, a3), (1, a4), (1, s 123 a0.toNat), (0, 0), (0, 0), (0, 0), (0, 0)] [] (n, s) Q
  refine G_go rfl rfl ?_
  refine G_rf rfl rfl (by decide) (hR 120 3 123 rfl) ?_
  refine G_go rfl rfl ?_
  obtain ⟨g2, h⟩ := h
  refine G_ir (n := 6) rfl rfl (by decide) (by decide) g2 ?_
  refine G_go rfl rfl ?_
  show G 120 140 183 16 [(3, 120), (1, a0), (1, a1), (1, a2), (1, a3), (1, a4), (1, s 123 a0.toNat), (1, s 123 a1.toNat), (0, 0), (0, 0), (0, 0)] [] (n, s) Q
  refine G_go rfl rfl ?_
  refine G_go rfl rfl ?_
  refine G_ne rfl rfl (fun c3 => ?_) (fun c3 => ?_)
  · have h := h.1 c3
    refine G_go rfl rfl ?_
    refine G_go rfl rfl ?_
    show G 120 140 183 33 [(3, 120), (1, a0), (1, a1), (1, a2), (1, a3), (1, a4), (1, s 123 a0.toNat), (1, s 123 a1.toNat), (1, 0), (0, 0), (0, 0)] [] (n, s) Q
    refine G_go rfl rfl ?_
    refine G_go rfl rfl ?_
    refine G_ne rfl rfl (fun c4 => ?_) (fun c4 => ?_)
    · have h := h.1 c4
      refine G_go rfl rfl ?_
      refine G_go rfl rfl ?_
      show G 120 140 183 51 [(3, 120), (1, a0), (1, a1), (1, a2), (1, a3), (1, a4), (1, s 123 a0.toNat), (1, s 123 a1.toNat), (1, 0), (1, 0), (0, 0)] [] (n, s) Q
      exact h
    · have h := h.2 c4
      refine G_go rfl rfl ?_
      refine G_le rfl rfl (fun c5 => ?_) (fun c5 => ?_)
      · have h := h.1 c5
        refine G_go rfl rfl ?_
        refine G_go rfl rfl ?_
        show G 120 140 183 51 [(3, 120), (1, a0), (1, a1), (1, a2), (1, a3), (1, a4), (1, s 123 a0.toNat), (1, s 123 a1.toNat), (1, 0), (1, 0), (0, 0)] [] (n, s) Q
        exact h
      · have h := h.2 c5
        refine G_go rfl rfl ?_
        refine G_go rfl rfl ?_
        refine G_go rfl rfl ?_
        show G 120 140 183 51 [(3, 120), (1, a0), (1, a1), (1, a2), (1, a3), (1, a4), (1, s 123 a0.toNat), (1, s 123 a1.toNat), (1, 0), (1, 1), (0, 0)] [] (n, s) Q
        exact h
  · have h := h.2 c3
    refine G_go rfl rfl ?_
    refine G_le rfl rfl (fun c6 => ?_) (fun c6 => ?_)
    · have h := h.1 c6
      refine G_go rfl rfl ?_
      refine G_go rfl rfl ?_
      show G 120 140 183 33 [(3, 120), (1, a0), (1, a1), (1, a2), (1, a3), (1, a4), (1, s 123 a0.toNat), (1, s 123 a1.toNat), (1, 0), (0, 0), (0, 0)] [] (n, s) Q
      refine G_go rfl rfl ?_
      refine G_go rfl rfl ?_
      refine G_ne rfl rfl (fun c7 => ?_) (fun c7 => ?_)
      · have h := h.1 c7
        refine G_go rfl rfl ?_
        refine G_go rfl rfl ?_
        show G 120 140 183 51 [(3, 120), (1, a0), (1, a1), (1, a2), (1, a3), (1, a4), (1, s 123 a0.toNat), (1, s 123 a1.toNat), (1, 0), (1, 0), (0, 0)] [] (n, s) Q
        exact h
      · have h := h.2 c7
        refine G_go rfl rfl ?_
        refine G_le rfl rfl (fun c8 => ?_) (fun c8 => ?_)
        · have h := h.1 c8
          refine G_go rfl rfl ?_
          refine G_go rfl rfl ?_
          show G 120 140 183 51 [(3, 120), (1, a0), (1, a1), (1, a2), (1, a3), (1, a4), (1, s 123 a0.toNat), (1, s 123 a1.toNat), (1, 0), (1, 0), (0, 0)] [] (n, s) Q
          exact h
        · have h := h.2 c8
          refine G_go rfl rfl ?_
          refine G_go rfl rfl ?_
          refine G_go rfl rfl ?_
          show G 120 140 183 51 [(3, 120), (1, a0), (1, a1), (1, a2), (1, a3), (1, a4), (1, s 123 a0.toNat), (1, s 123 a1.toNat), (1, 0), (1, 1), (0, 0)] [] (n, s) Q
          exact h
    · have h := h.2 c6
      refine G_go rfl rfl ?_
      refine G_go rfl rfl ?_
      refine G_go rfl rfl ?_
      show G 120 140 183 33 [(3, 120), (1, a0), (1, a1), (1, a2), (1, a3), (1, a4), (1, s 123 a0.toNat), (1, s 123 a1.toNat), (1, 1), (0, 0), (0, 0)] [] (n, s) Q
      refine G_go rfl rfl ?_
      refine G_go rfl rfl ?_
      refine G_ne rfl rfl (fun c9 => ?_) (fun c9 => ?_)
      · have h := h.1 c9
        refine G_go rfl rfl ?_
        refine G_go rfl rfl ?_
        show G 120 140 183 51 [(3, 120), (1, a0), (1, a1), (1, a2), (1, a3), (1, a4), (1, s 123 a0.toNat), (1, s 123 a1.toNat), (1, 1), (1, 0), (0, 0)] [] (n, s) Q
        exact h
      · have h := h.2 c9
        refine G_go rfl rfl ?_
        refine G_le rfl rfl (fun c10 => ?_) (fun c10 => ?_)
        · have h := h.1 c10
          refine G_go rfl rfl ?_
          refine G_go rfl rfl ?_
          show G 120 140 183 51 [(3, 120), (1, a0), (1, a1), (1, a2), (1, a3), (1, a4), (1, s 123 a0.toNat), (1, s 123 a1.toNat), (1, 1), (1, 0), (0, 0)] [] (n, s) Q
          exact h
        · have h := h.2 c10
          refine G_go rfl rfl ?_
          refine G_go rfl rfl ?_
          refine G_go rfl rfl ?_
          show G 120 140 183 51 [(3, 120), (1, a0), (1, a1), (1, a2), (1, a3), (1, a4), (1, s 123 a0.toNat), (1, s 123 a1.toNat), (1, 1), (1, 1), (0, 0)] [] (n, s) Q
          exact h
theorem sb_X7_lastsIn_51 (n : Nat) (s : Nat → Nat → Int) (Q : List Vl → Sto → Prop) (x1 : Int) (x2 : Int) (x3 : Int) (x4 : Int) (x5 : Int) (x6 : Int) (x7 : Int) (x8 : Int) (x9 : Int) (hR : refs s)
    (h : (wr ((wr (x6 - x8)) + x9) ≤ 999 → (0 ≤ x1 ∧ x1 < 6) ∧ ((wr ((wr (x7 + x8)) - x9) ≤ 999 → (0 ≤ x2 ∧ x2 < 6) ∧ (G 120 140 183 119 [(3, 120), (1, x1), (1, x2), (1, x3), (1, x4), (1, x5), (1, x6), (1, x7), (1, x8), (1, x9), (0, 0)] [] (n, upS (upS s 123 x1.toNat (wr ((wr (x6 - x8)) + x9))) 123 x2.toNat (wr ((wr (x7 + x8)) - x9))) Q)) ∧ (999 < wr ((wr (x7 + x8)) - x9) → (0 ≤ x2 ∧ x2 < 6) ∧ (G 120 140 183 119 [(3, 120), (1, x1), (1, x2), (1, x3), (1, x4), (1, x5), (1, x6), (1, x7), (1, x8), (1, x9), (0, 0)] [] (n, upS (upS s 123 x1.toNat (wr ((wr (x6 - x8)) + x9))) 123 x2.toNat 999) Q)))) ∧ (999 < wr ((wr (x6 - x8)) + x9) → (0 ≤ x1 ∧ x1 < 6) ∧ ((wr ((wr (x7 + x8)) - x9) ≤ 999 → (0 ≤ x2 ∧ x2 < 6) ∧ (G 120 140 183 119 [(3, 120), (1, x1), (1, x2), (1, x3), (1, x4), (1, x5), (1, x6), (1, x7), (1, x8), (1, x9), (0, 0)] [] (n, upS (upS s 123 x1.toNat 999) 123 x2.toNat (wr ((wr (x7 + x8)) - x9))) Q)) ∧ (999 < wr ((wr (x7 + x8)) - x9) → (0 ≤ x2 ∧ x2 < 6) ∧ (G 120 140 183 119 [(3, 120), (1, x1), (1, x2), (1, x3), (1, x4), (1, x5), (1, x6), (1, x7), (1, x8), (1, x9), (0, 0)] [] (n, upS (upS s 123 x1.toNat 999) 123 x2.toNat 999) Q))))) :
    G 120 140 183 51 [(3, 120), (1, x1), (1, x2), (1, x3), (1, x4), (1, x5), (1, x6), (1, x7), (1, x8), (1, x9), (0, 0)] [] (n, s) Q := by
  refine G_go rfl rfl ?_
  refine G_rf rfl rfl (by decide) (hR 120 3 123 rfl) ?_
  refine G_go rfl rfl ?_
  refine G_go rfl rfl ?_
  refine G_go rfl rfl ?_
  refine G_go rfl rfl ?_
  refine G_go rfl rfl ?_
  refine G_go rfl rfl ?_
  refine G_go rfl rfl ?_
  refine G_le rfl rfl (fun c1 => ?_) (fun c1 => ?_)
  · have h := h.1 c1
    refine G_go rfl rfl ?_
    refine G_go rfl rfl ?_
    refine G_go rfl rfl ?_
    refine G_go rfl rfl ?_
    refine G_go rfl rfl ?_
    obtain ⟨g2, h⟩ := h
    refine G_iw (n := 6) rfl rfl (by decide) (by decide) g2 ?_
    have hR := refs_up (a := 123) (k := x1.toNat) (x := wr ((wr (x6 - x8)) + x9)) hR rfl
    refine G_go rfl rfl ?_
    refine G_rf rfl rfl (by decide) (hR 120 3 123 rfl) ?_
    refine G_go rfl rfl ?_
    refine G_go rfl rfl ?_
    refine G_go rfl rfl ?_
    refine G_go rfl rfl ?_
    refine G_go rfl rfl ?_
    refine G_go rfl rfl ?_
    refine G_go rfl rfl ?_
    refine G_le rfl rfl (fun c3 => ?_) (fun c3 => ?_)
    · have h := h.1 c3
      refine G_go rfl rfl ?_
      refine G_go rfl rfl ?_
      refine G_go rfl rfl ?_
      refine G_go rfl rfl ?_
      refine G_go rfl rfl ?_
      obtain ⟨g4, h⟩ := h
      refine G_iw (n := 6) rfl rfl (by decide) (by decide) g4 ?_
      have hR := refs_up (a := 123) (k := x2.toNat) (x := wr ((wr (x7 + x8)) - x9)) hR rfl
      exact h
    · have h := h.2 c3
      refine G_go rfl rfl ?_
      refine G_go rfl rfl ?_
      obtain ⟨g5, h⟩ := h
      refine G_iw (n := 6) rfl rfl (by decide) (by decide) g5 ?_
      have hR := refs_up (a := 123) (k := x2.toNat) (x := 999) hR rfl
      exact h
  · have h := h.2 c1
    refine G_go rfl rfl ?_
    refine G_go rfl rfl ?_
    obtain ⟨g6, h⟩ := h
    refine G_iw (n := 6) rfl rfl (by decide) (by decide) g6 ?_
    have hR := refs_up (a := 123) (k := x1.toNat) (x := 999) hR rfl
    refine G_go rfl rfl ?_
    refine G_rf rfl rfl (by decide) (hR 120 3 123 rfl) ?_
    refine G_go rfl rfl ?_
    refine G_go rfl rfl ?_
    refine G_go rfl rfl ?_
    refine G_go rfl rfl ?_
    refine G_go rfl rfl ?_
    refine G_go rfl rfl ?_
    refine G_go rfl rfl ?_
    refine G_le rfl rfl (fun c7 => ?_) (fun c7 => ?_)
    · have h := h.1 c7
      refine G_go rfl rfl ?_
      refine G_go rfl rfl ?_
      refine G_go rfl rfl ?_
      refine G_go rfl rfl ?_
      refine G_go rfl rfl ?_
      obtain ⟨g8, h⟩ := h
      refine G_iw (n := 6) rfl rfl (by decide) (by decide) g8 ?_
      have hR := refs_up (a := 123) (k := x2.toNat) (x := wr ((wr (x7 + x8)) - x9)) hR rfl
      exact h
    · have h := h.2 c7
      refine G_go rfl rfl ?_
      refine G_go rfl rfl ?_
      obtain ⟨g9, h⟩ := h
      refine G_iw (n := 6) rfl rfl (by decide) (by decide) g9 ?_
      have hR := refs_up (a := 123) (k := x2.toNat) (x := 999) hR rfl
      exact h
theorem sb_X7_lastsIn_119 (n : Nat) (s : Nat → Nat → Int) (Q : List Vl → Sto → Prop) (x1 : Int) (x2 : Int) (x3 : Int) (x4 : Int) (x5 : Int) (x6 : Int) (x7 : Int) (x8 : Int) (x9 : Int) (hR : refs s)
    (h : (x5 ≠ 0 → (0 ≤ x2 ∧ x2 < 6) ∧ ((rgP (vw 121 s) x2.toNat) ∧ ((0 ≤ vw 121 s 2 x2.toNat ∧ vw 121 s 2 x2.toNat ≤ 2000) ∧ ((0 ≤ vw 121 s 4 x2.toNat ∧ vw 121 s 4 x2.toNat ≤ 99) ∧ ((0 ≤ x1 ∧ x1 < 6) ∧ (Q [(1, lsW (vw 121 s) x2.toNat)] (n, upS (upS s 123 x1.toNat x6) 123 x2.toNat x7))))))) ∧ (x5 = 0 → (0 ≤ x1 ∧ x1 < 6) ∧ ((rgP (vw 121 s) x1.toNat) ∧ ((0 ≤ vw 121 s 2 x1.toNat ∧ vw 121 s 2 x1.toNat ≤ 2000) ∧ ((0 ≤ vw 121 s 4 x1.toNat ∧ vw 121 s 4 x1.toNat ≤ 99) ∧ ((0 ≤ x2 ∧ x2 < 6) ∧ (Q [(1, lsW (vw 121 s) x1.toNat)] (n, upS (upS s 123 x1.toNat x6) 123 x2.toNat x7)))))))) :
    G 120 140 183 119 [(3, 120), (1, x1), (1, x2), (1, x3), (1, x4), (1, x5), (1, x6), (1, x7), (1, x8), (1, x9), (0, 0)] [] (n, s) Q := by
  refine G_go rfl rfl ?_
  refine G_go rfl rfl ?_
  refine G_ne rfl rfl (fun c1 => ?_) (fun c1 => ?_)
  · have h := h.1 c1
    refine G_go rfl rfl ?_
    refine G_call rfl rfl ?_
    obtain ⟨g2, h⟩ := h
    obtain ⟨g3, h⟩ := h
    obtain ⟨g4, h⟩ := h
    obtain ⟨g5, h⟩ := h
    refine c_X7_lastsOf n _ _ x2 hR g2 g3 g4 g5 ?_
    refine G_go rfl rfl ?_
    show G 120 140 183 135 [(3, 120), (1, x1), (1, x2), (1, x3), (1, x4), (1, x5), (1, x6), (1, x7), (1, x8), (1, x9), (1, lsW (vw 121 s) x2.toNat)] [] (n, s) Q
    refine G_go rfl rfl ?_
    refine G_rf rfl rfl (by decide) (hR 120 3 123 rfl) ?_
    refine G_go rfl rfl ?_
    refine G_go rfl rfl ?_
    obtain ⟨g6, h⟩ := h
    refine G_iw (n := 6) rfl rfl (by decide) (by decide) g6 ?_
    have hR := refs_up (a := 123) (k := x1.toNat) (x := x6) hR rfl
    refine G_go rfl rfl ?_
    refine G_rf rfl rfl (by decide) (hR 120 3 123 rfl) ?_
    refine G_go rfl rfl ?_
    refine G_go rfl rfl ?_
    refine G_iw (n := 6) rfl rfl (by decide) (by decide) g2 ?_
    have hR := refs_up (a := 123) (k := x2.toNat) (x := x7) hR rfl
    refine G_go rfl rfl ?_
    exact G_ret rfl rfl h
  · have h := h.2 c1
    refine G_go rfl rfl ?_
    refine G_go rfl rfl ?_
    refine G_call rfl rfl ?_
    obtain ⟨g7, h⟩ := h
    obtain ⟨g8, h⟩ := h
    obtain ⟨g9, h⟩ := h
    obtain ⟨g10, h⟩ := h
    refine c_X7_lastsOf n _ _ x1 hR g7 g8 g9 g10 ?_
    refine G_go rfl rfl ?_
    show G 120 140 183 135 [(3, 120), (1, x1), (1, x2), (1, x3), (1, x4), (1, x5), (1, x6), (1, x7), (1, x8), (1, x9), (1, lsW (vw 121 s) x1.toNat)] [] (n, s) Q
    refine G_go rfl rfl ?_
    refine G_rf rfl rfl (by decide) (hR 120 3 123 rfl) ?_
    refine G_go rfl rfl ?_
    refine G_go rfl rfl ?_
    refine G_iw (n := 6) rfl rfl (by decide) (by decide) g7 ?_
    have hR := refs_up (a := 123) (k := x1.toNat) (x := x6) hR rfl
    refine G_go rfl rfl ?_
    refine G_rf rfl rfl (by decide) (hR 120 3 123 rfl) ?_
    refine G_go rfl rfl ?_
    refine G_go rfl rfl ?_
    obtain ⟨g11, h⟩ := h
    refine G_iw (n := 6) rfl rfl (by decide) (by decide) g11 ?_
    have hR := refs_up (a := 123) (k := x2.toNat) (x := x7) hR rfl
    refine G_go rfl rfl ?_
    exact G_ret rfl rfl h
/-! RING. -/
theorem ring64 : ∀ (x : Fin 64) (a : Fin 6), (xand (xshr ((x.1 : Nat) : Int) ((a.1 : Nat) : Int)) 1 = 0 ∨ xand (xshr ((x.1 : Nat) : Int) ((a.1 : Nat) : Int)) 1 = 1) ∧ (bcV ((x.1 : Nat) : Int) = 6 → xand (xshr ((x.1 : Nat) : Int) ((a.1 : Nat) : Int)) 1 = 1) ∧ (xand (xshr ((x.1 : Nat) : Int) ((a.1 : Nat) : Int)) 1 = 0 → 0 ≤ xor_ ((x.1 : Nat) : Int) (xshl 1 ((a.1 : Nat) : Int)) ∧ xor_ ((x.1 : Nat) : Int) (xshl 1 ((a.1 : Nat) : Int)) < 64 ∧ bcV (xor_ ((x.1 : Nat) : Int) (xshl 1 ((a.1 : Nat) : Int))) = bcV ((x.1 : Nat) : Int) + 1) := by decide +kernel
theorem ring_of {x a : Int} (hx : 0 ≤ x ∧ x < 64) (ha : 0 ≤ a ∧ a < 6) : (xand (xshr x a) 1 = 0 ∨ xand (xshr x a) 1 = 1) ∧ (bcV x = 6 → xand (xshr x a) 1 = 1) ∧ (xand (xshr x a) 1 = 0 → 0 ≤ xor_ x (xshl 1 a) ∧ xor_ x (xshl 1 a) < 64 ∧ bcV (xor_ x (xshl 1 a)) = bcV x + 1) := by
  have h := ring64 ⟨x.toNat, by omega⟩ ⟨a.toNat, by omega⟩
  dsimp only at h
  rw [show ((x.toNat : Nat) : Int) = x by omega, show ((a.toNat : Nat) : Int) = a by omega] at h
  exact h
def rgG (c : Nat → Int) : Nat → Int → Int → Int → Int
  | 0, _, _, m => m
  | d + 1, x, a, m => if a < 0 then m else if xand (xshr x a) 1 = 1 then m else rgG c d (xor_ x (xshl 1 a)) (c a.toNat) (wr (m + 1))
theorem op_ring (n : Nat) (s t : Nat → Nat → Int) (h : REL s t) (a0 : Int) : G 2 120 120 0 [(3, 2), (1, a0), (0, 0), (0, 0), (0, 0), (0, 0), (0, 0)] [] (n, s) (fun r s1 => G 120 140 211 0 [(3, 120), (1, a0), (0, 0), (0, 0), (0, 0)] [] (n, t) (Post n r s1)) := by
  obtain ⟨hn1, hn2, hn3, hn4⟩ := h.np
  have hw : wr (t 120 0 - 1) = t 120 0 - 1 := wr_id (by omega) (by omega)
  have cl : ∀ (Q : List Vl → Sto → Prop) (x1 x2 : Int) (d k : Nat), k + d = 6 → ∀ (x a b m : Int), ((a = -9 ∧ b = -1) ∨ (0 ≤ a ∧ a < t 120 0 ∧ b = a)) → (0 ≤ x ∧ x < 64) → Q [(1, rgG (t 128) d x a m)] (n, s) → G 2 120 120 27 [(3, 2), (1, x1), (1, x2), (1, x), (1, m), (1, b), (1, (k : Int))] [] (n, s) Q := by
    intro Q x1 x2 d
    induction d with
    | zero =>
      intro k hk x a b m hab hx hq
      exact sb_X6_ring_27 n s Q _ _ _ _ _ _ h.1 ⟨fun _ => hq, fun e => by omega⟩
    | succ d ih =>
      intro k hk x a b m hab hx hq
      have ih := ih (k + 1) (by omega)
      rw [← wr_s (show k < 6 by omega) (by omega)] at ih
      unfold rgG at hq
      refine sb_X6_ring_27 n s Q _ _ _ _ _ _ h.1 ⟨fun e => by omega, fun _ => ⟨fun e => ?_, fun e => ⟨fun f => by omega, fun f => ⟨fun g => ?_, fun g => ⟨by omega, ?_⟩⟩⟩⟩⟩
      · rw [if_pos (by omega)] at hq
        exact hq
      · rcases hab with ⟨h1, h2⟩ | ⟨h1, h2, rfl⟩
        · omega
        · have rg := ring_of hx (a := b) (by omega)
          rw [if_neg (by omega), if_pos (by omega)] at hq
          exact hq
      · rcases hab with ⟨h1, h2⟩ | ⟨h1, h2, rfl⟩
        · omega
        · have rg := (ring_of hx (a := b) (by omega)).2.2 g
          rw [if_neg (by omega), if_neg (by omega)] at hq
          have hs := (h.s b.toNat (by omega)).2.2.2.2.2.2.2
          have ht := (h.t b.toNat (by omega)).2.2.2.2.2.2.2
          exact ih _ _ _ _ (by omega) ⟨rg.1, rg.2.1⟩ hq
  have rl : ∀ (t0 : Nat → Nat → Int) (Q : List Vl → Sto → Prop) (x1 : Int), refs t0 → t0 128 = t 128 → ∀ (d : Nat) (x a m : Int), (a = -9 ∨ (0 ≤ a ∧ a < t 120 0)) → (0 ≤ x ∧ x < 64) → bcV x = 6 - (d : Int) → Q [(1, rgG (t 128) d x a m)] (n, t0) → G 120 140 211 26 [(3, 120), (1, x1), (1, x), (1, a), (1, m)] [] (n, t0) Q := by
    intro t0 Q x1 r0 e0 d
    induction d with
    | zero =>
      intro x a m ha hx hb hq
      refine sb_X7_ring_26 n t0 Q _ _ _ _ r0 ⟨fun _ => hq, fun e => ⟨fun f => ?_, fun _ => hq⟩⟩
      have rg := (ring_of hx (a := a) (by omega)).2.1 (by omega)
      exact absurd rg f
    | succ d ih =>
      intro x a m ha hx hb hq
      unfold rgG at hq
      refine sb_X7_ring_26 n t0 Q _ _ _ _ r0 ⟨fun e => ?_, fun e => ⟨fun f => ⟨by omega, ?_⟩, fun f => ?_⟩⟩
      · rw [if_pos e] at hq
        exact hq
      · rw [if_neg (by omega), if_neg f] at hq
        have rg := ring_of hx (a := a) (by omega)
        have rg2 := rg.2.2 (by omega)
        have ht := (h.t a.toNat (by omega)).2.2.2.2.2.2.2
        rw [e0]
        exact ih _ _ _ (by omega) ⟨rg2.1, rg2.2.1⟩ (by omega) hq
      · rw [if_neg (by omega), if_pos f] at hq
        exact hq
  have b0 : bcV 0 = 0 := by decide +kernel
  refine sb_X6_ring_0 n s _ a0 h.1 ⟨fun c => ?_, fun c => ⟨fun d => ?_, fun d => ?_⟩⟩
  · exact sb_X7_ring_0 n t _ a0 h.2.1 ⟨fun _ => post_ref h 1 (by decide), fun e => by omega⟩
  · exact sb_X7_ring_0 n t _ a0 h.2.1 ⟨fun e => by omega, fun _ => ⟨fun _ => post_ref h 1 (by decide), fun e => by omega⟩⟩
  · refine cl _ a0 0 6 0 rfl 0 a0 a0 0 (Or.inr ⟨c, by omega, rfl⟩) (by decide) ?_
    refine sb_X7_ring_0 n t _ a0 h.2.1 ⟨fun e => by omega, fun _ => ⟨fun e => by omega, fun _ => ?_⟩⟩
    exact rl _ _ a0 h.up.2.1 rfl 6 0 a0 0 (Or.inr ⟨c, by omega⟩) (by decide) b0 (post_same h rfl)
/-! HALVE. -/
def hvA (V : Nat → Nat → Int) (p q : Nat) (x y : Int) : Int := lsV V p (min 999 (V 2 p + (min y (V 2 q) - min x (V 2 p))))
def hvK (V : Nat → Nat → Int) (p q : Nat) (x y : Int) : Prop := hvA V p q (1 - x) y ≤ hvA V p q x y
theorem c_keepsTo (n : Nat) (s t : Nat → Nat → Int) (h : REL s t) (p q : Nat) (hp : (p : Int) < t 120 0) (hq : (q : Int) < t 120 0) (x y : Int) (hx : x = 0 ∨ x = 1) (hy : y = 0 ∨ y = 1) (Q : List Vl → Sto → Prop) (h0 : ¬ hvK (vw 121 t) p q x y → Q [(1, 0)] (n, s)) (h1 : hvK (vw 121 t) p q x y → Q [(1, 1)] (n, s)) : G 2 120 88 0 [(3, 2), (1, (p : Int)), (1, (q : Int)), (1, x), (1, y)] [] (n, s) Q := by
  obtain ⟨hn1, hn2, hn3, hn4⟩ := h.np
  obtain ⟨g1, _, _, _, g5, _⟩ := h.rg p hp
  have sp := (h.s p hp).2.2.1
  have sq := (h.s q hq).2.2.1
  have tp := (h.t p hp).2.2.1
  have tq := (h.t q hq).2.2.1
  have ew : wr (1 - x) = 1 - x := wr_id (by omega) (by omega)
  refine sb_X6_keepsTo_0 n s Q p q x y h.1 ?_
  rw [Int.toNat_natCast, Int.toNat_natCast, sp, sq, ew, h.ls p hp]
  clear ew
  rw [wr_id (x := min y (t 123 q) - min x (t 123 p)) (by omega) (by omega), wr_id (x := min y (t 123 q) - min (1 - x) (t 123 p)) (by omega) (by omega), wr_id (x := t 123 p + (min y (t 123 q) - min x (t 123 p))) (by omega) (by omega), wr_id (x := t 123 p + (min y (t 123 q) - min (1 - x) (t 123 p))) (by omega) (by omega)]
  refine ⟨by omega, by omega, g1, by omega, g5, by omega, fun c => h0 (fun k => ?_), fun c => h1 c⟩
  have k : lsV (vw 121 t) p (min 999 (t 123 p + (min y (t 123 q) - min (1 - x) (t 123 p)))) ≤ lsV (vw 121 t) p (min 999 (t 123 p + (min y (t 123 q) - min x (t 123 p)))) := k
  omega
theorem c_lastsIn_tail (n : Nat) (t : Nat → Nat → Int) (np h : Int) (V : Nat → Nat → Int) (hR : refs t) (ok : okT np V) (ht : twR t np h V) (p q : Nat) (hp : (p : Int) < np) (hq : (q : Int) < np) (hpq : p ≠ q) (x y z X Y f g : Int) (hX : 0 ≤ X ∧ X ≤ 999) (hY : 0 ≤ Y ∧ Y ≤ 999) (Q : List Vl → Sto → Prop) (hQ : Q [(1, if z = 0 then lsV V p X else lsV V q Y)] (n, t)) : G 120 140 183 119 [(3, 120), (1, (p : Int)), (1, (q : Int)), (1, x), (1, y), (1, z), (1, t 123 p), (1, t 123 q), (1, f), (1, g), (0, 0)] [] (n, upS (upS t 123 p X) 123 q Y) Q := by
  have hn := ok.1
  have back : upS (upS (upS (upS t 123 p X) 123 q Y) 123 p (t 123 p)) 123 q (t 123 q) = t := by
    funext i j
    simp only [upS]
    by_cases c1 : i = 123
    · subst c1
      by_cases c2 : j = q
      · subst c2; simp
      · by_cases c3 : j = p
        · subst c3; simp [c2]
        · simp [c2, c3]
    · simp [c1]
  have val : ∀ (r : Nat) (Z : Int), (r : Int) < np → upS (upS t 123 p X) 123 q Y 123 r = Z → lsW (vw 121 (upS (upS t 123 p X) 123 q Y)) r = lsV V r Z ∧ rgP (vw 121 (upS (upS t 123 p X) 123 q Y)) r ∧ (0 ≤ vw 121 (upS (upS t 123 p X) 123 q Y) 4 r ∧ vw 121 (upS (upS t 123 p X) 123 q Y) 4 r ≤ 99) := by
    intro r Z hr eZ
    have e0 : t 121 r = V 0 r := ht.2.2 0 (by decide) r hr
    have e1 : t 122 r = V 1 r := ht.2.2 1 (by decide) r hr
    have e3 : t 124 r = V 3 r := ht.2.2 3 (by decide) r hr
    have e4 : t 125 r = V 4 r := ht.2.2 4 (by decide) r hr
    obtain ⟨o0, o1, o2, o3, o4, _⟩ := ok.2 r hr
    refine ⟨?_, ⟨?_, ?_⟩, ?_⟩
    · show lsV (vw 121 (upS (upS t 123 p X) 123 q Y)) r (upS (upS t 123 p X) 123 q Y 123 r) = _
      rw [eZ]
      exact congrFun (lsV_eq (C := vw 121 (upS (upS t 123 p X) 123 q Y)) (V := V) e0 e1 e3 e4) Z
    · show 0 ≤ t 122 r ∧ t 122 r ≤ 9
      omega
    · show 0 ≤ t 124 r ∧ t 124 r ≤ 200
      omega
    · show 0 ≤ t 125 r ∧ t 125 r ≤ 99
      omega
  have ep : upS (upS t 123 p X) 123 q Y 123 p = X := by rw [upS_2 hpq, upS_eq]
  have eq : upS (upS t 123 p X) 123 q Y 123 q = Y := upS_eq
  obtain ⟨vp, rp, cp⟩ := val p X hp ep
  obtain ⟨vq, rq, cq⟩ := val q Y hq eq
  have gp : 0 ≤ vw 121 (upS (upS t 123 p X) 123 q Y) 2 p ∧ vw 121 (upS (upS t 123 p X) 123 q Y) 2 p ≤ 2000 := by
    show 0 ≤ upS (upS t 123 p X) 123 q Y 123 p ∧ upS (upS t 123 p X) 123 q Y 123 p ≤ 2000
    rw [ep]
    omega
  have gq : 0 ≤ vw 121 (upS (upS t 123 p X) 123 q Y) 2 q ∧ vw 121 (upS (upS t 123 p X) 123 q Y) 2 q ≤ 2000 := by
    show 0 ≤ upS (upS t 123 p X) 123 q Y 123 q ∧ upS (upS t 123 p X) 123 q Y 123 q ≤ 2000
    rw [eq]
    omega
  refine sb_X7_lastsIn_119 n _ Q p q x y z _ _ f g (refs_up (refs_up hR rfl) rfl) ?_
  rw [Int.toNat_natCast, Int.toNat_natCast, back, vp, vq]
  refine ⟨fun c => ⟨by omega, rq, gq, cq, by omega, ?_⟩, fun c => ⟨by omega, rp, gp, cp, by omega, ?_⟩⟩
  · rw [if_neg c] at hQ
    exact hQ
  · rw [if_pos c] at hQ
    exact hQ
theorem c_lastsIn (n : Nat) (t : Nat → Nat → Int) (np h : Int) (V : Nat → Nat → Int) (hR : refs t) (ok : okT np V) (ht : twR t np h V) (p q : Nat) (hp : (p : Int) < np) (hq : (q : Int) < np) (hpq : p ≠ q) (x y z : Int) (hx : x = 0 ∨ x = 1) (hy : y = 0 ∨ y = 1) (hz : z = 0 ∨ z = 1) (Q : List Vl → Sto → Prop) (hQ : Q [(1, if z = 0 then hvA V p q x y else hvA V q p y x)] (n, t)) : G 120 140 183 0 [(3, 120), (1, (p : Int)), (1, (q : Int)), (1, x), (1, y), (1, z), (0, 0), (0, 0), (0, 0), (0, 0), (0, 0)] [] (n, t) Q := by
  have hn := ok.1
  have ep : t 123 p = V 2 p := ht.2.2 2 (by decide) p hp
  have eq : t 123 q = V 2 q := ht.2.2 2 (by decide) q hq
  have op := (ok.2 p hp).2.2.1
  have oq := (ok.2 q hq).2.2.1
  have mid : ∀ f g : Int, f = min x (V 2 p) → g = min y (V 2 q) → G 120 140 183 51 [(3, 120), (1, (p : Int)), (1, (q : Int)), (1, x), (1, y), (1, z), (1, t 123 p), (1, t 123 q), (1, f), (1, g), (0, 0)] [] (n, t) Q := by
    intro f g hf hg
    have f01 : 0 ≤ f ∧ f ≤ 1 ∧ f ≤ V 2 p := by omega
    have g01 : 0 ≤ g ∧ g ≤ 1 ∧ g ≤ V 2 q := by omega
    have tail : ∀ X Y : Int, X = min 999 (V 2 p + (g - f)) → Y = min 999 (V 2 q + (f - g)) → G 120 140 183 119 [(3, 120), (1, (p : Int)), (1, (q : Int)), (1, x), (1, y), (1, z), (1, t 123 p), (1, t 123 q), (1, f), (1, g), (0, 0)] [] (n, upS (upS t 123 p X) 123 q Y) Q := fun X Y eX eY => by
      refine c_lastsIn_tail n t np h V hR ok ht p q hp hq hpq x y z X Y f g (by omega) (by omega) Q ?_
      unfold hvA at hQ
      rw [← hf, ← hg, ← eX, ← eY] at hQ
      exact hQ
    refine sb_X7_lastsIn_51 n t Q p q x y z _ _ f g hR ?_
    rw [Int.toNat_natCast, Int.toNat_natCast, ep, eq]
    rw [wr_id (x := V 2 p - f) (by omega) (by omega), wr_id (x := V 2 p - f + g) (by omega) (by omega), wr_id (x := V 2 q + f) (by omega) (by omega), wr_id (x := V 2 q + f - g) (by omega) (by omega)]
    rw [← ep, ← eq]
    rw [ep, eq] at tail
    rw [ep, eq]
    refine ⟨fun c => ⟨by omega, fun d => ⟨by omega, ?_⟩, fun d => ⟨by omega, ?_⟩⟩, fun c => ⟨by omega, fun d => ⟨by omega, ?_⟩, fun d => ⟨by omega, ?_⟩⟩⟩
    all_goals exact tail _ _ (by omega) (by omega)
  refine sb_X7_lastsIn_0 n t Q p q x y z hR ?_
  rw [Int.toNat_natCast, Int.toNat_natCast]
  repeat' first | with_reducible refine And.intro ?_ ?_ | intro _
  all_goals first | omega | (refine mid _ _ ?_ ?_ <;> omega)
theorem op_halve (n : Nat) (s t : Nat → Nat → Int) (h : REL s t) (a0 a1 : Int) : G 2 120 89 0 [(3, 2), (1, a0), (1, a1), (0, 0), (0, 0), (0, 0)] [] (n, s) (fun r s1 => G 120 140 184 0 [(3, 120), (1, a0), (1, a1), (0, 0), (0, 0), (0, 0)] [] (n, t) (Post n r s1)) := by
  obtain ⟨hn1, hn2, hn3, hn4⟩ := h.np
  have hw : wr (t 120 0 - 1) = t 120 0 - 1 := wr_id (by omega) (by omega)
  by_cases hv : 0 ≤ a0 ∧ a0 < t 120 0 ∧ 0 ≤ a1 ∧ a1 < t 120 0 ∧ a0 ≠ a1
  · obtain ⟨p, rfl⟩ : ∃ p : Nat, a0 = (p : Int) := ⟨a0.toNat, by omega⟩
    obtain ⟨q, rfl⟩ : ∃ q : Nat, a1 = (q : Int) := ⟨a1.toNat, by omega⟩
    obtain ⟨g0, g1, g2, g3, g4⟩ := hv
    have hpq : p ≠ q := by omega
    -- both sides over the same pure tests
    have res : ∀ (K : Int → Int → Prop), (∀ x y, K x y ↔ (hvK (vw 121 (upS t 120 10 0)) p q x y ∧ hvK (vw 121 (upS t 120 10 0)) q p y x)) → ∃ v : Int, (∀ Q : List Vl → Sto → Prop, Q [(1, v)] (n, s) → G 2 120 89 20 [(3, 2), (1, (p : Int)), (1, (q : Int)), (1, 0), (1, 0), (0, 0)] [] (n, s) Q) ∧ (∀ Q : List Vl → Sto → Prop, Q [(1, v)] (n, upS t 120 10 0) → G 120 140 184 22 [(3, 120), (1, (p : Int)), (1, (q : Int)), (1, 0), (0, 0), (0, 0)] [] (n, upS t 120 10 0) Q) := by
      intro K hK
      have cs : ∀ (x y x3 : Int) (Q : List Vl → Sto → Prop), (x = 0 ∨ x = 1) → (y = 0 ∨ y = 1) → (K x y → Q [(1, 10 * x + y)] (n, s)) → (¬ K x y → G 2 120 89 29 [(3, 2), (1, (p : Int)), (1, (q : Int)), (1, x3), (1, x), (1, y + 1)] [] (n, s) Q) → G 2 120 89 29 [(3, 2), (1, (p : Int)), (1, (q : Int)), (1, x3), (1, x), (1, y)] [] (n, s) Q := by
        intro x y x3 Q hx hy yes no
        have e1 : wr (y + 1) = y + 1 := wr_id (by omega) (by omega)
        have e2 : wr (wr (10 * x) + y) = 10 * x + y := by
          rw [wr_id (x := 10 * x) (by omega) (by omega), wr_id (by omega) (by omega)]
        refine sb_X6_halve_29 n s Q _ _ _ x y h.1 ⟨fun e => by exfalso; clear e1 e2; omega, fun _ => ?_⟩
        refine c_keepsTo n s _ h.up p q g1 g3 x y hx hy _ (fun k => ?_) (fun k => ?_)
        · refine sb_X6_halve_45 n s Q _ _ _ x y _ h.1 ⟨fun _ => ?_, fun e => absurd rfl e⟩
          rw [e1]
          exact no (fun kk => k ((hK x y).1 kk).1)
        · refine sb_X6_halve_45 n s Q _ _ _ x y _ h.1 ⟨fun e => absurd e (by decide), fun _ => ?_⟩
          refine c_keepsTo n s _ h.up q p g3 g1 y x hy hx _ (fun k2 => ?_) (fun k2 => ?_)
          · refine sb_X6_halve_58 n s Q _ _ _ x y _ h.1 ⟨fun _ => ?_, fun e => absurd rfl e⟩
            rw [e1]
            exact no (fun kk => k2 ((hK x y).1 kk).2)
          · refine sb_X6_halve_58 n s Q _ _ _ x y _ h.1 ⟨fun e => absurd e (by decide), fun _ => ?_⟩
            rw [e2]
            exact yes ((hK x y).2 ⟨k, k2⟩)
      have rs : ∀ (x y : Int) (w4 w5 : Vl) (Q : List Vl → Sto → Prop), (x = 0 ∨ x = 1) → (y = 0 ∨ y = 1) → (K x y → Q [(1, 10 * x + y)] (n, upS t 120 10 0)) → (¬ K x y → G 120 140 184 22 [(3, 120), (1, (p : Int)), (1, (q : Int)), (1, 2 * x + y + 1), (1, x), (1, y)] [] (n, upS t 120 10 0) Q) → G 120 140 184 22 [(3, 120), (1, (p : Int)), (1, (q : Int)), (1, 2 * x + y), w4, w5] [] (n, upS t 120 10 0) Q := by
        intro x y w4 w5 Q hx hy yes no
        have e1 : wr (2 * x + y + 1) = 2 * x + y + 1 := wr_id (by omega) (by omega)
        have e2 : wr (wr (10 * x) + y) = 10 * x + y := by
          rw [wr_id (x := 10 * x) (by omega) (by omega), wr_id (by omega) (by omega)]
        have e3 : xdiv (2 * x + y) 2 = x := by
          rw [xdiv_nn (by omega) (by omega) (by decide) (by decide)]
          omega
        have e4 : xrem (2 * x + y) 2 = y := by
          rw [xrem_nn (by omega) (by omega) (by decide) (by decide)]
          omega
        have e5 : wr (1 - x) = 1 - x := wr_id (by omega) (by omega)
        have e6 : wr (1 - y) = 1 - y := wr_id (by omega) (by omega)
        refine sb_X7_halve_22 n _ Q _ _ _ w4 w5 h.up.2.1 ⟨fun e => by exfalso; clear e1 e2 e3 e4 e5 e6; omega, fun _ => ?_⟩
        rw [e3, e4, e5]
        refine c_lastsIn n _ _ _ _ h.up.2.1 h.up.o h.up.w p q g1 g3 hpq (1 - x) y 0 (by clear e1 e2 e3 e4 e5 e6; omega) hy (Or.inl rfl) _ ?_
        refine sb_X7_halve_50 n _ Q _ _ _ x y _ h.up.2.1 ?_
        refine c_lastsIn n _ _ _ _ h.up.2.1 h.up.o h.up.w p q g1 g3 hpq x y 0 hx hy (Or.inl rfl) _ ?_
        rw [if_pos rfl, if_pos rfl]
        refine sb_X7_halve_61 n _ Q _ _ _ x y _ _ h.up.2.1 ⟨fun c => ?_, fun c => ?_⟩
        · rw [e1]
          exact no (fun kk => absurd ((hK x y).1 kk).1 (Int.not_le.mpr c))
        · rw [e6]
          refine c_lastsIn n _ _ _ _ h.up.2.1 h.up.o h.up.w p q g1 g3 hpq x (1 - y) 1 hx (by clear e1 e2 e3 e4 e5 e6; omega) (Or.inr rfl) _ ?_
          refine sb_X7_halve_77 n _ Q _ _ _ x y _ h.up.2.1 ?_
          refine c_lastsIn n _ _ _ _ h.up.2.1 h.up.o h.up.w p q g1 g3 hpq x y 1 hx hy (Or.inr rfl) _ ?_
          rw [if_neg (by decide), if_neg (by decide)]
          refine sb_X7_halve_88 n _ Q _ _ _ x y _ _ h.up.2.1 ⟨fun d => ?_, fun d => ?_⟩
          · rw [e1]
            exact no (fun kk => absurd ((hK x y).1 kk).2 (Int.not_le.mpr d))
          · rw [e2]
            exact yes ((hK x y).2 ⟨c, d⟩)
      have c20 : ∀ (x : Int) (w : Vl) (Q : List Vl → Sto → Prop), (x = 0 ∨ x = 1) → G 2 120 89 29 [(3, 2), (1, (p : Int)), (1, (q : Int)), (1, 0), (1, x), (1, 0)] [] (n, s) Q → G 2 120 89 20 [(3, 2), (1, (p : Int)), (1, (q : Int)), (1, 0), (1, x), w] [] (n, s) Q := fun x w Q hx g => sb_X6_halve_20 n s Q _ _ _ _ w h.1 ⟨fun e => by omega, fun _ => g⟩
      have cend : ∀ (x : Int) (Q : List Vl → Sto → Prop), (x = 0 ∨ x = 1) → G 2 120 89 20 [(3, 2), (1, (p : Int)), (1, (q : Int)), (1, 0), (1, x + 1), (1, 2)] [] (n, s) Q → G 2 120 89 29 [(3, 2), (1, (p : Int)), (1, (q : Int)), (1, 0), (1, x), (1, 2)] [] (n, s) Q := fun x Q hx g => sb_X6_halve_29 n s Q _ _ _ _ _ h.1 ⟨fun _ => by rw [wr_id (x := x + 1) (by omega) (by omega)]; exact g, fun e => absurd e (by decide)⟩
      have c2 : ∀ Q : List Vl → Sto → Prop, Q [(1, (-9))] (n, s) → G 2 120 89 20 [(3, 2), (1, (p : Int)), (1, (q : Int)), (1, 0), (1, 2), (1, 2)] [] (n, s) Q := fun Q g => sb_X6_halve_20 n s Q _ _ _ _ _ h.1 ⟨fun _ => g, fun e => absurd e (by decide)⟩
      have r4 : ∀ Q : List Vl → Sto → Prop, Q [(1, (-9))] (n, upS t 120 10 0) → G 120 140 184 22 [(3, 120), (1, (p : Int)), (1, (q : Int)), (1, 4), (1, 1), (1, 1)] [] (n, upS t 120 10 0) Q := fun Q g => sb_X7_halve_22 n _ Q _ _ _ _ _ h.up.2.1 ⟨fun _ => g, fun e => absurd e (by decide)⟩
      by_cases k0 : K 0 0
      · exact ⟨10 * 0 + 0, fun Q g => c20 0 _ Q (Or.inl rfl) (cs 0 0 0 Q (Or.inl rfl) (Or.inl rfl) (fun _ => g) (fun k => absurd k0 k)), fun Q g => rs 0 0 _ _ Q (Or.inl rfl) (Or.inl rfl) (fun _ => g) (fun k => absurd k0 k)⟩
      · by_cases k1 : K 0 1
        · exact ⟨10 * 0 + 1, fun Q g => c20 0 _ Q (Or.inl rfl) (cs 0 0 0 Q (Or.inl rfl) (Or.inl rfl) (fun k => absurd k k0) (fun _ => cs 0 1 0 Q (Or.inl rfl) (Or.inr rfl) (fun _ => g) (fun k => absurd k1 k))), fun Q g => rs 0 0 _ _ Q (Or.inl rfl) (Or.inl rfl) (fun k => absurd k k0) (fun _ => rs 0 1 _ _ Q (Or.inl rfl) (Or.inr rfl) (fun _ => g) (fun k => absurd k1 k))⟩
        · by_cases k2 : K 1 0
          · exact ⟨10 * 1 + 0, fun Q g => c20 0 _ Q (Or.inl rfl) (cs 0 0 0 Q (Or.inl rfl) (Or.inl rfl) (fun k => absurd k k0) (fun _ => cs 0 1 0 Q (Or.inl rfl) (Or.inr rfl) (fun k => absurd k k1) (fun _ => cend 0 Q (Or.inl rfl) (c20 1 _ Q (Or.inr rfl) (cs 1 0 0 Q (Or.inr rfl) (Or.inl rfl) (fun _ => g) (fun k => absurd k2 k)))))), fun Q g => rs 0 0 _ _ Q (Or.inl rfl) (Or.inl rfl) (fun k => absurd k k0) (fun _ => rs 0 1 _ _ Q (Or.inl rfl) (Or.inr rfl) (fun k => absurd k k1) (fun _ => rs 1 0 _ _ Q (Or.inr rfl) (Or.inl rfl) (fun _ => g) (fun k => absurd k2 k)))⟩
          · by_cases k3 : K 1 1
            · exact ⟨10 * 1 + 1, fun Q g => c20 0 _ Q (Or.inl rfl) (cs 0 0 0 Q (Or.inl rfl) (Or.inl rfl) (fun k => absurd k k0) (fun _ => cs 0 1 0 Q (Or.inl rfl) (Or.inr rfl) (fun k => absurd k k1) (fun _ => cend 0 Q (Or.inl rfl) (c20 1 _ Q (Or.inr rfl) (cs 1 0 0 Q (Or.inr rfl) (Or.inl rfl) (fun k => absurd k k2) (fun _ => cs 1 1 0 Q (Or.inr rfl) (Or.inr rfl) (fun _ => g) (fun k => absurd k3 k))))))), fun Q g => rs 0 0 _ _ Q (Or.inl rfl) (Or.inl rfl) (fun k => absurd k k0) (fun _ => rs 0 1 _ _ Q (Or.inl rfl) (Or.inr rfl) (fun k => absurd k k1) (fun _ => rs 1 0 _ _ Q (Or.inr rfl) (Or.inl rfl) (fun k => absurd k k2) (fun _ => rs 1 1 _ _ Q (Or.inr rfl) (Or.inr rfl) (fun _ => g) (fun k => absurd k3 k))))⟩
            · exact ⟨-9, fun Q g => c20 0 _ Q (Or.inl rfl) (cs 0 0 0 Q (Or.inl rfl) (Or.inl rfl) (fun k => absurd k k0) (fun _ => cs 0 1 0 Q (Or.inl rfl) (Or.inr rfl) (fun k => absurd k k1) (fun _ => cend 0 Q (Or.inl rfl) (c20 1 _ Q (Or.inr rfl) (cs 1 0 0 Q (Or.inr rfl) (Or.inl rfl) (fun k => absurd k k2) (fun _ => cs 1 1 0 Q (Or.inr rfl) (Or.inr rfl) (fun k => absurd k k3) (fun _ => cend 1 Q (Or.inr rfl) (c2 Q g)))))))), fun Q g => rs 0 0 _ _ Q (Or.inl rfl) (Or.inl rfl) (fun k => absurd k k0) (fun _ => rs 0 1 _ _ Q (Or.inl rfl) (Or.inr rfl) (fun k => absurd k k1) (fun _ => rs 1 0 _ _ Q (Or.inr rfl) (Or.inl rfl) (fun k => absurd k k2) (fun _ => rs 1 1 _ _ Q (Or.inr rfl) (Or.inr rfl) (fun k => absurd k k3) (fun _ => r4 Q g))))⟩
    obtain ⟨v, vc, vr⟩ := res (fun x y => hvK (vw 121 (upS t 120 10 0)) p q x y ∧ hvK (vw 121 (upS t 120 10 0)) q p y x) (fun _ _ => Iff.rfl)
    refine sb_X6_halve_0 n s _ p q h.1 ⟨fun e => by omega, fun _ => ⟨fun e => by omega, fun _ => ⟨fun e => by omega, fun _ => ⟨fun e => by omega, fun _ => ⟨fun e => by omega, fun _ => ?_⟩⟩⟩⟩⟩
    refine vc _ ?_
    exact sb_X7_halve_0 n t _ p q h.2.1 ⟨fun e => by omega, fun _ => ⟨fun e => by omega, fun _ => ⟨fun e => by omega, fun _ => ⟨fun e => by omega, fun _ => ⟨fun e => by omega, fun _ => vr _ (post_same h rfl)⟩⟩⟩⟩⟩
  · have rf : ∀ {Q : List Vl → Sto → Prop}, Q [(1, (-1))] (n, upS (upS t 120 10 0) 129 1 (wr (t 129 1 + 1))) → G 120 140 184 0 [(3, 120), (1, a0), (1, a1), (0, 0), (0, 0), (0, 0)] [] (n, t) Q := fun {Q} hh => sb_X7_halve_0 n t Q a0 a1 h.2.1 ⟨fun e => hh, fun _ => ⟨fun e => hh, fun _ => ⟨fun e => hh, fun _ => ⟨fun e => hh, fun _ => ⟨fun e => hh, fun _ => by omega⟩⟩⟩⟩⟩
    exact sb_X6_halve_0 n s _ a0 a1 h.1 ⟨fun _ => rf (post_ref h 1 (by decide)), fun _ => ⟨fun e => rf (post_ref h 1 (by decide)), fun _ => ⟨fun e => rf (post_ref h 1 (by decide)), fun _ => ⟨fun e => rf (post_ref h 1 (by decide)), fun _ => ⟨fun e => rf (post_ref h 1 (by decide)), fun _ => by omega⟩⟩⟩⟩⟩

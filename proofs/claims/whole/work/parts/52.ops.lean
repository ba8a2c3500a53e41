theorem sb_X7_comesTold_0 (n : Nat) (s : Nat → Nat → Int) (Q : List Vl → Sto → Prop) (a0 : Int) (hR : refs s)
    (h : (0 ≤ wr (3 * a0) ∧ wr (3 * a0) < 147) ∧ ((0 ≤ wr ((wr (3 * a0)) + 1) ∧ wr ((wr (3 * a0)) + 1) < 147) ∧ ((0 ≤ a0 ∧ a0 < 49) ∧ ((s 133 a0.toNat = 99 → (s 134 ((wr (3 * a0)).toNat) < 0 → Q [(1, 0)] (n, s)) ∧ (s 134 ((wr (3 * a0)).toNat) ≥ 0 → (s 134 ((wr (3 * a0)).toNat) > wr ((s 120 0) - 1) → Q [(1, 0)] (n, s)) ∧ (s 134 ((wr (3 * a0)).toNat) ≤ wr ((s 120 0) - 1) → (0 ≤ s 134 ((wr (3 * a0)).toNat) ∧ s 134 ((wr (3 * a0)).toNat) < 6) ∧ ((s 134 ((wr ((wr (3 * a0)) + 1)).toNat) ≠ 0 → Q [(1, 1)] (n, upS (upS s 125 ((s 134 ((wr (3 * a0)).toNat)).toNat) (s 134 ((wr ((wr (3 * a0)) + 1)).toNat))) 126 ((s 134 ((wr (3 * a0)).toNat)).toNat) (s 126 ((s 134 ((wr (3 * a0)).toNat)).toNat)))) ∧ (s 134 ((wr ((wr (3 * a0)) + 1)).toNat) = 0 → Q [(1, 1)] (n, upS (upS s 125 ((s 134 ((wr (3 * a0)).toNat)).toNat) (s 134 ((wr ((wr (3 * a0)) + 1)).toNat))) 126 ((s 134 ((wr (3 * a0)).toNat)).toNat) 0)))))) ∧ (s 133 a0.toNat = 104 → (s 134 ((wr (3 * a0)).toNat) < 0 → Q [(1, 0)] (n, s)) ∧ (s 134 ((wr (3 * a0)).toNat) ≥ 0 → (s 134 ((wr (3 * a0)).toNat) > wr ((s 120 0) - 1) → Q [(1, 0)] (n, s)) ∧ (s 134 ((wr (3 * a0)).toNat) ≤ wr ((s 120 0) - 1) → (0 ≤ s 134 ((wr (3 * a0)).toNat) ∧ s 134 ((wr (3 * a0)).toNat) < 6) ∧ (Q [(1, 1)] (n, upS s 124 ((s 134 ((wr (3 * a0)).toNat)).toNat) (s 134 ((wr ((wr (3 * a0)) + 1)).toNat))))))) ∧ (s 133 a0.toNat = 108 → (s 134 ((wr (3 * a0)).toNat) < 0 → Q [(1, 0)] (n, s)) ∧ (s 134 ((wr (3 * a0)).toNat) ≥ 0 → (s 134 ((wr (3 * a0)).toNat) > wr ((s 120 0) - 1) → Q [(1, 0)] (n, s)) ∧ (s 134 ((wr (3 * a0)).toNat) ≤ wr ((s 120 0) - 1) → (0 ≤ s 134 ((wr (3 * a0)).toNat) ∧ s 134 ((wr (3 * a0)).toNat) < 6) ∧ ((s 125 ((s 134 ((wr (3 * a0)).toNat)).toNat) ≤ 0 → Q [(1, 0)] (n, s)) ∧ (0 < s 125 ((s 134 ((wr (3 * a0)).toNat)).toNat) → Q [(1, 1)] (n, upS s 126 ((s 134 ((wr (3 * a0)).toNat)).toNat) (wr (1 - (s 126 ((s 134 ((wr (3 * a0)).toNat)).toNat)))))))))) ∧ (s 133 a0.toNat = 112 → (6 ≤ s 134 ((wr (3 * a0)).toNat) → Q [(1, 0)] (n, s)) ∧ (s 134 ((wr (3 * a0)).toNat) < 6 → (6 ≤ s 120 0 → Q [(1, 0)] (n, s)) ∧ (s 120 0 < 6 → (0 ≤ wr ((wr (3 * a0)) + 2) ∧ wr ((wr (3 * a0)) + 2) < 147) ∧ ((0 ≤ s 120 0 ∧ s 120 0 < 6) ∧ (Q [(1, 1)] (n, upS (upS (upS (upS (upS (upS (upS (upS (upS s 121 ((s 120 0).toNat) (s 134 ((wr (3 * a0)).toNat))) 122 ((s 120 0).toNat) (s 134 ((wr ((wr (3 * a0)) + 1)).toNat))) 123 ((s 120 0).toNat) (s 134 ((wr ((wr (3 * a0)) + 2)).toNat))) 124 ((s 120 0).toNat) 0) 125 ((s 120 0).toNat) 50) 126 ((s 120 0).toNat) 0) 127 ((s 120 0).toNat) 0) 128 ((s 120 0).toNat) (-9)) 120 0 (wr ((s 120 0) + 1)))))))) ∧ (s 133 a0.toNat = 116 → (s 134 ((wr (3 * a0)).toNat) < 0 → Q [(1, 0)] (n, s)) ∧ (s 134 ((wr (3 * a0)).toNat) ≥ 0 → (s 134 ((wr (3 * a0)).toNat) > wr ((s 120 0) - 1) → Q [(1, 0)] (n, s)) ∧ (s 134 ((wr (3 * a0)).toNat) ≤ wr ((s 120 0) - 1) → (s 134 ((wr ((wr (3 * a0)) + 1)).toNat) < 0 → Q [(1, 0)] (n, s)) ∧ (s 134 ((wr ((wr (3 * a0)) + 1)).toNat) ≥ 0 → (s 134 ((wr ((wr (3 * a0)) + 1)).toNat) > wr ((s 120 0) - 1) → Q [(1, 0)] (n, s)) ∧ (s 134 ((wr ((wr (3 * a0)) + 1)).toNat) ≤ wr ((s 120 0) - 1) → (s 134 ((wr (3 * a0)).toNat) = s 134 ((wr ((wr (3 * a0)) + 1)).toNat) → Q [(1, 0)] (n, s)) ∧ (s 134 ((wr (3 * a0)).toNat) ≠ s 134 ((wr ((wr (3 * a0)) + 1)).toNat) → (0 ≤ s 134 ((wr (3 * a0)).toNat) ∧ s 134 ((wr (3 * a0)).toNat) < 6) ∧ ((s 128 ((s 134 ((wr (3 * a0)).toNat)).toNat) ≠ s 134 ((wr ((wr (3 * a0)) + 1)).toNat) → Q [(1, 1)] (n, upS s 128 ((s 134 ((wr (3 * a0)).toNat)).toNat) (s 134 ((wr ((wr (3 * a0)) + 1)).toNat)))) ∧ (s 128 ((s 134 ((wr (3 * a0)).toNat)).toNat) = s 134 ((wr ((wr (3 * a0)) + 1)).toNat) → Q [(1, 1)] (n, upS s 128 ((s 134 ((wr (3 * a0)).toNat)).toNat) (-9)))))))))) ∧ (s 133 a0.toNat ≠ 99 ∧ s 133 a0.toNat ≠ 104 ∧ s 133 a0.toNat ≠ 108 ∧ s 133 a0.toNat ≠ 112 ∧ s 133 a0.toNat ≠ 116 → (s 134 ((wr (3 * a0)).toNat) < 1 → Q [(1, 0)] (n, s)) ∧ (s 134 ((wr (3 * a0)).toNat) ≥ 1 → (s 134 ((wr (3 * a0)).toNat) > 12 → Q [(1, 0)] (n, s)) ∧ (s 134 ((wr (3 * a0)).toNat) ≤ 12 → (999 < wr ((s 120 9) + (s 134 ((wr (3 * a0)).toNat))) → Q [(1, 0)] (n, s)) ∧ (wr ((s 120 9) + (s 134 ((wr (3 * a0)).toNat))) ≤ 999 → G 120 140 168 0 [(3, 120), (1, s 134 ((wr (3 * a0)).toNat)), (0, 0), (0, 0), (0, 0)] [] (n, s) (fun r s1 => G 120 140 169 294 [(3, 120), (1, a0), (1, s 134 ((wr (3 * a0)).toNat)), (1, s 134 ((wr ((wr (3 * a0)) + 1)).toNat)), (1, 1)] (r ++ []) s1 Q))))))))) :
    G 120 140 169 0 [(3, 120), (1, a0), (0, 0), (0, 0), (0, 0)] [] (n, s) Q := by
  refine G_go rfl rfl ?_
  refine G_rf rfl rfl (by decide) (hR 120 20 134 rfl) ?_
  refine G_go rfl rfl ?_
  refine G_go rfl rfl ?_
  refine G_go rfl rfl ?_
  obtain ⟨g1, h⟩ := h
  refine G_ir (n := 147) rfl rfl (by decide) (by decide) g1 ?_
  refine G_go rfl rfl ?_
  show G 120 140 169 9 [(3, 120), (1, a0), (1, s 134 ((wr (3 * a0)).toNat)), (0, 0), (0, 0)] [] (n, s) Q
  refine G_go rfl rfl ?_
  refine G_rf rfl rfl (by decide) (hR 120 20 134 rfl) ?_
  refine G_go rfl rfl ?_
  refine G_go rfl rfl ?_
  refine G_go rfl rfl ?_
  refine G_go rfl rfl ?_
  refine G_go rfl rfl ?_
  obtain ⟨g2, h⟩ := h
  refine G_ir (n := 147) rfl rfl (by decide) (by decide) g2 ?_
  refine G_go rfl rfl ?_
  show G 120 140 169 20 [(3, 120), (1, a0), (1, s 134 ((wr (3 * a0)).toNat)), (1, s 134 ((wr ((wr (3 * a0)) + 1)).toNat)), (0, 0)] [] (n, s) Q
  refine G_go rfl rfl ?_
  refine G_go rfl rfl ?_
  show G 120 140 169 23 [(3, 120), (1, a0), (1, s 134 ((wr (3 * a0)).toNat)), (1, s 134 ((wr ((wr (3 * a0)) + 1)).toNat)), (1, 1)] [] (n, s) Q
  refine G_go rfl rfl ?_
  refine G_rf rfl rfl (by decide) (hR 120 19 133 rfl) ?_
  refine G_go rfl rfl ?_
  obtain ⟨g3, h⟩ := h
  refine G_ir (n := 49) rfl rfl (by decide) (by decide) g3 ?_
  by_cases hs29_0 : s 133 a0.toNat = 99
  · refine G_k hs29_0 rfl rfl ?_
    have h := h.1 hs29_0
    refine G_go rfl rfl ?_
    refine G_go rfl rfl ?_
    refine G_call rfl rfl ?_
    refine G_go rfl rfl ?_
    refine G_go rfl rfl ?_
    refine G_go rfl rfl ?_
    refine G_go rfl rfl ?_
    refine G_rd rfl rfl (by decide) ?_
    refine G_go rfl rfl ?_
    refine G_go rfl rfl ?_
    refine G_go rfl rfl ?_
    refine G_call rfl rfl ?_
    refine G_go rfl rfl ?_
    refine G_go rfl rfl ?_
    refine G_go rfl rfl ?_
    refine G_lt rfl rfl (fun c4 => ?_) (fun c4 => ?_)
    · have c4 := xl_lt c4
      have h := h.1 c4
      refine G_go rfl rfl ?_
      refine G_ret rfl rfl ?_
      refine G_ret rfl rfl ?_
      refine G_go rfl rfl ?_
      show G 120 140 169 155 [(3, 120), (1, a0), (1, s 134 ((wr (3 * a0)).toNat)), (1, s 134 ((wr ((wr (3 * a0)) + 1)).toNat)), (1, 0)] [] (n, s) Q
      refine G_go rfl rfl ?_
      refine G_brT rfl rfl rfl ?_
      refine G_go rfl rfl ?_
      exact G_ret rfl rfl h
    · have c4 := xl_ge c4
      have h := h.2 c4
      refine G_go rfl rfl ?_
      refine G_go rfl rfl ?_
      refine G_go rfl rfl ?_
      refine G_gt rfl rfl (fun c5 => ?_) (fun c5 => ?_)
      · have c5 := xl_gt c5
        have h := h.1 c5
        refine G_go rfl rfl ?_
        refine G_ret rfl rfl ?_
        refine G_ret rfl rfl ?_
        refine G_go rfl rfl ?_
        show G 120 140 169 155 [(3, 120), (1, a0), (1, s 134 ((wr (3 * a0)).toNat)), (1, s 134 ((wr ((wr (3 * a0)) + 1)).toNat)), (1, 0)] [] (n, s) Q
        refine G_go rfl rfl ?_
        refine G_brT rfl rfl rfl ?_
        refine G_go rfl rfl ?_
        exact G_ret rfl rfl h
      · have c5 := xl_le c5
        have h := h.2 c5
        refine G_go rfl rfl ?_
        refine G_go rfl rfl ?_
        refine G_ret rfl rfl ?_
        refine G_ret rfl rfl ?_
        refine G_go rfl rfl ?_
        show G 120 140 169 155 [(3, 120), (1, a0), (1, s 134 ((wr (3 * a0)).toNat)), (1, s 134 ((wr ((wr (3 * a0)) + 1)).toNat)), (1, 1)] [] (n, s) Q
        refine G_go rfl rfl ?_
        refine G_brF rfl rfl rfl ?_
        refine G_go rfl rfl ?_
        refine G_go rfl rfl ?_
        refine G_go rfl rfl ?_
        refine G_call rfl rfl ?_
        refine G_go rfl rfl ?_
        refine G_rf rfl rfl (by decide) (hR 120 5 125 rfl) ?_
        refine G_go rfl rfl ?_
        refine G_go rfl rfl ?_
        obtain ⟨g6, h⟩ := h
        refine G_iw (n := 6) rfl rfl (by decide) (by decide) g6 ?_
        have hR := refs_up (a := 125) (k := (s 134 ((wr (3 * a0)).toNat)).toNat) (x := s 134 ((wr ((wr (3 * a0)) + 1)).toNat)) hR rfl
        refine G_go rfl rfl ?_
        refine G_rf rfl rfl (by decide) (hR 120 6 126 rfl) ?_
        refine G_go rfl rfl ?_
        refine G_go rfl rfl ?_
        refine G_ne rfl rfl (fun c7 => ?_) (fun c7 => ?_)
        · have h := h.1 c7
          refine G_go rfl rfl ?_
          refine G_rf rfl rfl (by decide) (hR 120 6 126 rfl) ?_
          refine G_go rfl rfl ?_
          refine G_ir (n := 6) rfl rfl (by decide) (by decide) g6 ?_
          refine G_iw (n := 6) rfl rfl (by decide) (by decide) g6 ?_
          have hR := refs_up (a := 126) (k := (s 134 ((wr (3 * a0)).toNat)).toNat) (x := s 126 ((s 134 ((wr (3 * a0)).toNat)).toNat)) hR rfl
          refine G_ret rfl rfl ?_
          refine G_go rfl rfl ?_
          exact G_ret rfl rfl h
        · have h := h.2 c7
          refine G_go rfl rfl ?_
          refine G_go rfl rfl ?_
          refine G_iw (n := 6) rfl rfl (by decide) (by decide) g6 ?_
          have hR := refs_up (a := 126) (k := (s 134 ((wr (3 * a0)).toNat)).toNat) (x := 0) hR rfl
          refine G_ret rfl rfl ?_
          refine G_go rfl rfl ?_
          exact G_ret rfl rfl h
  replace h := h.2
  by_cases hs29_1 : s 133 a0.toNat = 104
  · refine G_k hs29_1 rfl rfl ?_
    have h := h.1 hs29_1
    refine G_go rfl rfl ?_
    refine G_go rfl rfl ?_
    refine G_call rfl rfl ?_
    refine G_go rfl rfl ?_
    refine G_go rfl rfl ?_
    refine G_go rfl rfl ?_
    refine G_go rfl rfl ?_
    refine G_rd rfl rfl (by decide) ?_
    refine G_go rfl rfl ?_
    refine G_go rfl rfl ?_
    refine G_go rfl rfl ?_
    refine G_call rfl rfl ?_
    refine G_go rfl rfl ?_
    refine G_go rfl rfl ?_
    refine G_go rfl rfl ?_
    refine G_lt rfl rfl (fun c8 => ?_) (fun c8 => ?_)
    · have c8 := xl_lt c8
      have h := h.1 c8
      refine G_go rfl rfl ?_
      refine G_ret rfl rfl ?_
      refine G_ret rfl rfl ?_
      refine G_go rfl rfl ?_
      show G 120 140 169 133 [(3, 120), (1, a0), (1, s 134 ((wr (3 * a0)).toNat)), (1, s 134 ((wr ((wr (3 * a0)) + 1)).toNat)), (1, 0)] [] (n, s) Q
      refine G_go rfl rfl ?_
      refine G_brT rfl rfl rfl ?_
      refine G_go rfl rfl ?_
      exact G_ret rfl rfl h
    · have c8 := xl_ge c8
      have h := h.2 c8
      refine G_go rfl rfl ?_
      refine G_go rfl rfl ?_
      refine G_go rfl rfl ?_
      refine G_gt rfl rfl (fun c9 => ?_) (fun c9 => ?_)
      · have c9 := xl_gt c9
        have h := h.1 c9
        refine G_go rfl rfl ?_
        refine G_ret rfl rfl ?_
        refine G_ret rfl rfl ?_
        refine G_go rfl rfl ?_
        show G 120 140 169 133 [(3, 120), (1, a0), (1, s 134 ((wr (3 * a0)).toNat)), (1, s 134 ((wr ((wr (3 * a0)) + 1)).toNat)), (1, 0)] [] (n, s) Q
        refine G_go rfl rfl ?_
        refine G_brT rfl rfl rfl ?_
        refine G_go rfl rfl ?_
        exact G_ret rfl rfl h
      · have c9 := xl_le c9
        have h := h.2 c9
        refine G_go rfl rfl ?_
        refine G_go rfl rfl ?_
        refine G_ret rfl rfl ?_
        refine G_ret rfl rfl ?_
        refine G_go rfl rfl ?_
        show G 120 140 169 133 [(3, 120), (1, a0), (1, s 134 ((wr (3 * a0)).toNat)), (1, s 134 ((wr ((wr (3 * a0)) + 1)).toNat)), (1, 1)] [] (n, s) Q
        refine G_go rfl rfl ?_
        refine G_brF rfl rfl rfl ?_
        refine G_go rfl rfl ?_
        refine G_rf rfl rfl (by decide) (hR 120 4 124 rfl) ?_
        refine G_go rfl rfl ?_
        refine G_go rfl rfl ?_
        obtain ⟨g10, h⟩ := h
        refine G_iw (n := 6) rfl rfl (by decide) (by decide) g10 ?_
        have hR := refs_up (a := 124) (k := (s 134 ((wr (3 * a0)).toNat)).toNat) (x := s 134 ((wr ((wr (3 * a0)) + 1)).toNat)) hR rfl
        refine G_go rfl rfl ?_
        exact G_ret rfl rfl h
  replace h := h.2
  by_cases hs29_2 : s 133 a0.toNat = 108
  · refine G_k hs29_2 rfl rfl ?_
    have h := h.1 hs29_2
    refine G_go rfl rfl ?_
    refine G_go rfl rfl ?_
    refine G_call rfl rfl ?_
    refine G_go rfl rfl ?_
    refine G_go rfl rfl ?_
    refine G_go rfl rfl ?_
    refine G_go rfl rfl ?_
    refine G_rd rfl rfl (by decide) ?_
    refine G_go rfl rfl ?_
    refine G_go rfl rfl ?_
    refine G_go rfl rfl ?_
    refine G_call rfl rfl ?_
    refine G_go rfl rfl ?_
    refine G_go rfl rfl ?_
    refine G_go rfl rfl ?_
    refine G_lt rfl rfl (fun c11 => ?_) (fun c11 => ?_)
    · have c11 := xl_lt c11
      have h := h.1 c11
      refine G_go rfl rfl ?_
      refine G_ret rfl rfl ?_
      refine G_ret rfl rfl ?_
      refine G_brT rfl rfl rfl ?_
      refine G_go rfl rfl ?_
      refine G_go rfl rfl ?_
      show G 120 140 169 231 [(3, 120), (1, a0), (1, s 134 ((wr (3 * a0)).toNat)), (1, s 134 ((wr ((wr (3 * a0)) + 1)).toNat)), (1, 0)] [] (n, s) Q
      refine G_go rfl rfl ?_
      refine G_brT rfl rfl rfl ?_
      refine G_go rfl rfl ?_
      exact G_ret rfl rfl h
    · have c11 := xl_ge c11
      have h := h.2 c11
      refine G_go rfl rfl ?_
      refine G_go rfl rfl ?_
      refine G_go rfl rfl ?_
      refine G_gt rfl rfl (fun c12 => ?_) (fun c12 => ?_)
      · have c12 := xl_gt c12
        have h := h.1 c12
        refine G_go rfl rfl ?_
        refine G_ret rfl rfl ?_
        refine G_ret rfl rfl ?_
        refine G_brT rfl rfl rfl ?_
        refine G_go rfl rfl ?_
        refine G_go rfl rfl ?_
        show G 120 140 169 231 [(3, 120), (1, a0), (1, s 134 ((wr (3 * a0)).toNat)), (1, s 134 ((wr ((wr (3 * a0)) + 1)).toNat)), (1, 0)] [] (n, s) Q
        refine G_go rfl rfl ?_
        refine G_brT rfl rfl rfl ?_
        refine G_go rfl rfl ?_
        exact G_ret rfl rfl h
      · have c12 := xl_le c12
        have h := h.2 c12
        refine G_go rfl rfl ?_
        refine G_go rfl rfl ?_
        refine G_ret rfl rfl ?_
        refine G_ret rfl rfl ?_
        refine G_brF rfl rfl rfl ?_
        refine G_go rfl rfl ?_
        refine G_rf rfl rfl (by decide) (hR 120 5 125 rfl) ?_
        refine G_go rfl rfl ?_
        obtain ⟨g13, h⟩ := h
        refine G_ir (n := 6) rfl rfl (by decide) (by decide) g13 ?_
        refine G_le rfl rfl (fun c14 => ?_) (fun c14 => ?_)
        · have h := h.1 c14
          refine G_go rfl rfl ?_
          refine G_go rfl rfl ?_
          show G 120 140 169 231 [(3, 120), (1, a0), (1, s 134 ((wr (3 * a0)).toNat)), (1, s 134 ((wr ((wr (3 * a0)) + 1)).toNat)), (1, 0)] [] (n, s) Q
          refine G_go rfl rfl ?_
          refine G_brT rfl rfl rfl ?_
          refine G_go rfl rfl ?_
          exact G_ret rfl rfl h
        · have h := h.2 c14
          refine G_go rfl rfl ?_
          refine G_go rfl rfl ?_
          refine G_go rfl rfl ?_
          show G 120 140 169 231 [(3, 120), (1, a0), (1, s 134 ((wr (3 * a0)).toNat)), (1, s 134 ((wr ((wr (3 * a0)) + 1)).toNat)), (1, 1)] [] (n, s) Q
          refine G_go rfl rfl ?_
          refine G_brF rfl rfl rfl ?_
          refine G_go rfl rfl ?_
          refine G_rf rfl rfl (by decide) (hR 120 6 126 rfl) ?_
          refine G_go rfl rfl ?_
          refine G_go rfl rfl ?_
          refine G_go rfl rfl ?_
          refine G_rf rfl rfl (by decide) (hR 120 6 126 rfl) ?_
          refine G_go rfl rfl ?_
          refine G_ir (n := 6) rfl rfl (by decide) (by decide) g13 ?_
          refine G_go rfl rfl ?_
          refine G_iw (n := 6) rfl rfl (by decide) (by decide) g13 ?_
          have hR := refs_up (a := 126) (k := (s 134 ((wr (3 * a0)).toNat)).toNat) (x := wr (1 - (s 126 ((s 134 ((wr (3 * a0)).toNat)).toNat)))) hR rfl
          refine G_go rfl rfl ?_
          exact G_ret rfl rfl h
  replace h := h.2
  by_cases hs29_3 : s 133 a0.toNat = 112
  · refine G_k hs29_3 rfl rfl ?_
    have h := h.1 hs29_3
    refine G_go rfl rfl ?_
    refine G_go rfl rfl ?_
    refine G_ge rfl rfl (fun c15 => ?_) (fun c15 => ?_)
    · have h := h.1 c15
      refine G_go rfl rfl ?_
      refine G_go rfl rfl ?_
      show G 120 140 169 102 [(3, 120), (1, a0), (1, s 134 ((wr (3 * a0)).toNat)), (1, s 134 ((wr ((wr (3 * a0)) + 1)).toNat)), (1, 0)] [] (n, s) Q
      refine G_go rfl rfl ?_
      refine G_brT rfl rfl rfl ?_
      refine G_go rfl rfl ?_
      exact G_ret rfl rfl h
    · have h := h.2 c15
      refine G_go rfl rfl ?_
      refine G_rd rfl rfl (by decide) ?_
      refine G_go rfl rfl ?_
      refine G_ge rfl rfl (fun c16 => ?_) (fun c16 => ?_)
      · have h := h.1 c16
        refine G_go rfl rfl ?_
        refine G_go rfl rfl ?_
        show G 120 140 169 102 [(3, 120), (1, a0), (1, s 134 ((wr (3 * a0)).toNat)), (1, s 134 ((wr ((wr (3 * a0)) + 1)).toNat)), (1, 0)] [] (n, s) Q
        refine G_go rfl rfl ?_
        refine G_brT rfl rfl rfl ?_
        refine G_go rfl rfl ?_
        exact G_ret rfl rfl h
      · have h := h.2 c16
        refine G_go rfl rfl ?_
        refine G_go rfl rfl ?_
        refine G_go rfl rfl ?_
        show G 120 140 169 102 [(3, 120), (1, a0), (1, s 134 ((wr (3 * a0)).toNat)), (1, s 134 ((wr ((wr (3 * a0)) + 1)).toNat)), (1, 1)] [] (n, s) Q
        refine G_go rfl rfl ?_
        refine G_brF rfl rfl rfl ?_
        refine G_go rfl rfl ?_
        refine G_go rfl rfl ?_
        refine G_go rfl rfl ?_
        refine G_go rfl rfl ?_
        refine G_rf rfl rfl (by decide) (hR 120 20 134 rfl) ?_
        refine G_go rfl rfl ?_
        refine G_go rfl rfl ?_
        refine G_go rfl rfl ?_
        refine G_go rfl rfl ?_
        refine G_go rfl rfl ?_
        obtain ⟨g17, h⟩ := h
        refine G_ir (n := 147) rfl rfl (by decide) (by decide) g17 ?_
        refine G_call rfl rfl ?_
        refine G_go rfl rfl ?_
        refine G_rf rfl rfl (by decide) (hR 120 1 121 rfl) ?_
        refine G_go rfl rfl ?_
        refine G_rd rfl rfl (by decide) ?_
        refine G_go rfl rfl ?_
        obtain ⟨g18, h⟩ := h
        refine G_iw (n := 6) rfl rfl (by decide) (by decide) g18 ?_
        have hR := refs_up (a := 121) (k := (s 120 0).toNat) (x := s 134 ((wr (3 * a0)).toNat)) hR rfl
        refine G_go rfl rfl ?_
        refine G_rf rfl rfl (by decide) (hR 120 2 122 rfl) ?_
        refine G_go rfl rfl ?_
        refine G_rd rfl rfl (by decide) ?_
        refine G_go rfl rfl ?_
        refine G_iw (n := 6) rfl rfl (by decide) (by decide) g18 ?_
        have hR := refs_up (a := 122) (k := (s 120 0).toNat) (x := s 134 ((wr ((wr (3 * a0)) + 1)).toNat)) hR rfl
        refine G_go rfl rfl ?_
        refine G_rf rfl rfl (by decide) (hR 120 3 123 rfl) ?_
        refine G_go rfl rfl ?_
        refine G_rd rfl rfl (by decide) ?_
        refine G_go rfl rfl ?_
        refine G_iw (n := 6) rfl rfl (by decide) (by decide) g18 ?_
        have hR := refs_up (a := 123) (k := (s 120 0).toNat) (x := s 134 ((wr ((wr (3 * a0)) + 2)).toNat)) hR rfl
        refine G_go rfl rfl ?_
        refine G_rf rfl rfl (by decide) (hR 120 4 124 rfl) ?_
        refine G_go rfl rfl ?_
        refine G_rd rfl rfl (by decide) ?_
        refine G_go rfl rfl ?_
        refine G_iw (n := 6) rfl rfl (by decide) (by decide) g18 ?_
        have hR := refs_up (a := 124) (k := (s 120 0).toNat) (x := 0) hR rfl
        refine G_go rfl rfl ?_
        refine G_rf rfl rfl (by decide) (hR 120 5 125 rfl) ?_
        refine G_go rfl rfl ?_
        refine G_rd rfl rfl (by decide) ?_
        refine G_go rfl rfl ?_
        refine G_iw (n := 6) rfl rfl (by decide) (by decide) g18 ?_
        have hR := refs_up (a := 125) (k := (s 120 0).toNat) (x := 50) hR rfl
        refine G_go rfl rfl ?_
        refine G_rf rfl rfl (by decide) (hR 120 6 126 rfl) ?_
        refine G_go rfl rfl ?_
        refine G_rd rfl rfl (by decide) ?_
        refine G_go rfl rfl ?_
        refine G_iw (n := 6) rfl rfl (by decide) (by decide) g18 ?_
        have hR := refs_up (a := 126) (k := (s 120 0).toNat) (x := 0) hR rfl
        refine G_go rfl rfl ?_
        refine G_rf rfl rfl (by decide) (hR 120 7 127 rfl) ?_
        refine G_go rfl rfl ?_
        refine G_rd rfl rfl (by decide) ?_
        refine G_go rfl rfl ?_
        refine G_iw (n := 6) rfl rfl (by decide) (by decide) g18 ?_
        have hR := refs_up (a := 127) (k := (s 120 0).toNat) (x := 0) hR rfl
        refine G_go rfl rfl ?_
        refine G_rf rfl rfl (by decide) (hR 120 8 128 rfl) ?_
        refine G_go rfl rfl ?_
        refine G_rd rfl rfl (by decide) ?_
        refine G_go rfl rfl ?_
        refine G_iw (n := 6) rfl rfl (by decide) (by decide) g18 ?_
        have hR := refs_up (a := 128) (k := (s 120 0).toNat) (x := (-9)) hR rfl
        refine G_go rfl rfl ?_
        refine G_go rfl rfl ?_
        refine G_rd rfl rfl (by decide) ?_
        refine G_go rfl rfl ?_
        refine G_go rfl rfl ?_
        refine G_wr rfl rfl (by decide) ?_
        have hR := refs_up (a := 120) (k := 0) (x := wr ((s 120 0) + 1)) hR rfl
        refine G_ret rfl rfl ?_
        refine G_go rfl rfl ?_
        exact G_ret rfl rfl h
  replace h := h.2
  by_cases hs29_4 : s 133 a0.toNat = 116
  · refine G_k hs29_4 rfl rfl ?_
    have h := h.1 hs29_4
    refine G_go rfl rfl ?_
    refine G_go rfl rfl ?_
    refine G_go rfl rfl ?_
    refine G_call rfl rfl ?_
    refine G_go rfl rfl ?_
    refine G_go rfl rfl ?_
    refine G_call rfl rfl ?_
    refine G_go rfl rfl ?_
    refine G_go rfl rfl ?_
    refine G_go rfl rfl ?_
    refine G_go rfl rfl ?_
    refine G_rd rfl rfl (by decide) ?_
    refine G_go rfl rfl ?_
    refine G_go rfl rfl ?_
    refine G_go rfl rfl ?_
    refine G_call rfl rfl ?_
    refine G_go rfl rfl ?_
    refine G_go rfl rfl ?_
    refine G_go rfl rfl ?_
    refine G_lt rfl rfl (fun c19 => ?_) (fun c19 => ?_)
    · have c19 := xl_lt c19
      have h := h.1 c19
      refine G_go rfl rfl ?_
      refine G_ret rfl rfl ?_
      refine G_ret rfl rfl ?_
      refine G_brT rfl rfl rfl ?_
      refine G_go rfl rfl ?_
      refine G_ret rfl rfl ?_
      refine G_go rfl rfl ?_
      show G 120 140 169 177 [(3, 120), (1, a0), (1, s 134 ((wr (3 * a0)).toNat)), (1, s 134 ((wr ((wr (3 * a0)) + 1)).toNat)), (1, 0)] [] (n, s) Q
      refine G_go rfl rfl ?_
      refine G_brT rfl rfl rfl ?_
      refine G_go rfl rfl ?_
      exact G_ret rfl rfl h
    · have c19 := xl_ge c19
      have h := h.2 c19
      refine G_go rfl rfl ?_
      refine G_go rfl rfl ?_
      refine G_go rfl rfl ?_
      refine G_gt rfl rfl (fun c20 => ?_) (fun c20 => ?_)
      · have c20 := xl_gt c20
        have h := h.1 c20
        refine G_go rfl rfl ?_
        refine G_ret rfl rfl ?_
        refine G_ret rfl rfl ?_
        refine G_brT rfl rfl rfl ?_
        refine G_go rfl rfl ?_
        refine G_ret rfl rfl ?_
        refine G_go rfl rfl ?_
        show G 120 140 169 177 [(3, 120), (1, a0), (1, s 134 ((wr (3 * a0)).toNat)), (1, s 134 ((wr ((wr (3 * a0)) + 1)).toNat)), (1, 0)] [] (n, s) Q
        refine G_go rfl rfl ?_
        refine G_brT rfl rfl rfl ?_
        refine G_go rfl rfl ?_
        exact G_ret rfl rfl h
      · have c20 := xl_le c20
        have h := h.2 c20
        refine G_go rfl rfl ?_
        refine G_go rfl rfl ?_
        refine G_ret rfl rfl ?_
        refine G_ret rfl rfl ?_
        refine G_brF rfl rfl rfl ?_
        refine G_go rfl rfl ?_
        refine G_go rfl rfl ?_
        refine G_call rfl rfl ?_
        refine G_go rfl rfl ?_
        refine G_go rfl rfl ?_
        refine G_go rfl rfl ?_
        refine G_go rfl rfl ?_
        refine G_rd rfl rfl (by decide) ?_
        refine G_go rfl rfl ?_
        refine G_go rfl rfl ?_
        refine G_go rfl rfl ?_
        refine G_call rfl rfl ?_
        refine G_go rfl rfl ?_
        refine G_go rfl rfl ?_
        refine G_go rfl rfl ?_
        refine G_lt rfl rfl (fun c21 => ?_) (fun c21 => ?_)
        · have c21 := xl_lt c21
          have h := h.1 c21
          refine G_go rfl rfl ?_
          refine G_ret rfl rfl ?_
          refine G_ret rfl rfl ?_
          refine G_brT rfl rfl rfl ?_
          refine G_go rfl rfl ?_
          refine G_ret rfl rfl ?_
          refine G_go rfl rfl ?_
          show G 120 140 169 177 [(3, 120), (1, a0), (1, s 134 ((wr (3 * a0)).toNat)), (1, s 134 ((wr ((wr (3 * a0)) + 1)).toNat)), (1, 0)] [] (n, s) Q
          refine G_go rfl rfl ?_
          refine G_brT rfl rfl rfl ?_
          refine G_go rfl rfl ?_
          exact G_ret rfl rfl h
        · have c21 := xl_ge c21
          have h := h.2 c21
          refine G_go rfl rfl ?_
          refine G_go rfl rfl ?_
          refine G_go rfl rfl ?_
          refine G_gt rfl rfl (fun c22 => ?_) (fun c22 => ?_)
          · have c22 := xl_gt c22
            have h := h.1 c22
            refine G_go rfl rfl ?_
            refine G_ret rfl rfl ?_
            refine G_ret rfl rfl ?_
            refine G_brT rfl rfl rfl ?_
            refine G_go rfl rfl ?_
            refine G_ret rfl rfl ?_
            refine G_go rfl rfl ?_
            show G 120 140 169 177 [(3, 120), (1, a0), (1, s 134 ((wr (3 * a0)).toNat)), (1, s 134 ((wr ((wr (3 * a0)) + 1)).toNat)), (1, 0)] [] (n, s) Q
            refine G_go rfl rfl ?_
            refine G_brT rfl rfl rfl ?_
            refine G_go rfl rfl ?_
            exact G_ret rfl rfl h
          · have c22 := xl_le c22
            have h := h.2 c22
            refine G_go rfl rfl ?_
            refine G_go rfl rfl ?_
            refine G_ret rfl rfl ?_
            refine G_ret rfl rfl ?_
            refine G_brF rfl rfl rfl ?_
            refine G_go rfl rfl ?_
            refine G_go rfl rfl ?_
            refine G_eq rfl rfl (fun c23 => ?_) (fun c23 => ?_)
            · have h := h.1 c23
              refine G_go rfl rfl ?_
              refine G_ret rfl rfl ?_
              refine G_go rfl rfl ?_
              show G 120 140 169 177 [(3, 120), (1, a0), (1, s 134 ((wr (3 * a0)).toNat)), (1, s 134 ((wr ((wr (3 * a0)) + 1)).toNat)), (1, 0)] [] (n, s) Q
              refine G_go rfl rfl ?_
              refine G_brT rfl rfl rfl ?_
              refine G_go rfl rfl ?_
              exact G_ret rfl rfl h
            · have h := h.2 c23
              refine G_go rfl rfl ?_
              refine G_go rfl rfl ?_
              refine G_ret rfl rfl ?_
              refine G_go rfl rfl ?_
              show G 120 140 169 177 [(3, 120), (1, a0), (1, s 134 ((wr (3 * a0)).toNat)), (1, s 134 ((wr ((wr (3 * a0)) + 1)).toNat)), (1, 1)] [] (n, s) Q
              refine G_go rfl rfl ?_
              refine G_brF rfl rfl rfl ?_
              refine G_go rfl rfl ?_
              refine G_rf rfl rfl (by decide) (hR 120 8 128 rfl) ?_
              refine G_go rfl rfl ?_
              refine G_go rfl rfl ?_
              refine G_rf rfl rfl (by decide) (hR 120 8 128 rfl) ?_
              refine G_go rfl rfl ?_
              obtain ⟨g24, h⟩ := h
              refine G_ir (n := 6) rfl rfl (by decide) (by decide) g24 ?_
              refine G_go rfl rfl ?_
              refine G_ne rfl rfl (fun c25 => ?_) (fun c25 => ?_)
              · have h := h.1 c25
                refine G_go rfl rfl ?_
                refine G_iw (n := 6) rfl rfl (by decide) (by decide) g24 ?_
                have hR := refs_up (a := 128) (k := (s 134 ((wr (3 * a0)).toNat)).toNat) (x := s 134 ((wr ((wr (3 * a0)) + 1)).toNat)) hR rfl
                refine G_go rfl rfl ?_
                exact G_ret rfl rfl h
              · have h := h.2 c25
                refine G_go rfl rfl ?_
                refine G_go rfl rfl ?_
                refine G_iw (n := 6) rfl rfl (by decide) (by decide) g24 ?_
                have hR := refs_up (a := 128) (k := (s 134 ((wr (3 * a0)).toNat)).toNat) (x := (-9)) hR rfl
                refine G_go rfl rfl ?_
                exact G_ret rfl rfl h
  replace h := h.2
  have hd29 : s 133 a0.toNat ≠ 99 ∧ s 133 a0.toNat ≠ 104 ∧ s 133 a0.toNat ≠ 108 ∧ s 133 a0.toNat ≠ 112 ∧ s 133 a0.toNat ≠ 116 := ⟨hs29_0, hs29_1, hs29_2, hs29_3, hs29_4⟩
  refine G_lkd rfl (by simp [Op.lookupswitch.offset, Ne.symm hs29_0, Ne.symm hs29_1, Ne.symm hs29_2, Ne.symm hs29_3, Ne.symm hs29_4]) rfl ?_
  replace h := h hd29
  refine G_go rfl rfl ?_
  refine G_go rfl rfl ?_
  refine G_go rfl rfl ?_
  refine G_go rfl rfl ?_
  refine G_call rfl rfl ?_
  refine G_go rfl rfl ?_
  refine G_go rfl rfl ?_
  refine G_go rfl rfl ?_
  refine G_lt rfl rfl (fun c26 => ?_) (fun c26 => ?_)
  · have c26 := xl_lt c26
    have h := h.1 c26
    refine G_go rfl rfl ?_
    refine G_ret rfl rfl ?_
    refine G_brT rfl rfl rfl ?_
    refine G_go rfl rfl ?_
    refine G_go rfl rfl ?_
    show G 120 140 169 284 [(3, 120), (1, a0), (1, s 134 ((wr (3 * a0)).toNat)), (1, s 134 ((wr ((wr (3 * a0)) + 1)).toNat)), (1, 0)] [] (n, s) Q
    refine G_go rfl rfl ?_
    refine G_brT rfl rfl rfl ?_
    refine G_go rfl rfl ?_
    exact G_ret rfl rfl h
  · have c26 := xl_ge c26
    have h := h.2 c26
    refine G_go rfl rfl ?_
    refine G_go rfl rfl ?_
    refine G_go rfl rfl ?_
    refine G_gt rfl rfl (fun c27 => ?_) (fun c27 => ?_)
    · have c27 := xl_gt c27
      have h := h.1 c27
      refine G_go rfl rfl ?_
      refine G_ret rfl rfl ?_
      refine G_brT rfl rfl rfl ?_
      refine G_go rfl rfl ?_
      refine G_go rfl rfl ?_
      show G 120 140 169 284 [(3, 120), (1, a0), (1, s 134 ((wr (3 * a0)).toNat)), (1, s 134 ((wr ((wr (3 * a0)) + 1)).toNat)), (1, 0)] [] (n, s) Q
      refine G_go rfl rfl ?_
      refine G_brT rfl rfl rfl ?_
      refine G_go rfl rfl ?_
      exact G_ret rfl rfl h
    · have c27 := xl_le c27
      have h := h.2 c27
      refine G_go rfl rfl ?_
      refine G_go rfl rfl ?_
      refine G_ret rfl rfl ?_
      refine G_brF rfl rfl rfl ?_
      refine G_go rfl rfl ?_
      refine G_rd rfl rfl (by decide) ?_
      refine G_go rfl rfl ?_
      refine G_go rfl rfl ?_
      refine G_go rfl rfl ?_
      refine G_gt rfl rfl (fun c28 => ?_) (fun c28 => ?_)
      · have h := h.1 c28
        refine G_go rfl rfl ?_
        refine G_go rfl rfl ?_
        show G 120 140 169 284 [(3, 120), (1, a0), (1, s 134 ((wr (3 * a0)).toNat)), (1, s 134 ((wr ((wr (3 * a0)) + 1)).toNat)), (1, 0)] [] (n, s) Q
        refine G_go rfl rfl ?_
        refine G_brT rfl rfl rfl ?_
        refine G_go rfl rfl ?_
        exact G_ret rfl rfl h
      · have h := h.2 c28
        refine G_go rfl rfl ?_
        refine G_go rfl rfl ?_
        refine G_go rfl rfl ?_
        show G 120 140 169 284 [(3, 120), (1, a0), (1, s 134 ((wr (3 * a0)).toNat)), (1, s 134 ((wr ((wr (3 * a0)) + 1)).toNat)), (1, 1)] [] (n, s) Q
        refine G_go rfl rfl ?_
        refine G_brF rfl rfl rfl ?_
        refine G_go rfl rfl ?_
        refine G_go rfl rfl ?_
        exact G_call rfl rfl h
theorem sb_X7_comesTold_294 (n : Nat) (s : Nat → Nat → Int) (Q : List Vl → Sto → Prop) (x1 : Int) (x2 : Int) (x3 : Int) (x4 : Int) (hR : refs s)
    (h : (x4 = 0 ∨ x4 = 1) ∧ (Q [(1, x4)] (n, s))) :
    G 120 140 169 294 [(3, 120), (1, x1), (1, x2), (1, x3), (1, x4)] [] (n, s) Q := by
  refine G_go rfl rfl ?_
  obtain ⟨g1, h⟩ := h
  exact G_retZ rfl rfl g1 h
/-! WHAT HAS BEEN TOLD COMES TO THE REFERENCE'S TOWN. -/
theorem frX_c {t t1 : Nat → Nat → Int} {x : Int} {m : Nat} {a b v : Int} (e : t1 = upS (upS (upS (upS (upS (upS (upS (upS (upS t 121 m a) 122 m b) 123 m v) 124 m 0) 125 m 50) 126 m 0) 127 m 0) 128 m (-9)) 120 0 x) : frX 130 t t1 := by
  subst e
  refine ⟨fun c c1 _ _ => ?_, fun i h0 _ _ _ _ => ?_⟩
  · rw [upS_row (by omega), upS_row (by omega), upS_row (by omega), upS_row (by omega), upS_row (by omega), upS_row (by omega), upS_row (by omega), upS_row (by omega), upS_row (by omega)]
  · rw [upS_2 h0, upS_row (by decide), upS_row (by decide), upS_row (by decide), upS_row (by decide), upS_row (by decide), upS_row (by decide), upS_row (by decide), upS_row (by decide)]
theorem twR_add {t : Nat → Nat → Int} {m : Nat} {h a b v : Int} {V : Nat → Nat → Int} (ht : twR t m h V) : twR (upS (upS (upS (upS (upS (upS (upS (upS (upS t 121 m a) 122 m b) 123 m v) 124 m 0) 125 m 50) 126 m 0) 127 m 0) 128 m (-9)) 120 0 ((m + 1 : Nat) : Int)) ((m + 1 : Nat) : Int) h (adV m a b v V) := by
  obtain ⟨t1, t2, t3⟩ := ht
  refine ⟨upS_eq, ?_, fun j hj p hp => ?_⟩
  · rw [upS_2 (by decide), upS_row (by decide), upS_row (by decide), upS_row (by decide), upS_row (by decide), upS_row (by decide), upS_row (by decide), upS_row (by decide), upS_row (by decide)]
    exact t2
  · rw [upS_row (by omega)]
    by_cases e : p = m
    · subst e
      rcases lt8 hj with rfl | rfl | rfl | rfl | rfl | rfl | rfl | rfl
      all_goals simp [adV, upS]
    · rw [upS_2 e, upS_2 e, upS_2 e, upS_2 e, upS_2 e, upS_2 e, upS_2 e, upS_2 e]
      unfold adV
      rw [upS_2 e, upS_2 e, upS_2 e, upS_2 e, upS_2 e, upS_2 e, upS_2 e, upS_2 e]
      exact t3 j hj p (by omega)
theorem c_told (n : Nat) (t : Nat → Nat → Int) (Q : List Vl → Sto → Prop) (hR : refs t) (c : Nat → Int) (L k p m : Nat) (hk : k ≤ 32) (h : Int) (V : Nat → Nat → Int) (w : wfS c L p) (o : okT (m : Int) V) (hh : 0 ≤ h ∧ h ≤ 999) (ht : twR t m h V) (td : tdS c k p t) (h0 : exS (c p) (tvA c p) (tvB c p) (tvC c p) m h V = none → Q [(1, 0)] (n, t)) (h1 : ∀ T : Twn, exS (c p) (tvA c p) (tvB c p) (tvC c p) m h V = some T → ∀ t1, refs t1 → frX 130 t t1 → twR t1 T.1 T.2.1 T.2.2 → Q [(1, 1)] (n, t1)) : G 120 140 169 0 [(3, 120), (1, (k : Int)), (0, 0), (0, 0), (0, 0)] [] (n, t) Q := by
  obtain ⟨w1, w2, w3, w4⟩ := w
  obtain ⟨d1, d2, d3⟩ := dgN_rg w1
  obtain ⟨-, td2, td3, td4, td5⟩ := td
  have tA : t 134 (3 * k) = tvA c p := td3
  have tB : c p ≠ 108 → c p ≠ 110 → t 134 (3 * k + 1) = tvB c p := td4
  have tC : c p = 112 → t 134 (3 * k + 2) = tvC c p := td5
  clear td3 td4 td5
  have hm : (m : Int) ≤ 6 := o.1.2
  have e0 : t 120 0 = (m : Int) := ht.1
  have e9 : t 120 9 = h := ht.2.1
  have g1 : goodD c L (p + 1) := w2 0 (by omega)
  have g2 : 2 ≤ dgN c p → goodD c L (p + 2) := fun k => w2 1 (by omega)
  have g3 : 3 ≤ dgN c p → goodD c L (p + 3) := fun k => w2 2 (by omega)
  have g4 : 4 ≤ dgN c p → goodD c L (p + 4) := fun k => w2 3 (by omega)
  have r1 := g1.2
  have no : ∀ {x : Int}, dgO (c p) = x → ((dgN c p : Nat) : Int) = x := fun k => by rw [d3, k]
  have k200 : 3 * k < 200 := by omega
  have k100 : k < 100 := by omega
  have em : wr ((m : Int) - 1) = (m : Int) - 1 := wr_id (by omega) (by omega)
  have p0 : wr (3 * (k : Int)) = ((3 * k : Nat) : Int) := wr_3 k100
  have p1 : wr (((3 * k : Nat) : Int) + 1) = ((3 * k + 1 : Nat) : Int) := wr_n 1 k200 (by decide)
  have p2 : wr (((3 * k : Nat) : Int) + 2) = ((3 * k + 2 : Nat) : Int) := wr_n 2 k200 (by decide)
  refine sb_X7_comesTold_0 n t Q k hR ?_
  rw [p0, p1, p2, Int.toNat_natCast, Int.toNat_natCast, Int.toNat_natCast, Int.toNat_natCast, e0, em, e9, td2, tA]
  clear p0 p1 p2 em
  refine ⟨⟨by omega, by omega⟩, ⟨by omega, by omega⟩, ⟨by omega, by omega⟩, fun e => ?_, fun e => ?_, fun e => ?_, fun e => ?_, fun e => ?_, fun e => ?_⟩
  · have q := no (x := 3) (by rw [e]; rfl)
    have b2 := (g2 (by omega)).2
    have b3 := (g3 (by omega)).2
    rw [tB (by omega) (by omega)]
    have ea : tvA c p = c (p + 1) - 48 := if_neg (by omega)
    rw [e, exS_c] at h0 h1
    generalize tvA c p = a at h0 h1 ea ⊢
    generalize tvB c p = b at h0 h1 ⊢
    refine ⟨fun z => by omega, fun _ => ⟨fun z => h0 (if_neg (by omega)), fun z => ⟨by omega, fun y => ?_, fun y => ?_⟩⟩⟩
    · rw [if_pos (by omega), if_neg y] at h1
      rw [upS_id (f := upS t 125 a.toNat b) (a := 126) (k := a.toNat) (x := t 126 a.toNat) rfl]
      exact h1 (m, h, _) rfl _ (refs_up hR rfl) (frX_up (by decide) (by decide)) (twR_set (j := 4) ht)
    · rw [if_pos (by omega), if_pos y] at h1
      exact h1 (m, h, _) rfl _ (refs_up (refs_up hR rfl) rfl) (frX_trans (frX_up (a := 125) (p := a.toNat) (x := b) (by decide) (by decide)) (frX_up (by decide) (by decide))) (twR_set (j := 5) (twR_set (j := 4) ht))
  · rw [tB (by omega) (by omega)]
    have ea : tvA c p = c (p + 1) - 48 := if_neg (by omega)
    rw [e, exS_h] at h0 h1
    generalize tvA c p = a at h0 h1 ea ⊢
    generalize tvB c p = b at h0 h1 ⊢
    refine ⟨fun z => by omega, fun _ => ⟨fun z => h0 (if_neg (by omega)), fun z => ⟨by omega, ?_⟩⟩⟩
    rw [if_pos (by omega)] at h1
    exact h1 (m, h, _) rfl _ (refs_up hR rfl) (frX_up (by decide) (by decide)) (twR_set (j := 3) ht)
  · have ea : tvA c p = c (p + 1) - 48 := if_neg (by omega)
    rw [e, exS_l] at h0 h1
    generalize tvA c p = a at h0 h1 ea ⊢
    refine ⟨fun z => by omega, fun _ => ⟨fun z => h0 (if_neg (by omega)), fun z => ⟨by omega, ?_⟩⟩⟩
    have e5 : t 126 a.toNat = V 5 a.toNat := ht.2.2 5 (by decide) a.toNat (by omega)
    have e4 : t 125 a.toNat = V 4 a.toNat := ht.2.2 4 (by decide) a.toNat (by omega)
    have o5 := (o.2 a.toNat (by omega)).2.2.2.2.2.1
    rw [e5, e4, wr_id (x := 1 - V 5 a.toNat) (by omega) (by omega)]
    refine ⟨fun y => h0 (if_neg (by omega)), fun y => ?_⟩
    rw [if_pos ⟨by omega, y⟩] at h1
    exact h1 (m, h, _) rfl _ (refs_up hR rfl) (frX_up (by decide) (by decide)) (twR_set (j := 5) ht)
  · rw [tB (by omega) (by omega), tC e]
    have ea : tvA c p = c (p + 1) - 48 := if_neg (by omega)
    rw [e, exS_p] at h0 h1
    generalize tvA c p = a at h0 h1 ea ⊢
    generalize tvB c p = b at h0 h1 ⊢
    generalize tvC c p = v at h0 h1 ⊢
    refine ⟨fun z => h0 (if_neg (by omega)), fun z => ⟨fun y => h0 (if_neg (by omega)), fun y => ⟨⟨by omega, by omega⟩, ⟨by omega, by omega⟩, ?_⟩⟩⟩
    rw [if_pos ⟨by omega, by omega⟩] at h1
    rw [Int.toNat_natCast, wr_s (show m < 6 by omega) (by decide)]
    refine h1 (m + 1, h, _) rfl _ ?_ (frX_c rfl) (twR_add ht)
    repeat first | exact hR | refine refs_up ?_ rfl
  · have q := no (x := 2) (by rw [e]; rfl)
    have b2 := (g2 (by omega)).2
    rw [tB (by omega) (by omega)]
    have ea : tvA c p = c (p + 1) - 48 := if_neg (by omega)
    have eb : tvB c p = c (p + 2) - 48 := if_neg (by omega)
    rw [e, exS_t] at h0 h1
    generalize tvA c p = a at h0 h1 ea ⊢
    generalize tvB c p = b at h0 h1 eb ⊢
    refine ⟨fun z => by omega, fun _ => ⟨fun z => h0 (if_neg (by omega)), fun z => ⟨fun y => by omega, fun _ => ⟨fun y => h0 (if_neg (by omega)), fun y => ⟨fun x => h0 (if_neg (by omega)), fun x => ⟨by omega, ?_⟩⟩⟩⟩⟩⟩
    rw [if_pos ⟨by omega, by omega, x⟩] at h1
    have e7 : t 128 a.toNat = V 7 a.toNat := ht.2.2 7 (by decide) a.toNat (by omega)
    rw [e7]
    unfold tuC at h1
    refine ⟨fun u => ?_, fun u => ?_⟩
    · rw [if_neg u] at h1
      exact h1 (m, h, _) rfl _ (refs_up hR rfl) (frX_up (by decide) (by decide)) (twR_set (j := 7) ht)
    · rw [if_pos u] at h1
      exact h1 (m, h, _) rfl _ (refs_up hR rfl) (frX_up (by decide) (by decide)) (twR_set (j := 7) ht)
  · have e : c p = 110 := by
      have := dg_lt w1
      omega
    have q := no (x := 2) (by rw [e]; rfl)
    have b2 := (g2 (by omega)).2
    have ea : tvA c p = 10 * (c (p + 1) - 48) + (c (p + 2) - 48) := if_pos e
    rw [e, exS_n] at h0 h1
    obtain ⟨N, hN⟩ : ∃ N : Nat, tvA c p = (N : Int) := ⟨(tvA c p).toNat, by omega⟩
    rw [hN] at h0 h1 ea ⊢
    rw [Int.toNat_natCast] at h0 h1
    have no : (∀ k : ¬ (1 ≤ (N : Int) ∧ (N : Int) ≤ 12 ∧ h + (N : Int) ≤ 999), Q [(1, 0)] (n, t)) := fun k => h0 (if_neg k)
    rw [wr_id (x := h + (N : Int)) (by omega) (by omega)]
    refine ⟨fun z => no (by omega), fun z => ⟨fun y => no (by omega), fun y => ⟨fun x => no (by omega), fun x => ?_⟩⟩⟩
    rw [if_pos ⟨by omega, by omega, by omega⟩] at h1
    refine c_goNight n t _ m h V N (by omega) hR o ht (fun t1 q1 f1 u1 => ?_)
    exact sb_X7_comesTold_294 n t1 Q _ _ _ 1 q1 ⟨Or.inr rfl, h1 (m, _, _) rfl t1 q1 f1 u1⟩

theorem sb_X6_pagesByCandle_0 (n : Nat) (s : Nat → Nat → Int) (Q : List Vl → Sto → Prop) (a0 : Int) (a1 : Int) (a2 : Int) (hR : refs s)
    (h : G 2 120 7 0 [(3, 13), (3, 3), (0, 0)] [] (n, s) (fun r s1 => G 2 120 83 11 [(3, 2), (1, a0), (1, a1), (1, a2)] (r ++ []) s1 Q)) :
    G 2 120 83 0 [(3, 2), (1, a0), (1, a1), (1, a2)] [] (n, s) Q := by
  refine G_go rfl rfl ?_
  refine G_rf rfl rfl (by decide) (hR 2 1 13 rfl) ?_
  refine G_go rfl rfl ?_
  refine G_rf rfl rfl (by decide) (hR 2 0 3 rfl) ?_
  exact G_call rfl rfl h
theorem sb_X6_pagesByCandle_11 (n : Nat) (s : Nat → Nat → Int) (Q : List Vl → Sto → Prop) (x1 : Int) (x2 : Int) (x3 : Int) (hR : refs s)
    (h : (0 ≤ x1 ∧ x1 < 6) ∧ (G 2 120 30 0 [(3, 13), (1, x3), (0, 0)] [] (n, upS s 18 x1.toNat x2) (fun r s1 => G 2 120 83 29 [(3, 2), (1, x1), (1, x2), (1, x3)] (r ++ []) s1 Q))) :
    G 2 120 83 11 [(3, 2), (1, x1), (1, x2), (1, x3)] [] (n, s) Q := by
  refine G_go rfl rfl ?_
  refine G_rf rfl rfl (by decide) (hR 2 1 13 rfl) ?_
  refine G_rf rfl rfl (by decide) (hR 13 4 18 rfl) ?_
  refine G_go rfl rfl ?_
  refine G_go rfl rfl ?_
  obtain ⟨g1, h⟩ := h
  refine G_iw (n := 6) rfl rfl (by decide) (by decide) g1 ?_
  have hR := refs_up (a := 18) (k := x1.toNat) (x := x2) hR rfl
  refine G_go rfl rfl ?_
  refine G_rf rfl rfl (by decide) (hR 2 1 13 rfl) ?_
  refine G_go rfl rfl ?_
  exact G_call rfl rfl h
theorem sb_X6_pagesByCandle_29 (n : Nat) (s : Nat → Nat → Int) (Q : List Vl → Sto → Prop) (x1 : Int) (x2 : Int) (x3 : Int) (hR : refs s)
    (h : (0 ≤ x1 ∧ x1 < 6) ∧ (Q [(1, wr ((s 20 x1.toNat) - (s 10 x1.toNat)))] (n, s))) :
    G 2 120 83 29 [(3, 2), (1, x1), (1, x2), (1, x3)] [] (n, s) Q := by
  refine G_go rfl rfl ?_
  refine G_rf rfl rfl (by decide) (hR 2 1 13 rfl) ?_
  refine G_rf rfl rfl (by decide) (hR 13 6 20 rfl) ?_
  refine G_go rfl rfl ?_
  obtain ⟨g1, h⟩ := h
  refine G_ir (n := 6) rfl rfl (by decide) (by decide) g1 ?_
  refine G_go rfl rfl ?_
  refine G_rf rfl rfl (by decide) (hR 2 0 3 rfl) ?_
  refine G_rf rfl rfl (by decide) (hR 3 6 10 rfl) ?_
  refine G_go rfl rfl ?_
  refine G_ir (n := 6) rfl rfl (by decide) (by decide) g1 ?_
  refine G_go rfl rfl ?_
  exact G_ret rfl rfl h
theorem sb_X6_gap_0 (n : Nat) (s : Nat → Nat → Int) (Q : List Vl → Sto → Prop) (a0 : Int) (hR : refs s)
    (h : (1 ≤ a0 → (a0 ≤ 12 → G 2 120 84 27 [(3, 2), (1, a0), (1, 0), (1, (-9)), (1, (-1)), (1, 0), (0, 0)] [] (n, s) Q) ∧ (12 < a0 → Q [(1, (-6))] (n, upS s 119 6 (wr ((s 119 6) + 1))))) ∧ (a0 < 1 → Q [(1, (-4))] (n, upS s 119 4 (wr ((s 119 4) + 1))))) :
    G 2 120 84 0 [(3, 2), (1, a0), (0, 0), (0, 0), (0, 0), (0, 0), (0, 0)] [] (n, s) Q := by
  refine G_go rfl rfl ?_
  refine G_go rfl rfl ?_
  refine G_go rfl rfl ?_
  refine G_call rfl rfl ?_
  refine G_go rfl rfl ?_
  refine G_go rfl rfl ?_
  refine G_ge rfl rfl (fun c1 => ?_) (fun c1 => ?_)
  · have h := h.1 c1
    refine G_go rfl rfl ?_
    refine G_go rfl rfl ?_
    refine G_le rfl rfl (fun c2 => ?_) (fun c2 => ?_)
    · have h := h.1 c2
      refine G_go rfl rfl ?_
      refine G_ret rfl rfl ?_
      refine G_go rfl rfl ?_
      show G 2 120 84 8 [(3, 2), (1, a0), (1, 0), (0, 0), (0, 0), (0, 0), (0, 0)] [] (n, s) Q
      refine G_go rfl rfl ?_
      refine G_brT rfl rfl rfl ?_
      refine G_go rfl rfl ?_
      refine G_go rfl rfl ?_
      show G 2 120 84 21 [(3, 2), (1, a0), (1, 0), (1, (-9)), (0, 0), (0, 0), (0, 0)] [] (n, s) Q
      refine G_go rfl rfl ?_
      refine G_go rfl rfl ?_
      show G 2 120 84 24 [(3, 2), (1, a0), (1, 0), (1, (-9)), (1, (-1)), (0, 0), (0, 0)] [] (n, s) Q
      refine G_go rfl rfl ?_
      refine G_go rfl rfl ?_
      show G 2 120 84 27 [(3, 2), (1, a0), (1, 0), (1, (-9)), (1, (-1)), (1, 0), (0, 0)] [] (n, s) Q
      exact h
    · have h := h.2 c2
      refine G_go rfl rfl ?_
      refine G_go rfl rfl ?_
      refine G_ret rfl rfl ?_
      refine G_go rfl rfl ?_
      show G 2 120 84 8 [(3, 2), (1, a0), (1, (-6)), (0, 0), (0, 0), (0, 0), (0, 0)] [] (n, s) Q
      refine G_go rfl rfl ?_
      refine G_brF rfl rfl rfl ?_
      refine G_go rfl rfl ?_
      refine G_go rfl rfl ?_
      refine G_call rfl rfl ?_
      refine G_go rfl rfl ?_
      refine G_go rfl rfl ?_
      refine G_go rfl rfl ?_
      refine G_go rfl rfl ?_
      refine G_brF rfl rfl rfl ?_
      refine G_go rfl rfl ?_
      refine G_go rfl rfl ?_
      refine G_rf rfl rfl (by decide) (hR 2 7 119 rfl) ?_
      refine G_go rfl rfl ?_
      refine G_brF rfl rfl rfl ?_
      refine G_go rfl rfl ?_
      refine G_rf rfl rfl (by decide) (hR 2 7 119 rfl) ?_
      refine G_go rfl rfl ?_
      refine G_go rfl rfl ?_
      refine G_ir (n := 7) rfl rfl (by decide) (by decide) (by decide) ?_
      refine G_go rfl rfl ?_
      refine G_go rfl rfl ?_
      refine G_iw (n := 7) rfl rfl (by decide) (by decide) (by decide) ?_
      have hR := refs_up (a := 119) (k := 6) (x := wr ((s 119 6) + 1)) hR rfl
      refine G_go rfl rfl ?_
      refine G_ret rfl rfl ?_
      exact G_ret rfl rfl h
  · have h := h.2 c1
    refine G_go rfl rfl ?_
    refine G_ret rfl rfl ?_
    refine G_go rfl rfl ?_
    show G 2 120 84 8 [(3, 2), (1, a0), (1, (-4)), (0, 0), (0, 0), (0, 0), (0, 0)] [] (n, s) Q
    refine G_go rfl rfl ?_
    refine G_brF rfl rfl rfl ?_
    refine G_go rfl rfl ?_
    refine G_go rfl rfl ?_
    refine G_call rfl rfl ?_
    refine G_go rfl rfl ?_
    refine G_go rfl rfl ?_
    refine G_go rfl rfl ?_
    refine G_go rfl rfl ?_
    refine G_brF rfl rfl rfl ?_
    refine G_go rfl rfl ?_
    refine G_go rfl rfl ?_
    refine G_rf rfl rfl (by decide) (hR 2 7 119 rfl) ?_
    refine G_go rfl rfl ?_
    refine G_brF rfl rfl rfl ?_
    refine G_go rfl rfl ?_
    refine G_rf rfl rfl (by decide) (hR 2 7 119 rfl) ?_
    refine G_go rfl rfl ?_
    refine G_go rfl rfl ?_
    refine G_ir (n := 7) rfl rfl (by decide) (by decide) (by decide) ?_
    refine G_go rfl rfl ?_
    refine G_go rfl rfl ?_
    refine G_iw (n := 7) rfl rfl (by decide) (by decide) (by decide) ?_
    have hR := refs_up (a := 119) (k := 4) (x := wr ((s 119 4) + 1)) hR rfl
    refine G_go rfl rfl ?_
    refine G_ret rfl rfl ?_
    exact G_ret rfl rfl h
theorem sb_X6_gap_27 (n : Nat) (s : Nat → Nat → Int) (Q : List Vl → Sto → Prop) (x1 : Int) (x2 : Int) (x3 : Int) (x4 : Int) (x5 : Int) (w6 : Vl) (hR : refs s)
    (h : (s 3 9 ≤ x5 → Q [(1, x3)] (n, s)) ∧ (x5 < s 3 9 → G 2 120 83 0 [(3, 2), (1, x5), (1, 99), (1, x1)] [] (n, s) (fun r s1 => G 2 120 84 48 [(3, 2), (1, x1), (1, x2), (1, x3), (1, x4), (1, x5), w6] (r ++ []) s1 Q))) :
    G 2 120 84 27 [(3, 2), (1, x1), (1, x2), (1, x3), (1, x4), (1, x5), w6] [] (n, s) Q := by
  refine G_go rfl rfl ?_
  refine G_go rfl rfl ?_
  refine G_rf rfl rfl (by decide) (hR 2 0 3 rfl) ?_
  refine G_rd rfl rfl (by decide) ?_
  refine G_ge rfl rfl (fun c1 => ?_) (fun c1 => ?_)
  · have h := h.1 c1
    refine G_go rfl rfl ?_
    exact G_ret rfl rfl h
  · have h := h.2 c1
    refine G_go rfl rfl ?_
    refine G_go rfl rfl ?_
    refine G_go rfl rfl ?_
    refine G_go rfl rfl ?_
    exact G_call rfl rfl h
theorem sb_X6_gap_48 (n : Nat) (s : Nat → Nat → Int) (Q : List Vl → Sto → Prop) (x1 : Int) (x2 : Int) (x3 : Int) (x4 : Int) (x5 : Int) (y0 : Int) (w6 : Vl) (hR : refs s)
    (h : (0 ≤ x5 ∧ x5 < 6) ∧ (G 2 120 83 0 [(3, 2), (1, x5), (1, s 8 x5.toNat), (1, x1)] [] (n, s) (fun r s1 => G 2 120 84 65 [(3, 2), (1, x1), (1, x2), (1, x3), (1, x4), (1, x5), w6] (r ++ [(1, y0)]) s1 Q))) :
    G 2 120 84 48 [(3, 2), (1, x1), (1, x2), (1, x3), (1, x4), (1, x5), w6] [(1, y0)] (n, s) Q := by
  refine G_go rfl rfl ?_
  refine G_go rfl rfl ?_
  refine G_go rfl rfl ?_
  refine G_rf rfl rfl (by decide) (hR 2 0 3 rfl) ?_
  refine G_rf rfl rfl (by decide) (hR 3 4 8 rfl) ?_
  refine G_go rfl rfl ?_
  obtain ⟨g1, h⟩ := h
  refine G_ir (n := 6) rfl rfl (by decide) (by decide) g1 ?_
  refine G_go rfl rfl ?_
  exact G_call rfl rfl h
theorem sb_X6_gap_65 (n : Nat) (s : Nat → Nat → Int) (Q : List Vl → Sto → Prop) (x1 : Int) (x2 : Int) (x3 : Int) (x4 : Int) (x5 : Int) (y0 : Int) (y1 : Int) (w6 : Vl) (hR : refs s)
    (h : (wr (y1 - y0) ≤ x4 → G 2 120 84 27 [(3, 2), (1, x1), (1, x2), (1, x3), (1, x4), (1, wr (x5 + 1)), (1, wr (y1 - y0))] [] (n, s) Q) ∧ (x4 < wr (y1 - y0) → G 2 120 84 27 [(3, 2), (1, x1), (1, x2), (1, x5), (1, wr (y1 - y0)), (1, wr (x5 + 1)), (1, wr (y1 - y0))] [] (n, s) Q)) :
    G 2 120 84 65 [(3, 2), (1, x1), (1, x2), (1, x3), (1, x4), (1, x5), w6] [(1, y0), (1, y1)] (n, s) Q := by
  refine G_go rfl rfl ?_
  refine G_go rfl rfl ?_
  show G 2 120 84 68 [(3, 2), (1, x1), (1, x2), (1, x3), (1, x4), (1, x5), (1, wr (y1 - y0))] [] (n, s) Q
  refine G_go rfl rfl ?_
  refine G_go rfl rfl ?_
  refine G_le rfl rfl (fun c1 => ?_) (fun c1 => ?_)
  · have h := h.1 c1
    refine G_go rfl rfl ?_
    refine G_go rfl rfl ?_
    exact h
  · have h := h.2 c1
    refine G_go rfl rfl ?_
    refine G_go rfl rfl ?_
    show G 2 120 84 79 [(3, 2), (1, x1), (1, x2), (1, x3), (1, wr (y1 - y0)), (1, x5), (1, wr (y1 - y0))] [] (n, s) Q
    refine G_go rfl rfl ?_
    refine G_go rfl rfl ?_
    show G 2 120 84 82 [(3, 2), (1, x1), (1, x2), (1, x5), (1, wr (y1 - y0)), (1, x5), (1, wr (y1 - y0))] [] (n, s) Q
    refine G_go rfl rfl ?_
    refine G_go rfl rfl ?_
    exact h
theorem sb_X7_gap_0 (n : Nat) (s : Nat → Nat → Int) (Q : List Vl → Sto → Prop) (a0 : Int) (hR : refs s)
    (h : (1 ≤ a0 → (a0 ≤ 12 → G 120 140 143 0 [(3, 120)] [] (n, upS s 120 10 0) (fun r s1 => G 120 140 179 38 [(3, 120), (1, a0), (1, (-9)), (1, (-1000)), (0, 0), (0, 0), (0, 0)] (r ++ []) s1 Q)) ∧ (12 < a0 → Q [(1, (-6))] (n, upS (upS s 120 10 0) 129 6 (wr ((s 129 6) + 1))))) ∧ (a0 < 1 → Q [(1, (-4))] (n, upS (upS s 120 10 0) 129 4 (wr ((s 129 4) + 1))))) :
    G 120 140 179 0 [(3, 120), (1, a0), (0, 0), (0, 0), (0, 0), (0, 0), (0, 0)] [] (n, s) Q := by
  refine G_go rfl rfl ?_
  refine G_go rfl rfl ?_
  refine G_wr rfl rfl (by decide) ?_
  have hR := refs_up (a := 120) (k := 10) (x := 0) hR rfl
  refine G_go rfl rfl ?_
  refine G_go rfl rfl ?_
  refine G_go rfl rfl ?_
  refine G_call rfl rfl ?_
  refine G_go rfl rfl ?_
  refine G_go rfl rfl ?_
  refine G_ge rfl rfl (fun c1 => ?_) (fun c1 => ?_)
  · have h := h.1 c1
    refine G_go rfl rfl ?_
    refine G_go rfl rfl ?_
    refine G_le rfl rfl (fun c2 => ?_) (fun c2 => ?_)
    · have h := h.1 c2
      refine G_go rfl rfl ?_
      refine G_ret rfl rfl ?_
      refine G_brT rfl rfl rfl ?_
      refine G_go rfl rfl ?_
      refine G_go rfl rfl ?_
      show G 120 140 179 30 [(3, 120), (1, a0), (1, (-9)), (0, 0), (0, 0), (0, 0), (0, 0)] [] (n, upS s 120 10 0) Q
      refine G_go rfl rfl ?_
      refine G_go rfl rfl ?_
      show G 120 140 179 34 [(3, 120), (1, a0), (1, (-9)), (1, (-1000)), (0, 0), (0, 0), (0, 0)] [] (n, upS s 120 10 0) Q
      refine G_go rfl rfl ?_
      exact G_call rfl rfl h
    · have h := h.2 c2
      refine G_go rfl rfl ?_
      refine G_go rfl rfl ?_
      refine G_ret rfl rfl ?_
      refine G_brF rfl rfl rfl ?_
      refine G_go rfl rfl ?_
      refine G_go rfl rfl ?_
      refine G_go rfl rfl ?_
      refine G_go rfl rfl ?_
      refine G_call rfl rfl ?_
      refine G_go rfl rfl ?_
      refine G_go rfl rfl ?_
      refine G_ge rfl rfl (fun _ => ?_) (fun hc => absurd (show a0 < 1 from hc) (by omega))
      refine G_go rfl rfl ?_
      refine G_go rfl rfl ?_
      refine G_le rfl rfl (fun hc => absurd (show a0 ≤ 12 from hc) (by omega)) (fun _ => ?_)
      refine G_go rfl rfl ?_
      refine G_go rfl rfl ?_
      refine G_ret rfl rfl ?_
      refine G_call rfl rfl ?_
      refine G_go rfl rfl ?_
      refine G_rf rfl rfl (by decide) (hR 120 11 129 rfl) ?_
      refine G_go rfl rfl ?_
      refine G_go rfl rfl ?_
      refine G_go rfl rfl ?_
      refine G_ir (n := 7) rfl rfl (by decide) (by decide) (by decide) ?_
      refine G_go rfl rfl ?_
      refine G_go rfl rfl ?_
      refine G_iw (n := 7) rfl rfl (by decide) (by decide) (by decide) ?_
      have hR := refs_up (a := 129) (k := 6) (x := wr ((s 129 6) + 1)) hR rfl
      refine G_go rfl rfl ?_
      refine G_ret rfl rfl ?_
      exact G_ret rfl rfl h
  · have h := h.2 c1
    refine G_go rfl rfl ?_
    refine G_go rfl rfl ?_
    refine G_ret rfl rfl ?_
    refine G_brF rfl rfl rfl ?_
    refine G_go rfl rfl ?_
    refine G_go rfl rfl ?_
    refine G_go rfl rfl ?_
    refine G_go rfl rfl ?_
    refine G_call rfl rfl ?_
    refine G_go rfl rfl ?_
    refine G_go rfl rfl ?_
    refine G_ge rfl rfl (fun hc => absurd (show 1 ≤ a0 from hc) (by omega)) (fun _ => ?_)
    refine G_go rfl rfl ?_
    refine G_go rfl rfl ?_
    refine G_ret rfl rfl ?_
    refine G_call rfl rfl ?_
    refine G_go rfl rfl ?_
    refine G_rf rfl rfl (by decide) (hR 120 11 129 rfl) ?_
    refine G_go rfl rfl ?_
    refine G_go rfl rfl ?_
    refine G_go rfl rfl ?_
    refine G_ir (n := 7) rfl rfl (by decide) (by decide) (by decide) ?_
    refine G_go rfl rfl ?_
    refine G_go rfl rfl ?_
    refine G_iw (n := 7) rfl rfl (by decide) (by decide) (by decide) ?_
    have hR := refs_up (a := 129) (k := 4) (x := wr ((s 129 4) + 1)) hR rfl
    refine G_go rfl rfl ?_
    refine G_ret rfl rfl ?_
    exact G_ret rfl rfl h
theorem sb_X7_gap_38 (n : Nat) (s : Nat → Nat → Int) (Q : List Vl → Sto → Prop) (x1 : Int) (x2 : Int) (x3 : Int) (hR : refs s)
    (h : G 120 140 179 41 [(3, 120), (1, x1), (1, x2), (1, x3), (1, 0), (0, 0), (0, 0)] [] (n, s) Q) :
    G 120 140 179 38 [(3, 120), (1, x1), (1, x2), (1, x3), (0, 0), (0, 0), (0, 0)] [] (n, s) Q := by
  refine G_go rfl rfl ?_
  refine G_go rfl rfl ?_
  show G 120 140 179 41 [(3, 120), (1, x1), (1, x2), (1, x3), (1, 0), (0, 0), (0, 0)] [] (n, s) Q
  exact h
theorem sb_X7_gap_41 (n : Nat) (s : Nat → Nat → Int) (Q : List Vl → Sto → Prop) (x1 : Int) (x2 : Int) (x3 : Int) (x4 : Int) (w5 : Vl) (w6 : Vl) (hR : refs s)
    (h : (s 120 0 ≤ x4 → Q [(1, x2)] (n, s)) ∧ (x4 < s 120 0 → G 120 140 168 0 [(3, 120), (1, x1), (0, 0), (0, 0), (0, 0)] [] (n, s) (fun r s1 => G 120 140 179 55 [(3, 120), (1, x1), (1, x2), (1, x3), (1, x4), w5, w6] (r ++ []) s1 Q))) :
    G 120 140 179 41 [(3, 120), (1, x1), (1, x2), (1, x3), (1, x4), w5, w6] [] (n, s) Q := by
  refine G_go rfl rfl ?_
  refine G_go rfl rfl ?_
  refine G_rd rfl rfl (by decide) ?_
  refine G_ge rfl rfl (fun c1 => ?_) (fun c1 => ?_)
  · have h := h.1 c1
    refine G_go rfl rfl ?_
    exact G_ret rfl rfl h
  · have h := h.2 c1
    refine G_go rfl rfl ?_
    refine G_go rfl rfl ?_
    exact G_call rfl rfl h
theorem sb_X7_gap_55 (n : Nat) (s : Nat → Nat → Int) (Q : List Vl → Sto → Prop) (x1 : Int) (x2 : Int) (x3 : Int) (x4 : Int) (w5 : Vl) (w6 : Vl) (hR : refs s)
    (h : (0 ≤ x4 ∧ x4 < 6) ∧ (G 120 140 140 0 [(3, 120)] [] (n, s) (fun r s1 => G 120 140 179 68 [(3, 120), (1, x1), (1, x2), (1, x3), (1, x4), (1, s 127 x4.toNat), w6] (r ++ []) s1 Q))) :
    G 120 140 179 55 [(3, 120), (1, x1), (1, x2), (1, x3), (1, x4), w5, w6] [] (n, s) Q := by
  refine G_go rfl rfl ?_
  refine G_rf rfl rfl (by decide) (hR 120 7 127 rfl) ?_
  refine G_go rfl rfl ?_
  obtain ⟨g1, h⟩ := h
  refine G_ir (n := 6) rfl rfl (by decide) (by decide) g1 ?_
  refine G_go rfl rfl ?_
  show G 120 140 179 64 [(3, 120), (1, x1), (1, x2), (1, x3), (1, x4), (1, s 127 x4.toNat), w6] [] (n, s) Q
  refine G_go rfl rfl ?_
  exact G_call rfl rfl h
theorem sb_X7_gap_68 (n : Nat) (s : Nat → Nat → Int) (Q : List Vl → Sto → Prop) (x1 : Int) (x2 : Int) (x3 : Int) (x4 : Int) (x5 : Int) (w6 : Vl) (hR : refs s)
    (h : (0 ≤ x4 ∧ x4 < 6) ∧ (G 120 140 168 0 [(3, 120), (1, x1), (0, 0), (0, 0), (0, 0)] [] (n, upS s 125 x4.toNat 99) (fun r s1 => G 120 140 179 82 [(3, 120), (1, x1), (1, x2), (1, x3), (1, x4), (1, x5), w6] (r ++ []) s1 Q))) :
    G 120 140 179 68 [(3, 120), (1, x1), (1, x2), (1, x3), (1, x4), (1, x5), w6] [] (n, s) Q := by
  refine G_go rfl rfl ?_
  refine G_rf rfl rfl (by decide) (hR 120 5 125 rfl) ?_
  refine G_go rfl rfl ?_
  refine G_go rfl rfl ?_
  obtain ⟨g1, h⟩ := h
  refine G_iw (n := 6) rfl rfl (by decide) (by decide) g1 ?_
  have hR := refs_up (a := 125) (k := x4.toNat) (x := 99) hR rfl
  refine G_go rfl rfl ?_
  refine G_go rfl rfl ?_
  exact G_call rfl rfl h
theorem sb_X7_gap_82 (n : Nat) (s : Nat → Nat → Int) (Q : List Vl → Sto → Prop) (x1 : Int) (x2 : Int) (x3 : Int) (x4 : Int) (x5 : Int) (w6 : Vl) (hR : refs s)
    (h : (0 ≤ x4 ∧ x4 < 6) ∧ (G 120 140 140 0 [(3, 120)] [] (n, s) (fun r s1 => G 120 140 179 98 [(3, 120), (1, x1), (1, x2), (1, x3), (1, x4), (1, x5), (1, wr ((s 127 x4.toNat) - x5))] (r ++ []) s1 Q))) :
    G 120 140 179 82 [(3, 120), (1, x1), (1, x2), (1, x3), (1, x4), (1, x5), w6] [] (n, s) Q := by
  refine G_go rfl rfl ?_
  refine G_rf rfl rfl (by decide) (hR 120 7 127 rfl) ?_
  refine G_go rfl rfl ?_
  obtain ⟨g1, h⟩ := h
  refine G_ir (n := 6) rfl rfl (by decide) (by decide) g1 ?_
  refine G_go rfl rfl ?_
  refine G_go rfl rfl ?_
  refine G_go rfl rfl ?_
  show G 120 140 179 94 [(3, 120), (1, x1), (1, x2), (1, x3), (1, x4), (1, x5), (1, wr ((s 127 x4.toNat) - x5))] [] (n, s) Q
  refine G_go rfl rfl ?_
  exact G_call rfl rfl h
theorem sb_X7_gap_98 (n : Nat) (s : Nat → Nat → Int) (Q : List Vl → Sto → Prop) (x1 : Int) (x2 : Int) (x3 : Int) (x4 : Int) (x5 : Int) (x6 : Int) (hR : refs s)
    (h : (x6 ≤ x3 → G 120 140 179 41 [(3, 120), (1, x1), (1, x2), (1, x3), (1, wr (x4 + 1)), (1, x5), (1, x6)] [] (n, s) Q) ∧ (x3 < x6 → G 120 140 179 41 [(3, 120), (1, x1), (1, x4), (1, x6), (1, wr (x4 + 1)), (1, x5), (1, x6)] [] (n, s) Q)) :
    G 120 140 179 98 [(3, 120), (1, x1), (1, x2), (1, x3), (1, x4), (1, x5), (1, x6)] [] (n, s) Q := by
  refine G_go rfl rfl ?_
  refine G_go rfl rfl ?_
  refine G_le rfl rfl (fun c1 => ?_) (fun c1 => ?_)
  · have h := h.1 c1
    refine G_go rfl rfl ?_
    refine G_go rfl rfl ?_
    show G 120 140 179 111 [(3, 120), (1, x1), (1, x2), (1, x3), (1, x4), (1, x5), (1, x6)] [] (n, s) Q
    refine G_go rfl rfl ?_
    refine G_go rfl rfl ?_
    refine G_le rfl rfl (fun _ => ?_) (fun hc => absurd (show x3 < x6 from hc) (by omega))
    refine G_go rfl rfl ?_
    refine G_go rfl rfl ?_
    show G 120 140 179 124 [(3, 120), (1, x1), (1, x2), (1, x3), (1, x4), (1, x5), (1, x6)] [] (n, s) Q
    refine G_go rfl rfl ?_
    refine G_go rfl rfl ?_
    exact h
  · have h := h.2 c1
    refine G_go rfl rfl ?_
    refine G_go rfl rfl ?_
    refine G_go rfl rfl ?_
    show G 120 140 179 111 [(3, 120), (1, x1), (1, x4), (1, x3), (1, x4), (1, x5), (1, x6)] [] (n, s) Q
    refine G_go rfl rfl ?_
    refine G_go rfl rfl ?_
    refine G_le rfl rfl (fun hc => absurd (show x6 ≤ x3 from hc) (by omega)) (fun _ => ?_)
    refine G_go rfl rfl ?_
    refine G_go rfl rfl ?_
    refine G_go rfl rfl ?_
    show G 120 140 179 124 [(3, 120), (1, x1), (1, x4), (1, x6), (1, x4), (1, x5), (1, x6)] [] (n, s) Q
    refine G_go rfl rfl ?_
    refine G_go rfl rfl ?_
    exact h
theorem sb_X6_hoursTillDark_0 (n : Nat) (s : Nat → Nat → Int) (Q : List Vl → Sto → Prop) (hR : refs s)
    (h : G 2 120 7 0 [(3, 13), (3, 3), (0, 0)] [] (n, s) (fun r s1 => G 2 120 94 11 [(3, 2), (0, 0)] (r ++ []) s1 Q)) :
    G 2 120 94 0 [(3, 2), (0, 0)] [] (n, s) Q := by
  refine G_go rfl rfl ?_
  refine G_rf rfl rfl (by decide) (hR 2 1 13 rfl) ?_
  refine G_go rfl rfl ?_
  refine G_rf rfl rfl (by decide) (hR 2 0 3 rfl) ?_
  exact G_call rfl rfl h
theorem sb_X6_hoursTillDark_11 (n : Nat) (s : Nat → Nat → Int) (Q : List Vl → Sto → Prop) (hR : refs s)
    (h : G 2 120 94 13 [(3, 2), (1, 0)] [] (n, s) Q) :
    G 2 120 94 11 [(3, 2), (0, 0)] [] (n, s) Q := by
  refine G_go rfl rfl ?_
  refine G_go rfl rfl ?_
  show G 2 120 94 13 [(3, 2), (1, 0)] [] (n, s) Q
  exact h
theorem sb_X6_hoursTillDark_13 (n : Nat) (s : Nat → Nat → Int) (Q : List Vl → Sto → Prop) (x1 : Int) (hR : refs s)
    (h : (99 < x1 → Q [(1, (-9))] (n, s)) ∧ (x1 ≤ 99 → G 2 120 52 0 [(3, 13)] [] (n, s) (fun r s1 => G 2 120 94 26 [(3, 2), (1, x1)] (r ++ []) s1 Q))) :
    G 2 120 94 13 [(3, 2), (1, x1)] [] (n, s) Q := by
  refine G_go rfl rfl ?_
  refine G_go rfl rfl ?_
  refine G_gt rfl rfl (fun c1 => ?_) (fun c1 => ?_)
  · have h := h.1 c1
    refine G_go rfl rfl ?_
    exact G_ret rfl rfl h
  · have h := h.2 c1
    refine G_go rfl rfl ?_
    refine G_rf rfl rfl (by decide) (hR 2 1 13 rfl) ?_
    exact G_call rfl rfl h
theorem sb_X6_hoursTillDark_26 (n : Nat) (s : Nat → Nat → Int) (Q : List Vl → Sto → Prop) (x1 : Int) (y0 : Int) (hR : refs s)
    (h : (y0 ≠ 0 → G 2 120 27 0 [(3, 13), (0, 0)] [] (n, s) (fun r s1 => G 2 120 94 38 [(3, 2), (1, x1)] (r ++ []) s1 Q)) ∧ (y0 = 0 → Q [(1, x1)] (n, s))) :
    G 2 120 94 26 [(3, 2), (1, x1)] [(1, y0)] (n, s) Q := by
  refine G_ne rfl rfl (fun c1 => ?_) (fun c1 => ?_)
  · have h := h.1 c1
    refine G_go rfl rfl ?_
    refine G_rf rfl rfl (by decide) (hR 2 1 13 rfl) ?_
    exact G_call rfl rfl h
  · have h := h.2 c1
    refine G_go rfl rfl ?_
    exact G_ret rfl rfl h
theorem sb_X6_hoursTillDark_38 (n : Nat) (s : Nat → Nat → Int) (Q : List Vl → Sto → Prop) (x1 : Int) (hR : refs s)
    (h : G 2 120 94 13 [(3, 2), (1, wr (x1 + 1))] [] (n, s) Q) :
    G 2 120 94 38 [(3, 2), (1, x1)] [] (n, s) Q := by
  refine G_go rfl rfl ?_
  refine G_go rfl rfl ?_
  exact h
theorem sb_X7_darkIn_0 (n : Nat) (s : Nat → Nat → Int) (Q : List Vl → Sto → Prop) (hR : refs s)
    (h : G 120 140 143 0 [(3, 120)] [] (n, s) (fun r s1 => G 120 140 172 7 [(3, 120), (1, (-9)), (0, 0)] (r ++ []) s1 Q)) :
    G 120 140 172 0 [(3, 120), (0, 0), (0, 0)] [] (n, s) Q := by
  refine G_go rfl rfl ?_
  refine G_go rfl rfl ?_
  show G 120 140 172 3 [(3, 120), (1, (-9)), (0, 0)] [] (n, s) Q
  refine G_go rfl rfl ?_
  exact G_call rfl rfl h
theorem sb_X7_darkIn_7 (n : Nat) (s : Nat → Nat → Int) (Q : List Vl → Sto → Prop) (x1 : Int) (hR : refs s)
    (h : G 120 140 172 9 [(3, 120), (1, x1), (1, 0)] [] (n, s) Q) :
    G 120 140 172 7 [(3, 120), (1, x1), (0, 0)] [] (n, s) Q := by
  refine G_go rfl rfl ?_
  refine G_go rfl rfl ?_
  show G 120 140 172 9 [(3, 120), (1, x1), (1, 0)] [] (n, s) Q
  exact h
theorem sb_X7_darkIn_9 (n : Nat) (s : Nat → Nat → Int) (Q : List Vl → Sto → Prop) (x1 : Int) (x2 : Int) (hR : refs s)
    (h : (99 < x2 → G 120 140 140 0 [(3, 120)] [] (n, s) (fun r s1 => G 120 140 172 47 [(3, 120), (1, x1), (1, x2)] (r ++ []) s1 Q)) ∧ (x2 ≤ 99 → (0 ≤ x1 → G 120 140 140 0 [(3, 120)] [] (n, s) (fun r s1 => G 120 140 172 47 [(3, 120), (1, x1), (1, x2)] (r ++ []) s1 Q)) ∧ (x1 < 0 → G 120 140 148 0 [(3, 120), (0, 0), (0, 0)] [] (n, s) (fun r s1 => G 120 140 172 23 [(3, 120), (1, x1), (1, x2)] (r ++ []) s1 Q)))) :
    G 120 140 172 9 [(3, 120), (1, x1), (1, x2)] [] (n, s) Q := by
  refine G_go rfl rfl ?_
  refine G_go rfl rfl ?_
  refine G_gt rfl rfl (fun c1 => ?_) (fun c1 => ?_)
  · have h := h.1 c1
    refine G_go rfl rfl ?_
    exact G_call rfl rfl h
  · have h := h.2 c1
    refine G_go rfl rfl ?_
    refine G_ge rfl rfl (fun c2 => ?_) (fun c2 => ?_)
    · have h := h.1 c2
      refine G_go rfl rfl ?_
      exact G_call rfl rfl h
    · have h := h.2 c2
      refine G_go rfl rfl ?_
      exact G_call rfl rfl h
theorem sb_X7_darkIn_23 (n : Nat) (s : Nat → Nat → Int) (Q : List Vl → Sto → Prop) (x1 : Int) (x2 : Int) (y0 : Int) (hR : refs s)
    (h : (y0 ≠ 0 → G 120 140 146 0 [(3, 120), (0, 0), (0, 0)] [] (n, s) (fun r s1 => G 120 140 172 37 [(3, 120), (1, (-9)), (1, x2)] (r ++ []) s1 Q)) ∧ (y0 = 0 → G 120 140 146 0 [(3, 120), (0, 0), (0, 0)] [] (n, s) (fun r s1 => G 120 140 172 37 [(3, 120), (1, x2), (1, x2)] (r ++ []) s1 Q))) :
    G 120 140 172 23 [(3, 120), (1, x1), (1, x2)] [(1, y0)] (n, s) Q := by
  refine G_ne rfl rfl (fun c1 => ?_) (fun c1 => ?_)
  · have h := h.1 c1
    refine G_go rfl rfl ?_
    refine G_go rfl rfl ?_
    show G 120 140 172 33 [(3, 120), (1, (-9)), (1, x2)] [] (n, s) Q
    refine G_go rfl rfl ?_
    exact G_call rfl rfl h
  · have h := h.2 c1
    refine G_go rfl rfl ?_
    refine G_go rfl rfl ?_
    refine G_go rfl rfl ?_
    show G 120 140 172 33 [(3, 120), (1, x2), (1, x2)] [] (n, s) Q
    refine G_go rfl rfl ?_
    exact G_call rfl rfl h
theorem sb_X7_darkIn_37 (n : Nat) (s : Nat → Nat → Int) (Q : List Vl → Sto → Prop) (x1 : Int) (x2 : Int) (hR : refs s)
    (h : G 120 140 172 9 [(3, 120), (1, x1), (1, wr (x2 + 1))] [] (n, s) Q) :
    G 120 140 172 37 [(3, 120), (1, x1), (1, x2)] [] (n, s) Q := by
  refine G_go rfl rfl ?_
  refine G_go rfl rfl ?_
  exact h
theorem sb_X7_darkIn_47 (n : Nat) (s : Nat → Nat → Int) (Q : List Vl → Sto → Prop) (x1 : Int) (x2 : Int) (hR : refs s)
    (h : Q [(1, x1)] (n, s)) :
    G 120 140 172 47 [(3, 120), (1, x1), (1, x2)] [] (n, s) Q := by
  refine G_go rfl rfl ?_
  exact G_ret rfl rfl h
theorem sb_X6_whoGutters_0 (n : Nat) (s : Nat → Nat → Int) (Q : List Vl → Sto → Prop) (hR : refs s)
    (h : G 2 120 105 8 [(3, 2), (1, (-9)), (1, 100), (1, 0)] [] (n, s) Q) :
    G 2 120 105 0 [(3, 2), (0, 0), (0, 0), (0, 0)] [] (n, s) Q := by
  refine G_go rfl rfl ?_
  refine G_go rfl rfl ?_
  show G 2 120 105 3 [(3, 2), (1, (-9)), (0, 0), (0, 0)] [] (n, s) Q
  refine G_go rfl rfl ?_
  refine G_go rfl rfl ?_
  show G 2 120 105 6 [(3, 2), (1, (-9)), (1, 100), (0, 0)] [] (n, s) Q
  refine G_go rfl rfl ?_
  refine G_go rfl rfl ?_
  show G 2 120 105 8 [(3, 2), (1, (-9)), (1, 100), (1, 0)] [] (n, s) Q
  exact h
theorem sb_X6_whoGutters_8 (n : Nat) (s : Nat → Nat → Int) (Q : List Vl → Sto → Prop) (x1 : Int) (x2 : Int) (x3 : Int) (hR : refs s)
    (h : (s 3 9 ≤ x3 → Q [(1, x1)] (n, s)) ∧ (x3 < s 3 9 → (0 ≤ x3 ∧ x3 < 6) ∧ ((s 9 x3.toNat = 0 → G 2 120 105 8 [(3, 2), (1, x1), (1, x2), (1, wr (x3 + 1))] [] (n, s) Q) ∧ (s 9 x3.toNat ≠ 0 → (rgP (vw 4 s) x3.toNat) ∧ ((0 ≤ s 6 x3.toNat ∧ s 6 x3.toNat ≤ 2000) ∧ ((0 ≤ vw 4 s 4 x3.toNat ∧ vw 4 s 4 x3.toNat ≤ 99) ∧ ((x2 ≤ lsV (vw 4 s) x3.toNat (s 6 x3.toNat) → G 2 120 105 8 [(3, 2), (1, x1), (1, x2), (1, wr (x3 + 1))] [] (n, s) Q) ∧ (lsV (vw 4 s) x3.toNat (s 6 x3.toNat) < x2 → G 2 120 105 8 [(3, 2), (1, x3), (1, lsV (vw 4 s) x3.toNat (s 6 x3.toNat)), (1, wr (x3 + 1))] [] (n, s) Q)))))))) :
    G 2 120 105 8 [(3, 2), (1, x1), (1, x2), (1, x3)] [] (n, s) Q := by
  refine G_go rfl rfl ?_
  refine G_go rfl rfl ?_
  refine G_rf rfl rfl (by decide) (hR 2 0 3 rfl) ?_
  refine G_rd rfl rfl (by decide) ?_
  refine G_ge rfl rfl (fun c1 => ?_) (fun c1 => ?_)
  · have h := h.1 c1
    refine G_go rfl rfl ?_
    exact G_ret rfl rfl h
  · have h := h.2 c1
    refine G_go rfl rfl ?_
    refine G_rf rfl rfl (by decide) (hR 2 0 3 rfl) ?_
    refine G_rf rfl rfl (by decide) (hR 3 5 9 rfl) ?_
    refine G_go rfl rfl ?_
    obtain ⟨g2, h⟩ := h
    refine G_zr (n := 6) rfl rfl (by decide) (by decide) g2 ?_
    refine G_eq rfl rfl (fun c3 => ?_) (fun c3 => ?_)
    · have h := h.1 c3
      refine G_go rfl rfl ?_
      refine G_go rfl rfl ?_
      exact h
    · have h := h.2 c3
      refine G_go rfl rfl ?_
      refine G_rf rfl rfl (by decide) (hR 2 0 3 rfl) ?_
      refine G_go rfl rfl ?_
      refine G_call rfl rfl ?_
      refine G_go rfl rfl ?_
      refine G_go rfl rfl ?_
      refine G_go rfl rfl ?_
      refine G_rf rfl rfl (by decide) (hR 3 2 6 rfl) ?_
      refine G_go rfl rfl ?_
      refine G_ir (n := 6) rfl rfl (by decide) (by decide) g2 ?_
      refine G_call rfl rfl ?_
      obtain ⟨g4, h⟩ := h
      obtain ⟨g5, h⟩ := h
      obtain ⟨g6, h⟩ := h
      refine c_X5_lastsHolding_3 n _ _ x3 (s 6 x3.toNat) hR g2 g4 g5 g6 ?_
      refine G_ret rfl rfl ?_
      refine G_go rfl rfl ?_
      refine G_ge rfl rfl (fun c7 => ?_) (fun c7 => ?_)
      · have h := h.1 c7
        refine G_go rfl rfl ?_
        refine G_go rfl rfl ?_
        exact h
      · have h := h.2 c7
        refine G_go rfl rfl ?_
        refine G_rf rfl rfl (by decide) (hR 2 0 3 rfl) ?_
        refine G_go rfl rfl ?_
        refine G_call rfl rfl ?_
        refine G_go rfl rfl ?_
        refine G_go rfl rfl ?_
        refine G_go rfl rfl ?_
        refine G_rf rfl rfl (by decide) (hR 3 2 6 rfl) ?_
        refine G_go rfl rfl ?_
        refine G_ir (n := 6) rfl rfl (by decide) (by decide) g2 ?_
        refine G_call rfl rfl ?_
        refine c_X5_lastsHolding_3 n _ _ x3 (s 6 x3.toNat) hR g2 g4 g5 g6 ?_
        refine G_ret rfl rfl ?_
        refine G_go rfl rfl ?_
        show G 2 120 105 52 [(3, 2), (1, x1), (1, lsV (vw 4 s) x3.toNat (s 6 x3.toNat)), (1, x3)] [] (n, s) Q
        refine G_go rfl rfl ?_
        refine G_go rfl rfl ?_
        show G 2 120 105 54 [(3, 2), (1, x3), (1, lsV (vw 4 s) x3.toNat (s 6 x3.toNat)), (1, x3)] [] (n, s) Q
        refine G_go rfl rfl ?_
        refine G_go rfl rfl ?_
        exact h
theorem sb_X6_longest_0 (n : Nat) (s : Nat → Nat → Int) (Q : List Vl → Sto → Prop) (a0 : Int) (hR : refs s)
    (h : (a0 < 0 → Q [(1, (-2))] (n, upS s 119 2 (wr ((s 119 2) + 1)))) ∧ (0 ≤ a0 → (a0 ≤ 3 → G 2 120 104 0 [(3, 2), (0, 0), (0, 0), (0, 0), (0, 0)] [] (n, s) (fun r s1 => G 2 120 106 20 [(3, 2), (1, a0), (1, 0), (0, 0)] (r ++ []) s1 Q)) ∧ (3 < a0 → Q [(1, (-2))] (n, upS s 119 2 (wr ((s 119 2) + 1)))))) :
    G 2 120 106 0 [(3, 2), (1, a0), (0, 0), (0, 0)] [] (n, s) Q := by
  refine G_go rfl rfl ?_
  refine G_go rfl rfl ?_
  refine G_call rfl rfl ?_
  refine G_go rfl rfl ?_
  refine G_lt rfl rfl (fun c1 => ?_) (fun c1 => ?_)
  · have h := h.1 c1
    refine G_go rfl rfl ?_
    refine G_go rfl rfl ?_
    refine G_ret rfl rfl ?_
    refine G_go rfl rfl ?_
    show G 2 120 106 6 [(3, 2), (1, a0), (1, (-2)), (0, 0)] [] (n, s) Q
    refine G_go rfl rfl ?_
    refine G_brF rfl rfl rfl ?_
    refine G_go rfl rfl ?_
    refine G_go rfl rfl ?_
    refine G_call rfl rfl ?_
    refine G_go rfl rfl ?_
    refine G_go rfl rfl ?_
    refine G_go rfl rfl ?_
    refine G_go rfl rfl ?_
    refine G_brF rfl rfl rfl ?_
    refine G_go rfl rfl ?_
    refine G_go rfl rfl ?_
    refine G_rf rfl rfl (by decide) (hR 2 7 119 rfl) ?_
    refine G_go rfl rfl ?_
    refine G_brF rfl rfl rfl ?_
    refine G_go rfl rfl ?_
    refine G_rf rfl rfl (by decide) (hR 2 7 119 rfl) ?_
    refine G_go rfl rfl ?_
    refine G_go rfl rfl ?_
    refine G_ir (n := 7) rfl rfl (by decide) (by decide) (by decide) ?_
    refine G_go rfl rfl ?_
    refine G_go rfl rfl ?_
    refine G_iw (n := 7) rfl rfl (by decide) (by decide) (by decide) ?_
    have hR := refs_up (a := 119) (k := 2) (x := wr ((s 119 2) + 1)) hR rfl
    refine G_go rfl rfl ?_
    refine G_ret rfl rfl ?_
    exact G_ret rfl rfl h
  · have h := h.2 c1
    refine G_go rfl rfl ?_
    refine G_go rfl rfl ?_
    refine G_le rfl rfl (fun c2 => ?_) (fun c2 => ?_)
    · have h := h.1 c2
      refine G_go rfl rfl ?_
      refine G_ret rfl rfl ?_
      refine G_go rfl rfl ?_
      show G 2 120 106 6 [(3, 2), (1, a0), (1, 0), (0, 0)] [] (n, s) Q
      refine G_go rfl rfl ?_
      refine G_brT rfl rfl rfl ?_
      refine G_go rfl rfl ?_
      exact G_call rfl rfl h
    · have h := h.2 c2
      refine G_go rfl rfl ?_
      refine G_go rfl rfl ?_
      refine G_ret rfl rfl ?_
      refine G_go rfl rfl ?_
      show G 2 120 106 6 [(3, 2), (1, a0), (1, (-2)), (0, 0)] [] (n, s) Q
      refine G_go rfl rfl ?_
      refine G_brF rfl rfl rfl ?_
      refine G_go rfl rfl ?_
      refine G_go rfl rfl ?_
      refine G_call rfl rfl ?_
      refine G_go rfl rfl ?_
      refine G_go rfl rfl ?_
      refine G_go rfl rfl ?_
      refine G_go rfl rfl ?_
      refine G_brF rfl rfl rfl ?_
      refine G_go rfl rfl ?_
      refine G_go rfl rfl ?_
      refine G_rf rfl rfl (by decide) (hR 2 7 119 rfl) ?_
      refine G_go rfl rfl ?_
      refine G_brF rfl rfl rfl ?_
      refine G_go rfl rfl ?_
      refine G_rf rfl rfl (by decide) (hR 2 7 119 rfl) ?_
      refine G_go rfl rfl ?_
      refine G_go rfl rfl ?_
      refine G_ir (n := 7) rfl rfl (by decide) (by decide) (by decide) ?_
      refine G_go rfl rfl ?_
      refine G_go rfl rfl ?_
      refine G_iw (n := 7) rfl rfl (by decide) (by decide) (by decide) ?_
      have hR := refs_up (a := 119) (k := 2) (x := wr ((s 119 2) + 1)) hR rfl
      refine G_go rfl rfl ?_
      refine G_ret rfl rfl ?_
      exact G_ret rfl rfl h
theorem sb_X6_longest_20 (n : Nat) (s : Nat → Nat → Int) (Q : List Vl → Sto → Prop) (x1 : Int) (x2 : Int) (y0 : Int) (hR : refs s)
    (h : (x1 = 0 → Q [(1, y0)] (n, s)) ∧ (x1 = 1 → (y0 ≠ (-9) → (0 ≤ y0 ∧ y0 < 6) ∧ ((rgP (vw 4 s) y0.toNat) ∧ ((0 ≤ s 6 y0.toNat ∧ s 6 y0.toNat ≤ 2000) ∧ ((0 ≤ vw 4 s 4 y0.toNat ∧ vw 4 s 4 y0.toNat ≤ 99) ∧ (Q [(1, lsV (vw 4 s) y0.toNat (s 6 y0.toNat))] (n, s)))))) ∧ (y0 = (-9) → Q [(1, (-9))] (n, s))) ∧ (x1 = 2 → G 2 120 94 0 [(3, 2), (0, 0)] [] (n, s) (fun r s1 => G 2 120 106 74 [(3, 2), (1, x1), (1, x2), (1, y0)] (r ++ []) s1 Q)) ∧ (x1 < 0 ∨ 2 < x1 → G 2 120 105 0 [(3, 2), (0, 0), (0, 0), (0, 0)] [] (n, s) (fun r s1 => G 2 120 106 79 [(3, 2), (1, x1), (1, x2), (1, y0)] (r ++ []) s1 Q))) :
    G 2 120 106 20 [(3, 2), (1, x1), (1, x2), (0, 0)] [(1, y0)] (n, s) Q := by
  refine G_go rfl rfl ?_
  show G 2 120 106 21 [(3, 2), (1, x1), (1, x2), (1, y0)] [] (n, s) Q
  refine G_go rfl rfl ?_
  by_cases hs22_0 : x1 = 0
  · refine G_k hs22_0 rfl rfl ?_
    have h := h.1 hs22_0
    refine G_go rfl rfl ?_
    exact G_ret rfl rfl h
  replace h := h.2
  by_cases hs22_1 : x1 = 1
  · refine G_k hs22_1 rfl rfl ?_
    have h := h.1 hs22_1
    refine G_go rfl rfl ?_
    refine G_go rfl rfl ?_
    refine G_ne rfl rfl (fun c1 => ?_) (fun c1 => ?_)
    · have h := h.1 c1
      refine G_go rfl rfl ?_
      refine G_rf rfl rfl (by decide) (hR 2 0 3 rfl) ?_
      refine G_go rfl rfl ?_
      refine G_call rfl rfl ?_
      refine G_go rfl rfl ?_
      refine G_go rfl rfl ?_
      refine G_go rfl rfl ?_
      refine G_rf rfl rfl (by decide) (hR 3 2 6 rfl) ?_
      refine G_go rfl rfl ?_
      obtain ⟨g2, h⟩ := h
      refine G_ir (n := 6) rfl rfl (by decide) (by decide) g2 ?_
      refine G_call rfl rfl ?_
      obtain ⟨g3, h⟩ := h
      obtain ⟨g4, h⟩ := h
      obtain ⟨g5, h⟩ := h
      refine c_X5_lastsHolding_3 n _ _ y0 (s 6 y0.toNat) hR g2 g3 g4 g5 ?_
      refine G_ret rfl rfl ?_
      exact G_ret rfl rfl h
    · have h := h.2 c1
      refine G_go rfl rfl ?_
      refine G_go rfl rfl ?_
      exact G_ret rfl rfl h
  replace h := h.2
  by_cases hs22_2 : x1 = 2
  · refine G_k hs22_2 rfl rfl ?_
    have h := h.1 hs22_2
    refine G_go rfl rfl ?_
    exact G_call rfl rfl h
  replace h := h.2
  have hd22 : x1 < 0 ∨ 2 < x1 := by omega
  refine G_tsd rfl rfl hd22 ?_
  replace h := h hd22
  refine G_go rfl rfl ?_
  exact G_call rfl rfl h
theorem sb_X6_longest_74 (n : Nat) (s : Nat → Nat → Int) (Q : List Vl → Sto → Prop) (x1 : Int) (x2 : Int) (x3 : Int) (y0 : Int) (hR : refs s)
    (h : Q [(1, y0)] (n, s)) :
    G 2 120 106 74 [(3, 2), (1, x1), (1, x2), (1, x3)] [(1, y0)] (n, s) Q := by
  exact G_ret rfl rfl h
theorem sb_X6_longest_79 (n : Nat) (s : Nat → Nat → Int) (Q : List Vl → Sto → Prop) (x1 : Int) (x2 : Int) (x3 : Int) (y0 : Int) (hR : refs s)
    (h : Q [(1, y0)] (n, s)) :
    G 2 120 106 79 [(3, 2), (1, x1), (1, x2), (1, x3)] [(1, y0)] (n, s) Q := by
  exact G_ret rfl rfl h
theorem sb_X7_longest_0 (n : Nat) (s : Nat → Nat → Int) (Q : List Vl → Sto → Prop) (a0 : Int) (hR : refs s)
    (h : (a0 < 0 → Q [(1, (-2))] (n, upS (upS s 120 10 0) 129 2 (wr ((s 129 2) + 1)))) ∧ (a0 ≥ 0 → (a0 > 3 → Q [(1, (-2))] (n, upS (upS s 120 10 0) 129 2 (wr ((s 129 2) + 1)))) ∧ (a0 ≤ 3 → (a0 ≠ 2 → G 120 140 196 39 [(3, 120), (1, a0), (1, (-9)), (1, 0)] [] (n, upS s 120 10 0) Q) ∧ (a0 = 2 → G 120 140 172 0 [(3, 120), (0, 0), (0, 0)] [] (n, upS s 120 10 0) (fun r s1 => G 120 140 196 33 [(3, 120), (1, a0), (0, 0), (0, 0)] (r ++ []) s1 Q))))) :
    G 120 140 196 0 [(3, 120), (1, a0), (0, 0), (0, 0)] [] (n, s) Q := by
  refine G_go rfl rfl ?_
  refine G_go rfl rfl ?_
  refine G_wr rfl rfl (by decide) ?_
  have hR := refs_up (a := 120) (k := 10) (x := 0) hR rfl
  refine G_go rfl rfl ?_
  refine G_go rfl rfl ?_
  refine G_go rfl rfl ?_
  refine G_go rfl rfl ?_
  refine G_call rfl rfl ?_
  refine G_go rfl rfl ?_
  refine G_go rfl rfl ?_
  refine G_go rfl rfl ?_
  refine G_lt rfl rfl (fun c1 => ?_) (fun c1 => ?_)
  · have c1 := xl_lt c1
    have h := h.1 c1
    refine G_go rfl rfl ?_
    refine G_ret rfl rfl ?_
    refine G_brF rfl rfl rfl ?_
    refine G_go rfl rfl ?_
    refine G_go rfl rfl ?_
    refine G_call rfl rfl ?_
    refine G_go rfl rfl ?_
    refine G_rf rfl rfl (by decide) (hR 120 11 129 rfl) ?_
    refine G_go rfl rfl ?_
    refine G_go rfl rfl ?_
    refine G_go rfl rfl ?_
    refine G_ir (n := 7) rfl rfl (by decide) (by decide) (by decide) ?_
    refine G_go rfl rfl ?_
    refine G_go rfl rfl ?_
    refine G_iw (n := 7) rfl rfl (by decide) (by decide) (by decide) ?_
    have hR := refs_up (a := 129) (k := 2) (x := wr ((s 129 2) + 1)) hR rfl
    refine G_go rfl rfl ?_
    refine G_ret rfl rfl ?_
    exact G_ret rfl rfl h
  · have c1 := xl_ge c1
    have h := h.2 c1
    refine G_go rfl rfl ?_
    refine G_go rfl rfl ?_
    refine G_go rfl rfl ?_
    refine G_gt rfl rfl (fun c2 => ?_) (fun c2 => ?_)
    · have c2 := xl_gt c2
      have h := h.1 c2
      refine G_go rfl rfl ?_
      refine G_ret rfl rfl ?_
      refine G_brF rfl rfl rfl ?_
      refine G_go rfl rfl ?_
      refine G_go rfl rfl ?_
      refine G_call rfl rfl ?_
      refine G_go rfl rfl ?_
      refine G_rf rfl rfl (by decide) (hR 120 11 129 rfl) ?_
      refine G_go rfl rfl ?_
      refine G_go rfl rfl ?_
      refine G_go rfl rfl ?_
      refine G_ir (n := 7) rfl rfl (by decide) (by decide) (by decide) ?_
      refine G_go rfl rfl ?_
      refine G_go rfl rfl ?_
      refine G_iw (n := 7) rfl rfl (by decide) (by decide) (by decide) ?_
      have hR := refs_up (a := 129) (k := 2) (x := wr ((s 129 2) + 1)) hR rfl
      refine G_go rfl rfl ?_
      refine G_ret rfl rfl ?_
      exact G_ret rfl rfl h
    · have c2 := xl_le c2
      have h := h.2 c2
      refine G_go rfl rfl ?_
      refine G_go rfl rfl ?_
      refine G_ret rfl rfl ?_
      refine G_brT rfl rfl rfl ?_
      refine G_go rfl rfl ?_
      refine G_go rfl rfl ?_
      refine G_ne rfl rfl (fun c3 => ?_) (fun c3 => ?_)
      · have h := h.1 c3
        refine G_go rfl rfl ?_
        refine G_go rfl rfl ?_
        show G 120 140 196 37 [(3, 120), (1, a0), (1, (-9)), (0, 0)] [] (n, upS s 120 10 0) Q
        refine G_go rfl rfl ?_
        refine G_go rfl rfl ?_
        show G 120 140 196 39 [(3, 120), (1, a0), (1, (-9)), (1, 0)] [] (n, upS s 120 10 0) Q
        exact h
      · have h := h.2 c3
        refine G_go rfl rfl ?_
        exact G_call rfl rfl h
theorem sb_X7_longest_33 (n : Nat) (s : Nat → Nat → Int) (Q : List Vl → Sto → Prop) (x1 : Int) (y0 : Int) (hR : refs s)
    (h : Q [(1, y0)] (n, s)) :
    G 120 140 196 33 [(3, 120), (1, x1), (0, 0), (0, 0)] [(1, y0)] (n, s) Q := by
  exact G_ret rfl rfl h
theorem sb_X7_longest_39 (n : Nat) (s : Nat → Nat → Int) (Q : List Vl → Sto → Prop) (x1 : Int) (x2 : Int) (x3 : Int) (hR : refs s)
    (h : (s 120 0 ≤ x3 → G 120 140 195 0 [(3, 120), (0, 0), (0, 0)] [] (n, s) (fun r s1 => G 120 140 196 90 [(3, 120), (1, x1), (1, x2), (1, x3)] (r ++ []) s1 Q)) ∧ (x3 < s 120 0 → (0 ≤ x3 ∧ x3 < 6) ∧ ((s 126 x3.toNat ≠ 1 → G 120 140 196 39 [(3, 120), (1, x1), (1, x2), (1, wr (x3 + 1))] [] (n, s) Q) ∧ (s 126 x3.toNat = 1 → (x2 < 0 → G 120 140 196 39 [(3, 120), (1, x1), (1, x3), (1, wr (x3 + 1))] [] (n, s) Q) ∧ (0 ≤ x2 → (rgP (vw 121 s) x3.toNat) ∧ ((0 ≤ vw 121 s 2 x3.toNat ∧ vw 121 s 2 x3.toNat ≤ 2000) ∧ ((0 ≤ vw 121 s 4 x3.toNat ∧ vw 121 s 4 x3.toNat ≤ 99) ∧ ((0 ≤ x2 ∧ x2 < 6) ∧ ((rgP (vw 121 s) x2.toNat) ∧ ((0 ≤ vw 121 s 2 x2.toNat ∧ vw 121 s 2 x2.toNat ≤ 2000) ∧ ((0 ≤ vw 121 s 4 x2.toNat ∧ vw 121 s 4 x2.toNat ≤ 99) ∧ ((lsW (vw 121 s) x2.toNat ≤ lsW (vw 121 s) x3.toNat → G 120 140 196 39 [(3, 120), (1, x1), (1, x2), (1, wr (x3 + 1))] [] (n, s) Q) ∧ (lsW (vw 121 s) x3.toNat < lsW (vw 121 s) x2.toNat → G 120 140 196 39 [(3, 120), (1, x1), (1, x3), (1, wr (x3 + 1))] [] (n, s) Q))))))))))))) :
    G 120 140 196 39 [(3, 120), (1, x1), (1, x2), (1, x3)] [] (n, s) Q := by
  refine G_go rfl rfl ?_
  refine G_go rfl rfl ?_
  refine G_rd rfl rfl (by decide) ?_
  refine G_ge rfl rfl (fun c1 => ?_) (fun c1 => ?_)
  · have h := h.1 c1
    refine G_go rfl rfl ?_
    exact G_call rfl rfl h
  · have h := h.2 c1
    refine G_go rfl rfl ?_
    refine G_rf rfl rfl (by decide) (hR 120 6 126 rfl) ?_
    refine G_go rfl rfl ?_
    obtain ⟨g2, h⟩ := h
    refine G_ir (n := 6) rfl rfl (by decide) (by decide) g2 ?_
    refine G_go rfl rfl ?_
    refine G_ne rfl rfl (fun c3 => ?_) (fun c3 => ?_)
    · have h := h.1 c3
      refine G_go rfl rfl ?_
      refine G_go rfl rfl ?_
      show G 120 140 196 80 [(3, 120), (1, x1), (1, x2), (1, x3)] [] (n, s) Q
      refine G_go rfl rfl ?_
      refine G_go rfl rfl ?_
      exact h
    · have h := h.2 c3
      refine G_go rfl rfl ?_
      refine G_lt rfl rfl (fun c4 => ?_) (fun c4 => ?_)
      · have h := h.1 c4
        refine G_go rfl rfl ?_
        refine G_go rfl rfl ?_
        refine G_go rfl rfl ?_
        show G 120 140 196 80 [(3, 120), (1, x1), (1, x3), (1, x3)] [] (n, s) Q
        refine G_go rfl rfl ?_
        refine G_go rfl rfl ?_
        exact h
      · have h := h.2 c4
        refine G_go rfl rfl ?_
        refine G_go rfl rfl ?_
        refine G_call rfl rfl ?_
        obtain ⟨g5, h⟩ := h
        obtain ⟨g6, h⟩ := h
        obtain ⟨g7, h⟩ := h
        refine c_X7_lastsOf n _ _ x3 hR g2 g5 g6 g7 ?_
        refine G_go rfl rfl ?_
        refine G_go rfl rfl ?_
        refine G_call rfl rfl ?_
        obtain ⟨g8, h⟩ := h
        obtain ⟨g9, h⟩ := h
        obtain ⟨g10, h⟩ := h
        obtain ⟨g11, h⟩ := h
        refine c_X7_lastsOf n _ _ x2 hR g8 g9 g10 g11 ?_
        refine G_ge rfl rfl (fun c12 => ?_) (fun c12 => ?_)
        · have h := h.1 c12
          refine G_go rfl rfl ?_
          refine G_go rfl rfl ?_
          show G 120 140 196 80 [(3, 120), (1, x1), (1, x2), (1, x3)] [] (n, s) Q
          refine G_go rfl rfl ?_
          refine G_go rfl rfl ?_
          exact h
        · have h := h.2 c12
          refine G_go rfl rfl ?_
          refine G_go rfl rfl ?_
          refine G_go rfl rfl ?_
          show G 120 140 196 80 [(3, 120), (1, x1), (1, x3), (1, x3)] [] (n, s) Q
          refine G_go rfl rfl ?_
          refine G_go rfl rfl ?_
          exact h
theorem sb_X7_longest_90 (n : Nat) (s : Nat → Nat → Int) (Q : List Vl → Sto → Prop) (x1 : Int) (x2 : Int) (x3 : Int) (y0 : Int) (hR : refs s)
    (h : (x1 ≠ 3 → (x1 = 0 → Q [(1, y0)] (n, s)) ∧ (x1 ≠ 0 → (0 ≤ y0 → (0 ≤ y0 ∧ y0 < 6) ∧ ((rgP (vw 121 s) y0.toNat) ∧ ((0 ≤ vw 121 s 2 y0.toNat ∧ vw 121 s 2 y0.toNat ≤ 2000) ∧ ((0 ≤ vw 121 s 4 y0.toNat ∧ vw 121 s 4 y0.toNat ≤ 99) ∧ (Q [(1, lsW (vw 121 s) y0.toNat)] (n, s)))))) ∧ (y0 < 0 → Q [(1, y0)] (n, s)))) ∧ (x1 = 3 → Q [(1, x2)] (n, s))) :
    G 120 140 196 90 [(3, 120), (1, x1), (1, x2), (1, x3)] [(1, y0)] (n, s) Q := by
  refine G_go rfl rfl ?_
  show G 120 140 196 91 [(3, 120), (1, x1), (1, x2), (1, y0)] [] (n, s) Q
  refine G_go rfl rfl ?_
  refine G_go rfl rfl ?_
  refine G_ne rfl rfl (fun c1 => ?_) (fun c1 => ?_)
  · have h := h.1 c1
    refine G_go rfl rfl ?_
    refine G_eq rfl rfl (fun c2 => ?_) (fun c2 => ?_)
    · have h := h.1 c2
      refine G_go rfl rfl ?_
      refine G_go rfl rfl ?_
      exact G_ret rfl rfl h
    · have h := h.2 c2
      refine G_go rfl rfl ?_
      refine G_ge rfl rfl (fun c3 => ?_) (fun c3 => ?_)
      · have h := h.1 c3
        refine G_go rfl rfl ?_
        refine G_go rfl rfl ?_
        refine G_call rfl rfl ?_
        obtain ⟨g4, h⟩ := h
        obtain ⟨g5, h⟩ := h
        obtain ⟨g6, h⟩ := h
        obtain ⟨g7, h⟩ := h
        refine c_X7_lastsOf n _ _ y0 hR g4 g5 g6 g7 ?_
        exact G_ret rfl rfl h
      · have h := h.2 c3
        refine G_go rfl rfl ?_
        refine G_go rfl rfl ?_
        exact G_ret rfl rfl h
  · have h := h.2 c1
    refine G_go rfl rfl ?_
    refine G_go rfl rfl ?_
    exact G_ret rfl rfl h
/-! GAP: a candle of 99 reads no less. -/
theorem dk_cong {k : Nat} {V U : Nat → Nat → Int} (h2 : U 2 = V 2) (h7 : U 7 = V 7) : dkF k U 2 = dkF k V 2 ∧ dkF k U 7 = dkF k V 7 := by
  refine ⟨?_, by funext q; rw [dk_o (by decide) (by decide), dk_o (by decide) (by decide), h7]⟩
  unfold dkF
  rw [h7]
  split
  · funext q
    simp only [upS, h2]
  · exact h2
theorem dkV_cong {V U : Nat → Nat → Int} (h2 : U 2 = V 2) (h7 : U 7 = V 7) : ∀ k, dkV k U 2 = dkV k V 2 ∧ dkV k U 7 = dkV k V 7
  | 0 => ⟨h2, h7⟩
  | k + 1 => dk_cong (dkV_cong h2 h7 k).1 (dkV_cong h2 h7 k).2
def moP (A B : Nat → Nat → Int) (p : Nat) : Prop := (B 0 p = A 0 p ∧ B 1 p = A 1 p ∧ B 2 p = A 2 p ∧ B 3 p = A 3 p) ∧ A 4 p ≤ B 4 p ∧ (A 5 p = 1 → B 5 p = 1) ∧ (A 5 p ≠ 1 → A 4 p = 0) ∧ A 6 p ≤ B 6 p ∧ (0 ≤ A 4 p ∧ 0 ≤ B 4 p) ∧ A 6 p ≤ 999
theorem mo_hr {A B : Nat → Nat → Int} {p : Nat} (h : moP A B p) (hb : 1 ≤ bnW A p) : moP (hrV A) (hrV B) p := by
  obtain ⟨⟨e0, e1, e2, e3⟩, h4, h5, h5', h6, h4', h6'⟩ := h
  have eb : bnW B p = bnW A p := by
    show bnV B p (B 2 p) = bnV A p (A 2 p)
    rw [e2]
    exact congrFun (bnV_eq e0 e1 e3) _
  by_cases c : A 5 p = 1
  · obtain ⟨v0, v1, v2, v3, v4, v5, v6, v7⟩ := hr_on c
    obtain ⟨w0, w1, w2, w3, w4, w5, w6, w7⟩ := hr_on (h5 c)
    unfold moP
    rw [v0, v1, v2, v3, v4, v5, v6, w0, w1, w2, w3, w4, w5, w6, eb]
    refine ⟨⟨e0, e1, e2, e3⟩, by omega, ?_, ?_, by omega, by omega, by omega⟩
    · split
      · omega
      · intro _
        rw [if_neg (by omega)]
    · split
      · intro _
        omega
      · intro e
        exact absurd rfl e
  · have h40 := h5' c
    by_cases d : B 5 p = 1
    · obtain ⟨w0, w1, w2, w3, w4, w5, w6, w7⟩ := hr_on d
      unfold moP
      rw [hr_off c, hr_off c, hr_off c, hr_off c, hr_off c, hr_off c, hr_off c, w0, w1, w2, w3, w4, w6]
      exact ⟨⟨e0, e1, e2, e3⟩, by omega, fun e => absurd e c, h5', by omega, by omega, h6'⟩
    · unfold moP
      rw [hr_off c, hr_off c, hr_off c, hr_off c, hr_off c, hr_off c, hr_off c, hr_off d, hr_off d, hr_off d, hr_off d, hr_off d, hr_off d, hr_off d]
      exact ⟨⟨e0, e1, e2, e3⟩, h4, h5, h5', h6, h4', h6'⟩
theorem mo_hrN {A B : Nat → Nat → Int} {np h : Int} {p : Nat} (o : okT np A) (hp : (p : Int) < np) (h0 : moP A B p) : ∀ N, moP (hrN N h A).2 (hrN N h B).2 p
  | 0 => h0
  | N + 1 => mo_hr (mo_hrN o hp h0 N) (ok_bn (okT_hrN o N).2 hp).1
theorem nt_6 {m N : Nat} {h : Int} {V : Nat → Nat → Int} {p : Nat} : ntV m N h V 6 p = (hrN N h (ltV m (dkV m V))).2 6 p := by
  unfold ntV
  rw [ofV_o (by decide), dwV_o (by decide)]
theorem nt_mono {m p N : Nat} {h : Int} {V : Nat → Nat → Int} (o : okT (m : Int) V) (hp : (p : Int) < m) : ntV m N h V 6 p ≤ ntV m N h (upS V 4 p 99) 6 p := by
  rw [nt_6, nt_6]
  have ov := o.2 p hp
  have om := (okV_dkV o.2 m (Int.le_refl _)) p hp
  obtain ⟨c2, c7⟩ := dkV_cong (V := V) (U := upS V 4 p 99) (upS_row (by decide)) (upS_row (by decide)) m
  have g : ∀ j q, j ≠ 2 → j ≠ 8 → dkV m V j q = V j q := fun j q a b => dkV_o a b
  have g' : ∀ j q, j ≠ 2 → j ≠ 8 → dkV m (upS V 4 p 99) j q = upS V 4 p 99 j q := fun j q a b => dkV_o a b
  refine (mo_hrN (okT_mid (N := 0) (h := h) o) hp ?_ N).2.2.2.2.1
  show moP (ltV m (dkV m V)) (ltV m (dkV m (upS V 4 p 99))) p
  have l5 : ∀ W : Nat → Nat → Int, ltV m W 5 p = if 0 < W 4 p then 1 else 0 := fun W => if_pos ⟨rfl, by omega⟩
  unfold moP
  rw [l5, l5, ltV_o (j := 0) (by decide), ltV_o (j := 1) (by decide), ltV_o (j := 2) (by decide), ltV_o (j := 3) (by decide), ltV_o (j := 4) (by decide), ltV_o (j := 6) (by decide), ltV_o (j := 0) (by decide), ltV_o (j := 1) (by decide), ltV_o (j := 2) (by decide), ltV_o (j := 3) (by decide), ltV_o (j := 4) (by decide), ltV_o (j := 6) (by decide), c2]
  rw [g 0 p (by decide) (by decide), g 1 p (by decide) (by decide), g 3 p (by decide) (by decide), g 4 p (by decide) (by decide), g 6 p (by decide) (by decide), g' 0 p (by decide) (by decide), g' 1 p (by decide) (by decide), g' 3 p (by decide) (by decide), g' 4 p (by decide) (by decide), g' 6 p (by decide) (by decide)]
  rw [upS_eq, upS_1 (show 0 ≠ 4 by decide), upS_1 (show 1 ≠ 4 by decide), upS_1 (show 3 ≠ 4 by decide), upS_1 (show 6 ≠ 4 by decide)]
  obtain ⟨v0, v1, v2, v3, v4, v5, v6, v7⟩ := ov
  refine ⟨⟨rfl, rfl, rfl, rfl⟩, by omega, fun _ => rfl, ?_, by omega, by omega, by omega⟩
  split
  · intro e
    exact absurd rfl e
  · intro _
    omega
def gpW (m N : Nat) (h : Int) (V : Nat → Nat → Int) (p : Nat) : Int := ntV m N h (upS V 4 p 99) 6 p - ntV m N h V 6 p
theorem gp_rg {m p N : Nat} {h : Int} {V : Nat → Nat → Int} (o : okT (m : Int) V) (hp : (p : Int) < m) : 0 ≤ gpW m N h V p ∧ gpW m N h V p ≤ 999 ∧ (0 ≤ ntV m N h V 6 p ∧ ntV m N h V 6 p ≤ 999) ∧ (0 ≤ ntV m N h (upS V 4 p 99) 6 p ∧ ntV m N h (upS V 4 p 99) 6 p ≤ 999) := by
  have h1 := nt_mono (N := N) (h := h) o hp
  have h2 := ((okT_nt (N := N) (h := h) o).2 p hp).2.2.2.2.2.2.1
  have h3 := ((okT_nt (N := N) (h := h) (V := upS V 4 p 99) ⟨o.1, okV_set o.2 (by omega)⟩).2 p hp).2.2.2.2.2.2.1
  unfold gpW
  omega
theorem c_pagesByCandle (n : Nat) (s t : Nat → Nat → Int) (h : REL s t) (m p N : Nat) (hm : t 120 0 = (m : Int)) (hp : (p : Int) < m) (hN : N ≤ 99) (c : Int) (gc : 0 ≤ c ∧ c ≤ 99) (Q : List Vl → Sto → Prop) (hQ : ∀ s1, refs s1 → frT 13 s s1 → Q [(1, wr (ntV m N (t 120 9) (upS (vw 121 t) 4 p c) 6 p - vw 121 t 6 p))] (n, s1)) : G 2 120 83 0 [(3, 2), (1, (p : Int)), (1, c), (1, (N : Int))] [] (n, s) Q := by
  obtain ⟨hn1, hn2, hn3, hn4⟩ := h.np
  refine sb_X6_pagesByCandle_0 n s Q p c N h.1 ?_
  refine c_mind n s t h _ (fun s1 r1 f1 u1 => ?_)
  refine sb_X6_pagesByCandle_11 n s1 Q p c N r1 ⟨by omega, ?_⟩
  rw [Int.toNat_natCast]
  have o := h.o
  rw [hm] at u1 o
  refine c_passNight_13 n _ _ m _ _ N hN (refs_up r1 rfl) ⟨o.1, okV_set o.2 (by omega)⟩ (twC_set (j := 4) u1 (by decide)) (fun s2 r2 f2 u2 => ?_)
  refine sb_X6_pagesByCandle_29 n s2 Q p c N r2 ⟨by omega, ?_⟩
  have f := frT_trans f1 (frT_trans (fun b hb => upS_row (by omega)) f2)
  have q := hQ s2 r2 f
  have e6 : s2 20 p = _ := (u2.2.2 p hp).2.2.2.2.2.2.1
  rw [Int.toNat_natCast, e6, f 10 (by omega), (h.s p (by omega)).2.2.2.2.2.2.1]
  exact q
def mxR (W : Nat → Int) (b : Int) : Int := if b < 0 then -1000 else W b.toNat
theorem mxR_nat (W : Nat → Int) (k : Nat) : mxR W (k : Int) = W k := by
  unfold mxR
  rw [if_neg (by omega), Int.toNat_natCast]
theorem amR_no {W : Nat → Int} {k : Nat} {b : Int} (h0 : 0 ≤ W k) (c : W k ≤ mxR W b) : amF W k b = b := by
  unfold mxR at c
  unfold amF
  split at c
  · omega
  · rename_i g
    rw [if_neg g, if_neg (by omega)]
theorem amR_yes {W : Nat → Int} {k : Nat} {b : Int} (c : mxR W b < W k) : amF W k b = k := by
  unfold mxR at c
  unfold amF
  split at c
  · rename_i g
    rw [if_pos g]
  · rename_i g
    rw [if_neg g, if_pos c]
theorem cl_gap (n : Nat) (s t : Nat → Nat → Int) (h : REL s t) (m N : Nat) (hm : t 120 0 = (m : Int)) (hN : N ≤ 99) (x2 : Int) (Q : List Vl → Sto → Prop) (hQ : ∀ s1, refs s1 → frT 13 s s1 → Q [(1, itr (amF (gpW m N (t 120 9) (vw 121 t))) (-9) m)] (n, s1)) : G 2 120 84 27 [(3, 2), (1, (N : Int)), (1, x2), (1, (-9)), (1, (-1)), (1, 0), (0, 0)] [] (n, s) Q := by
  obtain ⟨hn1, hn2, hn3, hn4⟩ := h.np
  have o := h.o
  rw [hm] at o
  refine G_up m (fun k b => ∀ w s2, refs s2 → frT 13 s s2 → G 2 120 84 27 [(3, 2), (1, (N : Int)), (1, x2), (1, b), (1, mx (gpW m N (t 120 9) (vw 121 t)) b), (1, (k : Int)), w] [] (n, s2) Q) (amF (gpW m N (t 120 9) (vw 121 t))) (fun _ _ => True) (-9) trivial (fun _ _ _ _ => trivial) (fun k b hk _ hg w s2 r2 f2 => ?_) (fun _ w s2 r2 f2 => ?_) (0, 0) s h.1 frT_rfl
  · rw [← wr_s hk (by omega)] at hg
    have hk2 : (k : Int) < m := by omega
    have e3 : s2 3 9 = m := by rw [f2 3 (by omega), hn1, hm]
    obtain ⟨g1, g2, g3, g4⟩ := gp_rg (N := N) (h := t 120 9) o hk2
    have g5 := (o.2 k hk2).2.2.2.2.2.2.1
    refine sb_X6_gap_27 n s2 Q _ _ _ _ k w r2 ⟨fun e => by omega, fun _ => ?_⟩
    refine c_pagesByCandle n s2 t (REL_m1 h r2 f2) m k N hm hk2 hN 99 (by decide) _ (fun s3 r3 f3 => ?_)
    refine sb_X6_gap_48 n s3 Q _ _ _ _ k _ w r3 ⟨by omega, ?_⟩
    have e8 : s3 8 k = vw 121 t 4 k := by
      rw [frT_trans f2 f3 8 (by omega)]
      exact (h.s k (by omega)).2.2.2.2.1
    rw [Int.toNat_natCast, e8]
    refine c_pagesByCandle n s3 t (REL_m1 h r3 (frT_trans f2 f3)) m k N hm hk2 hN _ (o.2 k hk2).2.2.2.2.1 _ (fun s4 r4 f4 => ?_)
    rw [upS_self]
    refine sb_X6_gap_65 n s4 Q _ _ _ _ k _ _ w r4 ?_
    rw [wr_id (x := ntV m N (t 120 9) (upS (vw 121 t) 4 k 99) 6 k - vw 121 t 6 k) (by omega) (by omega), wr_id (x := ntV m N (t 120 9) (vw 121 t) 6 k - vw 121 t 6 k) (by omega) (by omega), show ntV m N (t 120 9) (upS (vw 121 t) 4 k 99) 6 k - vw 121 t 6 k - (ntV m N (t 120 9) (vw 121 t) 6 k - vw 121 t 6 k) = gpW m N (t 120 9) (vw 121 t) k by unfold gpW; omega, wr_id (x := gpW m N (t 120 9) (vw 121 t) k) (by omega) (by omega)]
    refine ⟨fun d => ?_, fun d => ?_⟩
    · rw [amF_no g1 d] at hg
      exact hg _ s4 r4 (frT_trans f2 (frT_trans f3 f4))
    · rw [amF_yes d, mx_nat] at hg
      exact hg _ s4 r4 (frT_trans f2 (frT_trans f3 f4))
  · have e3 : s2 3 9 = m := by rw [f2 3 (by omega), hn1, hm]
    exact sb_X6_gap_27 n s2 Q _ _ _ _ m w r2 ⟨fun _ => hQ s2 r2 f2, fun e => by omega⟩
theorem rl_gap (n : Nat) (s t : Nat → Nat → Int) (h : REL s t) (m N : Nat) (hm : t 120 0 = (m : Int)) (hN : N ≤ 99) (Q : List Vl → Sto → Prop) (hQ : ∀ t1, refs t1 → frX 135 t t1 → twR t1 (t 120 0) (t 120 9) (vw 121 t) → Q [(1, itr (amF (gpW m N (t 120 9) (vw 121 t))) (-9) m)] (n, t1)) : G 120 140 143 0 [(3, 120)] [] (n, t) (fun r s1 => G 120 140 179 38 [(3, 120), (1, (N : Int)), (1, (-9)), (1, (-1000)), (0, 0), (0, 0), (0, 0)] (r ++ []) s1 Q) := by
  obtain ⟨hn1, hn2, hn3, hn4⟩ := h.np
  have o := h.o
  have w0 := h.w
  rw [hm] at o w0 hQ
  refine c_think n t _ _ _ _ h.2.1 o.1.2 w0 (fun t1 r1 f1 u1 k1 => ?_)
  refine sb_X7_gap_38 n t1 Q _ _ _ r1 ?_
  refine G_up m (fun k b => ∀ w w6 t2, refs t2 → (frX 135 t t2 ∧ twR t2 m (t 120 9) (vw 121 t) ∧ twK 135 0 t2 m (t 120 9) (vw 121 t)) → G 120 140 179 41 [(3, 120), (1, (N : Int)), (1, b), (1, mxR (gpW m N (t 120 9) (vw 121 t)) b), (1, (k : Int)), w, w6] [] (n, t2) Q) (amF (gpW m N (t 120 9) (vw 121 t))) (fun _ _ => True) (-9) trivial (fun _ _ _ _ => trivial) (fun k b hk _ hg w w6 t2 r2 f2 => ?_) (fun _ w w6 t2 r2 f2 => ?_) (0, 0) (0, 0) t1 r1 ⟨f1, u1, k1⟩
  · rw [← wr_s hk (by omega)] at hg
    obtain ⟨f2, u2, k2⟩ := f2
    have e3 : t2 120 0 = m := u2.1
    have hk2 : (k : Int) < m := by omega
    obtain ⟨g1, g2, g3, g4⟩ := gp_rg (N := N) (h := t 120 9) o hk2
    refine sb_X7_gap_41 n t2 Q _ _ _ k w w6 r2 ⟨fun e => by omega, fun _ => ?_⟩
    refine c_goNight n t2 _ m _ _ N hN r2 o u2 (fun t3 r3 f3 u3 => ?_)
    have k3 := twK_fr k2 (f3.1 135 (by decide) (by decide) (by decide))
    refine sb_X7_gap_55 n t3 Q _ _ _ k w w6 r3 ⟨by omega, ?_⟩
    have e6 : t3 127 k = _ := u3.2.2 6 (by decide) k hk2
    rw [Int.toNat_natCast, e6]
    refine c_again n t3 _ _ _ _ r3 o.1.2 k3 (fun t4 r4 f4 u4 => ?_)
    have k4 := twK_fr k3 (f4.1 135 (by decide) (by decide) (by decide))
    refine sb_X7_gap_68 n t4 Q _ _ _ k _ w6 r4 ⟨by omega, ?_⟩
    rw [Int.toNat_natCast]
    refine c_goNight n _ _ m _ _ N hN (refs_up r4 rfl) ⟨o.1, okV_set o.2 (by omega)⟩ (twR_set (j := 4) u4) (fun t5 r5 f5 u5 => ?_)
    have k5 := twK_fr k4 (t1 := t5) (by rw [f5.1 135 (by decide) (by decide) (by decide)]; exact upS_row (by decide))
    refine sb_X7_gap_82 n t5 Q _ _ _ k _ w6 r5 ⟨by omega, ?_⟩
    have e6' : t5 127 k = _ := u5.2.2 6 (by decide) k hk2
    rw [Int.toNat_natCast, e6', wr_id (x := ntV m N (t 120 9) (upS (vw 121 t) 4 k 99) 6 k - ntV m N (t 120 9) (vw 121 t) 6 k) (by omega) (by omega)]
    refine c_again n t5 _ _ _ _ r5 o.1.2 k5 (fun t6 r6 f6 u6 => ?_)
    have k6 := twK_fr k5 (f6.1 135 (by decide) (by decide) (by decide))
    have f : frX 135 t t6 := frX_trans f2 (frX_trans (frX_w f3) (frX_trans (frX_w f4) (frX_trans (frX_up (a := 125) (p := k) (x := 99) (by decide) (by decide)) (frX_trans (frX_w f5) (frX_w f6)))))
    refine sb_X7_gap_98 n t6 Q _ _ _ k _ _ r6 ⟨fun d => ?_, fun d => ?_⟩
    · have d : gpW m N (t 120 9) (vw 121 t) k ≤ mxR (gpW m N (t 120 9) (vw 121 t)) b := d
      rw [amR_no g1 d] at hg
      exact hg _ _ t6 r6 ⟨f, u6, k6⟩
    · have d : mxR (gpW m N (t 120 9) (vw 121 t)) b < gpW m N (t 120 9) (vw 121 t) k := d
      rw [amR_yes d, mxR_nat] at hg
      exact hg _ _ t6 r6 ⟨f, u6, k6⟩
  · have e3 : t2 120 0 = m := f2.2.1.1
    exact sb_X7_gap_41 n t2 Q _ _ _ m w w6 r2 ⟨fun _ => hQ t2 r2 f2.1 f2.2.1, fun e => by omega⟩

theorem op_gap (n : Nat) (s t : Nat → Nat → Int) (h : REL s t) (a0 : Int) : G 2 120 84 0 [(3, 2), (1, a0), (0, 0), (0, 0), (0, 0), (0, 0), (0, 0)] [] (n, s) (fun r s1 => G 120 140 179 0 [(3, 120), (1, a0), (0, 0), (0, 0), (0, 0), (0, 0), (0, 0)] [] (n, t) (Post n r s1)) := by
  obtain ⟨hn1, hn2, hn3, hn4⟩ := h.np
  have hw : wr (t 120 0 - 1) = t 120 0 - 1 := wr_id (by omega) (by omega)
  have h1 : ∀ z : Int, 0 ≤ z → z < t 120 0 → ∃ p : Nat, z = p ∧ (p : Int) < t 120 0 := fun z h1 h2 => ⟨z.toNat, by omega, by omega⟩
  have h2 : ∀ z : Int, 0 ≤ z → z ≤ 99 → ∃ p : Nat, z = p ∧ p ≤ 99 := fun z h1 h2 => ⟨z.toNat, by omega, by omega⟩
  obtain ⟨m, hm⟩ : ∃ m : Nat, t 120 0 = (m : Int) := ⟨(t 120 0).toNat, by omega⟩
  refine sb_X6_gap_0 n s _ a0 h.1 ?_
  repeat' first | with_reducible refine And.intro ?_ ?_ | intro _
  all_goals first | omega | skip
  all_goals try (obtain ⟨N, rfl, hN⟩ := h2 a0 (by omega) (by omega); refine cl_gap n s _ h.up m N hm hN _ _ (fun s1 r1 f1 => ?_))
  all_goals refine sb_X7_gap_0 n t _ _ h.2.1 ?_
  all_goals repeat' first | with_reducible refine And.intro ?_ ?_ | intro _
  all_goals first | omega | exact post_ref h _ (by decide) | exact hn3.1 | exact hn3.2 | skip
  exact rl_gap n s _ h.up m N hm hN _ (fun t1 r2 f2 w => post_mind h.up r1 f1 r2 f2 w)
/-! DARK, GUTTERS. -/
def dkC (np h : Int) (V : Nat → Nat → Int) (k : Nat) : Int := itr (smF ((hrN k h V).2 5)) 0 np.toNat
def dkS (np h : Int) (V : Nat → Nat → Int) (k : Nat) (b : Int) : Int := if b < 0 then (if dkC np h V k = 0 then (k : Int) else -9) else b
theorem dkS_stay {np h : Int} {V : Nat → Nat → Int} {b : Int} (hb : 0 ≤ b) {k : Nat} (e : itr (dkS np h V) (-9) k = b) : ∀ d, itr (dkS np h V) (-9) (k + d) = b
  | 0 => e
  | d + 1 => by
    show dkS np h V (k + d) (itr (dkS np h V) (-9) (k + d)) = b
    rw [dkS_stay hb e d]
    exact if_neg (by omega)
theorem cl_dark (n : Nat) (s t : Nat → Nat → Int) (h : REL s t) (Q : List Vl → Sto → Prop) (hQ : ∀ s1, refs s1 → frT 13 s s1 → Q [(1, itr (dkS (t 120 0) (t 120 9) (vw 121 t)) (-9) 100)] (n, s1)) : G 2 120 94 0 [(3, 2), (0, 0)] [] (n, s) Q := by
  obtain ⟨hn1, hn2, hn3, hn4⟩ := h.np
  refine sb_X6_hoursTillDark_0 n s Q h.1 ?_
  refine c_mind n s t h _ (fun s1 r1 f1 u1 => ?_)
  refine sb_X6_hoursTillDark_11 n s1 Q r1 ?_
  have loop : ∀ d k : Nat, k + d = 100 → itr (dkS (t 120 0) (t 120 9) (vw 121 t)) (-9) k = -9 → ∀ s2, refs s2 → frT 13 s s2 → twC 13 s2 (t 120 0) (hrN k (t 120 9) (vw 121 t)).1 (hrN k (t 120 9) (vw 121 t)).2 → G 2 120 94 13 [(3, 2), (1, (k : Int))] [] (n, s2) Q := by
    intro d
    induction d with
    | zero =>
      intro k hk e s2 r2 f2 u2
      have hk : k = 100 := by omega
      subst hk
      refine sb_X6_hoursTillDark_13 n s2 Q _ r2 ⟨fun _ => ?_, fun e => absurd e (by decide)⟩
      have q := hQ s2 r2 f2
      rw [e] at q
      exact q
    | succ d ih =>
      intro k hk e s2 r2 f2 u2
      have ih := ih (k + 1) (by omega)
      rw [← wr_s (show k < 100 by omega) (by omega)] at ih
      have es : itr (dkS (t 120 0) (t 120 9) (vw 121 t)) (-9) (k + 1) = if dkC (t 120 0) (t 120 9) (vw 121 t) k = 0 then (k : Int) else -9 := by
        show dkS (t 120 0) (t 120 9) (vw 121 t) k (itr (dkS (t 120 0) (t 120 9) (vw 121 t)) (-9) k) = _
        rw [e]
        exact if_pos (by decide)
      unfold dkC at es
      have o := okT_hrN (h := t 120 9) h.o k
      have e9 : s2 13 9 = t 120 0 := u2.1
      have e5 : ∀ p : Nat, (p : Int) < t 120 0 → s2 19 p = (hrN k (t 120 9) (vw 121 t)).2 5 p := fun p hp => (u2.2.2 p hp).2.2.2.2.2.1
      refine sb_X6_hoursTillDark_13 n s2 Q _ r2 ⟨fun e => absurd e (by omega), fun _ => ?_⟩
      refine c_howManyLit_13 n s2 _ r2 (by rw [e9]; exact hn3) (fun p hp => ?_) ?_
      · rw [e9] at hp
        rw [e5 p hp]
        exact (o.2 p hp).2.2.2.2.2.1
      · rw [e9, itr_row e5]
        refine sb_X6_hoursTillDark_26 n s2 Q k _ r2 ⟨fun c => ?_, fun c => ?_⟩
        · rw [if_neg c] at es
          refine c_passHour_13 n s2 _ _ _ _ r2 o u2 (fun s3 r3 f3 u3 => ?_)
          exact sb_X6_hoursTillDark_38 n s3 Q k r3 (ih es s3 r3 (frT_trans f2 (frH_t f3)) u3)
        · rw [if_pos c] at es
          have := dkS_stay (by omega) es d
          have q := hQ s2 r2 f2
          rw [show k + 1 + d = 100 by omega] at this
          rw [this] at q
          exact q
  exact loop 100 0 rfl rfl s1 r1 f1 u1
theorem rl_dark (n : Nat) (s t : Nat → Nat → Int) (h : REL s t) (Q : List Vl → Sto → Prop) (hQ : ∀ t1, refs t1 → frX 135 t t1 → twR t1 (t 120 0) (t 120 9) (vw 121 t) → Q [(1, itr (dkS (t 120 0) (t 120 9) (vw 121 t)) (-9) 100)] (n, t1)) : G 120 140 172 0 [(3, 120), (0, 0), (0, 0)] [] (n, t) Q := by
  obtain ⟨hn1, hn2, hn3, hn4⟩ := h.np
  refine sb_X7_darkIn_0 n t Q h.2.1 ?_
  refine c_think n t _ _ _ _ h.2.1 hn3.2 h.w (fun t1 r1 f1 u1 k1 => ?_)
  refine sb_X7_darkIn_7 n t1 Q (-9) r1 ?_
  have fin : ∀ (x x2 : Int) t2, refs t2 → frX 135 t t2 → twK 135 0 t2 (t 120 0) (t 120 9) (vw 121 t) → x = itr (dkS (t 120 0) (t 120 9) (vw 121 t)) (-9) 100 → G 120 140 140 0 [(3, 120)] [] (n, t2) (fun r s1 => G 120 140 172 47 [(3, 120), (1, x), (1, x2)] (r ++ []) s1 Q) := fun x x2 t2 r2 f2 k2 e => c_again n t2 _ _ _ _ r2 hn3.2 k2 (fun t3 r3 f3 u3 => sb_X7_darkIn_47 n t3 Q x x2 r3 (e ▸ hQ t3 r3 (frX_trans f2 (frX_w f3)) u3))
  have loop : ∀ d k : Nat, k + d = 100 → itr (dkS (t 120 0) (t 120 9) (vw 121 t)) (-9) k = -9 → ∀ t2, refs t2 → frX 135 t t2 → twK 135 0 t2 (t 120 0) (t 120 9) (vw 121 t) → twR t2 (t 120 0) (hrN k (t 120 9) (vw 121 t)).1 (hrN k (t 120 9) (vw 121 t)).2 → G 120 140 172 9 [(3, 120), (1, (-9)), (1, (k : Int))] [] (n, t2) Q := by
    intro d
    induction d with
    | zero =>
      intro k hk e t2 r2 f2 k2 u2
      have hk : k = 100 := by omega
      subst hk
      exact sb_X7_darkIn_9 n t2 Q _ _ r2 ⟨fun _ => fin _ _ t2 r2 f2 k2 e.symm, fun e => absurd e (by decide)⟩
    | succ d ih =>
      intro k hk e t2 r2 f2 k2 u2
      have ih := ih (k + 1) (by omega)
      rw [← wr_s (show k < 100 by omega) (by omega)] at ih
      have es : itr (dkS (t 120 0) (t 120 9) (vw 121 t)) (-9) (k + 1) = if dkC (t 120 0) (t 120 9) (vw 121 t) k = 0 then (k : Int) else -9 := by
        show dkS (t 120 0) (t 120 9) (vw 121 t) k (itr (dkS (t 120 0) (t 120 9) (vw 121 t)) (-9) k) = _
        rw [e]
        exact if_pos (by decide)
      unfold dkC at es
      have o := okT_hrN (h := t 120 9) h.o k
      have e9 : t2 120 0 = t 120 0 := u2.1
      have e5 : ∀ p : Nat, (p : Int) < t 120 0 → t2 126 p = (hrN k (t 120 9) (vw 121 t)).2 5 p := fun p hp => u2.2.2 5 (by decide) p hp
      refine sb_X7_darkIn_9 n t2 Q _ _ r2 ⟨fun e => absurd e (by omega), fun _ => ⟨fun e => absurd e (by decide), fun _ => ?_⟩⟩
      refine c_litMany n t2 _ r2 (by rw [e9]; exact hn3) ?_
      rw [e9, itr_row e5]
      refine sb_X7_darkIn_23 n t2 Q _ k _ r2 ⟨fun c => ?_, fun c => ?_⟩
      · rw [if_neg c] at es
        refine c_hourOn n t2 _ _ _ _ r2 o u2 (fun t3 r3 f3 u3 => ?_)
        exact sb_X7_darkIn_37 n t3 Q _ k r3 (ih es t3 r3 (frX_trans f2 (frY_x f3)) (twK_fr k2 (f3.1 135 (by decide))) u3)
      · rw [if_pos c] at es
        have st := dkS_stay (by omega) es d
        rw [show k + 1 + d = 100 by omega] at st
        refine c_hourOn n t2 _ _ _ _ r2 o u2 (fun t3 r3 f3 u3 => ?_)
        refine sb_X7_darkIn_37 n t3 Q _ k r3 ?_
        have f := frX_trans f2 (frY_x (X := 135) f3)
        have k3 := twK_fr k2 (f3.1 135 (by decide))
        exact sb_X7_darkIn_9 n t3 Q _ _ r3 ⟨fun _ => fin _ _ t3 r3 f k3 st.symm, fun _ => ⟨fun _ => fin _ _ t3 r3 f k3 st.symm, fun e => absurd e (by omega)⟩⟩
  exact loop 100 0 rfl rfl t1 r1 f1 k1 u1
def agF (L W : Nat → Int) (k : Nat) (b : Int) : Int := if L k = 1 then (if b < 0 then (k : Int) else if W k < W b.toNat then (k : Int) else b) else b
def agI (k : Nat) (b : Int) : Prop := b = -9 ∨ (0 ≤ b ∧ b < k)
theorem agF_in {L W : Nat → Int} {k : Nat} {b : Int} (h : agI k b) : agI (k + 1) (agF L W k b) := by
  unfold agF
  unfold agI at *
  repeat' split
  all_goals omega
def mn (W : Nat → Int) (b : Int) : Int := if b < 0 then 100 else W b.toNat
theorem cl_gutters (n : Nat) (s t : Nat → Nat → Int) (h : REL s t) (Q : List Vl → Sto → Prop) (hQ : Q [(1, itr (agF (t 126) (lsW (vw 121 t))) (-9) (t 120 0).toNat)] (n, s)) : G 2 120 105 0 [(3, 2), (0, 0), (0, 0), (0, 0)] [] (n, s) Q := by
  obtain ⟨hn1, hn2, hn3, hn4⟩ := h.np
  refine sb_X6_whoGutters_0 n s Q h.1 ?_
  refine G_up (t 120 0).toNat (fun k b => G 2 120 105 8 [(3, 2), (1, b), (1, mn (lsW (vw 121 t)) b), (1, (k : Int))] [] (n, s) Q) (agF (t 126) (lsW (vw 121 t))) (fun _ _ => True) (-9) trivial (fun _ _ _ _ => trivial) (fun k b hk _ hg => ?_) (fun _ => ?_)
  · have hp : (k : Int) < t 120 0 := by omega
    obtain ⟨g1, g2, g3, g4, g5, g6⟩ := h.rg k hp
    have ht := h.t k hp
    have e : lsV (vw 4 s) k (s 6 k) = lsW (vw 121 t) k := by
      rw [h.ls k hp, (h.s k hp).2.2.1]
      rfl
    have hr : 0 ≤ lsW (vw 121 t) k ∧ lsW (vw 121 t) k ≤ 99 := h.lr k hp _ ⟨ht.2.2.1.1, by omega⟩
    rw [← wr_s hk (by omega)] at hg
    refine sb_X6_whoGutters_8 n s Q b _ k h.1 ?_
    rw [Int.toNat_natCast, e, (h.s k hp).2.2.2.2.2.1]
    unfold agF at hg
    refine ⟨fun e => by omega, fun _ => ⟨by omega, fun c => ?_, fun c => ⟨g1, g3, g5, fun d => ?_, fun d => ?_⟩⟩⟩
    · rw [if_neg (by omega)] at hg
      exact hg
    · rw [if_pos (by omega)] at hg
      unfold mn at d hg ⊢
      split at d
      · omega
      · rename_i z
        rw [if_neg z, if_neg (by omega), if_neg z] at hg
        rw [if_neg z]
        exact hg
    · rw [if_pos (by omega)] at hg
      have hh : ∀ x : Int, x = (k : Int) → mn (lsW (vw 121 t)) x = lsW (vw 121 t) k := fun x hx => by
        rw [hx]
        unfold mn
        rw [if_neg (by omega), Int.toNat_natCast]
      by_cases z : b < 0
      · rw [if_pos z, hh _ rfl] at hg
        exact hg
      · have d2 : lsW (vw 121 t) k < lsW (vw 121 t) b.toNat := by
          unfold mn at d
          rw [if_neg z] at d
          exact d
        rw [if_neg z, if_pos d2, hh _ rfl] at hg
        exact hg
  · exact sb_X6_whoGutters_8 n s Q _ _ _ h.1 ⟨fun _ => hQ, fun e => by omega⟩
theorem rl_gutters (n : Nat) (s t : Nat → Nat → Int) (h : REL s t) (a0 : Int) (Q : List Vl → Sto → Prop) (hQ : G 120 140 195 0 [(3, 120), (0, 0), (0, 0)] [] (n, t) (fun r s1 => G 120 140 196 90 [(3, 120), (1, a0), (1, itr (agF (t 126) (lsW (vw 121 t))) (-9) (t 120 0).toNat), (1, (((t 120 0).toNat : Nat) : Int))] (r ++ []) s1 Q)) : G 120 140 196 39 [(3, 120), (1, a0), (1, (-9)), (1, 0)] [] (n, t) Q := by
  obtain ⟨hn1, hn2, hn3, hn4⟩ := h.np
  refine G_up (t 120 0).toNat (fun k b => G 120 140 196 39 [(3, 120), (1, a0), (1, b), (1, (k : Int))] [] (n, t) Q) (agF (t 126) (lsW (vw 121 t))) agI (-9) (Or.inl rfl) (fun k b _ hb => agF_in hb) (fun k b hk hb hg => ?_) (fun _ => ?_)
  · have hp : (k : Int) < t 120 0 := by omega
    obtain ⟨g1, g2, g3, g4, g5, g6⟩ := h.rg k hp
    rw [← wr_s hk (by omega)] at hg
    refine sb_X7_longest_39 n t Q a0 b k h.2.1 ?_
    rw [Int.toNat_natCast]
    unfold agF at hg
    refine ⟨fun e => by omega, fun _ => ⟨by omega, fun c => ?_, fun c => ⟨fun d => ?_, fun d => ?_⟩⟩⟩
    · rw [if_neg c] at hg
      exact hg
    · rw [if_pos c, if_pos d] at hg
      exact hg
    · have hb2 : b < k := by
        unfold agI at hb
        omega
      obtain ⟨b1, b2, b3, b4, b5, b6⟩ := h.rg b.toNat (by omega)
      rw [if_pos c, if_neg (by omega)] at hg
      refine ⟨g2, g4, g6, by omega, b2, b4, b6, fun e => ?_, fun e => ?_⟩
      · rw [if_neg (by omega)] at hg
        exact hg
      · rw [if_pos e] at hg
        exact hg
  · exact sb_X7_longest_39 n t Q a0 _ _ h.2.1 ⟨fun _ => hQ, fun e => by omega⟩

theorem itr_amI {W : Nat → Int} (m : Nat) : amI m (itr (amF W) (-9) m) := itr_inv amI (Or.inl ⟨rfl, rfl⟩) m (fun k b _ h => amF_in h)
theorem op_longest (n : Nat) (s t : Nat → Nat → Int) (h : REL s t) (a0 : Int) : G 2 120 106 0 [(3, 2), (1, a0), (0, 0), (0, 0)] [] (n, s) (fun r s1 => G 120 140 196 0 [(3, 120), (1, a0), (0, 0), (0, 0)] [] (n, t) (Post n r s1)) := by
  obtain ⟨hn1, hn2, hn3, hn4⟩ := h.np
  have hI : amI (t 120 0).toNat (itr (amF (lsW (vw 121 t))) (-9) (t 120 0).toNat) := itr_amI _
  unfold amI at hI
  refine sb_X6_longest_0 n s _ a0 h.1 ⟨fun c => ?_, fun c1 => ⟨fun c2 => ?_, fun c => ?_⟩⟩
  · refine sb_X7_longest_0 n t _ a0 h.2.1 ⟨fun _ => post_ref h 2 (by decide), fun e => by omega⟩
  · refine cl_longest n s t h _ ?_
    have ref : ∀ (Q : List Vl → Sto → Prop), a0 ≠ 2 → (∀ Q2 : List Vl → Sto → Prop, True) → G 120 140 196 90 [(3, 120), (1, a0), (1, itr (agF (t 126) (lsW (vw 121 t))) (-9) (t 120 0).toNat), (1, (((t 120 0).toNat : Nat) : Int))] [(1, itr (amF (lsW (vw 121 t))) (-9) (t 120 0).toNat)] (n, upS t 120 10 0) Q → G 120 140 196 0 [(3, 120), (1, a0), (0, 0), (0, 0)] [] (n, t) Q := fun Q c _ hq => sb_X7_longest_0 n t Q a0 h.2.1 ⟨fun e => by omega, fun _ => ⟨fun e => by omega, fun _ => ⟨fun _ => rl_gutters n s _ h.up a0 Q (rl_longest n s _ h.up _ hq), fun e => by omega⟩⟩⟩
    generalize hB : itr (amF (lsW (vw 121 t))) (-9) (t 120 0).toNat = B at *
    refine sb_X6_longest_20 n s _ a0 _ B h.1 ⟨fun c => ?_, fun c => ⟨fun d => ?_, fun d => ?_⟩, fun c => ?_, fun c => ?_⟩
    · refine ref _ (by omega) (fun _ => trivial) ?_
      exact sb_X7_longest_90 n _ _ a0 _ _ B h.up.2.1 ⟨fun _ => ⟨fun _ => post_same h rfl, fun e => by omega⟩, fun e => by omega⟩
    · obtain ⟨b1, b2, b3, b4, b5, b6⟩ := h.rg B.toNat (by omega)
      refine ⟨by omega, b1, b3, b5, ?_⟩
      refine ref _ (by omega) (fun _ => trivial) ?_
      refine sb_X7_longest_90 n _ _ a0 _ _ B h.up.2.1 ⟨fun _ => ⟨fun e => by omega, fun _ => ⟨fun _ => ⟨by omega, b2, b4, b6, post_same h ?_⟩, fun e => by omega⟩⟩, fun e => by omega⟩
      rw [h.ls B.toNat (by omega), (h.s B.toNat (by omega)).2.2.1]
      rfl
    · refine ref _ (by omega) (fun _ => trivial) ?_
      refine sb_X7_longest_90 n _ _ a0 _ _ B h.up.2.1 ⟨fun _ => ⟨fun e => by omega, fun _ => ⟨fun e => by omega, fun _ => post_same h d.symm⟩⟩, fun e => by omega⟩
    · refine cl_dark n s _ h.up _ (fun s1 r1 f1 => ?_)
      refine sb_X6_longest_74 n s1 _ a0 _ _ _ r1 ?_
      refine sb_X7_longest_0 n t _ a0 h.2.1 ⟨fun e => by omega, fun _ => ⟨fun e => by omega, fun _ => ⟨fun e => by omega, fun _ => ?_⟩⟩⟩
      refine rl_dark n s _ h.up _ (fun t1 r2 f2 w => ?_)
      exact sb_X7_longest_33 n t1 _ a0 _ r2 (post_mind h.up r1 f1 r2 f2 w)
    · refine cl_gutters n s t h _ ?_
      refine sb_X6_longest_79 n s _ a0 _ _ _ h.1 ?_
      refine ref _ (by omega) (fun _ => trivial) ?_
      exact sb_X7_longest_90 n _ _ a0 _ _ B h.up.2.1 ⟨fun e => by omega, fun _ => post_same h rfl⟩
  · refine sb_X7_longest_0 n t _ a0 h.2.1 ⟨fun e => by omega, fun _ => ⟨fun _ => post_ref h 2 (by decide), fun e => by omega⟩⟩

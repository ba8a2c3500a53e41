theorem sb_X6_image_0 (n : Nat) (s : Nat → Nat → Int) (Q : List Vl → Sto → Prop) (hR : refs s)
    (h : G 2 120 7 0 [(3, 23), (3, 3), (0, 0)] [] (n, s) (fun r s1 => G 2 120 96 11 [(3, 2)] (r ++ []) s1 Q)) :
    G 2 120 96 0 [(3, 2)] [] (n, s) Q := by
  refine G_go rfl rfl ?_
  refine G_rf rfl rfl (by decide) (hR 2 2 23 rfl) ?_
  refine G_go rfl rfl ?_
  refine G_rf rfl rfl (by decide) (hR 2 0 3 rfl) ?_
  exact G_call rfl rfl h
theorem sb_X6_image_11 (n : Nat) (s : Nat → Nat → Int) (Q : List Vl → Sto → Prop) (hR : refs s)
    (h : Q [(1, s 3 10)] (n, upS s 2 3 1)) :
    G 2 120 96 11 [(3, 2)] [] (n, s) Q := by
  refine G_go rfl rfl ?_
  refine G_go rfl rfl ?_
  refine G_wr rfl rfl (by decide) ?_
  have hR := refs_up (a := 2) (k := 3) (x := 1) hR rfl
  refine G_go rfl rfl ?_
  refine G_rf rfl rfl (by decide) (hR 2 0 3 rfl) ?_
  refine G_rd rfl rfl (by decide) ?_
  exact G_ret rfl rfl h
theorem sb_X7_image_0 (n : Nat) (s : Nat → Nat → Int) (Q : List Vl → Sto → Prop) (hR : refs s)
    (h : G 120 140 139 0 [(3, 120), (3, 136), (1, 1), (0, 0)] [] (n, upS (upS s 120 10 0) 120 23 1) (fun r s1 => G 120 140 188 19 [(3, 120)] (r ++ []) s1 Q)) :
    G 120 140 188 0 [(3, 120)] [] (n, s) Q := by
  refine G_go rfl rfl ?_
  refine G_go rfl rfl ?_
  refine G_wr rfl rfl (by decide) ?_
  have hR := refs_up (a := 120) (k := 10) (x := 0) hR rfl
  refine G_go rfl rfl ?_
  refine G_go rfl rfl ?_
  refine G_wr rfl rfl (by decide) ?_
  have hR := refs_up (a := 120) (k := 23) (x := 1) hR rfl
  refine G_go rfl rfl ?_
  refine G_go rfl rfl ?_
  refine G_rf rfl rfl (by decide) (hR 120 22 136 rfl) ?_
  refine G_go rfl rfl ?_
  exact G_call rfl rfl h
theorem sb_X7_image_19 (n : Nat) (s : Nat → Nat → Int) (Q : List Vl → Sto → Prop) (hR : refs s)
    (h : Q [(1, s 120 9)] (n, s)) :
    G 120 140 188 19 [(3, 120)] [] (n, s) Q := by
  refine G_go rfl rfl ?_
  refine G_rd rfl rfl (by decide) ?_
  exact G_ret rfl rfl h
theorem sb_X6_restore_0 (n : Nat) (s : Nat → Nat → Int) (Q : List Vl → Sto → Prop) (hR : refs s)
    (h : (s 2 3 ≠ 0 → G 2 120 7 0 [(3, 3), (3, 23), (0, 0)] [] (n, upS s 33 2 0) (fun r s1 => G 2 120 118 32 [(3, 2)] (r ++ []) s1 Q)) ∧ (s 2 3 = 0 → Q [(1, (-3))] (n, upS s 119 3 (wr ((s 119 3) + 1))))) :
    G 2 120 118 0 [(3, 2)] [] (n, s) Q := by
  refine G_go rfl rfl ?_
  refine G_rd rfl rfl (by decide) ?_
  refine G_ne rfl rfl (fun c1 => ?_) (fun c1 => ?_)
  · have h := h.1 c1
    refine G_go rfl rfl ?_
    refine G_rf rfl rfl (by decide) (hR 2 4 33 rfl) ?_
    refine G_call rfl rfl ?_
    refine G_go rfl rfl ?_
    refine G_go rfl rfl ?_
    refine G_wr rfl rfl (by decide) ?_
    have hR := refs_up (a := 33) (k := 2) (x := 0) hR rfl
    refine G_ret rfl rfl ?_
    refine G_go rfl rfl ?_
    refine G_rf rfl rfl (by decide) (hR 2 0 3 rfl) ?_
    refine G_go rfl rfl ?_
    refine G_rf rfl rfl (by decide) (hR 2 2 23 rfl) ?_
    exact G_call rfl rfl h
  · have h := h.2 c1
    refine G_go rfl rfl ?_
    refine G_go rfl rfl ?_
    refine G_call rfl rfl ?_
    refine G_go rfl rfl ?_
    refine G_go rfl rfl ?_
    refine G_go rfl rfl ?_
    refine G_go rfl rfl ?_
    refine G_brF rfl rfl rfl ?_
    refine G_go rfl rfl ?_
    refine G_go rfl rfl ?_
    refine G_rf rfl rfl (by decide) (hR 2 7 119 rfl) ?_
    refine G_go rfl rfl ?_
    refine G_brF rfl rfl rfl ?_
    refine G_go rfl rfl ?_
    refine G_rf rfl rfl (by decide) (hR 2 7 119 rfl) ?_
    refine G_go rfl rfl ?_
    refine G_go rfl rfl ?_
    refine G_ir (n := 7) rfl rfl (by decide) (by decide) (by decide) ?_
    refine G_go rfl rfl ?_
    refine G_go rfl rfl ?_
    refine G_iw (n := 7) rfl rfl (by decide) (by decide) (by decide) ?_
    have hR := refs_up (a := 119) (k := 3) (x := wr ((s 119 3) + 1)) hR rfl
    refine G_go rfl rfl ?_
    refine G_ret rfl rfl ?_
    exact G_ret rfl rfl h
theorem sb_X6_restore_32 (n : Nat) (s : Nat → Nat → Int) (Q : List Vl → Sto → Prop) (hR : refs s)
    (h : Q [(1, s 3 10)] (n, s)) :
    G 2 120 118 32 [(3, 2)] [] (n, s) Q := by
  refine G_go rfl rfl ?_
  refine G_rf rfl rfl (by decide) (hR 2 0 3 rfl) ?_
  refine G_rd rfl rfl (by decide) ?_
  exact G_ret rfl rfl h
theorem sb_X7_restore_0 (n : Nat) (s : Nat → Nat → Int) (Q : List Vl → Sto → Prop) (hR : refs s)
    (h : (s 120 23 ≠ 0 → G 120 140 139 0 [(3, 120), (3, 136), (1, 0), (0, 0)] [] (n, upS s 120 10 0) (fun r s1 => G 120 140 209 28 [(3, 120)] (r ++ []) s1 Q)) ∧ (s 120 23 = 0 → Q [(1, (-3))] (n, upS (upS s 120 10 0) 129 3 (wr ((s 129 3) + 1))))) :
    G 120 140 209 0 [(3, 120)] [] (n, s) Q := by
  refine G_go rfl rfl ?_
  refine G_go rfl rfl ?_
  refine G_wr rfl rfl (by decide) ?_
  have hR := refs_up (a := 120) (k := 10) (x := 0) hR rfl
  refine G_go rfl rfl ?_
  refine G_rd rfl rfl (by decide) ?_
  refine G_ne rfl rfl (fun c1 => ?_) (fun c1 => ?_)
  · have h := h.1 c1
    refine G_go rfl rfl ?_
    refine G_go rfl rfl ?_
    refine G_rf rfl rfl (by decide) (hR 120 22 136 rfl) ?_
    refine G_go rfl rfl ?_
    exact G_call rfl rfl h
  · have h := h.2 c1
    refine G_go rfl rfl ?_
    refine G_go rfl rfl ?_
    refine G_call rfl rfl ?_
    refine G_go rfl rfl ?_
    refine G_rf rfl rfl (by decide) (hR 120 11 129 rfl) ?_
    refine G_go rfl rfl ?_
    refine G_go rfl rfl ?_
    refine G_go rfl rfl ?_
    refine G_ir (n := 7) rfl rfl (by decide) (by decide) (by decide) ?_
    refine G_go rfl rfl ?_
    refine G_go rfl rfl ?_
    refine G_iw (n := 7) rfl rfl (by decide) (by decide) (by decide) ?_
    have hR := refs_up (a := 129) (k := 3) (x := wr ((s 129 3) + 1)) hR rfl
    refine G_go rfl rfl ?_
    refine G_ret rfl rfl ?_
    exact G_ret rfl rfl h
theorem sb_X7_restore_28 (n : Nat) (s : Nat → Nat → Int) (Q : List Vl → Sto → Prop) (hR : refs s)
    (h : Q [(1, s 120 9)] (n, upS s 120 29 0)) :
    G 120 140 209 28 [(3, 120)] [] (n, s) Q := by
  refine G_go rfl rfl ?_
  refine G_go rfl rfl ?_
  refine G_wr rfl rfl (by decide) ?_
  have hR := refs_up (a := 120) (k := 29) (x := 0) hR rfl
  refine G_go rfl rfl ?_
  refine G_rd rfl rfl (by decide) ?_
  exact G_ret rfl rfl h
theorem sb_X6_back_0 (n : Nat) (s : Nat → Nat → Int) (Q : List Vl → Sto → Prop) (hR : refs s)
    (h : (s 33 2 ≠ 0 → G 2 120 10 0 [(3, 33), (3, 3)] [] (n, s) (fun r s1 => G 2 120 65 28 [(3, 2)] (r ++ []) s1 Q)) ∧ (s 33 2 = 0 → Q [(1, (-3))] (n, upS s 119 3 (wr ((s 119 3) + 1))))) :
    G 2 120 65 0 [(3, 2)] [] (n, s) Q := by
  refine G_go rfl rfl ?_
  refine G_rf rfl rfl (by decide) (hR 2 4 33 rfl) ?_
  refine G_call rfl rfl ?_
  refine G_go rfl rfl ?_
  refine G_rd rfl rfl (by decide) ?_
  refine G_ret rfl rfl ?_
  refine G_ne rfl rfl (fun c1 => ?_) (fun c1 => ?_)
  · have h := h.1 c1
    refine G_go rfl rfl ?_
    refine G_rf rfl rfl (by decide) (hR 2 4 33 rfl) ?_
    refine G_go rfl rfl ?_
    refine G_rf rfl rfl (by decide) (hR 2 0 3 rfl) ?_
    exact G_call rfl rfl h
  · have h := h.2 c1
    refine G_go rfl rfl ?_
    refine G_go rfl rfl ?_
    refine G_call rfl rfl ?_
    refine G_go rfl rfl ?_
    refine G_go rfl rfl ?_
    refine G_go rfl rfl ?_
    refine G_go rfl rfl ?_
    refine G_brF rfl rfl rfl ?_
    refine G_go rfl rfl ?_
    refine G_go rfl rfl ?_
    refine G_rf rfl rfl (by decide) (hR 2 7 119 rfl) ?_
    refine G_go rfl rfl ?_
    refine G_brF rfl rfl rfl ?_
    refine G_go rfl rfl ?_
    refine G_rf rfl rfl (by decide) (hR 2 7 119 rfl) ?_
    refine G_go rfl rfl ?_
    refine G_go rfl rfl ?_
    refine G_ir (n := 7) rfl rfl (by decide) (by decide) (by decide) ?_
    refine G_go rfl rfl ?_
    refine G_go rfl rfl ?_
    refine G_iw (n := 7) rfl rfl (by decide) (by decide) (by decide) ?_
    have hR := refs_up (a := 119) (k := 3) (x := wr ((s 119 3) + 1)) hR rfl
    refine G_go rfl rfl ?_
    refine G_ret rfl rfl ?_
    exact G_ret rfl rfl h
theorem sb_X6_back_28 (n : Nat) (s : Nat → Nat → Int) (Q : List Vl → Sto → Prop) (hR : refs s)
    (h : Q [(1, s 33 2)] (n, s)) :
    G 2 120 65 28 [(3, 2)] [] (n, s) Q := by
  refine G_go rfl rfl ?_
  refine G_rf rfl rfl (by decide) (hR 2 4 33 rfl) ?_
  refine G_call rfl rfl ?_
  refine G_go rfl rfl ?_
  refine G_rd rfl rfl (by decide) ?_
  refine G_ret rfl rfl ?_
  exact G_ret rfl rfl h
theorem sb_X7_back_0 (n : Nat) (s : Nat → Nat → Int) (Q : List Vl → Sto → Prop) (hR : refs s)
    (h : (s 120 29 ≠ 0 → G 120 140 157 31 [(3, 120), (1, 0)] [] (n, upS (upS s 120 10 0) 120 29 (wr ((s 120 29) - 1))) Q) ∧ (s 120 29 = 0 → Q [(1, (-3))] (n, upS (upS s 120 10 0) 129 3 (wr ((s 129 3) + 1))))) :
    G 120 140 157 0 [(3, 120), (0, 0)] [] (n, s) Q := by
  refine G_go rfl rfl ?_
  refine G_go rfl rfl ?_
  refine G_wr rfl rfl (by decide) ?_
  have hR := refs_up (a := 120) (k := 10) (x := 0) hR rfl
  refine G_go rfl rfl ?_
  refine G_rd rfl rfl (by decide) ?_
  refine G_ne rfl rfl (fun c1 => ?_) (fun c1 => ?_)
  · have h := h.1 c1
    refine G_go rfl rfl ?_
    refine G_go rfl rfl ?_
    refine G_rd rfl rfl (by decide) ?_
    refine G_go rfl rfl ?_
    refine G_go rfl rfl ?_
    refine G_wr rfl rfl (by decide) ?_
    have hR := refs_up (a := 120) (k := 29) (x := wr ((s 120 29) - 1)) hR rfl
    refine G_go rfl rfl ?_
    refine G_go rfl rfl ?_
    show G 120 140 157 31 [(3, 120), (1, 0)] [] (n, upS (upS s 120 10 0) 120 29 (wr ((s 120 29) - 1))) Q
    exact h
  · have h := h.2 c1
    refine G_go rfl rfl ?_
    refine G_go rfl rfl ?_
    refine G_call rfl rfl ?_
    refine G_go rfl rfl ?_
    refine G_rf rfl rfl (by decide) (hR 120 11 129 rfl) ?_
    refine G_go rfl rfl ?_
    refine G_go rfl rfl ?_
    refine G_go rfl rfl ?_
    refine G_ir (n := 7) rfl rfl (by decide) (by decide) (by decide) ?_
    refine G_go rfl rfl ?_
    refine G_go rfl rfl ?_
    refine G_iw (n := 7) rfl rfl (by decide) (by decide) (by decide) ?_
    have hR := refs_up (a := 129) (k := 3) (x := wr ((s 129 3) + 1)) hR rfl
    refine G_go rfl rfl ?_
    refine G_ret rfl rfl ?_
    exact G_ret rfl rfl h
theorem sb_X7_back_31 (n : Nat) (s : Nat → Nat → Int) (Q : List Vl → Sto → Prop) (x1 : Int) (hR : refs s)
    (h : (50 ≤ x1 → G 120 140 139 0 [(3, 120), (3, 138), (1, 0), (0, 0)] [] (n, s) (fun r s1 => G 120 140 157 72 [(3, 120), (1, x1)] (r ++ []) s1 Q)) ∧ (x1 < 50 → (0 ≤ wr ((wr (50 * (s 120 29))) + x1) ∧ wr ((wr (50 * (s 120 29))) + x1) < 400) ∧ ((0 ≤ x1 ∧ x1 < 50) ∧ (G 120 140 157 31 [(3, 120), (1, wr (x1 + 1))] [] (n, upS s 138 x1.toNat (s 137 ((wr ((wr (50 * (s 120 29))) + x1)).toNat))) Q)))) :
    G 120 140 157 31 [(3, 120), (1, x1)] [] (n, s) Q := by
  refine G_go rfl rfl ?_
  refine G_go rfl rfl ?_
  refine G_ge rfl rfl (fun c1 => ?_) (fun c1 => ?_)
  · have h := h.1 c1
    refine G_go rfl rfl ?_
    refine G_go rfl rfl ?_
    refine G_rf rfl rfl (by decide) (hR 120 28 138 rfl) ?_
    refine G_go rfl rfl ?_
    exact G_call rfl rfl h
  · have h := h.2 c1
    refine G_go rfl rfl ?_
    refine G_rf rfl rfl (by decide) (hR 120 28 138 rfl) ?_
    refine G_go rfl rfl ?_
    refine G_go rfl rfl ?_
    refine G_rf rfl rfl (by decide) (hR 120 27 137 rfl) ?_
    refine G_go rfl rfl ?_
    refine G_go rfl rfl ?_
    refine G_rd rfl rfl (by decide) ?_
    refine G_go rfl rfl ?_
    refine G_go rfl rfl ?_
    refine G_go rfl rfl ?_
    obtain ⟨g2, h⟩ := h
    refine G_ir (n := 400) rfl rfl (by decide) (by decide) g2 ?_
    obtain ⟨g3, h⟩ := h
    refine G_iw (n := 50) rfl rfl (by decide) (by decide) g3 ?_
    have hR := refs_up (a := 138) (k := x1.toNat) (x := s 137 ((wr ((wr (50 * (s 120 29))) + x1)).toNat)) hR rfl
    refine G_go rfl rfl ?_
    refine G_go rfl rfl ?_
    exact h
theorem sb_X7_back_72 (n : Nat) (s : Nat → Nat → Int) (Q : List Vl → Sto → Prop) (x1 : Int) (hR : refs s)
    (h : Q [(1, s 120 29)] (n, s)) :
    G 120 140 157 72 [(3, 120), (1, x1)] [] (n, s) Q := by
  refine G_go rfl rfl ?_
  refine G_rd rfl rfl (by decide) ?_
  exact G_ret rfl rfl h
theorem sb_X6_count_0 (n : Nat) (s : Nat → Nat → Int) (Q : List Vl → Sto → Prop) (a0 : Int) (hR : refs s)
    (h : (a0 < 11 → (a0 = 0 → Q [(1, s 3 9)] (n, s)) ∧ (a0 = 1 → Q [(1, s 3 10)] (n, s)) ∧ (a0 = 2 → G 2 120 51 0 [(3, 3), (0, 0), (0, 0)] [] (n, s) (fun r s1 => G 2 120 76 95 [(3, 2), (1, a0)] (r ++ []) s1 Q)) ∧ (a0 = 3 → (0 ≤ s 3 9 ∧ s 3 9 ≤ 6) ∧ (Q [(1, itr (smF (s 6)) 0 (s 3 9).toNat)] (n, s))) ∧ (a0 = 4 → (0 ≤ s 3 9 ∧ s 3 9 ≤ 6) ∧ (Q [(1, itr (smF (s 8)) 0 (s 3 9).toNat)] (n, s))) ∧ (a0 = 5 → (0 ≤ s 3 9 ∧ s 3 9 ≤ 6) ∧ (Q [(1, itr (smF (s 10)) 0 (s 3 9).toNat)] (n, s))) ∧ (a0 = 6 → Q [(1, s 115 1)] (n, s)) ∧ (a0 = 7 → Q [(1, s 117 1)] (n, s)) ∧ (a0 = 8 → Q [(1, s 33 2)] (n, s)) ∧ (a0 < 0 ∨ 8 < a0 → Q [(1, (-9))] (n, s))) ∧ (11 ≤ a0 → (16 < a0 → (a0 = 0 → Q [(1, s 3 9)] (n, s)) ∧ (a0 = 1 → Q [(1, s 3 10)] (n, s)) ∧ (a0 = 2 → G 2 120 51 0 [(3, 3), (0, 0), (0, 0)] [] (n, s) (fun r s1 => G 2 120 76 95 [(3, 2), (1, a0)] (r ++ []) s1 Q)) ∧ (a0 = 3 → (0 ≤ s 3 9 ∧ s 3 9 ≤ 6) ∧ (Q [(1, itr (smF (s 6)) 0 (s 3 9).toNat)] (n, s))) ∧ (a0 = 4 → (0 ≤ s 3 9 ∧ s 3 9 ≤ 6) ∧ (Q [(1, itr (smF (s 8)) 0 (s 3 9).toNat)] (n, s))) ∧ (a0 = 5 → (0 ≤ s 3 9 ∧ s 3 9 ≤ 6) ∧ (Q [(1, itr (smF (s 10)) 0 (s 3 9).toNat)] (n, s))) ∧ (a0 = 6 → Q [(1, s 115 1)] (n, s)) ∧ (a0 = 7 → Q [(1, s 117 1)] (n, s)) ∧ (a0 = 8 → Q [(1, s 33 2)] (n, s)) ∧ (a0 < 0 ∨ 8 < a0 → Q [(1, (-9))] (n, s))) ∧ (a0 ≤ 16 → (0 ≤ wr (a0 - 10) ∧ wr (a0 - 10) < 7) ∧ (Q [(1, s 119 ((wr (a0 - 10)).toNat))] (n, s))))) :
    G 2 120 76 0 [(3, 2), (1, a0)] [] (n, s) Q := by
  refine G_go rfl rfl ?_
  refine G_go rfl rfl ?_
  refine G_lt rfl rfl (fun c1 => ?_) (fun c1 => ?_)
  · have h := h.1 c1
    refine G_go rfl rfl ?_
    by_cases hs23_0 : a0 = 0
    · refine G_k hs23_0 rfl rfl ?_
      have h := h.1 hs23_0
      refine G_go rfl rfl ?_
      refine G_rf rfl rfl (by decide) (hR 2 0 3 rfl) ?_
      refine G_rd rfl rfl (by decide) ?_
      exact G_ret rfl rfl h
    replace h := h.2
    by_cases hs23_1 : a0 = 1
    · refine G_k hs23_1 rfl rfl ?_
      have h := h.1 hs23_1
      refine G_go rfl rfl ?_
      refine G_rf rfl rfl (by decide) (hR 2 0 3 rfl) ?_
      refine G_rd rfl rfl (by decide) ?_
      exact G_ret rfl rfl h
    replace h := h.2
    by_cases hs23_2 : a0 = 2
    · refine G_k hs23_2 rfl rfl ?_
      have h := h.1 hs23_2
      refine G_go rfl rfl ?_
      refine G_rf rfl rfl (by decide) (hR 2 0 3 rfl) ?_
      exact G_call rfl rfl h
    replace h := h.2
    by_cases hs23_3 : a0 = 3
    · refine G_k hs23_3 rfl rfl ?_
      have h := h.1 hs23_3
      refine G_go rfl rfl ?_
      refine G_rf rfl rfl (by decide) (hR 2 0 3 rfl) ?_
      refine G_call rfl rfl ?_
      refine G_go rfl rfl ?_
      refine G_go rfl rfl ?_
      refine G_rf rfl rfl (by decide) (hR 3 2 6 rfl) ?_
      refine G_call rfl rfl ?_
      obtain ⟨g2, h⟩ := h
      refine c_X5_sumOf_3_6 n _ _ hR g2 ?_
      refine G_ret rfl rfl ?_
      exact G_ret rfl rfl h
    replace h := h.2
    by_cases hs23_4 : a0 = 4
    · refine G_k hs23_4 rfl rfl ?_
      have h := h.1 hs23_4
      refine G_go rfl rfl ?_
      refine G_rf rfl rfl (by decide) (hR 2 0 3 rfl) ?_
      refine G_call rfl rfl ?_
      refine G_go rfl rfl ?_
      refine G_go rfl rfl ?_
      refine G_rf rfl rfl (by decide) (hR 3 4 8 rfl) ?_
      refine G_call rfl rfl ?_
      obtain ⟨g3, h⟩ := h
      refine c_X5_sumOf_3_8 n _ _ hR g3 ?_
      refine G_ret rfl rfl ?_
      exact G_ret rfl rfl h
    replace h := h.2
    by_cases hs23_5 : a0 = 5
    · refine G_k hs23_5 rfl rfl ?_
      have h := h.1 hs23_5
      refine G_go rfl rfl ?_
      refine G_rf rfl rfl (by decide) (hR 2 0 3 rfl) ?_
      refine G_call rfl rfl ?_
      refine G_go rfl rfl ?_
      refine G_go rfl rfl ?_
      refine G_rf rfl rfl (by decide) (hR 3 6 10 rfl) ?_
      refine G_call rfl rfl ?_
      obtain ⟨g4, h⟩ := h
      refine c_X5_sumOf_3_10 n _ _ hR g4 ?_
      refine G_ret rfl rfl ?_
      exact G_ret rfl rfl h
    replace h := h.2
    by_cases hs23_6 : a0 = 6
    · refine G_k hs23_6 rfl rfl ?_
      have h := h.1 hs23_6
      refine G_go rfl rfl ?_
      refine G_rf rfl rfl (by decide) (hR 2 5 115 rfl) ?_
      refine G_call rfl rfl ?_
      refine G_go rfl rfl ?_
      refine G_rd rfl rfl (by decide) ?_
      refine G_ret rfl rfl ?_
      exact G_ret rfl rfl h
    replace h := h.2
    by_cases hs23_7 : a0 = 7
    · refine G_k hs23_7 rfl rfl ?_
      have h := h.1 hs23_7
      refine G_go rfl rfl ?_
      refine G_rf rfl rfl (by decide) (hR 2 6 117 rfl) ?_
      refine G_call rfl rfl ?_
      refine G_go rfl rfl ?_
      refine G_rd rfl rfl (by decide) ?_
      refine G_ret rfl rfl ?_
      exact G_ret rfl rfl h
    replace h := h.2
    by_cases hs23_8 : a0 = 8
    · refine G_k hs23_8 rfl rfl ?_
      have h := h.1 hs23_8
      refine G_go rfl rfl ?_
      refine G_rf rfl rfl (by decide) (hR 2 4 33 rfl) ?_
      refine G_call rfl rfl ?_
      refine G_go rfl rfl ?_
      refine G_rd rfl rfl (by decide) ?_
      refine G_ret rfl rfl ?_
      exact G_ret rfl rfl h
    replace h := h.2
    have hd23 : a0 < 0 ∨ 8 < a0 := by omega
    refine G_tsd rfl rfl hd23 ?_
    replace h := h hd23
    refine G_go rfl rfl ?_
    exact G_ret rfl rfl h
  · have h := h.2 c1
    refine G_go rfl rfl ?_
    refine G_go rfl rfl ?_
    refine G_gt rfl rfl (fun c5 => ?_) (fun c5 => ?_)
    · have h := h.1 c5
      refine G_go rfl rfl ?_
      by_cases hs23_0 : a0 = 0
      · refine G_k hs23_0 rfl rfl ?_
        have h := h.1 hs23_0
        refine G_go rfl rfl ?_
        refine G_rf rfl rfl (by decide) (hR 2 0 3 rfl) ?_
        refine G_rd rfl rfl (by decide) ?_
        exact G_ret rfl rfl h
      replace h := h.2
      by_cases hs23_1 : a0 = 1
      · refine G_k hs23_1 rfl rfl ?_
        have h := h.1 hs23_1
        refine G_go rfl rfl ?_
        refine G_rf rfl rfl (by decide) (hR 2 0 3 rfl) ?_
        refine G_rd rfl rfl (by decide) ?_
        exact G_ret rfl rfl h
      replace h := h.2
      by_cases hs23_2 : a0 = 2
      · refine G_k hs23_2 rfl rfl ?_
        have h := h.1 hs23_2
        refine G_go rfl rfl ?_
        refine G_rf rfl rfl (by decide) (hR 2 0 3 rfl) ?_
        exact G_call rfl rfl h
      replace h := h.2
      by_cases hs23_3 : a0 = 3
      · refine G_k hs23_3 rfl rfl ?_
        have h := h.1 hs23_3
        refine G_go rfl rfl ?_
        refine G_rf rfl rfl (by decide) (hR 2 0 3 rfl) ?_
        refine G_call rfl rfl ?_
        refine G_go rfl rfl ?_
        refine G_go rfl rfl ?_
        refine G_rf rfl rfl (by decide) (hR 3 2 6 rfl) ?_
        refine G_call rfl rfl ?_
        obtain ⟨g6, h⟩ := h
        refine c_X5_sumOf_3_6 n _ _ hR g6 ?_
        refine G_ret rfl rfl ?_
        exact G_ret rfl rfl h
      replace h := h.2
      by_cases hs23_4 : a0 = 4
      · refine G_k hs23_4 rfl rfl ?_
        have h := h.1 hs23_4
        refine G_go rfl rfl ?_
        refine G_rf rfl rfl (by decide) (hR 2 0 3 rfl) ?_
        refine G_call rfl rfl ?_
        refine G_go rfl rfl ?_
        refine G_go rfl rfl ?_
        refine G_rf rfl rfl (by decide) (hR 3 4 8 rfl) ?_
        refine G_call rfl rfl ?_
        obtain ⟨g7, h⟩ := h
        refine c_X5_sumOf_3_8 n _ _ hR g7 ?_
        refine G_ret rfl rfl ?_
        exact G_ret rfl rfl h
      replace h := h.2
      by_cases hs23_5 : a0 = 5
      · refine G_k hs23_5 rfl rfl ?_
        have h := h.1 hs23_5
        refine G_go rfl rfl ?_
        refine G_rf rfl rfl (by decide) (hR 2 0 3 rfl) ?_
        refine G_call rfl rfl ?_
        refine G_go rfl rfl ?_
        refine G_go rfl rfl ?_
        refine G_rf rfl rfl (by decide) (hR 3 6 10 rfl) ?_
        refine G_call rfl rfl ?_
        obtain ⟨g8, h⟩ := h
        refine c_X5_sumOf_3_10 n _ _ hR g8 ?_
        refine G_ret rfl rfl ?_
        exact G_ret rfl rfl h
      replace h := h.2
      by_cases hs23_6 : a0 = 6
      · refine G_k hs23_6 rfl rfl ?_
        have h := h.1 hs23_6
        refine G_go rfl rfl ?_
        refine G_rf rfl rfl (by decide) (hR 2 5 115 rfl) ?_
        refine G_call rfl rfl ?_
        refine G_go rfl rfl ?_
        refine G_rd rfl rfl (by decide) ?_
        refine G_ret rfl rfl ?_
        exact G_ret rfl rfl h
      replace h := h.2
      by_cases hs23_7 : a0 = 7
      · refine G_k hs23_7 rfl rfl ?_
        have h := h.1 hs23_7
        refine G_go rfl rfl ?_
        refine G_rf rfl rfl (by decide) (hR 2 6 117 rfl) ?_
        refine G_call rfl rfl ?_
        refine G_go rfl rfl ?_
        refine G_rd rfl rfl (by decide) ?_
        refine G_ret rfl rfl ?_
        exact G_ret rfl rfl h
      replace h := h.2
      by_cases hs23_8 : a0 = 8
      · refine G_k hs23_8 rfl rfl ?_
        have h := h.1 hs23_8
        refine G_go rfl rfl ?_
        refine G_rf rfl rfl (by decide) (hR 2 4 33 rfl) ?_
        refine G_call rfl rfl ?_
        refine G_go rfl rfl ?_
        refine G_rd rfl rfl (by decide) ?_
        refine G_ret rfl rfl ?_
        exact G_ret rfl rfl h
      replace h := h.2
      have hd23 : a0 < 0 ∨ 8 < a0 := by omega
      refine G_tsd rfl rfl hd23 ?_
      replace h := h hd23
      refine G_go rfl rfl ?_
      exact G_ret rfl rfl h
    · have h := h.2 c5
      refine G_go rfl rfl ?_
      refine G_rf rfl rfl (by decide) (hR 2 7 119 rfl) ?_
      refine G_go rfl rfl ?_
      refine G_go rfl rfl ?_
      refine G_go rfl rfl ?_
      obtain ⟨g9, h⟩ := h
      refine G_ir (n := 7) rfl rfl (by decide) (by decide) g9 ?_
      exact G_ret rfl rfl h
theorem sb_X6_count_95 (n : Nat) (s : Nat → Nat → Int) (Q : List Vl → Sto → Prop) (x1 : Int) (y0 : Int) (hR : refs s)
    (h : Q [(1, y0)] (n, s)) :
    G 2 120 76 95 [(3, 2), (1, x1)] [(1, y0)] (n, s) Q := by
  exact G_ret rfl rfl h
theorem sb_X7_count_0 (n : Nat) (s : Nat → Nat → Int) (Q : List Vl → Sto → Prop) (a0 : Int) (hR : refs s)
    (h : (a0 = 0 → Q [(1, s 120 0)] (n, upS s 120 10 0)) ∧ (a0 = 1 → Q [(1, s 120 9)] (n, upS s 120 10 0)) ∧ (a0 = 2 → G 120 140 170 0 [(3, 120), (0, 0), (0, 0)] [] (n, upS s 120 10 0) (fun r s1 => G 120 140 171 70 [(3, 120), (1, a0)] (r ++ []) s1 Q)) ∧ (a0 = 3 → (0 ≤ (upS s 120 10 0) 120 0 ∧ (upS s 120 10 0) 120 0 ≤ 6) ∧ (Q [(1, itr (smF ((upS s 120 10 0) 123)) 0 ((upS s 120 10 0) 120 0).toNat)] (n, upS s 120 10 0))) ∧ (a0 = 4 → (0 ≤ (upS s 120 10 0) 120 0 ∧ (upS s 120 10 0) 120 0 ≤ 6) ∧ (Q [(1, itr (smF ((upS s 120 10 0) 125)) 0 ((upS s 120 10 0) 120 0).toNat)] (n, upS s 120 10 0))) ∧ (a0 = 5 → (0 ≤ (upS s 120 10 0) 120 0 ∧ (upS s 120 10 0) 120 0 ≤ 6) ∧ (Q [(1, itr (smF ((upS s 120 10 0) 127)) 0 ((upS s 120 10 0) 120 0).toNat)] (n, upS s 120 10 0))) ∧ (a0 = 6 → Q [(1, s 120 14)] (n, upS s 120 10 0)) ∧ (a0 = 7 → Q [(1, s 120 31)] (n, upS s 120 10 0)) ∧ (a0 = 8 → Q [(1, s 120 29)] (n, upS s 120 10 0)) ∧ (a0 < 0 ∨ 8 < a0 → (a0 < 11 → Q [(1, (-9))] (n, upS s 120 10 0)) ∧ (a0 ≥ 11 → (a0 > 16 → Q [(1, (-9))] (n, upS s 120 10 0)) ∧ (a0 ≤ 16 → (0 ≤ wr (a0 - 10) ∧ wr (a0 - 10) < 7) ∧ (Q [(1, s 129 ((wr (a0 - 10)).toNat))] (n, upS s 120 10 0)))))) :
    G 120 140 171 0 [(3, 120), (1, a0)] [] (n, s) Q := by
  refine G_go rfl rfl ?_
  refine G_go rfl rfl ?_
  refine G_wr rfl rfl (by decide) ?_
  have hR := refs_up (a := 120) (k := 10) (x := 0) hR rfl
  refine G_go rfl rfl ?_
  by_cases hs6_0 : a0 = 0
  · refine G_k hs6_0 rfl rfl ?_
    have h := h.1 hs6_0
    refine G_go rfl rfl ?_
    refine G_rd rfl rfl (by decide) ?_
    exact G_ret rfl rfl h
  replace h := h.2
  by_cases hs6_1 : a0 = 1
  · refine G_k hs6_1 rfl rfl ?_
    have h := h.1 hs6_1
    refine G_go rfl rfl ?_
    refine G_rd rfl rfl (by decide) ?_
    exact G_ret rfl rfl h
  replace h := h.2
  by_cases hs6_2 : a0 = 2
  · refine G_k hs6_2 rfl rfl ?_
    have h := h.1 hs6_2
    refine G_go rfl rfl ?_
    exact G_call rfl rfl h
  replace h := h.2
  by_cases hs6_3 : a0 = 3
  · refine G_k hs6_3 rfl rfl ?_
    have h := h.1 hs6_3
    refine G_go rfl rfl ?_
    refine G_call rfl rfl ?_
    obtain ⟨g1, h⟩ := h
    refine c_X7_allHolds n _ _ hR g1 ?_
    exact G_ret rfl rfl h
  replace h := h.2
  by_cases hs6_4 : a0 = 4
  · refine G_k hs6_4 rfl rfl ?_
    have h := h.1 hs6_4
    refine G_go rfl rfl ?_
    refine G_call rfl rfl ?_
    obtain ⟨g2, h⟩ := h
    refine c_X7_allCandles n _ _ hR g2 ?_
    exact G_ret rfl rfl h
  replace h := h.2
  by_cases hs6_5 : a0 = 5
  · refine G_k hs6_5 rfl rfl ?_
    have h := h.1 hs6_5
    refine G_go rfl rfl ?_
    refine G_call rfl rfl ?_
    obtain ⟨g3, h⟩ := h
    refine c_X7_allPages n _ _ hR g3 ?_
    exact G_ret rfl rfl h
  replace h := h.2
  by_cases hs6_6 : a0 = 6
  · refine G_k hs6_6 rfl rfl ?_
    have h := h.1 hs6_6
    refine G_go rfl rfl ?_
    refine G_rd rfl rfl (by decide) ?_
    exact G_ret rfl rfl h
  replace h := h.2
  by_cases hs6_7 : a0 = 7
  · refine G_k hs6_7 rfl rfl ?_
    have h := h.1 hs6_7
    refine G_go rfl rfl ?_
    refine G_rd rfl rfl (by decide) ?_
    exact G_ret rfl rfl h
  replace h := h.2
  by_cases hs6_8 : a0 = 8
  · refine G_k hs6_8 rfl rfl ?_
    have h := h.1 hs6_8
    refine G_go rfl rfl ?_
    refine G_rd rfl rfl (by decide) ?_
    exact G_ret rfl rfl h
  replace h := h.2
  have hd6 : a0 < 0 ∨ 8 < a0 := by omega
  refine G_tsd rfl rfl hd6 ?_
  replace h := h hd6
  refine G_go rfl rfl ?_
  refine G_go rfl rfl ?_
  refine G_go rfl rfl ?_
  refine G_go rfl rfl ?_
  refine G_call rfl rfl ?_
  refine G_go rfl rfl ?_
  refine G_go rfl rfl ?_
  refine G_go rfl rfl ?_
  refine G_lt rfl rfl (fun c4 => ?_) (fun c4 => ?_)
  · have c4 := xl_lt c4
    have h := h.1 c4
    refine G_go rfl rfl ?_
    refine G_ret rfl rfl ?_
    refine G_brT rfl rfl rfl ?_
    refine G_go rfl rfl ?_
    exact G_ret rfl rfl h
  · have c4 := xl_ge c4
    have h := h.2 c4
    refine G_go rfl rfl ?_
    refine G_go rfl rfl ?_
    refine G_go rfl rfl ?_
    refine G_gt rfl rfl (fun c5 => ?_) (fun c5 => ?_)
    · have c5 := xl_gt c5
      have h := h.1 c5
      refine G_go rfl rfl ?_
      refine G_ret rfl rfl ?_
      refine G_brT rfl rfl rfl ?_
      refine G_go rfl rfl ?_
      exact G_ret rfl rfl h
    · have c5 := xl_le c5
      have h := h.2 c5
      refine G_go rfl rfl ?_
      refine G_go rfl rfl ?_
      refine G_ret rfl rfl ?_
      refine G_brF rfl rfl rfl ?_
      refine G_go rfl rfl ?_
      refine G_rf rfl rfl (by decide) (hR 120 11 129 rfl) ?_
      refine G_go rfl rfl ?_
      refine G_go rfl rfl ?_
      refine G_go rfl rfl ?_
      obtain ⟨g6, h⟩ := h
      refine G_ir (n := 7) rfl rfl (by decide) (by decide) g6 ?_
      refine G_go rfl rfl ?_
      exact G_ret rfl rfl h
theorem sb_X7_count_70 (n : Nat) (s : Nat → Nat → Int) (Q : List Vl → Sto → Prop) (x1 : Int) (y0 : Int) (hR : refs s)
    (h : Q [(1, y0)] (n, s)) :
    G 120 140 171 70 [(3, 120), (1, x1)] [(1, y0)] (n, s) Q := by
  exact G_ret rfl rfl h
theorem sb_X6_personOf_0 (n : Nat) (s : Nat → Nat → Int) (Q : List Vl → Sto → Prop) (a0 : Int) (a1 : Int) (hR : refs s)
    (h : (a0 < 0 → (a1 < 0 → Q [(1, (-1))] (n, upS s 119 1 (wr ((s 119 1) + 1)))) ∧ (0 ≤ a1 → (a1 ≤ 10 → Q [(1, (-1))] (n, upS s 119 1 (wr ((s 119 1) + 1)))) ∧ (10 < a1 → Q [(1, (-1))] (n, upS s 119 1 (wr ((s 119 1) + 1)))))) ∧ (0 ≤ a0 → (s 3 9 ≤ a0 → (a1 < 0 → Q [(1, (-1))] (n, upS s 119 1 (wr ((s 119 1) + 1)))) ∧ (0 ≤ a1 → (a1 ≤ 10 → Q [(1, (-1))] (n, upS s 119 1 (wr ((s 119 1) + 1)))) ∧ (10 < a1 → Q [(1, (-1))] (n, upS s 119 1 (wr ((s 119 1) + 1)))))) ∧ (a0 < s 3 9 → (a1 < 0 → Q [(1, (-2))] (n, upS s 119 2 (wr ((s 119 2) + 1)))) ∧ (0 ≤ a1 → (a1 ≤ 10 → (a1 = 0 → (0 ≤ a0 ∧ a0 < 6) ∧ (Q [(1, s 4 a0.toNat)] (n, s))) ∧ (a1 = 1 → (0 ≤ a0 ∧ a0 < 6) ∧ (Q [(1, s 5 a0.toNat)] (n, s))) ∧ (a1 = 2 → (0 ≤ a0 ∧ a0 < 6) ∧ (Q [(1, s 6 a0.toNat)] (n, s))) ∧ (a1 = 3 → (0 ≤ a0 ∧ a0 < 6) ∧ (Q [(1, s 7 a0.toNat)] (n, s))) ∧ (a1 = 4 → (0 ≤ a0 ∧ a0 < 6) ∧ (Q [(1, s 8 a0.toNat)] (n, s))) ∧ (a1 = 5 → (0 ≤ a0 ∧ a0 < 6) ∧ ((s 9 a0.toNat = 0 → Q [(1, 0)] (n, s)) ∧ (s 9 a0.toNat ≠ 0 → Q [(1, 1)] (n, s)))) ∧ (a1 = 6 → (0 ≤ a0 ∧ a0 < 6) ∧ (Q [(1, s 10 a0.toNat)] (n, s))) ∧ (a1 = 7 → (0 ≤ a0 ∧ a0 < 6) ∧ ((s 11 a0.toNat ≠ (-1) → Q [(1, s 11 a0.toNat)] (n, s)) ∧ (s 11 a0.toNat = (-1) → Q [(1, (-9))] (n, s)))) ∧ (a1 = 8 → (0 ≤ a0 ∧ a0 < 6) ∧ ((0 ≤ s 5 a0.toNat ∧ s 5 a0.toNat ≤ 9) ∧ ((0 ≤ s 6 a0.toNat ∧ s 6 a0.toNat ≤ 2000) ∧ ((0 ≤ s 7 a0.toNat ∧ s 7 a0.toNat ≤ 200) ∧ (Q [(1, wlt (s 4 a0.toNat) (s 5 a0.toNat) (s 6 a0.toNat) (s 7 a0.toNat))] (n, s)))))) ∧ (a1 = 9 → (0 ≤ a0 ∧ a0 < 6) ∧ ((rgP (vw 4 s) a0.toNat) ∧ ((0 ≤ s 6 a0.toNat ∧ s 6 a0.toNat ≤ 2000) ∧ (Q [(1, bnV (vw 4 s) a0.toNat (s 6 a0.toNat))] (n, s))))) ∧ (a1 < 0 ∨ 9 < a1 → (0 ≤ a0 ∧ a0 < 6) ∧ ((hon (s 4 a0.toNat) (s 5 a0.toNat) = 0 ∨ hon (s 4 a0.toNat) (s 5 a0.toNat) = 1) ∧ ((hon (s 4 a0.toNat) (s 5 a0.toNat) = 0 → Q [(1, 0)] (n, s)) ∧ (hon (s 4 a0.toNat) (s 5 a0.toNat) ≠ 0 → Q [(1, 1)] (n, s)))))) ∧ (10 < a1 → Q [(1, (-2))] (n, upS s 119 2 (wr ((s 119 2) + 1)))))))) :
    G 2 120 116 0 [(3, 2), (1, a0), (1, a1), (0, 0)] [] (n, s) Q := by
  refine G_go rfl rfl ?_
  refine G_go rfl rfl ?_
  refine G_call rfl rfl ?_
  refine G_go rfl rfl ?_
  refine G_rf rfl rfl (by decide) (hR 2 0 3 rfl) ?_
  refine G_go rfl rfl ?_
  refine G_call rfl rfl ?_
  refine G_go rfl rfl ?_
  refine G_lt rfl rfl (fun c1 => ?_) (fun c1 => ?_)
  · have h := h.1 c1
    refine G_go rfl rfl ?_
    refine G_ret rfl rfl ?_
    refine G_brT rfl rfl rfl ?_
    refine G_go rfl rfl ?_
    refine G_ret rfl rfl ?_
    refine G_go rfl rfl ?_
    refine G_go rfl rfl ?_
    refine G_call rfl rfl ?_
    refine G_go rfl rfl ?_
    refine G_lt rfl rfl (fun c2 => ?_) (fun c2 => ?_)
    · have h := h.1 c2
      refine G_go rfl rfl ?_
      refine G_go rfl rfl ?_
      refine G_ret rfl rfl ?_
      refine G_call rfl rfl ?_
      refine G_go rfl rfl ?_
      refine G_brF rfl rfl rfl ?_
      refine G_go rfl rfl ?_
      refine G_go rfl rfl ?_
      refine G_ret rfl rfl ?_
      refine G_go rfl rfl ?_
      show G 2 120 116 15 [(3, 2), (1, a0), (1, a1), (1, (-1))] [] (n, s) Q
      refine G_go rfl rfl ?_
      refine G_brF rfl rfl rfl ?_
      refine G_go rfl rfl ?_
      refine G_go rfl rfl ?_
      refine G_call rfl rfl ?_
      refine G_go rfl rfl ?_
      refine G_go rfl rfl ?_
      refine G_go rfl rfl ?_
      refine G_go rfl rfl ?_
      refine G_brF rfl rfl rfl ?_
      refine G_go rfl rfl ?_
      refine G_go rfl rfl ?_
      refine G_rf rfl rfl (by decide) (hR 2 7 119 rfl) ?_
      refine G_go rfl rfl ?_
      refine G_brF rfl rfl rfl ?_
      refine G_go rfl rfl ?_
      refine G_rf rfl rfl (by decide) (hR 2 7 119 rfl) ?_
      refine G_go rfl rfl ?_
      refine G_go rfl rfl ?_
      refine G_ir (n := 7) rfl rfl (by decide) (by decide) (by decide) ?_
      refine G_go rfl rfl ?_
      refine G_go rfl rfl ?_
      refine G_iw (n := 7) rfl rfl (by decide) (by decide) (by decide) ?_
      have hR := refs_up (a := 119) (k := 1) (x := wr ((s 119 1) + 1)) hR rfl
      refine G_go rfl rfl ?_
      refine G_ret rfl rfl ?_
      exact G_ret rfl rfl h
    · have h := h.2 c2
      refine G_go rfl rfl ?_
      refine G_go rfl rfl ?_
      refine G_le rfl rfl (fun c3 => ?_) (fun c3 => ?_)
      · have h := h.1 c3
        refine G_go rfl rfl ?_
        refine G_ret rfl rfl ?_
        refine G_call rfl rfl ?_
        refine G_go rfl rfl ?_
        refine G_brF rfl rfl rfl ?_
        refine G_go rfl rfl ?_
        refine G_go rfl rfl ?_
        refine G_ret rfl rfl ?_
        refine G_go rfl rfl ?_
        show G 2 120 116 15 [(3, 2), (1, a0), (1, a1), (1, (-1))] [] (n, s) Q
        refine G_go rfl rfl ?_
        refine G_brF rfl rfl rfl ?_
        refine G_go rfl rfl ?_
        refine G_go rfl rfl ?_
        refine G_call rfl rfl ?_
        refine G_go rfl rfl ?_
        refine G_go rfl rfl ?_
        refine G_go rfl rfl ?_
        refine G_go rfl rfl ?_
        refine G_brF rfl rfl rfl ?_
        refine G_go rfl rfl ?_
        refine G_go rfl rfl ?_
        refine G_rf rfl rfl (by decide) (hR 2 7 119 rfl) ?_
        refine G_go rfl rfl ?_
        refine G_brF rfl rfl rfl ?_
        refine G_go rfl rfl ?_
        refine G_rf rfl rfl (by decide) (hR 2 7 119 rfl) ?_
        refine G_go rfl rfl ?_
        refine G_go rfl rfl ?_
        refine G_ir (n := 7) rfl rfl (by decide) (by decide) (by decide) ?_
        refine G_go rfl rfl ?_
        refine G_go rfl rfl ?_
        refine G_iw (n := 7) rfl rfl (by decide) (by decide) (by decide) ?_
        have hR := refs_up (a := 119) (k := 1) (x := wr ((s 119 1) + 1)) hR rfl
        refine G_go rfl rfl ?_
        refine G_ret rfl rfl ?_
        exact G_ret rfl rfl h
      · have h := h.2 c3
        refine G_go rfl rfl ?_
        refine G_go rfl rfl ?_
        refine G_ret rfl rfl ?_
        refine G_call rfl rfl ?_
        refine G_go rfl rfl ?_
        refine G_brF rfl rfl rfl ?_
        refine G_go rfl rfl ?_
        refine G_go rfl rfl ?_
        refine G_ret rfl rfl ?_
        refine G_go rfl rfl ?_
        show G 2 120 116 15 [(3, 2), (1, a0), (1, a1), (1, (-1))] [] (n, s) Q
        refine G_go rfl rfl ?_
        refine G_brF rfl rfl rfl ?_
        refine G_go rfl rfl ?_
        refine G_go rfl rfl ?_
        refine G_call rfl rfl ?_
        refine G_go rfl rfl ?_
        refine G_go rfl rfl ?_
        refine G_go rfl rfl ?_
        refine G_go rfl rfl ?_
        refine G_brF rfl rfl rfl ?_
        refine G_go rfl rfl ?_
        refine G_go rfl rfl ?_
        refine G_rf rfl rfl (by decide) (hR 2 7 119 rfl) ?_
        refine G_go rfl rfl ?_
        refine G_brF rfl rfl rfl ?_
        refine G_go rfl rfl ?_
        refine G_rf rfl rfl (by decide) (hR 2 7 119 rfl) ?_
        refine G_go rfl rfl ?_
        refine G_go rfl rfl ?_
        refine G_ir (n := 7) rfl rfl (by decide) (by decide) (by decide) ?_
        refine G_go rfl rfl ?_
        refine G_go rfl rfl ?_
        refine G_iw (n := 7) rfl rfl (by decide) (by decide) (by decide) ?_
        have hR := refs_up (a := 119) (k := 1) (x := wr ((s 119 1) + 1)) hR rfl
        refine G_go rfl rfl ?_
        refine G_ret rfl rfl ?_
        exact G_ret rfl rfl h
  · have h := h.2 c1
    refine G_go rfl rfl ?_
    refine G_go rfl rfl ?_
    refine G_rd rfl rfl (by decide) ?_
    refine G_ge rfl rfl (fun c4 => ?_) (fun c4 => ?_)
    · have h := h.1 c4
      refine G_go rfl rfl ?_
      refine G_ret rfl rfl ?_
      refine G_brT rfl rfl rfl ?_
      refine G_go rfl rfl ?_
      refine G_ret rfl rfl ?_
      refine G_go rfl rfl ?_
      refine G_go rfl rfl ?_
      refine G_call rfl rfl ?_
      refine G_go rfl rfl ?_
      refine G_lt rfl rfl (fun c5 => ?_) (fun c5 => ?_)
      · have h := h.1 c5
        refine G_go rfl rfl ?_
        refine G_go rfl rfl ?_
        refine G_ret rfl rfl ?_
        refine G_call rfl rfl ?_
        refine G_go rfl rfl ?_
        refine G_brF rfl rfl rfl ?_
        refine G_go rfl rfl ?_
        refine G_go rfl rfl ?_
        refine G_ret rfl rfl ?_
        refine G_go rfl rfl ?_
        show G 2 120 116 15 [(3, 2), (1, a0), (1, a1), (1, (-1))] [] (n, s) Q
        refine G_go rfl rfl ?_
        refine G_brF rfl rfl rfl ?_
        refine G_go rfl rfl ?_
        refine G_go rfl rfl ?_
        refine G_call rfl rfl ?_
        refine G_go rfl rfl ?_
        refine G_go rfl rfl ?_
        refine G_go rfl rfl ?_
        refine G_go rfl rfl ?_
        refine G_brF rfl rfl rfl ?_
        refine G_go rfl rfl ?_
        refine G_go rfl rfl ?_
        refine G_rf rfl rfl (by decide) (hR 2 7 119 rfl) ?_
        refine G_go rfl rfl ?_
        refine G_brF rfl rfl rfl ?_
        refine G_go rfl rfl ?_
        refine G_rf rfl rfl (by decide) (hR 2 7 119 rfl) ?_
        refine G_go rfl rfl ?_
        refine G_go rfl rfl ?_
        refine G_ir (n := 7) rfl rfl (by decide) (by decide) (by decide) ?_
        refine G_go rfl rfl ?_
        refine G_go rfl rfl ?_
        refine G_iw (n := 7) rfl rfl (by decide) (by decide) (by decide) ?_
        have hR := refs_up (a := 119) (k := 1) (x := wr ((s 119 1) + 1)) hR rfl
        refine G_go rfl rfl ?_
        refine G_ret rfl rfl ?_
        exact G_ret rfl rfl h
      · have h := h.2 c5
        refine G_go rfl rfl ?_
        refine G_go rfl rfl ?_
        refine G_le rfl rfl (fun c6 => ?_) (fun c6 => ?_)
        · have h := h.1 c6
          refine G_go rfl rfl ?_
          refine G_ret rfl rfl ?_
          refine G_call rfl rfl ?_
          refine G_go rfl rfl ?_
          refine G_brF rfl rfl rfl ?_
          refine G_go rfl rfl ?_
          refine G_go rfl rfl ?_
          refine G_ret rfl rfl ?_
          refine G_go rfl rfl ?_
          show G 2 120 116 15 [(3, 2), (1, a0), (1, a1), (1, (-1))] [] (n, s) Q
          refine G_go rfl rfl ?_
          refine G_brF rfl rfl rfl ?_
          refine G_go rfl rfl ?_
          refine G_go rfl rfl ?_
          refine G_call rfl rfl ?_
          refine G_go rfl rfl ?_
          refine G_go rfl rfl ?_
          refine G_go rfl rfl ?_
          refine G_go rfl rfl ?_
          refine G_brF rfl rfl rfl ?_
          refine G_go rfl rfl ?_
          refine G_go rfl rfl ?_
          refine G_rf rfl rfl (by decide) (hR 2 7 119 rfl) ?_
          refine G_go rfl rfl ?_
          refine G_brF rfl rfl rfl ?_
          refine G_go rfl rfl ?_
          refine G_rf rfl rfl (by decide) (hR 2 7 119 rfl) ?_
          refine G_go rfl rfl ?_
          refine G_go rfl rfl ?_
          refine G_ir (n := 7) rfl rfl (by decide) (by decide) (by decide) ?_
          refine G_go rfl rfl ?_
          refine G_go rfl rfl ?_
          refine G_iw (n := 7) rfl rfl (by decide) (by decide) (by decide) ?_
          have hR := refs_up (a := 119) (k := 1) (x := wr ((s 119 1) + 1)) hR rfl
          refine G_go rfl rfl ?_
          refine G_ret rfl rfl ?_
          exact G_ret rfl rfl h
        · have h := h.2 c6
          refine G_go rfl rfl ?_
          refine G_go rfl rfl ?_
          refine G_ret rfl rfl ?_
          refine G_call rfl rfl ?_
          refine G_go rfl rfl ?_
          refine G_brF rfl rfl rfl ?_
          refine G_go rfl rfl ?_
          refine G_go rfl rfl ?_
          refine G_ret rfl rfl ?_
          refine G_go rfl rfl ?_
          show G 2 120 116 15 [(3, 2), (1, a0), (1, a1), (1, (-1))] [] (n, s) Q
          refine G_go rfl rfl ?_
          refine G_brF rfl rfl rfl ?_
          refine G_go rfl rfl ?_
          refine G_go rfl rfl ?_
          refine G_call rfl rfl ?_
          refine G_go rfl rfl ?_
          refine G_go rfl rfl ?_
          refine G_go rfl rfl ?_
          refine G_go rfl rfl ?_
          refine G_brF rfl rfl rfl ?_
          refine G_go rfl rfl ?_
          refine G_go rfl rfl ?_
          refine G_rf rfl rfl (by decide) (hR 2 7 119 rfl) ?_
          refine G_go rfl rfl ?_
          refine G_brF rfl rfl rfl ?_
          refine G_go rfl rfl ?_
          refine G_rf rfl rfl (by decide) (hR 2 7 119 rfl) ?_
          refine G_go rfl rfl ?_
          refine G_go rfl rfl ?_
          refine G_ir (n := 7) rfl rfl (by decide) (by decide) (by decide) ?_
          refine G_go rfl rfl ?_
          refine G_go rfl rfl ?_
          refine G_iw (n := 7) rfl rfl (by decide) (by decide) (by decide) ?_
          have hR := refs_up (a := 119) (k := 1) (x := wr ((s 119 1) + 1)) hR rfl
          refine G_go rfl rfl ?_
          refine G_ret rfl rfl ?_
          exact G_ret rfl rfl h
    · have h := h.2 c4
      refine G_go rfl rfl ?_
      refine G_go rfl rfl ?_
      refine G_ret rfl rfl ?_
      refine G_brF rfl rfl rfl ?_
      refine G_go rfl rfl ?_
      refine G_go rfl rfl ?_
      refine G_ret rfl rfl ?_
      refine G_go rfl rfl ?_
      refine G_go rfl rfl ?_
      refine G_call rfl rfl ?_
      refine G_go rfl rfl ?_
      refine G_lt rfl rfl (fun c7 => ?_) (fun c7 => ?_)
      · have h := h.1 c7
        refine G_go rfl rfl ?_
        refine G_go rfl rfl ?_
        refine G_ret rfl rfl ?_
        refine G_call rfl rfl ?_
        refine G_go rfl rfl ?_
        refine G_brT rfl rfl rfl ?_
        refine G_go rfl rfl ?_
        refine G_ret rfl rfl ?_
        refine G_go rfl rfl ?_
        show G 2 120 116 15 [(3, 2), (1, a0), (1, a1), (1, (-2))] [] (n, s) Q
        refine G_go rfl rfl ?_
        refine G_brF rfl rfl rfl ?_
        refine G_go rfl rfl ?_
        refine G_go rfl rfl ?_
        refine G_call rfl rfl ?_
        refine G_go rfl rfl ?_
        refine G_go rfl rfl ?_
        refine G_go rfl rfl ?_
        refine G_go rfl rfl ?_
        refine G_brF rfl rfl rfl ?_
        refine G_go rfl rfl ?_
        refine G_go rfl rfl ?_
        refine G_rf rfl rfl (by decide) (hR 2 7 119 rfl) ?_
        refine G_go rfl rfl ?_
        refine G_brF rfl rfl rfl ?_
        refine G_go rfl rfl ?_
        refine G_rf rfl rfl (by decide) (hR 2 7 119 rfl) ?_
        refine G_go rfl rfl ?_
        refine G_go rfl rfl ?_
        refine G_ir (n := 7) rfl rfl (by decide) (by decide) (by decide) ?_
        refine G_go rfl rfl ?_
        refine G_go rfl rfl ?_
        refine G_iw (n := 7) rfl rfl (by decide) (by decide) (by decide) ?_
        have hR := refs_up (a := 119) (k := 2) (x := wr ((s 119 2) + 1)) hR rfl
        refine G_go rfl rfl ?_
        refine G_ret rfl rfl ?_
        exact G_ret rfl rfl h
      · have h := h.2 c7
        refine G_go rfl rfl ?_
        refine G_go rfl rfl ?_
        refine G_le rfl rfl (fun c8 => ?_) (fun c8 => ?_)
        · have h := h.1 c8
          refine G_go rfl rfl ?_
          refine G_ret rfl rfl ?_
          refine G_call rfl rfl ?_
          refine G_go rfl rfl ?_
          refine G_brT rfl rfl rfl ?_
          refine G_go rfl rfl ?_
          refine G_ret rfl rfl ?_
          refine G_go rfl rfl ?_
          show G 2 120 116 15 [(3, 2), (1, a0), (1, a1), (1, 0)] [] (n, s) Q
          refine G_go rfl rfl ?_
          refine G_brT rfl rfl rfl ?_
          refine G_go rfl rfl ?_
          by_cases hs26_0 : a1 = 0
          · refine G_k hs26_0 rfl rfl ?_
            have h := h.1 hs26_0
            refine G_go rfl rfl ?_
            refine G_rf rfl rfl (by decide) (hR 2 0 3 rfl) ?_
            refine G_rf rfl rfl (by decide) (hR 3 0 4 rfl) ?_
            refine G_go rfl rfl ?_
            obtain ⟨g9, h⟩ := h
            refine G_ir (n := 6) rfl rfl (by decide) (by decide) g9 ?_
            exact G_ret rfl rfl h
          replace h := h.2
          by_cases hs26_1 : a1 = 1
          · refine G_k hs26_1 rfl rfl ?_
            have h := h.1 hs26_1
            refine G_go rfl rfl ?_
            refine G_rf rfl rfl (by decide) (hR 2 0 3 rfl) ?_
            refine G_rf rfl rfl (by decide) (hR 3 1 5 rfl) ?_
            refine G_go rfl rfl ?_
            obtain ⟨g10, h⟩ := h
            refine G_ir (n := 6) rfl rfl (by decide) (by decide) g10 ?_
            exact G_ret rfl rfl h
          replace h := h.2
          by_cases hs26_2 : a1 = 2
          · refine G_k hs26_2 rfl rfl ?_
            have h := h.1 hs26_2
            refine G_go rfl rfl ?_
            refine G_rf rfl rfl (by decide) (hR 2 0 3 rfl) ?_
            refine G_rf rfl rfl (by decide) (hR 3 2 6 rfl) ?_
            refine G_go rfl rfl ?_
            obtain ⟨g11, h⟩ := h
            refine G_ir (n := 6) rfl rfl (by decide) (by decide) g11 ?_
            exact G_ret rfl rfl h
          replace h := h.2
          by_cases hs26_3 : a1 = 3
          · refine G_k hs26_3 rfl rfl ?_
            have h := h.1 hs26_3
            refine G_go rfl rfl ?_
            refine G_rf rfl rfl (by decide) (hR 2 0 3 rfl) ?_
            refine G_rf rfl rfl (by decide) (hR 3 3 7 rfl) ?_
            refine G_go rfl rfl ?_
            obtain ⟨g12, h⟩ := h
            refine G_ir (n := 6) rfl rfl (by decide) (by decide) g12 ?_
            exact G_ret rfl rfl h
          replace h := h.2
          by_cases hs26_4 : a1 = 4
          · refine G_k hs26_4 rfl rfl ?_
            have h := h.1 hs26_4
            refine G_go rfl rfl ?_
            refine G_rf rfl rfl (by decide) (hR 2 0 3 rfl) ?_
            refine G_rf rfl rfl (by decide) (hR 3 4 8 rfl) ?_
            refine G_go rfl rfl ?_
            obtain ⟨g13, h⟩ := h
            refine G_ir (n := 6) rfl rfl (by decide) (by decide) g13 ?_
            exact G_ret rfl rfl h
          replace h := h.2
          by_cases hs26_5 : a1 = 5
          · refine G_k hs26_5 rfl rfl ?_
            have h := h.1 hs26_5
            refine G_go rfl rfl ?_
            refine G_rf rfl rfl (by decide) (hR 2 0 3 rfl) ?_
            refine G_rf rfl rfl (by decide) (hR 3 5 9 rfl) ?_
            refine G_go rfl rfl ?_
            obtain ⟨g14, h⟩ := h
            refine G_zr (n := 6) rfl rfl (by decide) (by decide) g14 ?_
            refine G_call rfl rfl ?_
            refine G_go rfl rfl ?_
            refine G_eq rfl rfl (fun c15 => ?_) (fun c15 => ?_)
            · have h := h.1 c15
              refine G_go rfl rfl ?_
              refine G_ret rfl rfl ?_
              exact G_ret rfl rfl h
            · have h := h.2 c15
              refine G_go rfl rfl ?_
              refine G_go rfl rfl ?_
              refine G_ret rfl rfl ?_
              exact G_ret rfl rfl h
          replace h := h.2
          by_cases hs26_6 : a1 = 6
          · refine G_k hs26_6 rfl rfl ?_
            have h := h.1 hs26_6
            refine G_go rfl rfl ?_
            refine G_rf rfl rfl (by decide) (hR 2 0 3 rfl) ?_
            refine G_rf rfl rfl (by decide) (hR 3 6 10 rfl) ?_
            refine G_go rfl rfl ?_
            obtain ⟨g16, h⟩ := h
            refine G_ir (n := 6) rfl rfl (by decide) (by decide) g16 ?_
            exact G_ret rfl rfl h
          replace h := h.2
          by_cases hs26_7 : a1 = 7
          · refine G_k hs26_7 rfl rfl ?_
            have h := h.1 hs26_7
            refine G_go rfl rfl ?_
            refine G_rf rfl rfl (by decide) (hR 2 0 3 rfl) ?_
            refine G_rf rfl rfl (by decide) (hR 3 7 11 rfl) ?_
            refine G_go rfl rfl ?_
            obtain ⟨g17, h⟩ := h
            refine G_ir (n := 6) rfl rfl (by decide) (by decide) g17 ?_
            refine G_go rfl rfl ?_
            refine G_ne rfl rfl (fun c18 => ?_) (fun c18 => ?_)
            · have h := h.1 c18
              refine G_go rfl rfl ?_
              refine G_rf rfl rfl (by decide) (hR 2 0 3 rfl) ?_
              refine G_rf rfl rfl (by decide) (hR 3 7 11 rfl) ?_
              refine G_go rfl rfl ?_
              refine G_ir (n := 6) rfl rfl (by decide) (by decide) g17 ?_
              exact G_ret rfl rfl h
            · have h := h.2 c18
              refine G_go rfl rfl ?_
              refine G_go rfl rfl ?_
              exact G_ret rfl rfl h
          replace h := h.2
          by_cases hs26_8 : a1 = 8
          · refine G_k hs26_8 rfl rfl ?_
            have h := h.1 hs26_8
            refine G_go rfl rfl ?_
            refine G_rf rfl rfl (by decide) (hR 2 0 3 rfl) ?_
            refine G_go rfl rfl ?_
            refine G_call rfl rfl ?_
            refine G_go rfl rfl ?_
            refine G_rf rfl rfl (by decide) (hR 3 0 4 rfl) ?_
            refine G_go rfl rfl ?_
            obtain ⟨g19, h⟩ := h
            refine G_ir (n := 6) rfl rfl (by decide) (by decide) g19 ?_
            refine G_go rfl rfl ?_
            refine G_rf rfl rfl (by decide) (hR 3 1 5 rfl) ?_
            refine G_go rfl rfl ?_
            refine G_ir (n := 6) rfl rfl (by decide) (by decide) g19 ?_
            refine G_go rfl rfl ?_
            refine G_rf rfl rfl (by decide) (hR 3 2 6 rfl) ?_
            refine G_go rfl rfl ?_
            refine G_ir (n := 6) rfl rfl (by decide) (by decide) g19 ?_
            refine G_go rfl rfl ?_
            refine G_rf rfl rfl (by decide) (hR 3 3 7 rfl) ?_
            refine G_go rfl rfl ?_
            refine G_ir (n := 6) rfl rfl (by decide) (by decide) g19 ?_
            refine G_call rfl rfl ?_
            obtain ⟨g20, h⟩ := h
            obtain ⟨g21, h⟩ := h
            obtain ⟨g22, h⟩ := h
            refine c_X1_wealth n _ _ (s 4 a0.toNat) (s 5 a0.toNat) (s 6 a0.toNat) (s 7 a0.toNat) hR g20 g21 g22 ?_
            refine G_ret rfl rfl ?_
            exact G_ret rfl rfl h
          replace h := h.2
          by_cases hs26_9 : a1 = 9
          · refine G_k hs26_9 rfl rfl ?_
            have h := h.1 hs26_9
            refine G_go rfl rfl ?_
            refine G_rf rfl rfl (by decide) (hR 2 0 3 rfl) ?_
            refine G_go rfl rfl ?_
            refine G_call rfl rfl ?_
            refine G_go rfl rfl ?_
            refine G_go rfl rfl ?_
            refine G_go rfl rfl ?_
            refine G_rf rfl rfl (by decide) (hR 3 2 6 rfl) ?_
            refine G_go rfl rfl ?_
            obtain ⟨g23, h⟩ := h
            refine G_ir (n := 6) rfl rfl (by decide) (by decide) g23 ?_
            refine G_call rfl rfl ?_
            obtain ⟨g24, h⟩ := h
            obtain ⟨g25, h⟩ := h
            refine c_X5_burnsHolding_3 n _ _ a0 (s 6 a0.toNat) hR g23 g24 g25 ?_
            refine G_ret rfl rfl ?_
            exact G_ret rfl rfl h
          replace h := h.2
          have hd26 : a1 < 0 ∨ 9 < a1 := by omega
          refine G_tsd rfl rfl hd26 ?_
          replace h := h hd26
          refine G_go rfl rfl ?_
          refine G_rf rfl rfl (by decide) (hR 2 0 3 rfl) ?_
          refine G_go rfl rfl ?_
          refine G_call rfl rfl ?_
          refine G_go rfl rfl ?_
          refine G_rf rfl rfl (by decide) (hR 3 0 4 rfl) ?_
          refine G_go rfl rfl ?_
          obtain ⟨g26, h⟩ := h
          refine G_ir (n := 6) rfl rfl (by decide) (by decide) g26 ?_
          refine G_go rfl rfl ?_
          refine G_rf rfl rfl (by decide) (hR 3 1 5 rfl) ?_
          refine G_go rfl rfl ?_
          refine G_ir (n := 6) rfl rfl (by decide) (by decide) g26 ?_
          refine G_call rfl rfl ?_
          refine c_X1_honest n _ _ (s 4 a0.toNat) (s 5 a0.toNat) hR ?_
          obtain ⟨g27, h⟩ := h
          refine G_retZ rfl rfl g27 ?_
          refine G_call rfl rfl ?_
          refine G_go rfl rfl ?_
          refine G_eq rfl rfl (fun c28 => ?_) (fun c28 => ?_)
          · have h := h.1 c28
            refine G_go rfl rfl ?_
            refine G_ret rfl rfl ?_
            exact G_ret rfl rfl h
          · have h := h.2 c28
            refine G_go rfl rfl ?_
            refine G_go rfl rfl ?_
            refine G_ret rfl rfl ?_
            exact G_ret rfl rfl h
        · have h := h.2 c8
          refine G_go rfl rfl ?_
          refine G_go rfl rfl ?_
          refine G_ret rfl rfl ?_
          refine G_call rfl rfl ?_
          refine G_go rfl rfl ?_
          refine G_brT rfl rfl rfl ?_
          refine G_go rfl rfl ?_
          refine G_ret rfl rfl ?_
          refine G_go rfl rfl ?_
          show G 2 120 116 15 [(3, 2), (1, a0), (1, a1), (1, (-2))] [] (n, s) Q
          refine G_go rfl rfl ?_
          refine G_brF rfl rfl rfl ?_
          refine G_go rfl rfl ?_
          refine G_go rfl rfl ?_
          refine G_call rfl rfl ?_
          refine G_go rfl rfl ?_
          refine G_go rfl rfl ?_
          refine G_go rfl rfl ?_
          refine G_go rfl rfl ?_
          refine G_brF rfl rfl rfl ?_
          refine G_go rfl rfl ?_
          refine G_go rfl rfl ?_
          refine G_rf rfl rfl (by decide) (hR 2 7 119 rfl) ?_
          refine G_go rfl rfl ?_
          refine G_brF rfl rfl rfl ?_
          refine G_go rfl rfl ?_
          refine G_rf rfl rfl (by decide) (hR 2 7 119 rfl) ?_
          refine G_go rfl rfl ?_
          refine G_go rfl rfl ?_
          refine G_ir (n := 7) rfl rfl (by decide) (by decide) (by decide) ?_
          refine G_go rfl rfl ?_
          refine G_go rfl rfl ?_
          refine G_iw (n := 7) rfl rfl (by decide) (by decide) (by decide) ?_
          have hR := refs_up (a := 119) (k := 2) (x := wr ((s 119 2) + 1)) hR rfl
          refine G_go rfl rfl ?_
          refine G_ret rfl rfl ?_
          exact G_ret rfl rfl h
theorem sb_X7_personOf_0 (n : Nat) (s : Nat → Nat → Int) (Q : List Vl → Sto → Prop) (a0 : Int) (a1 : Int) (hR : refs s)
    (h : (a0 < 0 → (a0 < 0 → Q [(1, (-1))] (n, upS (upS s 120 10 0) 129 1 (wr ((s 129 1) + 1)))) ∧ (a0 ≥ 0 → (a0 > wr ((s 120 0) - 1) → Q [(1, (-1))] (n, upS (upS s 120 10 0) 129 1 (wr ((s 129 1) + 1)))) ∧ (a0 ≤ wr ((s 120 0) - 1) → Q [(1, (-2))] (n, upS (upS s 120 10 0) 129 2 (wr ((s 129 2) + 1)))))) ∧ (a0 ≥ 0 → (a0 > wr ((s 120 0) - 1) → (a0 < 0 → Q [(1, (-1))] (n, upS (upS s 120 10 0) 129 1 (wr ((s 129 1) + 1)))) ∧ (a0 ≥ 0 → (a0 > wr ((s 120 0) - 1) → Q [(1, (-1))] (n, upS (upS s 120 10 0) 129 1 (wr ((s 129 1) + 1)))) ∧ (a0 ≤ wr ((s 120 0) - 1) → Q [(1, (-2))] (n, upS (upS s 120 10 0) 129 2 (wr ((s 129 2) + 1)))))) ∧ (a0 ≤ wr ((s 120 0) - 1) → (a1 < 0 → (a0 < 0 → Q [(1, (-1))] (n, upS (upS s 120 10 0) 129 1 (wr ((s 129 1) + 1)))) ∧ (a0 ≥ 0 → (a0 > wr ((s 120 0) - 1) → Q [(1, (-1))] (n, upS (upS s 120 10 0) 129 1 (wr ((s 129 1) + 1)))) ∧ (a0 ≤ wr ((s 120 0) - 1) → Q [(1, (-2))] (n, upS (upS s 120 10 0) 129 2 (wr ((s 129 2) + 1)))))) ∧ (a1 ≥ 0 → (a1 > 10 → (a0 < 0 → Q [(1, (-1))] (n, upS (upS s 120 10 0) 129 1 (wr ((s 129 1) + 1)))) ∧ (a0 ≥ 0 → (a0 > wr ((s 120 0) - 1) → Q [(1, (-1))] (n, upS (upS s 120 10 0) 129 1 (wr ((s 129 1) + 1)))) ∧ (a0 ≤ wr ((s 120 0) - 1) → Q [(1, (-2))] (n, upS (upS s 120 10 0) 129 2 (wr ((s 129 2) + 1)))))) ∧ (a1 ≤ 10 → (a1 = 0 → (0 ≤ a0 ∧ a0 < 6) ∧ (Q [(1, s 121 a0.toNat)] (n, upS s 120 10 0))) ∧ (a1 = 1 → (0 ≤ a0 ∧ a0 < 6) ∧ (Q [(1, s 122 a0.toNat)] (n, upS s 120 10 0))) ∧ (a1 = 2 → (0 ≤ a0 ∧ a0 < 6) ∧ (Q [(1, s 123 a0.toNat)] (n, upS s 120 10 0))) ∧ (a1 = 3 → (0 ≤ a0 ∧ a0 < 6) ∧ (Q [(1, s 124 a0.toNat)] (n, upS s 120 10 0))) ∧ (a1 = 4 → (0 ≤ a0 ∧ a0 < 6) ∧ (Q [(1, s 125 a0.toNat)] (n, upS s 120 10 0))) ∧ (a1 = 5 → (0 ≤ a0 ∧ a0 < 6) ∧ (Q [(1, s 126 a0.toNat)] (n, upS s 120 10 0))) ∧ (a1 = 6 → (0 ≤ a0 ∧ a0 < 6) ∧ (Q [(1, s 127 a0.toNat)] (n, upS s 120 10 0))) ∧ (a1 = 7 → (0 ≤ a0 ∧ a0 < 6) ∧ (Q [(1, s 128 a0.toNat)] (n, upS s 120 10 0))) ∧ (a1 = 8 → (0 ≤ a0 ∧ a0 < 6) ∧ ((rgP (vw 121 (upS s 120 10 0)) a0.toNat) ∧ ((0 ≤ vw 121 (upS s 120 10 0) 2 a0.toNat ∧ vw 121 (upS s 120 10 0) 2 a0.toNat ≤ 2000) ∧ (Q [(1, wlW (vw 121 (upS s 120 10 0)) a0.toNat)] (n, upS s 120 10 0))))) ∧ (a1 = 9 → (0 ≤ a0 ∧ a0 < 6) ∧ ((rgP (vw 121 (upS s 120 10 0)) a0.toNat) ∧ ((0 ≤ vw 121 (upS s 120 10 0) 2 a0.toNat ∧ vw 121 (upS s 120 10 0) 2 a0.toNat ≤ 2000) ∧ (Q [(1, bnW (vw 121 (upS s 120 10 0)) a0.toNat)] (n, upS s 120 10 0))))) ∧ (a1 < 0 ∨ 9 < a1 → (0 ≤ a0 ∧ a0 < 6) ∧ ((hnW (vw 121 (upS s 120 10 0)) a0.toNat = 0 → Q [(1, 0)] (n, upS s 120 10 0)) ∧ (hnW (vw 121 (upS s 120 10 0)) a0.toNat ≠ 0 → Q [(1, 1)] (n, upS s 120 10 0))))))))) :
    G 120 140 203 0 [(3, 120), (1, a0), (1, a1)] [] (n, s) Q := by
  refine G_go rfl rfl ?_
  refine G_go rfl rfl ?_
  refine G_wr rfl rfl (by decide) ?_
  have hR := refs_up (a := 120) (k := 10) (x := 0) hR rfl
  refine G_go rfl rfl ?_
  refine G_go rfl rfl ?_
  refine G_call rfl rfl ?_
  refine G_go rfl rfl ?_
  refine G_go rfl rfl ?_
  refine G_go rfl rfl ?_
  refine G_go rfl rfl ?_
  refine G_rd rfl rfl (by decide) ?_
  refine G_go rfl rfl ?_
  refine G_go rfl rfl ?_
  refine G_go rfl rfl ?_
  refine G_call rfl rfl ?_
  refine G_go rfl rfl ?_
  refine G_go rfl rfl ?_
  refine G_go rfl rfl ?_
  refine G_lt rfl rfl (fun c1 => ?_) (fun c1 => ?_)
  · have c1 := xl_lt c1
    have h := h.1 c1
    refine G_go rfl rfl ?_
    refine G_ret rfl rfl ?_
    refine G_ret rfl rfl ?_
    refine G_brT rfl rfl rfl ?_
    refine G_go rfl rfl ?_
    refine G_go rfl rfl ?_
    refine G_go rfl rfl ?_
    refine G_call rfl rfl ?_
    refine G_go rfl rfl ?_
    refine G_go rfl rfl ?_
    refine G_go rfl rfl ?_
    refine G_go rfl rfl ?_
    refine G_rd rfl rfl (by decide) ?_
    refine G_go rfl rfl ?_
    refine G_go rfl rfl ?_
    refine G_go rfl rfl ?_
    refine G_call rfl rfl ?_
    refine G_go rfl rfl ?_
    refine G_go rfl rfl ?_
    refine G_go rfl rfl ?_
    refine G_lt rfl rfl (fun c2 => ?_) (fun c2 => ?_)
    · have c2 := xl_lt c2
      have h := h.1 c2
      refine G_go rfl rfl ?_
      refine G_ret rfl rfl ?_
      refine G_ret rfl rfl ?_
      refine G_brT rfl rfl rfl ?_
      refine G_go rfl rfl ?_
      refine G_call rfl rfl ?_
      refine G_go rfl rfl ?_
      refine G_rf rfl rfl (by decide) (hR 120 11 129 rfl) ?_
      refine G_go rfl rfl ?_
      refine G_go rfl rfl ?_
      refine G_go rfl rfl ?_
      refine G_ir (n := 7) rfl rfl (by decide) (by decide) (by decide) ?_
      refine G_go rfl rfl ?_
      refine G_go rfl rfl ?_
      refine G_iw (n := 7) rfl rfl (by decide) (by decide) (by decide) ?_
      have hR := refs_up (a := 129) (k := 1) (x := wr ((s 129 1) + 1)) hR rfl
      refine G_go rfl rfl ?_
      refine G_ret rfl rfl ?_
      exact G_ret rfl rfl h
    · have c2 := xl_ge c2
      have h := h.2 c2
      refine G_go rfl rfl ?_
      refine G_go rfl rfl ?_
      refine G_go rfl rfl ?_
      refine G_gt rfl rfl (fun c3 => ?_) (fun c3 => ?_)
      · have c3 := xl_gt c3
        have h := h.1 c3
        refine G_go rfl rfl ?_
        refine G_ret rfl rfl ?_
        refine G_ret rfl rfl ?_
        refine G_brT rfl rfl rfl ?_
        refine G_go rfl rfl ?_
        refine G_call rfl rfl ?_
        refine G_go rfl rfl ?_
        refine G_rf rfl rfl (by decide) (hR 120 11 129 rfl) ?_
        refine G_go rfl rfl ?_
        refine G_go rfl rfl ?_
        refine G_go rfl rfl ?_
        refine G_ir (n := 7) rfl rfl (by decide) (by decide) (by decide) ?_
        refine G_go rfl rfl ?_
        refine G_go rfl rfl ?_
        refine G_iw (n := 7) rfl rfl (by decide) (by decide) (by decide) ?_
        have hR := refs_up (a := 129) (k := 1) (x := wr ((s 129 1) + 1)) hR rfl
        refine G_go rfl rfl ?_
        refine G_ret rfl rfl ?_
        exact G_ret rfl rfl h
      · have c3 := xl_le c3
        have h := h.2 c3
        refine G_go rfl rfl ?_
        refine G_go rfl rfl ?_
        refine G_ret rfl rfl ?_
        refine G_ret rfl rfl ?_
        refine G_brF rfl rfl rfl ?_
        refine G_go rfl rfl ?_
        refine G_go rfl rfl ?_
        refine G_call rfl rfl ?_
        refine G_go rfl rfl ?_
        refine G_rf rfl rfl (by decide) (hR 120 11 129 rfl) ?_
        refine G_go rfl rfl ?_
        refine G_go rfl rfl ?_
        refine G_go rfl rfl ?_
        refine G_ir (n := 7) rfl rfl (by decide) (by decide) (by decide) ?_
        refine G_go rfl rfl ?_
        refine G_go rfl rfl ?_
        refine G_iw (n := 7) rfl rfl (by decide) (by decide) (by decide) ?_
        have hR := refs_up (a := 129) (k := 2) (x := wr ((s 129 2) + 1)) hR rfl
        refine G_go rfl rfl ?_
        refine G_ret rfl rfl ?_
        exact G_ret rfl rfl h
  · have c1 := xl_ge c1
    have h := h.2 c1
    refine G_go rfl rfl ?_
    refine G_go rfl rfl ?_
    refine G_go rfl rfl ?_
    refine G_gt rfl rfl (fun c4 => ?_) (fun c4 => ?_)
    · have c4 := xl_gt c4
      have h := h.1 c4
      refine G_go rfl rfl ?_
      refine G_ret rfl rfl ?_
      refine G_ret rfl rfl ?_
      refine G_brT rfl rfl rfl ?_
      refine G_go rfl rfl ?_
      refine G_go rfl rfl ?_
      refine G_go rfl rfl ?_
      refine G_call rfl rfl ?_
      refine G_go rfl rfl ?_
      refine G_go rfl rfl ?_
      refine G_go rfl rfl ?_
      refine G_go rfl rfl ?_
      refine G_rd rfl rfl (by decide) ?_
      refine G_go rfl rfl ?_
      refine G_go rfl rfl ?_
      refine G_go rfl rfl ?_
      refine G_call rfl rfl ?_
      refine G_go rfl rfl ?_
      refine G_go rfl rfl ?_
      refine G_go rfl rfl ?_
      refine G_lt rfl rfl (fun c5 => ?_) (fun c5 => ?_)
      · have c5 := xl_lt c5
        have h := h.1 c5
        refine G_go rfl rfl ?_
        refine G_ret rfl rfl ?_
        refine G_ret rfl rfl ?_
        refine G_brT rfl rfl rfl ?_
        refine G_go rfl rfl ?_
        refine G_call rfl rfl ?_
        refine G_go rfl rfl ?_
        refine G_rf rfl rfl (by decide) (hR 120 11 129 rfl) ?_
        refine G_go rfl rfl ?_
        refine G_go rfl rfl ?_
        refine G_go rfl rfl ?_
        refine G_ir (n := 7) rfl rfl (by decide) (by decide) (by decide) ?_
        refine G_go rfl rfl ?_
        refine G_go rfl rfl ?_
        refine G_iw (n := 7) rfl rfl (by decide) (by decide) (by decide) ?_
        have hR := refs_up (a := 129) (k := 1) (x := wr ((s 129 1) + 1)) hR rfl
        refine G_go rfl rfl ?_
        refine G_ret rfl rfl ?_
        exact G_ret rfl rfl h
      · have c5 := xl_ge c5
        have h := h.2 c5
        refine G_go rfl rfl ?_
        refine G_go rfl rfl ?_
        refine G_go rfl rfl ?_
        refine G_gt rfl rfl (fun c6 => ?_) (fun c6 => ?_)
        · have c6 := xl_gt c6
          have h := h.1 c6
          refine G_go rfl rfl ?_
          refine G_ret rfl rfl ?_
          refine G_ret rfl rfl ?_
          refine G_brT rfl rfl rfl ?_
          refine G_go rfl rfl ?_
          refine G_call rfl rfl ?_
          refine G_go rfl rfl ?_
          refine G_rf rfl rfl (by decide) (hR 120 11 129 rfl) ?_
          refine G_go rfl rfl ?_
          refine G_go rfl rfl ?_
          refine G_go rfl rfl ?_
          refine G_ir (n := 7) rfl rfl (by decide) (by decide) (by decide) ?_
          refine G_go rfl rfl ?_
          refine G_go rfl rfl ?_
          refine G_iw (n := 7) rfl rfl (by decide) (by decide) (by decide) ?_
          have hR := refs_up (a := 129) (k := 1) (x := wr ((s 129 1) + 1)) hR rfl
          refine G_go rfl rfl ?_
          refine G_ret rfl rfl ?_
          exact G_ret rfl rfl h
        · have c6 := xl_le c6
          have h := h.2 c6
          refine G_go rfl rfl ?_
          refine G_go rfl rfl ?_
          refine G_ret rfl rfl ?_
          refine G_ret rfl rfl ?_
          refine G_brF rfl rfl rfl ?_
          refine G_go rfl rfl ?_
          refine G_go rfl rfl ?_
          refine G_call rfl rfl ?_
          refine G_go rfl rfl ?_
          refine G_rf rfl rfl (by decide) (hR 120 11 129 rfl) ?_
          refine G_go rfl rfl ?_
          refine G_go rfl rfl ?_
          refine G_go rfl rfl ?_
          refine G_ir (n := 7) rfl rfl (by decide) (by decide) (by decide) ?_
          refine G_go rfl rfl ?_
          refine G_go rfl rfl ?_
          refine G_iw (n := 7) rfl rfl (by decide) (by decide) (by decide) ?_
          have hR := refs_up (a := 129) (k := 2) (x := wr ((s 129 2) + 1)) hR rfl
          refine G_go rfl rfl ?_
          refine G_ret rfl rfl ?_
          exact G_ret rfl rfl h
    · have c4 := xl_le c4
      have h := h.2 c4
      refine G_go rfl rfl ?_
      refine G_go rfl rfl ?_
      refine G_ret rfl rfl ?_
      refine G_ret rfl rfl ?_
      refine G_brF rfl rfl rfl ?_
      refine G_go rfl rfl ?_
      refine G_go rfl rfl ?_
      refine G_go rfl rfl ?_
      refine G_go rfl rfl ?_
      refine G_call rfl rfl ?_
      refine G_go rfl rfl ?_
      refine G_go rfl rfl ?_
      refine G_go rfl rfl ?_
      refine G_lt rfl rfl (fun c7 => ?_) (fun c7 => ?_)
      · have c7 := xl_lt c7
        have h := h.1 c7
        refine G_go rfl rfl ?_
        refine G_ret rfl rfl ?_
        refine G_brF rfl rfl rfl ?_
        refine G_go rfl rfl ?_
        refine G_go rfl rfl ?_
        refine G_go rfl rfl ?_
        refine G_call rfl rfl ?_
        refine G_go rfl rfl ?_
        refine G_go rfl rfl ?_
        refine G_go rfl rfl ?_
        refine G_go rfl rfl ?_
        refine G_rd rfl rfl (by decide) ?_
        refine G_go rfl rfl ?_
        refine G_go rfl rfl ?_
        refine G_go rfl rfl ?_
        refine G_call rfl rfl ?_
        refine G_go rfl rfl ?_
        refine G_go rfl rfl ?_
        refine G_go rfl rfl ?_
        refine G_lt rfl rfl (fun c8 => ?_) (fun c8 => ?_)
        · have c8 := xl_lt c8
          have h := h.1 c8
          refine G_go rfl rfl ?_
          refine G_ret rfl rfl ?_
          refine G_ret rfl rfl ?_
          refine G_brT rfl rfl rfl ?_
          refine G_go rfl rfl ?_
          refine G_call rfl rfl ?_
          refine G_go rfl rfl ?_
          refine G_rf rfl rfl (by decide) (hR 120 11 129 rfl) ?_
          refine G_go rfl rfl ?_
          refine G_go rfl rfl ?_
          refine G_go rfl rfl ?_
          refine G_ir (n := 7) rfl rfl (by decide) (by decide) (by decide) ?_
          refine G_go rfl rfl ?_
          refine G_go rfl rfl ?_
          refine G_iw (n := 7) rfl rfl (by decide) (by decide) (by decide) ?_
          have hR := refs_up (a := 129) (k := 1) (x := wr ((s 129 1) + 1)) hR rfl
          refine G_go rfl rfl ?_
          refine G_ret rfl rfl ?_
          exact G_ret rfl rfl h
        · have c8 := xl_ge c8
          have h := h.2 c8
          refine G_go rfl rfl ?_
          refine G_go rfl rfl ?_
          refine G_go rfl rfl ?_
          refine G_gt rfl rfl (fun c9 => ?_) (fun c9 => ?_)
          · have c9 := xl_gt c9
            have h := h.1 c9
            refine G_go rfl rfl ?_
            refine G_ret rfl rfl ?_
            refine G_ret rfl rfl ?_
            refine G_brT rfl rfl rfl ?_
            refine G_go rfl rfl ?_
            refine G_call rfl rfl ?_
            refine G_go rfl rfl ?_
            refine G_rf rfl rfl (by decide) (hR 120 11 129 rfl) ?_
            refine G_go rfl rfl ?_
            refine G_go rfl rfl ?_
            refine G_go rfl rfl ?_
            refine G_ir (n := 7) rfl rfl (by decide) (by decide) (by decide) ?_
            refine G_go rfl rfl ?_
            refine G_go rfl rfl ?_
            refine G_iw (n := 7) rfl rfl (by decide) (by decide) (by decide) ?_
            have hR := refs_up (a := 129) (k := 1) (x := wr ((s 129 1) + 1)) hR rfl
            refine G_go rfl rfl ?_
            refine G_ret rfl rfl ?_
            exact G_ret rfl rfl h
          · have c9 := xl_le c9
            have h := h.2 c9
            refine G_go rfl rfl ?_
            refine G_go rfl rfl ?_
            refine G_ret rfl rfl ?_
            refine G_ret rfl rfl ?_
            refine G_brF rfl rfl rfl ?_
            refine G_go rfl rfl ?_
            refine G_go rfl rfl ?_
            refine G_call rfl rfl ?_
            refine G_go rfl rfl ?_
            refine G_rf rfl rfl (by decide) (hR 120 11 129 rfl) ?_
            refine G_go rfl rfl ?_
            refine G_go rfl rfl ?_
            refine G_go rfl rfl ?_
            refine G_ir (n := 7) rfl rfl (by decide) (by decide) (by decide) ?_
            refine G_go rfl rfl ?_
            refine G_go rfl rfl ?_
            refine G_iw (n := 7) rfl rfl (by decide) (by decide) (by decide) ?_
            have hR := refs_up (a := 129) (k := 2) (x := wr ((s 129 2) + 1)) hR rfl
            refine G_go rfl rfl ?_
            refine G_ret rfl rfl ?_
            exact G_ret rfl rfl h
      · have c7 := xl_ge c7
        have h := h.2 c7
        refine G_go rfl rfl ?_
        refine G_go rfl rfl ?_
        refine G_go rfl rfl ?_
        refine G_gt rfl rfl (fun c10 => ?_) (fun c10 => ?_)
        · have c10 := xl_gt c10
          have h := h.1 c10
          refine G_go rfl rfl ?_
          refine G_ret rfl rfl ?_
          refine G_brF rfl rfl rfl ?_
          refine G_go rfl rfl ?_
          refine G_go rfl rfl ?_
          refine G_go rfl rfl ?_
          refine G_call rfl rfl ?_
          refine G_go rfl rfl ?_
          refine G_go rfl rfl ?_
          refine G_go rfl rfl ?_
          refine G_go rfl rfl ?_
          refine G_rd rfl rfl (by decide) ?_
          refine G_go rfl rfl ?_
          refine G_go rfl rfl ?_
          refine G_go rfl rfl ?_
          refine G_call rfl rfl ?_
          refine G_go rfl rfl ?_
          refine G_go rfl rfl ?_
          refine G_go rfl rfl ?_
          refine G_lt rfl rfl (fun c11 => ?_) (fun c11 => ?_)
          · have c11 := xl_lt c11
            have h := h.1 c11
            refine G_go rfl rfl ?_
            refine G_ret rfl rfl ?_
            refine G_ret rfl rfl ?_
            refine G_brT rfl rfl rfl ?_
            refine G_go rfl rfl ?_
            refine G_call rfl rfl ?_
            refine G_go rfl rfl ?_
            refine G_rf rfl rfl (by decide) (hR 120 11 129 rfl) ?_
            refine G_go rfl rfl ?_
            refine G_go rfl rfl ?_
            refine G_go rfl rfl ?_
            refine G_ir (n := 7) rfl rfl (by decide) (by decide) (by decide) ?_
            refine G_go rfl rfl ?_
            refine G_go rfl rfl ?_
            refine G_iw (n := 7) rfl rfl (by decide) (by decide) (by decide) ?_
            have hR := refs_up (a := 129) (k := 1) (x := wr ((s 129 1) + 1)) hR rfl
            refine G_go rfl rfl ?_
            refine G_ret rfl rfl ?_
            exact G_ret rfl rfl h
          · have c11 := xl_ge c11
            have h := h.2 c11
            refine G_go rfl rfl ?_
            refine G_go rfl rfl ?_
            refine G_go rfl rfl ?_
            refine G_gt rfl rfl (fun c12 => ?_) (fun c12 => ?_)
            · have c12 := xl_gt c12
              have h := h.1 c12
              refine G_go rfl rfl ?_
              refine G_ret rfl rfl ?_
              refine G_ret rfl rfl ?_
              refine G_brT rfl rfl rfl ?_
              refine G_go rfl rfl ?_
              refine G_call rfl rfl ?_
              refine G_go rfl rfl ?_
              refine G_rf rfl rfl (by decide) (hR 120 11 129 rfl) ?_
              refine G_go rfl rfl ?_
              refine G_go rfl rfl ?_
              refine G_go rfl rfl ?_
              refine G_ir (n := 7) rfl rfl (by decide) (by decide) (by decide) ?_
              refine G_go rfl rfl ?_
              refine G_go rfl rfl ?_
              refine G_iw (n := 7) rfl rfl (by decide) (by decide) (by decide) ?_
              have hR := refs_up (a := 129) (k := 1) (x := wr ((s 129 1) + 1)) hR rfl
              refine G_go rfl rfl ?_
              refine G_ret rfl rfl ?_
              exact G_ret rfl rfl h
            · have c12 := xl_le c12
              have h := h.2 c12
              refine G_go rfl rfl ?_
              refine G_go rfl rfl ?_
              refine G_ret rfl rfl ?_
              refine G_ret rfl rfl ?_
              refine G_brF rfl rfl rfl ?_
              refine G_go rfl rfl ?_
              refine G_go rfl rfl ?_
              refine G_call rfl rfl ?_
              refine G_go rfl rfl ?_
              refine G_rf rfl rfl (by decide) (hR 120 11 129 rfl) ?_
              refine G_go rfl rfl ?_
              refine G_go rfl rfl ?_
              refine G_go rfl rfl ?_
              refine G_ir (n := 7) rfl rfl (by decide) (by decide) (by decide) ?_
              refine G_go rfl rfl ?_
              refine G_go rfl rfl ?_
              refine G_iw (n := 7) rfl rfl (by decide) (by decide) (by decide) ?_
              have hR := refs_up (a := 129) (k := 2) (x := wr ((s 129 2) + 1)) hR rfl
              refine G_go rfl rfl ?_
              refine G_ret rfl rfl ?_
              exact G_ret rfl rfl h
        · have c10 := xl_le c10
          have h := h.2 c10
          refine G_go rfl rfl ?_
          refine G_go rfl rfl ?_
          refine G_ret rfl rfl ?_
          refine G_brT rfl rfl rfl ?_
          refine G_go rfl rfl ?_
          by_cases hs45_0 : a1 = 0
          · refine G_k hs45_0 rfl rfl ?_
            have h := h.1 hs45_0
            refine G_go rfl rfl ?_
            refine G_rf rfl rfl (by decide) (hR 120 1 121 rfl) ?_
            refine G_go rfl rfl ?_
            obtain ⟨g13, h⟩ := h
            refine G_ir (n := 6) rfl rfl (by decide) (by decide) g13 ?_
            exact G_ret rfl rfl h
          replace h := h.2
          by_cases hs45_1 : a1 = 1
          · refine G_k hs45_1 rfl rfl ?_
            have h := h.1 hs45_1
            refine G_go rfl rfl ?_
            refine G_rf rfl rfl (by decide) (hR 120 2 122 rfl) ?_
            refine G_go rfl rfl ?_
            obtain ⟨g14, h⟩ := h
            refine G_ir (n := 6) rfl rfl (by decide) (by decide) g14 ?_
            exact G_ret rfl rfl h
          replace h := h.2
          by_cases hs45_2 : a1 = 2
          · refine G_k hs45_2 rfl rfl ?_
            have h := h.1 hs45_2
            refine G_go rfl rfl ?_
            refine G_rf rfl rfl (by decide) (hR 120 3 123 rfl) ?_
            refine G_go rfl rfl ?_
            obtain ⟨g15, h⟩ := h
            refine G_ir (n := 6) rfl rfl (by decide) (by decide) g15 ?_
            exact G_ret rfl rfl h
          replace h := h.2
          by_cases hs45_3 : a1 = 3
          · refine G_k hs45_3 rfl rfl ?_
            have h := h.1 hs45_3
            refine G_go rfl rfl ?_
            refine G_rf rfl rfl (by decide) (hR 120 4 124 rfl) ?_
            refine G_go rfl rfl ?_
            obtain ⟨g16, h⟩ := h
            refine G_ir (n := 6) rfl rfl (by decide) (by decide) g16 ?_
            exact G_ret rfl rfl h
          replace h := h.2
          by_cases hs45_4 : a1 = 4
          · refine G_k hs45_4 rfl rfl ?_
            have h := h.1 hs45_4
            refine G_go rfl rfl ?_
            refine G_rf rfl rfl (by decide) (hR 120 5 125 rfl) ?_
            refine G_go rfl rfl ?_
            obtain ⟨g17, h⟩ := h
            refine G_ir (n := 6) rfl rfl (by decide) (by decide) g17 ?_
            exact G_ret rfl rfl h
          replace h := h.2
          by_cases hs45_5 : a1 = 5
          · refine G_k hs45_5 rfl rfl ?_
            have h := h.1 hs45_5
            refine G_go rfl rfl ?_
            refine G_rf rfl rfl (by decide) (hR 120 6 126 rfl) ?_
            refine G_go rfl rfl ?_
            obtain ⟨g18, h⟩ := h
            refine G_ir (n := 6) rfl rfl (by decide) (by decide) g18 ?_
            exact G_ret rfl rfl h
          replace h := h.2
          by_cases hs45_6 : a1 = 6
          · refine G_k hs45_6 rfl rfl ?_
            have h := h.1 hs45_6
            refine G_go rfl rfl ?_
            refine G_rf rfl rfl (by decide) (hR 120 7 127 rfl) ?_
            refine G_go rfl rfl ?_
            obtain ⟨g19, h⟩ := h
            refine G_ir (n := 6) rfl rfl (by decide) (by decide) g19 ?_
            exact G_ret rfl rfl h
          replace h := h.2
          by_cases hs45_7 : a1 = 7
          · refine G_k hs45_7 rfl rfl ?_
            have h := h.1 hs45_7
            refine G_go rfl rfl ?_
            refine G_rf rfl rfl (by decide) (hR 120 8 128 rfl) ?_
            refine G_go rfl rfl ?_
            obtain ⟨g20, h⟩ := h
            refine G_ir (n := 6) rfl rfl (by decide) (by decide) g20 ?_
            exact G_ret rfl rfl h
          replace h := h.2
          by_cases hs45_8 : a1 = 8
          · refine G_k hs45_8 rfl rfl ?_
            have h := h.1 hs45_8
            refine G_go rfl rfl ?_
            refine G_go rfl rfl ?_
            refine G_call rfl rfl ?_
            obtain ⟨g21, h⟩ := h
            obtain ⟨g22, h⟩ := h
            obtain ⟨g23, h⟩ := h
            refine c_X7_wealthOf n _ _ a0 hR g21 g22 g23 ?_
            exact G_ret rfl rfl h
          replace h := h.2
          by_cases hs45_9 : a1 = 9
          · refine G_k hs45_9 rfl rfl ?_
            have h := h.1 hs45_9
            refine G_go rfl rfl ?_
            refine G_go rfl rfl ?_
            refine G_call rfl rfl ?_
            obtain ⟨g24, h⟩ := h
            obtain ⟨g25, h⟩ := h
            obtain ⟨g26, h⟩ := h
            refine c_X7_burnsOf n _ _ a0 hR g24 g25 g26 ?_
            exact G_ret rfl rfl h
          replace h := h.2
          have hd45 : a1 < 0 ∨ 9 < a1 := by omega
          refine G_tsd rfl rfl hd45 ?_
          replace h := h hd45
          refine G_go rfl rfl ?_
          refine G_go rfl rfl ?_
          refine G_call rfl rfl ?_
          obtain ⟨g27, h⟩ := h
          refine c_X7_isHonest n _ _ a0 hR g27 ?_
          refine G_eq rfl rfl (fun c28 => ?_) (fun c28 => ?_)
          · have h := h.1 c28
            refine G_go rfl rfl ?_
            exact G_ret rfl rfl h
          · have h := h.2 c28
            refine G_go rfl rfl ?_
            refine G_go rfl rfl ?_
            exact G_ret rfl rfl h
theorem sb_X6_judge_0 (n : Nat) (s : Nat → Nat → Int) (Q : List Vl → Sto → Prop) (hR : refs s)
    (h : G 2 120 42 0 [(3, 117), (3, 8), (1, s 3 9), (0, 0)] [] (n, s) (fun r s1 => G 2 120 99 21 [(3, 2), (0, 0)] (r ++ []) s1 Q)) :
    G 2 120 99 0 [(3, 2), (0, 0)] [] (n, s) Q := by
  refine G_go rfl rfl ?_
  refine G_rf rfl rfl (by decide) (hR 2 6 117 rfl) ?_
  refine G_go rfl rfl ?_
  refine G_rf rfl rfl (by decide) (hR 2 0 3 rfl) ?_
  refine G_rf rfl rfl (by decide) (hR 3 4 8 rfl) ?_
  refine G_go rfl rfl ?_
  refine G_rf rfl rfl (by decide) (hR 2 0 3 rfl) ?_
  refine G_rd rfl rfl (by decide) ?_
  exact G_call rfl rfl h
theorem sb_X6_judge_21 (n : Nat) (s : Nat → Nat → Int) (Q : List Vl → Sto → Prop) (y0 : Int) (hR : refs s)
    (h : Q [(1, y0)] (n, upS s 117 1 0)) :
    G 2 120 99 21 [(3, 2), (0, 0)] [(1, y0)] (n, s) Q := by
  refine G_go rfl rfl ?_
  show G 2 120 99 22 [(3, 2), (1, y0)] [] (n, s) Q
  refine G_go rfl rfl ?_
  refine G_rf rfl rfl (by decide) (hR 2 6 117 rfl) ?_
  refine G_call rfl rfl ?_
  refine G_go rfl rfl ?_
  refine G_go rfl rfl ?_
  refine G_wr rfl rfl (by decide) ?_
  have hR := refs_up (a := 117) (k := 1) (x := 0) hR rfl
  refine G_ret rfl rfl ?_
  refine G_go rfl rfl ?_
  exact G_ret rfl rfl h
theorem sb_X7_judge_0 (n : Nat) (s : Nat → Nat → Int) (Q : List Vl → Sto → Prop) (hR : refs s)
    (h : G 120 140 192 17 [(3, 120), (1, s 120 31), (1, 0)] [] (n, upS (upS s 120 10 0) 120 31 0) Q) :
    G 120 140 192 0 [(3, 120), (0, 0), (0, 0)] [] (n, s) Q := by
  refine G_go rfl rfl ?_
  refine G_go rfl rfl ?_
  refine G_wr rfl rfl (by decide) ?_
  have hR := refs_up (a := 120) (k := 10) (x := 0) hR rfl
  refine G_go rfl rfl ?_
  refine G_rd rfl rfl (by decide) ?_
  refine G_go rfl rfl ?_
  show G 120 140 192 10 [(3, 120), (1, s 120 31), (0, 0)] [] (n, upS s 120 10 0) Q
  refine G_go rfl rfl ?_
  refine G_go rfl rfl ?_
  refine G_wr rfl rfl (by decide) ?_
  have hR := refs_up (a := 120) (k := 31) (x := 0) hR rfl
  refine G_go rfl rfl ?_
  refine G_go rfl rfl ?_
  show G 120 140 192 17 [(3, 120), (1, s 120 31), (1, 0)] [] (n, upS (upS s 120 10 0) 120 31 0) Q
  exact h
theorem sb_X7_judge_17 (n : Nat) (s : Nat → Nat → Int) (Q : List Vl → Sto → Prop) (x1 : Int) (x2 : Int) (hR : refs s)
    (h : (x1 ≤ x2 → Q [(1, (-9))] (n, s)) ∧ (x2 < x1 → (s 120 0 ≤ x2 → Q [(1, x2)] (n, s)) ∧ (x2 < s 120 0 → (0 ≤ x2 ∧ x2 < 12) ∧ ((0 ≤ x2 ∧ x2 < 6) ∧ ((s 139 x2.toNat = s 125 x2.toNat → G 120 140 192 17 [(3, 120), (1, x1), (1, wr (x2 + 1))] [] (n, s) Q) ∧ (s 139 x2.toNat ≠ s 125 x2.toNat → Q [(1, x2)] (n, s))))))) :
    G 120 140 192 17 [(3, 120), (1, x1), (1, x2)] [] (n, s) Q := by
  refine G_go rfl rfl ?_
  refine G_go rfl rfl ?_
  refine G_ge rfl rfl (fun c1 => ?_) (fun c1 => ?_)
  · have h := h.1 c1
    refine G_go rfl rfl ?_
    exact G_ret rfl rfl h
  · have h := h.2 c1
    refine G_go rfl rfl ?_
    refine G_go rfl rfl ?_
    refine G_rd rfl rfl (by decide) ?_
    refine G_ge rfl rfl (fun c2 => ?_) (fun c2 => ?_)
    · have h := h.1 c2
      refine G_go rfl rfl ?_
      exact G_ret rfl rfl h
    · have h := h.2 c2
      refine G_go rfl rfl ?_
      refine G_rf rfl rfl (by decide) (hR 120 30 139 rfl) ?_
      refine G_go rfl rfl ?_
      obtain ⟨g3, h⟩ := h
      refine G_ir (n := 12) rfl rfl (by decide) (by decide) g3 ?_
      refine G_go rfl rfl ?_
      refine G_rf rfl rfl (by decide) (hR 120 5 125 rfl) ?_
      refine G_go rfl rfl ?_
      obtain ⟨g4, h⟩ := h
      refine G_ir (n := 6) rfl rfl (by decide) (by decide) g4 ?_
      refine G_eq rfl rfl (fun c5 => ?_) (fun c5 => ?_)
      · have h := h.1 c5
        refine G_go rfl rfl ?_
        refine G_go rfl rfl ?_
        exact h
      · have h := h.2 c5
        refine G_go rfl rfl ?_
        exact G_ret rfl rfl h
theorem sb_X0_takeBack_0 (n : Nat) (s : Nat → Nat → Int) (Q : List Vl → Sto → Prop) (hR : refs s)
    (h : (s 33 2 ≤ 0 → Q [] (n, s)) ∧ (0 < s 33 2 → G 2 120 10 34 [(3, 33), (3, 3)] [(1, xrem (wr ((s 33 1) + (wr ((s 33 2) - 1)))) 8), (3, 34), (3, 3)] (n, upS s 33 2 (wr ((s 33 2) - 1))) Q)) :
    G 2 120 10 0 [(3, 33), (3, 3)] [] (n, s) Q := by
  refine G_go rfl rfl ?_
  refine G_rd rfl rfl (by decide) ?_
  refine G_le rfl rfl (fun c1 => ?_) (fun c1 => ?_)
  · have h := h.1 c1
    exact G_ret rfl rfl h
  · have h := h.2 c1
    refine G_go rfl rfl ?_
    refine G_go rfl rfl ?_
    refine G_rd rfl rfl (by decide) ?_
    refine G_go rfl rfl ?_
    refine G_go rfl rfl ?_
    refine G_wr rfl rfl (by decide) ?_
    have hR := refs_up (a := 33) (k := 2) (x := wr ((s 33 2) - 1)) hR rfl
    refine G_go rfl rfl ?_
    refine G_go rfl rfl ?_
    refine G_rf rfl rfl (by decide) (hR 33 0 34 rfl) ?_
    refine G_go rfl rfl ?_
    refine G_rd rfl rfl (by decide) ?_
    refine G_go rfl rfl ?_
    refine G_rdv (v := wr ((s 33 2) - 1)) rfl rfl (by decide) (by simp [upS]) ?_
    refine G_go rfl rfl ?_
    refine G_go rfl rfl ?_
    refine G_go rfl rfl ?_
    exact h
theorem sb_X0_takeBack_34_0 (n : Nat) (s : Nat → Nat → Int) (Q : List Vl → Sto → Prop) (hR : refs s)
    (h : G 2 120 7 0 [(3, 3), (3, 35), (0, 0)] [] (n, s) (fun r s1 => G 2 120 10 38 [(3, 33), (3, 3)] (r ++ []) s1 Q)) :
    G 2 120 10 34 [(3, 33), (3, 3)] [(1, 0), (3, 34), (3, 3)] (n, s) Q := by
  refine G_ar (n := 8) rfl rfl (by decide) (by decide) (by decide) (hR 34 0 35 rfl) ?_
  exact G_call rfl rfl h
theorem sb_X0_takeBack_34_1 (n : Nat) (s : Nat → Nat → Int) (Q : List Vl → Sto → Prop) (hR : refs s)
    (h : G 2 120 7 0 [(3, 3), (3, 45), (0, 0)] [] (n, s) (fun r s1 => G 2 120 10 38 [(3, 33), (3, 3)] (r ++ []) s1 Q)) :
    G 2 120 10 34 [(3, 33), (3, 3)] [(1, 1), (3, 34), (3, 3)] (n, s) Q := by
  refine G_ar (n := 8) rfl rfl (by decide) (by decide) (by decide) (hR 34 1 45 rfl) ?_
  exact G_call rfl rfl h
theorem sb_X0_takeBack_34_2 (n : Nat) (s : Nat → Nat → Int) (Q : List Vl → Sto → Prop) (hR : refs s)
    (h : G 2 120 7 0 [(3, 3), (3, 55), (0, 0)] [] (n, s) (fun r s1 => G 2 120 10 38 [(3, 33), (3, 3)] (r ++ []) s1 Q)) :
    G 2 120 10 34 [(3, 33), (3, 3)] [(1, 2), (3, 34), (3, 3)] (n, s) Q := by
  refine G_ar (n := 8) rfl rfl (by decide) (by decide) (by decide) (hR 34 2 55 rfl) ?_
  exact G_call rfl rfl h
theorem sb_X0_takeBack_34_3 (n : Nat) (s : Nat → Nat → Int) (Q : List Vl → Sto → Prop) (hR : refs s)
    (h : G 2 120 7 0 [(3, 3), (3, 65), (0, 0)] [] (n, s) (fun r s1 => G 2 120 10 38 [(3, 33), (3, 3)] (r ++ []) s1 Q)) :
    G 2 120 10 34 [(3, 33), (3, 3)] [(1, 3), (3, 34), (3, 3)] (n, s) Q := by
  refine G_ar (n := 8) rfl rfl (by decide) (by decide) (by decide) (hR 34 3 65 rfl) ?_
  exact G_call rfl rfl h
theorem sb_X0_takeBack_34_4 (n : Nat) (s : Nat → Nat → Int) (Q : List Vl → Sto → Prop) (hR : refs s)
    (h : G 2 120 7 0 [(3, 3), (3, 75), (0, 0)] [] (n, s) (fun r s1 => G 2 120 10 38 [(3, 33), (3, 3)] (r ++ []) s1 Q)) :
    G 2 120 10 34 [(3, 33), (3, 3)] [(1, 4), (3, 34), (3, 3)] (n, s) Q := by
  refine G_ar (n := 8) rfl rfl (by decide) (by decide) (by decide) (hR 34 4 75 rfl) ?_
  exact G_call rfl rfl h
theorem sb_X0_takeBack_34_5 (n : Nat) (s : Nat → Nat → Int) (Q : List Vl → Sto → Prop) (hR : refs s)
    (h : G 2 120 7 0 [(3, 3), (3, 85), (0, 0)] [] (n, s) (fun r s1 => G 2 120 10 38 [(3, 33), (3, 3)] (r ++ []) s1 Q)) :
    G 2 120 10 34 [(3, 33), (3, 3)] [(1, 5), (3, 34), (3, 3)] (n, s) Q := by
  refine G_ar (n := 8) rfl rfl (by decide) (by decide) (by decide) (hR 34 5 85 rfl) ?_
  exact G_call rfl rfl h
theorem sb_X0_takeBack_34_6 (n : Nat) (s : Nat → Nat → Int) (Q : List Vl → Sto → Prop) (hR : refs s)
    (h : G 2 120 7 0 [(3, 3), (3, 95), (0, 0)] [] (n, s) (fun r s1 => G 2 120 10 38 [(3, 33), (3, 3)] (r ++ []) s1 Q)) :
    G 2 120 10 34 [(3, 33), (3, 3)] [(1, 6), (3, 34), (3, 3)] (n, s) Q := by
  refine G_ar (n := 8) rfl rfl (by decide) (by decide) (by decide) (hR 34 6 95 rfl) ?_
  exact G_call rfl rfl h
theorem sb_X0_takeBack_34_7 (n : Nat) (s : Nat → Nat → Int) (Q : List Vl → Sto → Prop) (hR : refs s)
    (h : G 2 120 7 0 [(3, 3), (3, 105), (0, 0)] [] (n, s) (fun r s1 => G 2 120 10 38 [(3, 33), (3, 3)] (r ++ []) s1 Q)) :
    G 2 120 10 34 [(3, 33), (3, 3)] [(1, 7), (3, 34), (3, 3)] (n, s) Q := by
  refine G_ar (n := 8) rfl rfl (by decide) (by decide) (by decide) (hR 34 7 105 rfl) ?_
  exact G_call rfl rfl h
theorem sb_X0_takeBack_38 (n : Nat) (s : Nat → Nat → Int) (Q : List Vl → Sto → Prop) (hR : refs s)
    (h : Q [] (n, s)) :
    G 2 120 10 38 [(3, 33), (3, 3)] [] (n, s) Q := by
  exact G_ret rfl rfl h
theorem sb_X4_firstUnlike_0 (n : Nat) (s : Nat → Nat → Int) (Q : List Vl → Sto → Prop) (a1 : Int) (hR : refs s)
    (h : G 2 120 42 2 [(3, 117), (3, 8), (1, a1), (1, 0)] [] (n, s) Q) :
    G 2 120 42 0 [(3, 117), (3, 8), (1, a1), (0, 0)] [] (n, s) Q := by
  refine G_go rfl rfl ?_
  refine G_go rfl rfl ?_
  show G 2 120 42 2 [(3, 117), (3, 8), (1, a1), (1, 0)] [] (n, s) Q
  exact h
theorem sb_X4_firstUnlike_2 (n : Nat) (s : Nat → Nat → Int) (Q : List Vl → Sto → Prop) (x2 : Int) (x3 : Int) (hR : refs s)
    (h : (s 117 1 ≤ x3 → Q [(1, (-9))] (n, s)) ∧ (x3 < s 117 1 → (x2 ≤ x3 → Q [(1, x3)] (n, s)) ∧ (x3 < x2 → (6 ≤ x3 → Q [(1, x3)] (n, s)) ∧ (x3 < 6 → (0 ≤ x3 ∧ x3 < 12) ∧ ((0 ≤ x3 ∧ x3 < 6) ∧ ((s 118 x3.toNat = s 8 x3.toNat → G 2 120 42 2 [(3, 117), (3, 8), (1, x2), (1, wr (x3 + 1))] [] (n, s) Q) ∧ (s 118 x3.toNat ≠ s 8 x3.toNat → Q [(1, x3)] (n, s)))))))) :
    G 2 120 42 2 [(3, 117), (3, 8), (1, x2), (1, x3)] [] (n, s) Q := by
  refine G_go rfl rfl ?_
  refine G_go rfl rfl ?_
  refine G_rd rfl rfl (by decide) ?_
  refine G_ge rfl rfl (fun c1 => ?_) (fun c1 => ?_)
  · have h := h.1 c1
    refine G_go rfl rfl ?_
    exact G_ret rfl rfl h
  · have h := h.2 c1
    refine G_go rfl rfl ?_
    refine G_go rfl rfl ?_
    refine G_ge rfl rfl (fun c2 => ?_) (fun c2 => ?_)
    · have h := h.1 c2
      refine G_go rfl rfl ?_
      exact G_ret rfl rfl h
    · have h := h.2 c2
      refine G_go rfl rfl ?_
      refine G_go rfl rfl ?_
      refine G_go rfl rfl ?_
      refine G_ge rfl rfl (fun c3 => ?_) (fun c3 => ?_)
      · have h := h.1 c3
        refine G_go rfl rfl ?_
        exact G_ret rfl rfl h
      · have h := h.2 c3
        refine G_go rfl rfl ?_
        refine G_rf rfl rfl (by decide) (hR 117 0 118 rfl) ?_
        refine G_go rfl rfl ?_
        obtain ⟨g4, h⟩ := h
        refine G_ir (n := 12) rfl rfl (by decide) (by decide) g4 ?_
        refine G_go rfl rfl ?_
        refine G_go rfl rfl ?_
        obtain ⟨g5, h⟩ := h
        refine G_ir (n := 6) rfl rfl (by decide) (by decide) g5 ?_
        refine G_eq rfl rfl (fun c6 => ?_) (fun c6 => ?_)
        · have h := h.1 c6
          refine G_go rfl rfl ?_
          refine G_go rfl rfl ?_
          exact h
        · have h := h.2 c6
          refine G_go rfl rfl ?_
          exact G_ret rfl rfl h
/-! THE IMAGE. -/
theorem post_rel {n : Nat} {s1 t1 : Nat → Nat → Int} {x y : Int} (e : x = y) (h : REL s1 t1) : Post n [(1, x)] (n, s1) [(1, y)] (n, t1) := ⟨_, rfl, by rw [e], h, rfl, rfl⟩
theorem op_image (n : Nat) (s t : Nat → Nat → Int) (h : REL s t) : G 2 120 96 0 [(3, 2)] [] (n, s) (fun r s1 => G 120 140 188 0 [(3, 120)] [] (n, t) (Post n r s1)) := by
  obtain ⟨hn1, hn2, hn3, hn4⟩ := h.np
  refine sb_X6_image_0 n s _ h.1 ?_
  refine c_become_23_3 n s _ h.1 (by rw [hn1]; exact hn3) (fun p hp => ?_) (fun s1 r1 b => ?_)
  · rw [hn1] at hp
    rw [(h.s p hp).2.2.2.2.2.1]
    exact (h.t p hp).2.2.2.2.2.1
  · refine sb_X6_image_11 n s1 _ r1 ?_
    refine sb_X7_image_0 n t _ h.2.1 ?_
    have u0 : twR (upS (upS t 120 10 0) 120 23 1) (t 120 0) (t 120 9) (vw 121 t) := ⟨rfl, rfl, fun j hj p _ => by rw [upS_row (by omega), upS_row (by omega)]; rfl⟩
    refine c_carryAllT_136 n _ _ _ _ _ (refs_up (refs_up h.2.1 rfl) rfl) hn3.2 u0 (fun t1 r2 f u k => ?_)
    refine sb_X7_image_19 n t1 _ r2 ?_
    have tw := bcm_tw h.c b
    have es : ∀ c, c < 23 ∨ 33 ≤ c → c ≠ 2 → upS s1 2 3 1 c = s c := fun c hc h2 => by rw [upS_row h2, b.1 c hc]
    have et : ∀ c, 128 < c → c ≠ 130 → c ≠ 136 → t1 c = t c := fun c h1 h2 h3 => by rw [f.1 c h1 h2 h3, upS_row (by omega), upS_row (by omega)]
    have ek : ∀ k, k ≠ 0 → k ≠ 9 → k ≠ 24 → k ≠ 25 → k ≠ 26 → k ≠ 10 → k ≠ 23 → t1 120 k = t 120 k := fun k h1 h2 h3 h4 h5 h6 h7 => by rw [f.2 k h1 h2 h3 h4 h5, upS_2 h7, upS_2 h6]
    refine post_rel ?_ ⟨refs_up r1 rfl, r2, relN_of h.o hn4 ⟨?_, ?_, ?_⟩ u, ?_, ?_, ?_, ?_, ?_⟩
    · rw [u.2.1, b.1 3 (by omega), hn2]
    · rw [es 3 (by omega) (by omega)]
      exact hn1
    · rw [es 3 (by omega) (by omega)]
      exact hn2
    · exact eqV_ext h.c.2.2 (fun j hj p _ => by unfold vw; rw [es _ (by omega) (by omega)]) (fun _ _ _ _ => rfl)
    · refine Or.inr ⟨upS_eq, ?_, rlT_of h.o hn4 ?_ ?_ k.1 k.2.1 (eqV_ext tw.2.2 (fun j hj p _ => by unfold vw; rw [upS_row (by omega)]) (fun _ _ _ _ => rfl)) k.2.2⟩
      · rw [f.2 23 (by decide) (by decide) (by decide) (by decide) (by decide), upS_eq]
      · rw [upS_row (by decide)]
        exact tw.1
      · rw [upS_row (by decide)]
        exact tw.2.1
    · exact relH_fr h.h (by rw [es 33 (by omega) (by omega)]) (by rw [es 33 (by omega) (by omega)]) (fun a h1 h2 => es a (by omega) (by omega)) (ek 29 (by decide) (by decide) (by decide) (by decide) (by decide) (by decide) (by decide)) (et 137 (by decide) (by decide) (by decide))
    · exact relL_fr h.l (by rw [es 115 (by omega) (by omega)]) (es 116 (by omega) (by omega)) (ek 14 (by decide) (by decide) (by decide) (by decide) (by decide) (by decide) (by decide)) (et 131 (by decide) (by decide) (by decide))
    · exact relR_fr h.r (by rw [es 117 (by omega) (by omega)]) (es 118 (by omega) (by omega)) (ek 31 (by decide) (by decide) (by decide) (by decide) (by decide) (by decide) (by decide)) (et 139 (by decide) (by decide) (by decide))
    · exact relF_fr h.f (es 119 (by omega) (by omega)) (et 129 (by decide) (by decide) (by decide))
theorem rlT_b {a : Nat} {s : Nat → Nat → Int} {vn vh : Int} {V : Nat → Nat → Int} (q : rlT (s a 9) (s a 10) (vw (a + 1) s) vn vh V) : (0 ≤ s a 9 ∧ s a 9 ≤ 6) ∧ (∀ p : Nat, (p : Int) < s a 9 → s (a + 6) p = 0 ∨ s (a + 6) p = 1) ∧ twC a s vn vh V ∧ okT vn V := by
  obtain ⟨q1, q2, q3, q4, q5, q6⟩ := q
  refine ⟨by rw [q1]; exact q3, fun p hp => ?_, ⟨q1, q2, q6⟩, ⟨q3, q5⟩⟩
  rw [q1] at hp
  have e : s (a + 6) p = V 5 p := (q6 p hp).2.2.2.2.2.1
  rw [e]
  exact (q5 p hp).2.2.2.2.2.1
theorem op_restore (n : Nat) (s t : Nat → Nat → Int) (h : REL s t) : G 2 120 118 0 [(3, 2)] [] (n, s) (fun r s1 => G 120 140 209 0 [(3, 120)] [] (n, t) (Post n r s1)) := by
  obtain ⟨hn1, hn2, hn3, hn4⟩ := h.np
  rcases h.i with ⟨i1, i2⟩ | ⟨i1, i2, i3⟩
  · refine sb_X6_restore_0 n s _ h.1 ⟨fun e => absurd i1 e, fun _ => ?_⟩
    exact sb_X7_restore_0 n t _ h.2.1 ⟨fun e => absurd i2 e, fun _ => post_ref h 3 (by decide)⟩
  · obtain ⟨b1, b2, b3, b4⟩ := rlT_b i3
    refine sb_X6_restore_0 n s _ h.1 ⟨fun _ => ?_, fun e => by omega⟩
    refine c_become_3_23 n _ _ (refs_up h.1 rfl) b1 b2 (fun s1 r1 b => ?_)
    refine sb_X6_restore_32 n s1 _ r1 ?_
    refine sb_X7_restore_0 n t _ h.2.1 ⟨fun _ => ?_, fun e => by omega⟩
    have k0 : twK 136 0 (upS t 120 10 0) (t 136 0) (t 136 1) (fw 136 0 t) := ⟨rfl, rfl, fun _ _ _ _ => rfl⟩
    refine c_carryAllF_136 n _ _ _ _ _ (refs_up h.2.1 rfl) b4.1.2 k0 (fun t1 r2 f u => ?_)
    refine sb_X7_restore_28 n t1 _ r2 ?_
    have hh := i3.2.2.2.1
    have b0 : twC 23 (upS s 33 2 0) (t 136 0) (t 136 1) (fw 136 0 t) := ⟨b3.1, b3.2.1, eqV_ext b3.2.2 (fun j hj p _ => by unfold vw; rw [upS_row (by omega)]) (fun _ _ _ _ => rfl)⟩
    have tw := bcm_tw b0 b
    have es : ∀ c, c < 3 ∨ 13 ≤ c → c ≠ 33 → s1 c = s c := fun c hc h2 => by rw [b.1 c hc, upS_row h2]
    have et : ∀ c, 128 < c → c ≠ 130 → upS t1 120 29 0 c = t c := fun c h1 h2 => by rw [upS_row (by omega), f.1 c h1 h2 h2, upS_row (by omega)]
    have ek : ∀ k, k ≠ 0 → k ≠ 9 → k ≠ 24 → k ≠ 25 → k ≠ 26 → k ≠ 10 → k ≠ 29 → upS t1 120 29 0 120 k = t 120 k := fun k h1 h2 h3 h4 h5 h6 h7 => by rw [upS_2 h7, f.2 k h1 h2 h3 h4 h5, upS_2 h6]
    refine post_rel ?_ ⟨r1, refs_up r2 rfl, relN_of b4 hh tw ⟨u.1, u.2.1, fun j hj p hp => ?_⟩, ?_, ?_, ?_, ?_, ?_⟩
    · rw [u.2.1, tw.2.1]
    · rw [upS_row (by omega)]
      exact u.2.2 j hj p hp
    · exact relI_fr h.i (by rw [es 2 (by omega) (by omega)]) (by rw [es 23 (by omega) (by omega)]) (by rw [es 23 (by omega) (by omega)]) (fun a h1 h2 => es a (by omega) (by omega)) (ek 23 (by decide) (by decide) (by decide) (by decide) (by decide) (by decide) (by decide)) (et 136 (by decide) (by decide))
    · have e33 : s1 33 = upS s 33 2 0 33 := b.1 33 (by omega)
      refine ⟨?_, ?_, ?_, fun j hj => ?_⟩
      · rw [e33, upS_eq, upS_eq]
      · rw [e33, upS_eq]
        decide
      · rw [e33, upS_2 (by decide)]
        exact h.h.2.2.1
      · rw [e33, upS_eq] at hj
        omega
    · exact relL_fr h.l (by rw [es 115 (by omega) (by omega)]) (es 116 (by omega) (by omega)) (ek 14 (by decide) (by decide) (by decide) (by decide) (by decide) (by decide) (by decide)) (et 131 (by decide) (by decide))
    · exact relR_fr h.r (by rw [es 117 (by omega) (by omega)]) (es 118 (by omega) (by omega)) (ek 31 (by decide) (by decide) (by decide) (by decide) (by decide) (by decide) (by decide)) (et 139 (by decide) (by decide))
    · exact relF_fr h.f (es 119 (by omega) (by omega)) (et 129 (by decide) (by decide))
theorem c_takeBack (n : Nat) (s t : Nat → Nat → Int) (h : REL s t) (hz : 0 < s 33 2) (z : Nat) (ez : (z : Int) = s 33 2 - 1) (Q : List Vl → Sto → Prop) (hq : ∀ s1, refs s1 → (∀ c, (c < 3 ∨ 13 ≤ c) → c ≠ 33 → s1 c = s c) → s1 33 1 = s 33 1 → s1 33 2 = z → twC 3 s1 (t 137 (50 * z)) (t 137 (50 * z + 1)) (fw 137 (50 * z) t) → Q [] (n, s1)) : G 2 120 10 0 [(3, 33), (3, 3)] [] (n, s) Q := by
  obtain ⟨h1, h2, h3, h4⟩ := h.h
  refine sb_X0_takeBack_0 n s Q h.1 ⟨fun e => by omega, fun _ => ?_⟩
  have ez1 : wr (s 33 2 - 1) = (z : Int) := by
    rw [wr_id (by omega) (by omega)]
    omega
  obtain ⟨i, hi⟩ : ∃ i : Nat, i = ((s 33 1).toNat + z) % 8 := ⟨_, rfl⟩
  have ei : xrem (wr (s 33 1 + (z : Int))) 8 = (i : Int) := by
    rw [wr_id (by omega) (by omega), xrem_nn (by omega) (by omega) (by decide) (by decide)]
    omega
  rw [ez1, ei]
  have q := h4 z (by omega)
  have es : slt s z = 35 + 10 * i := by
    unfold slt
    rw [hi]
  rw [es] at q
  have fin : ∀ a s1, a = 35 + 10 * i → refs s1 → bcm 3 a (upS s 33 2 (z : Int)) s1 → Q [] (n, s1) := by
    intro a s1 ea r1 b
    obtain ⟨b1, b2, b3, b4⟩ := rlT_b q
    have b0 : twC a (upS s 33 2 (z : Int)) (t 137 (50 * z)) (t 137 (50 * z + 1)) (fw 137 (50 * z) t) := by
      rw [← ea] at b3
      exact ⟨by rw [upS_row (by omega)]; exact b3.1, by rw [upS_row (by omega)]; exact b3.2.1, eqV_ext b3.2.2 (fun j hj p _ => by unfold vw; rw [upS_row (by omega)]) (fun _ _ _ _ => rfl)⟩
    have e33 : s1 33 = upS s 33 2 (z : Int) 33 := b.1 33 (by omega)
    refine hq s1 r1 (fun c hc h2 => by rw [b.1 c hc, upS_row h2]) ?_ ?_ (bcm_tw b0 b)
    · rw [e33, upS_2 (by decide)]
    · rw [e33, upS_eq]
  have h8 : i = 0 ∨ i = 1 ∨ i = 2 ∨ i = 3 ∨ i = 4 ∨ i = 5 ∨ i = 6 ∨ i = 7 := by omega
  clear hi es ei
  rcases h8 with rfl | rfl | rfl | rfl | rfl | rfl | rfl | rfl
  · obtain ⟨b1, b2, _, _⟩ := rlT_b q
    refine sb_X0_takeBack_34_0 n _ Q (refs_up h.1 rfl) ?_
    exact c_become_3_35 n _ _ (refs_up h.1 rfl) b1 b2 (fun s1 r1 b => sb_X0_takeBack_38 n s1 Q r1 (fin 35 s1 rfl r1 b))
  · obtain ⟨b1, b2, _, _⟩ := rlT_b q
    refine sb_X0_takeBack_34_1 n _ Q (refs_up h.1 rfl) ?_
    exact c_become_3_45 n _ _ (refs_up h.1 rfl) b1 b2 (fun s1 r1 b => sb_X0_takeBack_38 n s1 Q r1 (fin 45 s1 rfl r1 b))
  · obtain ⟨b1, b2, _, _⟩ := rlT_b q
    refine sb_X0_takeBack_34_2 n _ Q (refs_up h.1 rfl) ?_
    exact c_become_3_55 n _ _ (refs_up h.1 rfl) b1 b2 (fun s1 r1 b => sb_X0_takeBack_38 n s1 Q r1 (fin 55 s1 rfl r1 b))
  · obtain ⟨b1, b2, _, _⟩ := rlT_b q
    refine sb_X0_takeBack_34_3 n _ Q (refs_up h.1 rfl) ?_
    exact c_become_3_65 n _ _ (refs_up h.1 rfl) b1 b2 (fun s1 r1 b => sb_X0_takeBack_38 n s1 Q r1 (fin 65 s1 rfl r1 b))
  · obtain ⟨b1, b2, _, _⟩ := rlT_b q
    refine sb_X0_takeBack_34_4 n _ Q (refs_up h.1 rfl) ?_
    exact c_become_3_75 n _ _ (refs_up h.1 rfl) b1 b2 (fun s1 r1 b => sb_X0_takeBack_38 n s1 Q r1 (fin 75 s1 rfl r1 b))
  · obtain ⟨b1, b2, _, _⟩ := rlT_b q
    refine sb_X0_takeBack_34_5 n _ Q (refs_up h.1 rfl) ?_
    exact c_become_3_85 n _ _ (refs_up h.1 rfl) b1 b2 (fun s1 r1 b => sb_X0_takeBack_38 n s1 Q r1 (fin 85 s1 rfl r1 b))
  · obtain ⟨b1, b2, _, _⟩ := rlT_b q
    refine sb_X0_takeBack_34_6 n _ Q (refs_up h.1 rfl) ?_
    exact c_become_3_95 n _ _ (refs_up h.1 rfl) b1 b2 (fun s1 r1 b => sb_X0_takeBack_38 n s1 Q r1 (fin 95 s1 rfl r1 b))
  · obtain ⟨b1, b2, _, _⟩ := rlT_b q
    refine sb_X0_takeBack_34_7 n _ Q (refs_up h.1 rfl) ?_
    exact c_become_3_105 n _ _ (refs_up h.1 rfl) b1 b2 (fun s1 r1 b => sb_X0_takeBack_38 n s1 Q r1 (fin 105 s1 rfl r1 b))
theorem op_back (n : Nat) (s t : Nat → Nat → Int) (h : REL s t) : G 2 120 65 0 [(3, 2)] [] (n, s) (fun r s1 => G 120 140 157 0 [(3, 120), (0, 0)] [] (n, t) (Post n r s1)) := by
  obtain ⟨hn1, hn2, hn3, hn4⟩ := h.np
  obtain ⟨h1, h2, h3, h4⟩ := h.h
  refine sb_X6_back_0 n s _ h.1 ⟨fun e => ?_, fun e => ?_⟩
  · obtain ⟨z, ez⟩ : ∃ z : Nat, (z : Int) = s 33 2 - 1 := ⟨(s 33 2 - 1).toNat, by omega⟩
    refine c_takeBack n s t h (by omega) z ez _ (fun s1 r1 es e1 e2 tw => ?_)
    refine sb_X6_back_28 n s1 _ r1 ?_
    refine sb_X7_back_0 n t _ h.2.1 ⟨fun _ => ?_, fun e => by omega⟩
    rw [e2, show wr (t 120 29 - 1) = (z : Int) by rw [wr_id (by omega) (by omega)]; omega]
    have q := h4 z (by omega)
    obtain ⟨q1, q2, q3, q4, q5, q6⟩ := q
    refine G_up 50 (fun k _ => ∀ t1, refs t1 → ((∀ c, c ≠ 138 → t1 c = upS (upS t 120 10 0) 120 29 (z : Int) c) ∧ ∀ x, x < k → t1 138 x = t 137 (50 * z + x)) → G 120 140 157 31 [(3, 120), (1, (k : Int))] [] (n, t1) (Post n [(1, (z : Int))] (n, s1))) (fun _ _ => ()) (fun _ _ => True) () trivial (fun _ _ _ _ => trivial) (fun k _ hk _ hg t1 r2 hI => ?_) (fun _ t1 r2 hI => ?_) _ (refs_up (refs_up h.2.1 rfl) rfl) ⟨fun _ _ => rfl, fun x hx => absurd hx (by omega)⟩
    · obtain ⟨i1, i2⟩ := hI
      rw [← wr_s hk (by omega)] at hg
      have e29 : t1 120 29 = (z : Int) := by rw [i1 120 (by decide), upS_eq]
      have e137 : t1 137 = t 137 := i1 137 (by decide)
      have ew : wr (wr (50 * (z : Int)) + (k : Int)) = ((50 * z + k : Nat) : Int) := by
        rw [wr_id (x := 50 * (z : Int)) (by omega) (by omega), wr_id (by omega) (by omega)]
        omega
      refine sb_X7_back_31 n t1 _ k r2 ?_
      rw [e29, ew, Int.toNat_natCast, Int.toNat_natCast, e137]
      clear ew
      refine ⟨fun e => by omega, fun _ => ⟨by omega, by omega, hg _ (refs_up r2 rfl) ⟨fun c hc => ?_, fun x hx => ?_⟩⟩⟩
      · rw [upS_row hc, i1 c hc]
      · by_cases e : x = k
        · rw [e, upS_eq]
        · rw [upS_2 e, i2 x (by omega)]
    · obtain ⟨i1, i2⟩ := hI
      refine sb_X7_back_31 n t1 _ _ r2 ⟨fun _ => ?_, fun e => by omega⟩
      have k0 : twK 138 0 t1 (t 137 (50 * z)) (t 137 (50 * z + 1)) (fw 137 (50 * z) t) := by
        refine ⟨i2 0 (by decide), i2 1 (by decide), fun j hj p hp => ?_⟩
        unfold fw
        rw [show 0 + 2 + 8 * p + j = 2 + 8 * p + j by omega, i2 _ (by omega)]
        exact congrArg _ (by omega)
      refine c_carryAllF_138 n t1 _ _ _ _ r2 q3.2 k0 (fun t2 r3 f u => ?_)
      refine sb_X7_back_72 n t2 _ _ r3 ?_
      have et : ∀ c, 128 < c → c ≠ 130 → c ≠ 138 → t2 c = t c := fun c g1 g2 g3 => by rw [f.1 c g1 g2 g2, i1 c g3, upS_row (by omega), upS_row (by omega)]
      have ek : ∀ k, k ≠ 0 → k ≠ 9 → k ≠ 24 → k ≠ 25 → k ≠ 26 → k ≠ 10 → k ≠ 29 → t2 120 k = t 120 k := fun k g1 g2 g3 g4 g5 g6 g7 => by rw [f.2 k g1 g2 g3 g4 g5, i1 120 (by decide), upS_2 g7, upS_2 g6]
      have e29 : t2 120 29 = (z : Int) := by rw [f.2 29 (by decide) (by decide) (by decide) (by decide) (by decide), i1 120 (by decide), upS_eq]
      refine post_rel e29.symm ⟨r1, r3, relN_of ⟨q3, q5⟩ q4 tw u, ?_, ?_, ?_, ?_, ?_⟩
      · exact relI_fr h.i (by rw [es 2 (by omega) (by omega)]) (by rw [es 23 (by omega) (by omega)]) (by rw [es 23 (by omega) (by omega)]) (fun a h1 h2 => es a (by omega) (by omega)) (ek 23 (by decide) (by decide) (by decide) (by decide) (by decide) (by decide) (by decide)) (et 136 (by decide) (by decide) (by decide))
      · refine ⟨by rw [e2, e29], by omega, by omega, fun j hj => ?_⟩
        rw [e2] at hj
        have esl : slt s1 j = slt s j := by
          unfold slt
          rw [e1]
        have hb : 35 ≤ slt s j ∧ slt s j < 106 := by
          have hm : ((s 33 1).toNat + j) % 8 < 8 := Nat.mod_lt _ (by decide)
          unfold slt
          omega
        rw [esl]
        exact rlT_ext (h4 j (by omega)) (by rw [es _ (by omega) (by omega)]) (by rw [es _ (by omega) (by omega)]) (by rw [et 137 (by decide) (by decide) (by decide)]) (by rw [et 137 (by decide) (by decide) (by decide)]) (fun i hi p _ => by unfold vw; rw [es _ (by omega) (by omega)]) (fun i hi p _ => by unfold fw; rw [et 137 (by decide) (by decide) (by decide)])
      · exact relL_fr h.l (by rw [es 115 (by omega) (by omega)]) (es 116 (by omega) (by omega)) (ek 14 (by decide) (by decide) (by decide) (by decide) (by decide) (by decide) (by decide)) (et 131 (by decide) (by decide) (by decide))
      · exact relR_fr h.r (by rw [es 117 (by omega) (by omega)]) (es 118 (by omega) (by omega)) (ek 31 (by decide) (by decide) (by decide) (by decide) (by decide) (by decide) (by decide)) (et 139 (by decide) (by decide) (by decide))
      · exact relF_fr h.f (es 119 (by omega) (by omega)) (et 129 (by decide) (by decide) (by decide))
  · exact sb_X7_back_0 n t _ h.2.1 ⟨fun f => by omega, fun _ => post_ref h 3 (by decide)⟩
theorem op_count (n : Nat) (s t : Nat → Nat → Int) (h : REL s t) (a0 : Int) : G 2 120 76 0 [(3, 2), (1, a0)] [] (n, s) (fun r s1 => G 120 140 171 0 [(3, 120), (1, a0)] [] (n, t) (Post n r s1)) := by
  obtain ⟨hn1, hn2, hn3, hn4⟩ := h.np
  have e6 : itr (smF (s 6)) 0 (s 3 9).toNat = itr (smF (t 123)) 0 (t 120 0).toNat := sum_eq h (fun p hp => (h.s p hp).2.2.1)
  have e8 : itr (smF (s 8)) 0 (s 3 9).toNat = itr (smF (t 125)) 0 (t 120 0).toNat := sum_eq h (fun p hp => (h.s p hp).2.2.2.2.1)
  have e10 : itr (smF (s 10)) 0 (s 3 9).toNat = itr (smF (t 127)) 0 (t 120 0).toNat := sum_eq h (fun p hp => (h.s p hp).2.2.2.2.2.2.1)
  have eL := h.l.1
  have eR := h.r.1
  have eH := h.h.1
  have eW : 11 ≤ a0 → a0 ≤ 16 → wr (a0 - 10) = a0 - 10 := fun _ _ => wr_id (by omega) (by omega)
  have lit : ∀ {Q : List Vl → Sto → Prop}, Q [(1, itr (lbF (t 126)) 0 (t 120 0).toNat)] (n, s) → G 2 120 51 0 [(3, 3), (0, 0), (0, 0)] [] (n, s) (fun r s1 => G 2 120 76 95 [(3, 2), (1, a0)] (r ++ []) s1 Q) := fun {Q} q => c_litOnes_3 n s _ h.1 (by rw [hn1]; exact hn3) (sb_X6_count_95 n s Q a0 _ h.1 (by
    rw [hn1, itr_ext (f := lbF (s 9)) (g := lbF (t 126)) 0 _ (fun k b hk => by unfold lbF; rw [(h.s k (by omega)).2.2.2.2.2.1])]
    exact q))
  have pl : ∀ x : Int, x = itr (lbF (t 126)) 0 (t 120 0).toNat → G 120 140 170 0 [(3, 120), (0, 0), (0, 0)] [] (n, upS t 120 10 0) (fun r s1 => G 120 140 171 70 [(3, 120), (1, a0)] (r ++ []) s1 (Post n [(1, x)] (n, s))) := fun x hx => c_litBits n _ _ h.up.2.1 hn3 (sb_X7_count_70 n _ _ a0 _ h.up.2.1 (post_same h (by
    rw [hx]
    exact (bits_of (t 126) (t 120 0).toNat (by omega) (fun k hk => (h.t k (by omega)).2.2.2.2.2.1)).2.symm)))
  refine sb_X6_count_0 n s _ a0 h.1 ?_
  repeat' first | with_reducible refine And.intro ?_ ?_ | intro _
  all_goals first | omega | refine lit ?_ | skip
  all_goals refine sb_X7_count_0 n t _ a0 h.2.1 ?_
  all_goals repeat' first | with_reducible refine And.intro ?_ ?_ | intro _
  all_goals first | omega | exact hn3.1 | exact hn3.2 | exact pl _ rfl | exact post_same h hn1 | exact post_same h hn2 | exact post_same h e6 | exact post_same h e8 | exact post_same h e10 | exact post_same h eL | exact post_same h eR | exact post_same h eH | exact post_same h rfl | skip
  all_goals refine post_same h ?_
  all_goals exact h.f _ (by rw [eW (by omega) (by omega)]; omega)
theorem op_personOf (n : Nat) (s t : Nat → Nat → Int) (h : REL s t) (a0 a1 : Int) : G 2 120 116 0 [(3, 2), (1, a0), (1, a1), (0, 0)] [] (n, s) (fun r s1 => G 120 140 203 0 [(3, 120), (1, a0), (1, a1)] [] (n, t) (Post n r s1)) := by
  obtain ⟨hn1, hn2, hn3, hn4⟩ := h.np
  have hw : wr (t 120 0 - 1) = t 120 0 - 1 := wr_id (by omega) (by omega)
  by_cases hv : 0 ≤ a0 ∧ a0 < t 120 0
  · obtain ⟨p, rfl⟩ : ∃ p : Nat, a0 = (p : Int) := ⟨a0.toNat, by omega⟩
    have hp := hv.2
    obtain ⟨s0, s1, s2, s3, s4, s5, s6, s7⟩ := h.s p hp
    obtain ⟨t0, t1, t2, t3, t4, t5, t6, t7⟩ := h.t p hp
    obtain ⟨g1, _, g3, _, g5, _⟩ := h.rg p hp
    obtain ⟨_, g2, _, ⟨g4, g4'⟩, _, _⟩ := h.up.rg p hp
    have eW : wlt (s 4 p) (s 5 p) (s 6 p) (s 7 p) = wlW (vw 121 (upS t 120 10 0)) p := h.wl p hp
    have eB : bnV (vw 4 s) p (s 6 p) = bnW (vw 121 (upS t 120 10 0)) p := by
      rw [h.bn p hp, s2]
      rfl
    have eH : hon (s 4 p) (s 5 p) = hnW (vw 121 (upS t 120 10 0)) p := by
      rw [s0, s1]
      rfl
    have e01 := hon_01 (s 4 p) (s 5 p)
    refine sb_X6_personOf_0 n s _ p a1 h.1 ⟨fun e => by omega, fun _ => ⟨fun e => by omega, fun _ => ?_⟩⟩
    rw [Int.toNat_natCast]
    repeat' first | with_reducible refine And.intro ?_ ?_ | intro _
    all_goals first | omega | assumption | skip
    all_goals refine sb_X7_personOf_0 n t _ _ _ h.2.1 ⟨fun e => by omega, fun _ => ⟨fun e => by omega, fun _ => ?_⟩⟩
    all_goals rw [Int.toNat_natCast]
    all_goals repeat' first | with_reducible refine And.intro ?_ ?_ | intro _
    all_goals first | omega | assumption | exact post_ref h _ (by decide) | exact post_same h (by omega) | exact post_same h eW | exact post_same h eB | exact post_same h eH | skip
  · have rf : ∀ {Q : List Vl → Sto → Prop}, Q [(1, (-1))] (n, upS (upS t 120 10 0) 129 1 (wr (t 129 1 + 1))) → G 120 140 203 0 [(3, 120), (1, a0), (1, a1)] [] (n, t) Q := fun {Q} q => by
      refine sb_X7_personOf_0 n t _ _ _ h.2.1 ⟨fun e => ⟨fun _ => q, fun f => by omega⟩, fun e => ⟨fun f => ⟨fun g => by omega, fun g => ⟨fun _ => q, fun f => by omega⟩⟩, fun f => by omega⟩⟩
    refine sb_X6_personOf_0 n s _ a0 a1 h.1 ?_
    repeat' first | with_reducible refine And.intro ?_ ?_ | intro _
    all_goals first | exact rf (post_ref h 1 (by decide)) | omega
/-! JUDGED. -/
def jdP (s t : Nat → Nat → Int) (k : Nat) : Bool := decide (t 120 0 ≤ (k : Int) ∨ t 139 k ≠ t 125 k)
theorem op_judge (n : Nat) (s t : Nat → Nat → Int) (h : REL s t) : G 2 120 99 0 [(3, 2), (0, 0)] [] (n, s) (fun r s1 => G 120 140 192 0 [(3, 120), (0, 0), (0, 0)] [] (n, t) (Post n r s1)) := by
  obtain ⟨hn1, hn2, hn3, hn4⟩ := h.np
  obtain ⟨hr1, hr2, hr3⟩ := h.r
  have cl : ∀ (Q : List Vl → Sto → Prop) d k, k + d = (t 120 31).toNat → Q [(1, ff (jdP s t) d k)] (n, s) → G 2 120 42 2 [(3, 117), (3, 8), (1, t 120 0), (1, (k : Int))] [] (n, s) Q := by
    intro Q d
    induction d with
    | zero =>
      intro k hk hq
      exact sb_X4_firstUnlike_2 n s Q _ _ h.1 ⟨fun _ => hq, fun e => by omega⟩
    | succ d ih =>
      intro k hk hq
      have ih := ih (k + 1) (by omega)
      rw [← wr_s (show k < 12 by omega) (by omega)] at ih
      have er := (hr3 k (by omega)).1
      have yes : jdP s t k = true → Q [(1, (k : Int))] (n, s) := fun e => by
        rw [show ff (jdP s t) (d + 1) k = _ from if_pos e] at hq
        exact hq
      refine sb_X4_firstUnlike_2 n s Q _ _ h.1 ?_
      rw [Int.toNat_natCast, er]
      refine ⟨fun e => by omega, fun _ => ⟨fun e => yes (decide_eq_true (Or.inl e)), fun e => ⟨fun f => by omega, fun _ => ⟨by omega, by omega, ?_⟩⟩⟩⟩
      rw [(h.s k e).2.2.2.2.1]
      refine ⟨fun f => ?_, fun f => yes (decide_eq_true (Or.inr f))⟩
      have no : ¬ jdP s t k = true := fun g => by
        rcases of_decide_eq_true g with g | g
        · omega
        · exact g f
      rw [show ff (jdP s t) (d + 1) k = _ from if_neg no] at hq
      exact ih hq
  have rl : ∀ (t0 : Nat → Nat → Int) (Q : List Vl → Sto → Prop), refs t0 → t0 120 0 = t 120 0 → t0 139 = t 139 → t0 125 = t 125 → ∀ d k, k + d = (t 120 31).toNat → Q [(1, ff (jdP s t) d k)] (n, t0) → G 120 140 192 17 [(3, 120), (1, t 120 31), (1, (k : Int))] [] (n, t0) Q := by
    intro t0 Q r0 e0 e1 e2 d
    induction d with
    | zero =>
      intro k hk hq
      exact sb_X7_judge_17 n t0 Q _ _ r0 ⟨fun _ => hq, fun e => by omega⟩
    | succ d ih =>
      intro k hk hq
      have ih := ih (k + 1) (by omega)
      rw [← wr_s (show k < 12 by omega) (by omega)] at ih
      have yes : jdP s t k = true → Q [(1, (k : Int))] (n, t0) := fun e => by
        rw [show ff (jdP s t) (d + 1) k = _ from if_pos e] at hq
        exact hq
      refine sb_X7_judge_17 n t0 Q _ _ r0 ?_
      rw [Int.toNat_natCast, e0, e1, e2]
      refine ⟨fun e => by omega, fun _ => ⟨fun e => yes (decide_eq_true (Or.inl e)), fun e => ⟨by omega, by omega, fun f => ?_, fun f => yes (decide_eq_true (Or.inr f))⟩⟩⟩
      have no : ¬ jdP s t k = true := fun g => by
        rcases of_decide_eq_true g with g | g
        · omega
        · exact g f
      rw [show ff (jdP s t) (d + 1) k = _ from if_neg no] at hq
      exact ih hq
  refine sb_X6_judge_0 n s _ h.1 ?_
  rw [hn1]
  refine sb_X4_firstUnlike_0 n s _ _ h.1 ?_
  refine cl _ (t 120 31).toNat 0 (by omega) ?_
  refine sb_X6_judge_21 n s _ _ h.1 ?_
  refine sb_X7_judge_0 n t _ h.2.1 ?_
  refine rl _ _ (refs_up (refs_up h.2.1 rfl) rfl) rfl rfl rfl (t 120 31).toNat 0 (by omega) ?_
  refine post_rel rfl ?_
  refine ⟨(refs_up h.1 rfl), (refs_up (refs_up h.2.1 rfl) rfl), relN_fr h.n ?_ ?_ ?_ ?_ ?_ ?_, relI_fr h.i ?_ ?_ ?_ ?_ ?_ ?_, relH_fr h.h ?_ ?_ ?_ ?_ ?_, relL_fr h.l ?_ ?_ ?_ ?_, ?_, relF_fr h.f ?_ ?_⟩
  all_goals first | rfl | (intro a h1 h2; funext z; dsimp only [upS]; (repeat rw [if_neg (by omega)]); done) | skip
  exact ⟨rfl, ⟨Int.le_refl 0, by show (0 : Int) ≤ 12; decide⟩, fun k hk => absurd (show (k : Int) < 0 from hk) (by omega)⟩

/-! SUMS OVER THE PEOPLE -/
theorem sb_X5_sumOf_0_3_6 (n : Nat) (s : Nat → Nat → Int) (Q : List Vl → Sto → Prop) (hR : refs s)
    (h : G 2 120 45 4 [(3, 3), (3, 6), (1, 0), (1, 0)] [] (n, s) Q) :
    G 2 120 45 0 [(3, 3), (3, 6), (0, 0), (0, 0)] [] (n, s) Q := by
  refine G_go rfl rfl ?_
  refine G_go rfl rfl ?_
  show G 2 120 45 2 [(3, 3), (3, 6), (1, 0), (0, 0)] [] (n, s) Q
  refine G_go rfl rfl ?_
  refine G_go rfl rfl ?_
  show G 2 120 45 4 [(3, 3), (3, 6), (1, 0), (1, 0)] [] (n, s) Q
  exact h
theorem sb_X5_sumOf_2_3_6 (n : Nat) (s : Nat → Nat → Int) (Q : List Vl → Sto → Prop) (x2 : Int) (hR : refs s)
    (h : G 2 120 45 4 [(3, 3), (3, 6), (1, x2), (1, 0)] [] (n, s) Q) :
    G 2 120 45 2 [(3, 3), (3, 6), (1, x2), (0, 0)] [] (n, s) Q := by
  refine G_go rfl rfl ?_
  refine G_go rfl rfl ?_
  show G 2 120 45 4 [(3, 3), (3, 6), (1, x2), (1, 0)] [] (n, s) Q
  exact h
theorem sb_X5_sumOf_4_3_6 (n : Nat) (s : Nat → Nat → Int) (Q : List Vl → Sto → Prop) (x2 : Int) (x3 : Int) (hR : refs s)
    (h : (s 3 9 ≤ x3 → Q [(1, x2)] (n, s)) ∧ (x3 < s 3 9 → (6 ≤ x3 → Q [(1, x2)] (n, s)) ∧ (x3 < 6 → (0 ≤ x3 ∧ x3 < 6) ∧ (G 2 120 45 4 [(3, 3), (3, 6), (1, wr (x2 + (s 6 x3.toNat))), (1, wr (x3 + 1))] [] (n, s) Q)))) :
    G 2 120 45 4 [(3, 3), (3, 6), (1, x2), (1, x3)] [] (n, s) Q := by
  refine G_go rfl rfl ?_
  refine G_go rfl rfl ?_
  refine G_rd rfl rfl (by decide) ?_
  refine G_ge rfl rfl (fun c1 => ?_) (fun c1 => ?_)
  · have h := h.1 c1
    refine G_go rfl rfl ?_
    exact G_ret rfl rfl h
  · have h := h.2 c1
    refine G_go rfl rfl ?_
    refine G_go rfl rfl ?_
    refine G_go rfl rfl ?_
    refine G_ge rfl rfl (fun c2 => ?_) (fun c2 => ?_)
    · have h := h.1 c2
      refine G_go rfl rfl ?_
      exact G_ret rfl rfl h
    · have h := h.2 c2
      refine G_go rfl rfl ?_
      refine G_go rfl rfl ?_
      refine G_go rfl rfl ?_
      obtain ⟨g3, h⟩ := h
      refine G_ir (n := 6) rfl rfl (by decide) (by decide) g3 ?_
      refine G_go rfl rfl ?_
      refine G_go rfl rfl ?_
      show G 2 120 45 24 [(3, 3), (3, 6), (1, wr (x2 + (s 6 x3.toNat))), (1, x3)] [] (n, s) Q
      refine G_go rfl rfl ?_
      refine G_go rfl rfl ?_
      exact h
theorem sb_X5_sumOf_24_3_6 (n : Nat) (s : Nat → Nat → Int) (Q : List Vl → Sto → Prop) (x2 : Int) (x3 : Int) (hR : refs s)
    (h : G 2 120 45 4 [(3, 3), (3, 6), (1, x2), (1, wr (x3 + 1))] [] (n, s) Q) :
    G 2 120 45 24 [(3, 3), (3, 6), (1, x2), (1, x3)] [] (n, s) Q := by
  refine G_go rfl rfl ?_
  refine G_go rfl rfl ?_
  exact h
theorem c_X5_sumOf_3_6 (n : Nat) (s : Nat → Nat → Int) (Q : List Vl → Sto → Prop) (hR : refs s) (g : 0 ≤ s 3 9 ∧ s 3 9 ≤ 6) (hq : Q [(1, itr (smF (s 6)) 0 (s 3 9).toNat)] (n, s)) : G 2 120 45 0 [(3, 3), (3, 6), (0, 0), (0, 0)] [] (n, s) Q := by
  refine sb_X5_sumOf_0_3_6 n s Q hR ?_
  refine G_up (s 3 9).toNat (fun k b => G 2 120 45 4 [(3, 3), (3, 6), (1, b), (1, (k : Int))] [] (n, s) Q) (smF (s 6)) (fun _ _ => True) 0 trivial (fun _ _ _ _ => trivial) (fun k b hk _ hg => ?_) (fun _ => ?_)
  · rw [← wr_s hk (by omega)] at hg
    exact sb_X5_sumOf_4_3_6 n s Q b k hR ⟨fun e => by omega, fun _ => ⟨fun e => by omega, fun _ => ⟨by omega, hg⟩⟩⟩
  · exact sb_X5_sumOf_4_3_6 n s Q _ _ hR ⟨fun _ => hq, fun e => by omega⟩
theorem sb_X5_sumOf_0_3_8 (n : Nat) (s : Nat → Nat → Int) (Q : List Vl → Sto → Prop) (hR : refs s)
    (h : G 2 120 45 4 [(3, 3), (3, 8), (1, 0), (1, 0)] [] (n, s) Q) :
    G 2 120 45 0 [(3, 3), (3, 8), (0, 0), (0, 0)] [] (n, s) Q := by
  refine G_go rfl rfl ?_
  refine G_go rfl rfl ?_
  show G 2 120 45 2 [(3, 3), (3, 8), (1, 0), (0, 0)] [] (n, s) Q
  refine G_go rfl rfl ?_
  refine G_go rfl rfl ?_
  show G 2 120 45 4 [(3, 3), (3, 8), (1, 0), (1, 0)] [] (n, s) Q
  exact h
theorem sb_X5_sumOf_2_3_8 (n : Nat) (s : Nat → Nat → Int) (Q : List Vl → Sto → Prop) (x2 : Int) (hR : refs s)
    (h : G 2 120 45 4 [(3, 3), (3, 8), (1, x2), (1, 0)] [] (n, s) Q) :
    G 2 120 45 2 [(3, 3), (3, 8), (1, x2), (0, 0)] [] (n, s) Q := by
  refine G_go rfl rfl ?_
  refine G_go rfl rfl ?_
  show G 2 120 45 4 [(3, 3), (3, 8), (1, x2), (1, 0)] [] (n, s) Q
  exact h
theorem sb_X5_sumOf_4_3_8 (n : Nat) (s : Nat → Nat → Int) (Q : List Vl → Sto → Prop) (x2 : Int) (x3 : Int) (hR : refs s)
    (h : (s 3 9 ≤ x3 → Q [(1, x2)] (n, s)) ∧ (x3 < s 3 9 → (6 ≤ x3 → Q [(1, x2)] (n, s)) ∧ (x3 < 6 → (0 ≤ x3 ∧ x3 < 6) ∧ (G 2 120 45 4 [(3, 3), (3, 8), (1, wr (x2 + (s 8 x3.toNat))), (1, wr (x3 + 1))] [] (n, s) Q)))) :
    G 2 120 45 4 [(3, 3), (3, 8), (1, x2), (1, x3)] [] (n, s) Q := by
  refine G_go rfl rfl ?_
  refine G_go rfl rfl ?_
  refine G_rd rfl rfl (by decide) ?_
  refine G_ge rfl rfl (fun c1 => ?_) (fun c1 => ?_)
  · have h := h.1 c1
    refine G_go rfl rfl ?_
    exact G_ret rfl rfl h
  · have h := h.2 c1
    refine G_go rfl rfl ?_
    refine G_go rfl rfl ?_
    refine G_go rfl rfl ?_
    refine G_ge rfl rfl (fun c2 => ?_) (fun c2 => ?_)
    · have h := h.1 c2
      refine G_go rfl rfl ?_
      exact G_ret rfl rfl h
    · have h := h.2 c2
      refine G_go rfl rfl ?_
      refine G_go rfl rfl ?_
      refine G_go rfl rfl ?_
      obtain ⟨g3, h⟩ := h
      refine G_ir (n := 6) rfl rfl (by decide) (by decide) g3 ?_
      refine G_go rfl rfl ?_
      refine G_go rfl rfl ?_
      show G 2 120 45 24 [(3, 3), (3, 8), (1, wr (x2 + (s 8 x3.toNat))), (1, x3)] [] (n, s) Q
      refine G_go rfl rfl ?_
      refine G_go rfl rfl ?_
      exact h
theorem sb_X5_sumOf_24_3_8 (n : Nat) (s : Nat → Nat → Int) (Q : List Vl → Sto → Prop) (x2 : Int) (x3 : Int) (hR : refs s)
    (h : G 2 120 45 4 [(3, 3), (3, 8), (1, x2), (1, wr (x3 + 1))] [] (n, s) Q) :
    G 2 120 45 24 [(3, 3), (3, 8), (1, x2), (1, x3)] [] (n, s) Q := by
  refine G_go rfl rfl ?_
  refine G_go rfl rfl ?_
  exact h
theorem c_X5_sumOf_3_8 (n : Nat) (s : Nat → Nat → Int) (Q : List Vl → Sto → Prop) (hR : refs s) (g : 0 ≤ s 3 9 ∧ s 3 9 ≤ 6) (hq : Q [(1, itr (smF (s 8)) 0 (s 3 9).toNat)] (n, s)) : G 2 120 45 0 [(3, 3), (3, 8), (0, 0), (0, 0)] [] (n, s) Q := by
  refine sb_X5_sumOf_0_3_8 n s Q hR ?_
  refine G_up (s 3 9).toNat (fun k b => G 2 120 45 4 [(3, 3), (3, 8), (1, b), (1, (k : Int))] [] (n, s) Q) (smF (s 8)) (fun _ _ => True) 0 trivial (fun _ _ _ _ => trivial) (fun k b hk _ hg => ?_) (fun _ => ?_)
  · rw [← wr_s hk (by omega)] at hg
    exact sb_X5_sumOf_4_3_8 n s Q b k hR ⟨fun e => by omega, fun _ => ⟨fun e => by omega, fun _ => ⟨by omega, hg⟩⟩⟩
  · exact sb_X5_sumOf_4_3_8 n s Q _ _ hR ⟨fun _ => hq, fun e => by omega⟩
theorem sb_X5_sumOf_0_3_10 (n : Nat) (s : Nat → Nat → Int) (Q : List Vl → Sto → Prop) (hR : refs s)
    (h : G 2 120 45 4 [(3, 3), (3, 10), (1, 0), (1, 0)] [] (n, s) Q) :
    G 2 120 45 0 [(3, 3), (3, 10), (0, 0), (0, 0)] [] (n, s) Q := by
  refine G_go rfl rfl ?_
  refine G_go rfl rfl ?_
  show G 2 120 45 2 [(3, 3), (3, 10), (1, 0), (0, 0)] [] (n, s) Q
  refine G_go rfl rfl ?_
  refine G_go rfl rfl ?_
  show G 2 120 45 4 [(3, 3), (3, 10), (1, 0), (1, 0)] [] (n, s) Q
  exact h
theorem sb_X5_sumOf_2_3_10 (n : Nat) (s : Nat → Nat → Int) (Q : List Vl → Sto → Prop) (x2 : Int) (hR : refs s)
    (h : G 2 120 45 4 [(3, 3), (3, 10), (1, x2), (1, 0)] [] (n, s) Q) :
    G 2 120 45 2 [(3, 3), (3, 10), (1, x2), (0, 0)] [] (n, s) Q := by
  refine G_go rfl rfl ?_
  refine G_go rfl rfl ?_
  show G 2 120 45 4 [(3, 3), (3, 10), (1, x2), (1, 0)] [] (n, s) Q
  exact h
theorem sb_X5_sumOf_4_3_10 (n : Nat) (s : Nat → Nat → Int) (Q : List Vl → Sto → Prop) (x2 : Int) (x3 : Int) (hR : refs s)
    (h : (s 3 9 ≤ x3 → Q [(1, x2)] (n, s)) ∧ (x3 < s 3 9 → (6 ≤ x3 → Q [(1, x2)] (n, s)) ∧ (x3 < 6 → (0 ≤ x3 ∧ x3 < 6) ∧ (G 2 120 45 4 [(3, 3), (3, 10), (1, wr (x2 + (s 10 x3.toNat))), (1, wr (x3 + 1))] [] (n, s) Q)))) :
    G 2 120 45 4 [(3, 3), (3, 10), (1, x2), (1, x3)] [] (n, s) Q := by
  refine G_go rfl rfl ?_
  refine G_go rfl rfl ?_
  refine G_rd rfl rfl (by decide) ?_
  refine G_ge rfl rfl (fun c1 => ?_) (fun c1 => ?_)
  · have h := h.1 c1
    refine G_go rfl rfl ?_
    exact G_ret rfl rfl h
  · have h := h.2 c1
    refine G_go rfl rfl ?_
    refine G_go rfl rfl ?_
    refine G_go rfl rfl ?_
    refine G_ge rfl rfl (fun c2 => ?_) (fun c2 => ?_)
    · have h := h.1 c2
      refine G_go rfl rfl ?_
      exact G_ret rfl rfl h
    · have h := h.2 c2
      refine G_go rfl rfl ?_
      refine G_go rfl rfl ?_
      refine G_go rfl rfl ?_
      obtain ⟨g3, h⟩ := h
      refine G_ir (n := 6) rfl rfl (by decide) (by decide) g3 ?_
      refine G_go rfl rfl ?_
      refine G_go rfl rfl ?_
      show G 2 120 45 24 [(3, 3), (3, 10), (1, wr (x2 + (s 10 x3.toNat))), (1, x3)] [] (n, s) Q
      refine G_go rfl rfl ?_
      refine G_go rfl rfl ?_
      exact h
theorem sb_X5_sumOf_24_3_10 (n : Nat) (s : Nat → Nat → Int) (Q : List Vl → Sto → Prop) (x2 : Int) (x3 : Int) (hR : refs s)
    (h : G 2 120 45 4 [(3, 3), (3, 10), (1, x2), (1, wr (x3 + 1))] [] (n, s) Q) :
    G 2 120 45 24 [(3, 3), (3, 10), (1, x2), (1, x3)] [] (n, s) Q := by
  refine G_go rfl rfl ?_
  refine G_go rfl rfl ?_
  exact h
theorem c_X5_sumOf_3_10 (n : Nat) (s : Nat → Nat → Int) (Q : List Vl → Sto → Prop) (hR : refs s) (g : 0 ≤ s 3 9 ∧ s 3 9 ≤ 6) (hq : Q [(1, itr (smF (s 10)) 0 (s 3 9).toNat)] (n, s)) : G 2 120 45 0 [(3, 3), (3, 10), (0, 0), (0, 0)] [] (n, s) Q := by
  refine sb_X5_sumOf_0_3_10 n s Q hR ?_
  refine G_up (s 3 9).toNat (fun k b => G 2 120 45 4 [(3, 3), (3, 10), (1, b), (1, (k : Int))] [] (n, s) Q) (smF (s 10)) (fun _ _ => True) 0 trivial (fun _ _ _ _ => trivial) (fun k b hk _ hg => ?_) (fun _ => ?_)
  · rw [← wr_s hk (by omega)] at hg
    exact sb_X5_sumOf_4_3_10 n s Q b k hR ⟨fun e => by omega, fun _ => ⟨fun e => by omega, fun _ => ⟨by omega, hg⟩⟩⟩
  · exact sb_X5_sumOf_4_3_10 n s Q _ _ hR ⟨fun _ => hq, fun e => by omega⟩
theorem sb_X5_sumOf_0_13_16 (n : Nat) (s : Nat → Nat → Int) (Q : List Vl → Sto → Prop) (hR : refs s)
    (h : G 2 120 45 4 [(3, 13), (3, 16), (1, 0), (1, 0)] [] (n, s) Q) :
    G 2 120 45 0 [(3, 13), (3, 16), (0, 0), (0, 0)] [] (n, s) Q := by
  refine G_go rfl rfl ?_
  refine G_go rfl rfl ?_
  show G 2 120 45 2 [(3, 13), (3, 16), (1, 0), (0, 0)] [] (n, s) Q
  refine G_go rfl rfl ?_
  refine G_go rfl rfl ?_
  show G 2 120 45 4 [(3, 13), (3, 16), (1, 0), (1, 0)] [] (n, s) Q
  exact h
theorem sb_X5_sumOf_2_13_16 (n : Nat) (s : Nat → Nat → Int) (Q : List Vl → Sto → Prop) (x2 : Int) (hR : refs s)
    (h : G 2 120 45 4 [(3, 13), (3, 16), (1, x2), (1, 0)] [] (n, s) Q) :
    G 2 120 45 2 [(3, 13), (3, 16), (1, x2), (0, 0)] [] (n, s) Q := by
  refine G_go rfl rfl ?_
  refine G_go rfl rfl ?_
  show G 2 120 45 4 [(3, 13), (3, 16), (1, x2), (1, 0)] [] (n, s) Q
  exact h
theorem sb_X5_sumOf_4_13_16 (n : Nat) (s : Nat → Nat → Int) (Q : List Vl → Sto → Prop) (x2 : Int) (x3 : Int) (hR : refs s)
    (h : (s 13 9 ≤ x3 → Q [(1, x2)] (n, s)) ∧ (x3 < s 13 9 → (6 ≤ x3 → Q [(1, x2)] (n, s)) ∧ (x3 < 6 → (0 ≤ x3 ∧ x3 < 6) ∧ (G 2 120 45 4 [(3, 13), (3, 16), (1, wr (x2 + (s 16 x3.toNat))), (1, wr (x3 + 1))] [] (n, s) Q)))) :
    G 2 120 45 4 [(3, 13), (3, 16), (1, x2), (1, x3)] [] (n, s) Q := by
  refine G_go rfl rfl ?_
  refine G_go rfl rfl ?_
  refine G_rd rfl rfl (by decide) ?_
  refine G_ge rfl rfl (fun c1 => ?_) (fun c1 => ?_)
  · have h := h.1 c1
    refine G_go rfl rfl ?_
    exact G_ret rfl rfl h
  · have h := h.2 c1
    refine G_go rfl rfl ?_
    refine G_go rfl rfl ?_
    refine G_go rfl rfl ?_
    refine G_ge rfl rfl (fun c2 => ?_) (fun c2 => ?_)
    · have h := h.1 c2
      refine G_go rfl rfl ?_
      exact G_ret rfl rfl h
    · have h := h.2 c2
      refine G_go rfl rfl ?_
      refine G_go rfl rfl ?_
      refine G_go rfl rfl ?_
      obtain ⟨g3, h⟩ := h
      refine G_ir (n := 6) rfl rfl (by decide) (by decide) g3 ?_
      refine G_go rfl rfl ?_
      refine G_go rfl rfl ?_
      show G 2 120 45 24 [(3, 13), (3, 16), (1, wr (x2 + (s 16 x3.toNat))), (1, x3)] [] (n, s) Q
      refine G_go rfl rfl ?_
      refine G_go rfl rfl ?_
      exact h
theorem sb_X5_sumOf_24_13_16 (n : Nat) (s : Nat → Nat → Int) (Q : List Vl → Sto → Prop) (x2 : Int) (x3 : Int) (hR : refs s)
    (h : G 2 120 45 4 [(3, 13), (3, 16), (1, x2), (1, wr (x3 + 1))] [] (n, s) Q) :
    G 2 120 45 24 [(3, 13), (3, 16), (1, x2), (1, x3)] [] (n, s) Q := by
  refine G_go rfl rfl ?_
  refine G_go rfl rfl ?_
  exact h
theorem c_X5_sumOf_13_16 (n : Nat) (s : Nat → Nat → Int) (Q : List Vl → Sto → Prop) (hR : refs s) (g : 0 ≤ s 13 9 ∧ s 13 9 ≤ 6) (hq : Q [(1, itr (smF (s 16)) 0 (s 13 9).toNat)] (n, s)) : G 2 120 45 0 [(3, 13), (3, 16), (0, 0), (0, 0)] [] (n, s) Q := by
  refine sb_X5_sumOf_0_13_16 n s Q hR ?_
  refine G_up (s 13 9).toNat (fun k b => G 2 120 45 4 [(3, 13), (3, 16), (1, b), (1, (k : Int))] [] (n, s) Q) (smF (s 16)) (fun _ _ => True) 0 trivial (fun _ _ _ _ => trivial) (fun k b hk _ hg => ?_) (fun _ => ?_)
  · rw [← wr_s hk (by omega)] at hg
    exact sb_X5_sumOf_4_13_16 n s Q b k hR ⟨fun e => by omega, fun _ => ⟨fun e => by omega, fun _ => ⟨by omega, hg⟩⟩⟩
  · exact sb_X5_sumOf_4_13_16 n s Q _ _ hR ⟨fun _ => hq, fun e => by omega⟩
theorem sb_X5_sumOf_0_13_18 (n : Nat) (s : Nat → Nat → Int) (Q : List Vl → Sto → Prop) (hR : refs s)
    (h : G 2 120 45 4 [(3, 13), (3, 18), (1, 0), (1, 0)] [] (n, s) Q) :
    G 2 120 45 0 [(3, 13), (3, 18), (0, 0), (0, 0)] [] (n, s) Q := by
  refine G_go rfl rfl ?_
  refine G_go rfl rfl ?_
  show G 2 120 45 2 [(3, 13), (3, 18), (1, 0), (0, 0)] [] (n, s) Q
  refine G_go rfl rfl ?_
  refine G_go rfl rfl ?_
  show G 2 120 45 4 [(3, 13), (3, 18), (1, 0), (1, 0)] [] (n, s) Q
  exact h
theorem sb_X5_sumOf_2_13_18 (n : Nat) (s : Nat → Nat → Int) (Q : List Vl → Sto → Prop) (x2 : Int) (hR : refs s)
    (h : G 2 120 45 4 [(3, 13), (3, 18), (1, x2), (1, 0)] [] (n, s) Q) :
    G 2 120 45 2 [(3, 13), (3, 18), (1, x2), (0, 0)] [] (n, s) Q := by
  refine G_go rfl rfl ?_
  refine G_go rfl rfl ?_
  show G 2 120 45 4 [(3, 13), (3, 18), (1, x2), (1, 0)] [] (n, s) Q
  exact h
theorem sb_X5_sumOf_4_13_18 (n : Nat) (s : Nat → Nat → Int) (Q : List Vl → Sto → Prop) (x2 : Int) (x3 : Int) (hR : refs s)
    (h : (s 13 9 ≤ x3 → Q [(1, x2)] (n, s)) ∧ (x3 < s 13 9 → (6 ≤ x3 → Q [(1, x2)] (n, s)) ∧ (x3 < 6 → (0 ≤ x3 ∧ x3 < 6) ∧ (G 2 120 45 4 [(3, 13), (3, 18), (1, wr (x2 + (s 18 x3.toNat))), (1, wr (x3 + 1))] [] (n, s) Q)))) :
    G 2 120 45 4 [(3, 13), (3, 18), (1, x2), (1, x3)] [] (n, s) Q := by
  refine G_go rfl rfl ?_
  refine G_go rfl rfl ?_
  refine G_rd rfl rfl (by decide) ?_
  refine G_ge rfl rfl (fun c1 => ?_) (fun c1 => ?_)
  · have h := h.1 c1
    refine G_go rfl rfl ?_
    exact G_ret rfl rfl h
  · have h := h.2 c1
    refine G_go rfl rfl ?_
    refine G_go rfl rfl ?_
    refine G_go rfl rfl ?_
    refine G_ge rfl rfl (fun c2 => ?_) (fun c2 => ?_)
    · have h := h.1 c2
      refine G_go rfl rfl ?_
      exact G_ret rfl rfl h
    · have h := h.2 c2
      refine G_go rfl rfl ?_
      refine G_go rfl rfl ?_
      refine G_go rfl rfl ?_
      obtain ⟨g3, h⟩ := h
      refine G_ir (n := 6) rfl rfl (by decide) (by decide) g3 ?_
      refine G_go rfl rfl ?_
      refine G_go rfl rfl ?_
      show G 2 120 45 24 [(3, 13), (3, 18), (1, wr (x2 + (s 18 x3.toNat))), (1, x3)] [] (n, s) Q
      refine G_go rfl rfl ?_
      refine G_go rfl rfl ?_
      exact h
theorem sb_X5_sumOf_24_13_18 (n : Nat) (s : Nat → Nat → Int) (Q : List Vl → Sto → Prop) (x2 : Int) (x3 : Int) (hR : refs s)
    (h : G 2 120 45 4 [(3, 13), (3, 18), (1, x2), (1, wr (x3 + 1))] [] (n, s) Q) :
    G 2 120 45 24 [(3, 13), (3, 18), (1, x2), (1, x3)] [] (n, s) Q := by
  refine G_go rfl rfl ?_
  refine G_go rfl rfl ?_
  exact h
theorem c_X5_sumOf_13_18 (n : Nat) (s : Nat → Nat → Int) (Q : List Vl → Sto → Prop) (hR : refs s) (g : 0 ≤ s 13 9 ∧ s 13 9 ≤ 6) (hq : Q [(1, itr (smF (s 18)) 0 (s 13 9).toNat)] (n, s)) : G 2 120 45 0 [(3, 13), (3, 18), (0, 0), (0, 0)] [] (n, s) Q := by
  refine sb_X5_sumOf_0_13_18 n s Q hR ?_
  refine G_up (s 13 9).toNat (fun k b => G 2 120 45 4 [(3, 13), (3, 18), (1, b), (1, (k : Int))] [] (n, s) Q) (smF (s 18)) (fun _ _ => True) 0 trivial (fun _ _ _ _ => trivial) (fun k b hk _ hg => ?_) (fun _ => ?_)
  · rw [← wr_s hk (by omega)] at hg
    exact sb_X5_sumOf_4_13_18 n s Q b k hR ⟨fun e => by omega, fun _ => ⟨fun e => by omega, fun _ => ⟨by omega, hg⟩⟩⟩
  · exact sb_X5_sumOf_4_13_18 n s Q _ _ hR ⟨fun _ => hq, fun e => by omega⟩
theorem sb_X5_sumOf_0_13_20 (n : Nat) (s : Nat → Nat → Int) (Q : List Vl → Sto → Prop) (hR : refs s)
    (h : G 2 120 45 4 [(3, 13), (3, 20), (1, 0), (1, 0)] [] (n, s) Q) :
    G 2 120 45 0 [(3, 13), (3, 20), (0, 0), (0, 0)] [] (n, s) Q := by
  refine G_go rfl rfl ?_
  refine G_go rfl rfl ?_
  show G 2 120 45 2 [(3, 13), (3, 20), (1, 0), (0, 0)] [] (n, s) Q
  refine G_go rfl rfl ?_
  refine G_go rfl rfl ?_
  show G 2 120 45 4 [(3, 13), (3, 20), (1, 0), (1, 0)] [] (n, s) Q
  exact h
theorem sb_X5_sumOf_2_13_20 (n : Nat) (s : Nat → Nat → Int) (Q : List Vl → Sto → Prop) (x2 : Int) (hR : refs s)
    (h : G 2 120 45 4 [(3, 13), (3, 20), (1, x2), (1, 0)] [] (n, s) Q) :
    G 2 120 45 2 [(3, 13), (3, 20), (1, x2), (0, 0)] [] (n, s) Q := by
  refine G_go rfl rfl ?_
  refine G_go rfl rfl ?_
  show G 2 120 45 4 [(3, 13), (3, 20), (1, x2), (1, 0)] [] (n, s) Q
  exact h
theorem sb_X5_sumOf_4_13_20 (n : Nat) (s : Nat → Nat → Int) (Q : List Vl → Sto → Prop) (x2 : Int) (x3 : Int) (hR : refs s)
    (h : (s 13 9 ≤ x3 → Q [(1, x2)] (n, s)) ∧ (x3 < s 13 9 → (6 ≤ x3 → Q [(1, x2)] (n, s)) ∧ (x3 < 6 → (0 ≤ x3 ∧ x3 < 6) ∧ (G 2 120 45 4 [(3, 13), (3, 20), (1, wr (x2 + (s 20 x3.toNat))), (1, wr (x3 + 1))] [] (n, s) Q)))) :
    G 2 120 45 4 [(3, 13), (3, 20), (1, x2), (1, x3)] [] (n, s) Q := by
  refine G_go rfl rfl ?_
  refine G_go rfl rfl ?_
  refine G_rd rfl rfl (by decide) ?_
  refine G_ge rfl rfl (fun c1 => ?_) (fun c1 => ?_)
  · have h := h.1 c1
    refine G_go rfl rfl ?_
    exact G_ret rfl rfl h
  · have h := h.2 c1
    refine G_go rfl rfl ?_
    refine G_go rfl rfl ?_
    refine G_go rfl rfl ?_
    refine G_ge rfl rfl (fun c2 => ?_) (fun c2 => ?_)
    · have h := h.1 c2
      refine G_go rfl rfl ?_
      exact G_ret rfl rfl h
    · have h := h.2 c2
      refine G_go rfl rfl ?_
      refine G_go rfl rfl ?_
      refine G_go rfl rfl ?_
      obtain ⟨g3, h⟩ := h
      refine G_ir (n := 6) rfl rfl (by decide) (by decide) g3 ?_
      refine G_go rfl rfl ?_
      refine G_go rfl rfl ?_
      show G 2 120 45 24 [(3, 13), (3, 20), (1, wr (x2 + (s 20 x3.toNat))), (1, x3)] [] (n, s) Q
      refine G_go rfl rfl ?_
      refine G_go rfl rfl ?_
      exact h
theorem sb_X5_sumOf_24_13_20 (n : Nat) (s : Nat → Nat → Int) (Q : List Vl → Sto → Prop) (x2 : Int) (x3 : Int) (hR : refs s)
    (h : G 2 120 45 4 [(3, 13), (3, 20), (1, x2), (1, wr (x3 + 1))] [] (n, s) Q) :
    G 2 120 45 24 [(3, 13), (3, 20), (1, x2), (1, x3)] [] (n, s) Q := by
  refine G_go rfl rfl ?_
  refine G_go rfl rfl ?_
  exact h
theorem c_X5_sumOf_13_20 (n : Nat) (s : Nat → Nat → Int) (Q : List Vl → Sto → Prop) (hR : refs s) (g : 0 ≤ s 13 9 ∧ s 13 9 ≤ 6) (hq : Q [(1, itr (smF (s 20)) 0 (s 13 9).toNat)] (n, s)) : G 2 120 45 0 [(3, 13), (3, 20), (0, 0), (0, 0)] [] (n, s) Q := by
  refine sb_X5_sumOf_0_13_20 n s Q hR ?_
  refine G_up (s 13 9).toNat (fun k b => G 2 120 45 4 [(3, 13), (3, 20), (1, b), (1, (k : Int))] [] (n, s) Q) (smF (s 20)) (fun _ _ => True) 0 trivial (fun _ _ _ _ => trivial) (fun k b hk _ hg => ?_) (fun _ => ?_)
  · rw [← wr_s hk (by omega)] at hg
    exact sb_X5_sumOf_4_13_20 n s Q b k hR ⟨fun e => by omega, fun _ => ⟨fun e => by omega, fun _ => ⟨by omega, hg⟩⟩⟩
  · exact sb_X5_sumOf_4_13_20 n s Q _ _ hR ⟨fun _ => hq, fun e => by omega⟩
theorem sb_X7_allPages_0 (n : Nat) (s : Nat → Nat → Int) (Q : List Vl → Sto → Prop) (hR : refs s)
    (h : G 120 140 149 4 [(3, 120), (1, 0), (1, 0)] [] (n, s) Q) :
    G 120 140 149 0 [(3, 120), (0, 0), (0, 0)] [] (n, s) Q := by
  refine G_go rfl rfl ?_
  refine G_go rfl rfl ?_
  show G 120 140 149 2 [(3, 120), (1, 0), (0, 0)] [] (n, s) Q
  refine G_go rfl rfl ?_
  refine G_go rfl rfl ?_
  show G 120 140 149 4 [(3, 120), (1, 0), (1, 0)] [] (n, s) Q
  exact h
theorem sb_X7_allPages_2 (n : Nat) (s : Nat → Nat → Int) (Q : List Vl → Sto → Prop) (x1 : Int) (hR : refs s)
    (h : G 120 140 149 4 [(3, 120), (1, x1), (1, 0)] [] (n, s) Q) :
    G 120 140 149 2 [(3, 120), (1, x1), (0, 0)] [] (n, s) Q := by
  refine G_go rfl rfl ?_
  refine G_go rfl rfl ?_
  show G 120 140 149 4 [(3, 120), (1, x1), (1, 0)] [] (n, s) Q
  exact h
theorem sb_X7_allPages_4 (n : Nat) (s : Nat → Nat → Int) (Q : List Vl → Sto → Prop) (x1 : Int) (x2 : Int) (hR : refs s)
    (h : (s 120 0 ≤ x2 → Q [(1, x1)] (n, s)) ∧ (x2 < s 120 0 → (0 ≤ x2 ∧ x2 < 6) ∧ (G 120 140 149 4 [(3, 120), (1, wr (x1 + (s 127 x2.toNat))), (1, wr (x2 + 1))] [] (n, s) Q))) :
    G 120 140 149 4 [(3, 120), (1, x1), (1, x2)] [] (n, s) Q := by
  refine G_go rfl rfl ?_
  refine G_go rfl rfl ?_
  refine G_rd rfl rfl (by decide) ?_
  refine G_ge rfl rfl (fun c1 => ?_) (fun c1 => ?_)
  · have h := h.1 c1
    refine G_go rfl rfl ?_
    exact G_ret rfl rfl h
  · have h := h.2 c1
    refine G_go rfl rfl ?_
    refine G_go rfl rfl ?_
    refine G_rf rfl rfl (by decide) (hR 120 7 127 rfl) ?_
    refine G_go rfl rfl ?_
    obtain ⟨g2, h⟩ := h
    refine G_ir (n := 6) rfl rfl (by decide) (by decide) g2 ?_
    refine G_go rfl rfl ?_
    refine G_go rfl rfl ?_
    show G 120 140 149 21 [(3, 120), (1, wr (x1 + (s 127 x2.toNat))), (1, x2)] [] (n, s) Q
    refine G_go rfl rfl ?_
    refine G_go rfl rfl ?_
    exact h
theorem sb_X7_allPages_21 (n : Nat) (s : Nat → Nat → Int) (Q : List Vl → Sto → Prop) (x1 : Int) (x2 : Int) (hR : refs s)
    (h : G 120 140 149 4 [(3, 120), (1, x1), (1, wr (x2 + 1))] [] (n, s) Q) :
    G 120 140 149 21 [(3, 120), (1, x1), (1, x2)] [] (n, s) Q := by
  refine G_go rfl rfl ?_
  refine G_go rfl rfl ?_
  exact h
theorem c_X7_allPages (n : Nat) (s : Nat → Nat → Int) (Q : List Vl → Sto → Prop) (hR : refs s) (g : 0 ≤ s 120 0 ∧ s 120 0 ≤ 6) (hq : Q [(1, itr (smF (s 127)) 0 (s 120 0).toNat)] (n, s)) : G 120 140 149 0 [(3, 120), (0, 0), (0, 0)] [] (n, s) Q := by
  refine sb_X7_allPages_0 n s Q hR ?_
  refine G_up (s 120 0).toNat (fun k b => G 120 140 149 4 [(3, 120), (1, b), (1, (k : Int))] [] (n, s) Q) (smF (s 127)) (fun _ _ => True) 0 trivial (fun _ _ _ _ => trivial) (fun k b hk _ hg => ?_) (fun _ => ?_)
  · rw [← wr_s hk (by omega)] at hg
    exact sb_X7_allPages_4 n s Q b k hR ⟨fun e => by omega, fun _ => ⟨by omega, hg⟩⟩
  · exact sb_X7_allPages_4 n s Q _ _ hR ⟨fun _ => hq, fun e => by omega⟩
theorem sb_X7_allCandles_0 (n : Nat) (s : Nat → Nat → Int) (Q : List Vl → Sto → Prop) (hR : refs s)
    (h : G 120 140 151 4 [(3, 120), (1, 0), (1, 0)] [] (n, s) Q) :
    G 120 140 151 0 [(3, 120), (0, 0), (0, 0)] [] (n, s) Q := by
  refine G_go rfl rfl ?_
  refine G_go rfl rfl ?_
  show G 120 140 151 2 [(3, 120), (1, 0), (0, 0)] [] (n, s) Q
  refine G_go rfl rfl ?_
  refine G_go rfl rfl ?_
  show G 120 140 151 4 [(3, 120), (1, 0), (1, 0)] [] (n, s) Q
  exact h
theorem sb_X7_allCandles_2 (n : Nat) (s : Nat → Nat → Int) (Q : List Vl → Sto → Prop) (x1 : Int) (hR : refs s)
    (h : G 120 140 151 4 [(3, 120), (1, x1), (1, 0)] [] (n, s) Q) :
    G 120 140 151 2 [(3, 120), (1, x1), (0, 0)] [] (n, s) Q := by
  refine G_go rfl rfl ?_
  refine G_go rfl rfl ?_
  show G 120 140 151 4 [(3, 120), (1, x1), (1, 0)] [] (n, s) Q
  exact h
theorem sb_X7_allCandles_4 (n : Nat) (s : Nat → Nat → Int) (Q : List Vl → Sto → Prop) (x1 : Int) (x2 : Int) (hR : refs s)
    (h : (s 120 0 ≤ x2 → Q [(1, x1)] (n, s)) ∧ (x2 < s 120 0 → (0 ≤ x2 ∧ x2 < 6) ∧ (G 120 140 151 4 [(3, 120), (1, wr (x1 + (s 125 x2.toNat))), (1, wr (x2 + 1))] [] (n, s) Q))) :
    G 120 140 151 4 [(3, 120), (1, x1), (1, x2)] [] (n, s) Q := by
  refine G_go rfl rfl ?_
  refine G_go rfl rfl ?_
  refine G_rd rfl rfl (by decide) ?_
  refine G_ge rfl rfl (fun c1 => ?_) (fun c1 => ?_)
  · have h := h.1 c1
    refine G_go rfl rfl ?_
    exact G_ret rfl rfl h
  · have h := h.2 c1
    refine G_go rfl rfl ?_
    refine G_go rfl rfl ?_
    refine G_rf rfl rfl (by decide) (hR 120 5 125 rfl) ?_
    refine G_go rfl rfl ?_
    obtain ⟨g2, h⟩ := h
    refine G_ir (n := 6) rfl rfl (by decide) (by decide) g2 ?_
    refine G_go rfl rfl ?_
    refine G_go rfl rfl ?_
    show G 120 140 151 21 [(3, 120), (1, wr (x1 + (s 125 x2.toNat))), (1, x2)] [] (n, s) Q
    refine G_go rfl rfl ?_
    refine G_go rfl rfl ?_
    exact h
theorem sb_X7_allCandles_21 (n : Nat) (s : Nat → Nat → Int) (Q : List Vl → Sto → Prop) (x1 : Int) (x2 : Int) (hR : refs s)
    (h : G 120 140 151 4 [(3, 120), (1, x1), (1, wr (x2 + 1))] [] (n, s) Q) :
    G 120 140 151 21 [(3, 120), (1, x1), (1, x2)] [] (n, s) Q := by
  refine G_go rfl rfl ?_
  refine G_go rfl rfl ?_
  exact h
theorem c_X7_allCandles (n : Nat) (s : Nat → Nat → Int) (Q : List Vl → Sto → Prop) (hR : refs s) (g : 0 ≤ s 120 0 ∧ s 120 0 ≤ 6) (hq : Q [(1, itr (smF (s 125)) 0 (s 120 0).toNat)] (n, s)) : G 120 140 151 0 [(3, 120), (0, 0), (0, 0)] [] (n, s) Q := by
  refine sb_X7_allCandles_0 n s Q hR ?_
  refine G_up (s 120 0).toNat (fun k b => G 120 140 151 4 [(3, 120), (1, b), (1, (k : Int))] [] (n, s) Q) (smF (s 125)) (fun _ _ => True) 0 trivial (fun _ _ _ _ => trivial) (fun k b hk _ hg => ?_) (fun _ => ?_)
  · rw [← wr_s hk (by omega)] at hg
    exact sb_X7_allCandles_4 n s Q b k hR ⟨fun e => by omega, fun _ => ⟨by omega, hg⟩⟩
  · exact sb_X7_allCandles_4 n s Q _ _ hR ⟨fun _ => hq, fun e => by omega⟩
theorem sb_X7_allHolds_0 (n : Nat) (s : Nat → Nat → Int) (Q : List Vl → Sto → Prop) (hR : refs s)
    (h : G 120 140 152 4 [(3, 120), (1, 0), (1, 0)] [] (n, s) Q) :
    G 120 140 152 0 [(3, 120), (0, 0), (0, 0)] [] (n, s) Q := by
  refine G_go rfl rfl ?_
  refine G_go rfl rfl ?_
  show G 120 140 152 2 [(3, 120), (1, 0), (0, 0)] [] (n, s) Q
  refine G_go rfl rfl ?_
  refine G_go rfl rfl ?_
  show G 120 140 152 4 [(3, 120), (1, 0), (1, 0)] [] (n, s) Q
  exact h
theorem sb_X7_allHolds_2 (n : Nat) (s : Nat → Nat → Int) (Q : List Vl → Sto → Prop) (x1 : Int) (hR : refs s)
    (h : G 120 140 152 4 [(3, 120), (1, x1), (1, 0)] [] (n, s) Q) :
    G 120 140 152 2 [(3, 120), (1, x1), (0, 0)] [] (n, s) Q := by
  refine G_go rfl rfl ?_
  refine G_go rfl rfl ?_
  show G 120 140 152 4 [(3, 120), (1, x1), (1, 0)] [] (n, s) Q
  exact h
theorem sb_X7_allHolds_4 (n : Nat) (s : Nat → Nat → Int) (Q : List Vl → Sto → Prop) (x1 : Int) (x2 : Int) (hR : refs s)
    (h : (s 120 0 ≤ x2 → Q [(1, x1)] (n, s)) ∧ (x2 < s 120 0 → (0 ≤ x2 ∧ x2 < 6) ∧ (G 120 140 152 4 [(3, 120), (1, wr (x1 + (s 123 x2.toNat))), (1, wr (x2 + 1))] [] (n, s) Q))) :
    G 120 140 152 4 [(3, 120), (1, x1), (1, x2)] [] (n, s) Q := by
  refine G_go rfl rfl ?_
  refine G_go rfl rfl ?_
  refine G_rd rfl rfl (by decide) ?_
  refine G_ge rfl rfl (fun c1 => ?_) (fun c1 => ?_)
  · have h := h.1 c1
    refine G_go rfl rfl ?_
    exact G_ret rfl rfl h
  · have h := h.2 c1
    refine G_go rfl rfl ?_
    refine G_go rfl rfl ?_
    refine G_rf rfl rfl (by decide) (hR 120 3 123 rfl) ?_
    refine G_go rfl rfl ?_
    obtain ⟨g2, h⟩ := h
    refine G_ir (n := 6) rfl rfl (by decide) (by decide) g2 ?_
    refine G_go rfl rfl ?_
    refine G_go rfl rfl ?_
    show G 120 140 152 21 [(3, 120), (1, wr (x1 + (s 123 x2.toNat))), (1, x2)] [] (n, s) Q
    refine G_go rfl rfl ?_
    refine G_go rfl rfl ?_
    exact h
theorem sb_X7_allHolds_21 (n : Nat) (s : Nat → Nat → Int) (Q : List Vl → Sto → Prop) (x1 : Int) (x2 : Int) (hR : refs s)
    (h : G 120 140 152 4 [(3, 120), (1, x1), (1, wr (x2 + 1))] [] (n, s) Q) :
    G 120 140 152 21 [(3, 120), (1, x1), (1, x2)] [] (n, s) Q := by
  refine G_go rfl rfl ?_
  refine G_go rfl rfl ?_
  exact h
theorem c_X7_allHolds (n : Nat) (s : Nat → Nat → Int) (Q : List Vl → Sto → Prop) (hR : refs s) (g : 0 ≤ s 120 0 ∧ s 120 0 ≤ 6) (hq : Q [(1, itr (smF (s 123)) 0 (s 120 0).toNat)] (n, s)) : G 120 140 152 0 [(3, 120), (0, 0), (0, 0)] [] (n, s) Q := by
  refine sb_X7_allHolds_0 n s Q hR ?_
  refine G_up (s 120 0).toNat (fun k b => G 120 140 152 4 [(3, 120), (1, b), (1, (k : Int))] [] (n, s) Q) (smF (s 123)) (fun _ _ => True) 0 trivial (fun _ _ _ _ => trivial) (fun k b hk _ hg => ?_) (fun _ => ?_)
  · rw [← wr_s hk (by omega)] at hg
    exact sb_X7_allHolds_4 n s Q b k hR ⟨fun e => by omega, fun _ => ⟨by omega, hg⟩⟩
  · exact sb_X7_allHolds_4 n s Q _ _ hR ⟨fun _ => hq, fun e => by omega⟩
theorem sb_X6_shares_0 (n : Nat) (s : Nat → Nat → Int) (Q : List Vl → Sto → Prop) (a0 : Int) (hR : refs s)
    (h : (a0 < 0 → Q [(1, (-2))] (n, upS s 119 2 (wr ((s 119 2) + 1)))) ∧ (0 ≤ a0 → (a0 ≤ 1 → (s 3 9 ≠ 0 → (a0 ≠ 0 → (0 ≤ s 3 9 ∧ s 3 9 ≤ 6) ∧ (Q [(1, xrem (itr (smF (s 8)) 0 (s 3 9).toNat) (s 3 9))] (n, s))) ∧ (a0 = 0 → (0 ≤ s 3 9 ∧ s 3 9 ≤ 6) ∧ (Q [(1, xdiv (itr (smF (s 8)) 0 (s 3 9).toNat) (s 3 9))] (n, s)))) ∧ (s 3 9 = 0 → Q [(1, 0)] (n, s))) ∧ (1 < a0 → Q [(1, (-2))] (n, upS s 119 2 (wr ((s 119 2) + 1)))))) :
    G 2 120 125 0 [(3, 2), (1, a0), (0, 0)] [] (n, s) Q := by
  refine G_go rfl rfl ?_
  refine G_go rfl rfl ?_
  refine G_call rfl rfl ?_
  refine G_go rfl rfl ?_
  refine G_lt rfl rfl (fun c1 => ?_) (fun c1 => ?_)
  · have h := h.1 c1
    refine G_go rfl rfl ?_
    refine G_go rfl rfl ?_
    refine G_ret rfl rfl ?_
    refine G_go rfl rfl ?_
    show G 2 120 125 6 [(3, 2), (1, a0), (1, (-2))] [] (n, s) Q
    refine G_go rfl rfl ?_
    refine G_brF rfl rfl rfl ?_
    refine G_go rfl rfl ?_
    refine G_go rfl rfl ?_
    refine G_call rfl rfl ?_
    refine G_go rfl rfl ?_
    refine G_go rfl rfl ?_
    refine G_go rfl rfl ?_
    refine G_go rfl rfl ?_
    refine G_brF rfl rfl rfl ?_
    refine G_go rfl rfl ?_
    refine G_go rfl rfl ?_
    refine G_rf rfl rfl (by decide) (hR 2 7 119 rfl) ?_
    refine G_go rfl rfl ?_
    refine G_brF rfl rfl rfl ?_
    refine G_go rfl rfl ?_
    refine G_rf rfl rfl (by decide) (hR 2 7 119 rfl) ?_
    refine G_go rfl rfl ?_
    refine G_go rfl rfl ?_
    refine G_ir (n := 7) rfl rfl (by decide) (by decide) (by decide) ?_
    refine G_go rfl rfl ?_
    refine G_go rfl rfl ?_
    refine G_iw (n := 7) rfl rfl (by decide) (by decide) (by decide) ?_
    have hR := refs_up (a := 119) (k := 2) (x := wr ((s 119 2) + 1)) hR rfl
    refine G_go rfl rfl ?_
    refine G_ret rfl rfl ?_
    exact G_ret rfl rfl h
  · have h := h.2 c1
    refine G_go rfl rfl ?_
    refine G_go rfl rfl ?_
    refine G_le rfl rfl (fun c2 => ?_) (fun c2 => ?_)
    · have h := h.1 c2
      refine G_go rfl rfl ?_
      refine G_ret rfl rfl ?_
      refine G_go rfl rfl ?_
      show G 2 120 125 6 [(3, 2), (1, a0), (1, 0)] [] (n, s) Q
      refine G_go rfl rfl ?_
      refine G_brT rfl rfl rfl ?_
      refine G_go rfl rfl ?_
      refine G_rf rfl rfl (by decide) (hR 2 0 3 rfl) ?_
      refine G_rd rfl rfl (by decide) ?_
      refine G_ne rfl rfl (fun c3 => ?_) (fun c3 => ?_)
      · have h := h.1 c3
        refine G_go rfl rfl ?_
        refine G_ne rfl rfl (fun c4 => ?_) (fun c4 => ?_)
        · have h := h.1 c4
          refine G_go rfl rfl ?_
          refine G_rf rfl rfl (by decide) (hR 2 0 3 rfl) ?_
          refine G_call rfl rfl ?_
          refine G_go rfl rfl ?_
          refine G_go rfl rfl ?_
          refine G_rf rfl rfl (by decide) (hR 3 4 8 rfl) ?_
          refine G_call rfl rfl ?_
          obtain ⟨g5, h⟩ := h
          refine c_X5_sumOf_3_8 n _ _ hR g5 ?_
          refine G_ret rfl rfl ?_
          refine G_go rfl rfl ?_
          refine G_rf rfl rfl (by decide) (hR 2 0 3 rfl) ?_
          refine G_rd rfl rfl (by decide) ?_
          refine G_irem rfl c3 ?_
          exact G_ret rfl rfl h
        · have h := h.2 c4
          refine G_go rfl rfl ?_
          refine G_rf rfl rfl (by decide) (hR 2 0 3 rfl) ?_
          refine G_call rfl rfl ?_
          refine G_go rfl rfl ?_
          refine G_go rfl rfl ?_
          refine G_rf rfl rfl (by decide) (hR 3 4 8 rfl) ?_
          refine G_call rfl rfl ?_
          obtain ⟨g6, h⟩ := h
          refine c_X5_sumOf_3_8 n _ _ hR g6 ?_
          refine G_ret rfl rfl ?_
          refine G_go rfl rfl ?_
          refine G_rf rfl rfl (by decide) (hR 2 0 3 rfl) ?_
          refine G_rd rfl rfl (by decide) ?_
          refine G_idiv rfl c3 ?_
          refine G_go rfl rfl ?_
          exact G_ret rfl rfl h
      · have h := h.2 c3
        refine G_go rfl rfl ?_
        exact G_ret rfl rfl h
    · have h := h.2 c2
      refine G_go rfl rfl ?_
      refine G_go rfl rfl ?_
      refine G_ret rfl rfl ?_
      refine G_go rfl rfl ?_
      show G 2 120 125 6 [(3, 2), (1, a0), (1, (-2))] [] (n, s) Q
      refine G_go rfl rfl ?_
      refine G_brF rfl rfl rfl ?_
      refine G_go rfl rfl ?_
      refine G_go rfl rfl ?_
      refine G_call rfl rfl ?_
      refine G_go rfl rfl ?_
      refine G_go rfl rfl ?_
      refine G_go rfl rfl ?_
      refine G_go rfl rfl ?_
      refine G_brF rfl rfl rfl ?_
      refine G_go rfl rfl ?_
      refine G_go rfl rfl ?_
      refine G_rf rfl rfl (by decide) (hR 2 7 119 rfl) ?_
      refine G_go rfl rfl ?_
      refine G_brF rfl rfl rfl ?_
      refine G_go rfl rfl ?_
      refine G_rf rfl rfl (by decide) (hR 2 7 119 rfl) ?_
      refine G_go rfl rfl ?_
      refine G_go rfl rfl ?_
      refine G_ir (n := 7) rfl rfl (by decide) (by decide) (by decide) ?_
      refine G_go rfl rfl ?_
      refine G_go rfl rfl ?_
      refine G_iw (n := 7) rfl rfl (by decide) (by decide) (by decide) ?_
      have hR := refs_up (a := 119) (k := 2) (x := wr ((s 119 2) + 1)) hR rfl
      refine G_go rfl rfl ?_
      refine G_ret rfl rfl ?_
      exact G_ret rfl rfl h
theorem sb_X6_shares_6 (n : Nat) (s : Nat → Nat → Int) (Q : List Vl → Sto → Prop) (x1 : Int) (x2 : Int) (hR : refs s)
    (h : (x2 = 0 → (s 3 9 ≠ 0 → (x1 ≠ 0 → (0 ≤ s 3 9 ∧ s 3 9 ≤ 6) ∧ (Q [(1, xrem (itr (smF (s 8)) 0 (s 3 9).toNat) (s 3 9))] (n, s))) ∧ (x1 = 0 → (0 ≤ s 3 9 ∧ s 3 9 ≤ 6) ∧ (Q [(1, xdiv (itr (smF (s 8)) 0 (s 3 9).toNat) (s 3 9))] (n, s)))) ∧ (s 3 9 = 0 → Q [(1, 0)] (n, s))) ∧ (x2 ≠ 0 → (wr (-x2) ≤ 0 → Q [(1, x2)] (n, s)) ∧ (0 < wr (-x2) → (7 ≤ wr (-x2) → Q [(1, x2)] (n, s)) ∧ (wr (-x2) < 7 → (0 ≤ wr (-x2) ∧ wr (-x2) < 7) ∧ (Q [(1, x2)] (n, upS s 119 ((wr (-x2)).toNat) (wr ((s 119 ((wr (-x2)).toNat)) + 1)))))))) :
    G 2 120 125 6 [(3, 2), (1, x1), (1, x2)] [] (n, s) Q := by
  refine G_go rfl rfl ?_
  refine G_eq rfl rfl (fun c1 => ?_) (fun c1 => ?_)
  · have h := h.1 c1
    refine G_go rfl rfl ?_
    refine G_rf rfl rfl (by decide) (hR 2 0 3 rfl) ?_
    refine G_rd rfl rfl (by decide) ?_
    refine G_ne rfl rfl (fun c2 => ?_) (fun c2 => ?_)
    · have h := h.1 c2
      refine G_go rfl rfl ?_
      refine G_ne rfl rfl (fun c3 => ?_) (fun c3 => ?_)
      · have h := h.1 c3
        refine G_go rfl rfl ?_
        refine G_rf rfl rfl (by decide) (hR 2 0 3 rfl) ?_
        refine G_call rfl rfl ?_
        refine G_go rfl rfl ?_
        refine G_go rfl rfl ?_
        refine G_rf rfl rfl (by decide) (hR 3 4 8 rfl) ?_
        refine G_call rfl rfl ?_
        obtain ⟨g4, h⟩ := h
        refine c_X5_sumOf_3_8 n _ _ hR g4 ?_
        refine G_ret rfl rfl ?_
        refine G_go rfl rfl ?_
        refine G_rf rfl rfl (by decide) (hR 2 0 3 rfl) ?_
        refine G_rd rfl rfl (by decide) ?_
        refine G_irem rfl c2 ?_
        exact G_ret rfl rfl h
      · have h := h.2 c3
        refine G_go rfl rfl ?_
        refine G_rf rfl rfl (by decide) (hR 2 0 3 rfl) ?_
        refine G_call rfl rfl ?_
        refine G_go rfl rfl ?_
        refine G_go rfl rfl ?_
        refine G_rf rfl rfl (by decide) (hR 3 4 8 rfl) ?_
        refine G_call rfl rfl ?_
        obtain ⟨g5, h⟩ := h
        refine c_X5_sumOf_3_8 n _ _ hR g5 ?_
        refine G_ret rfl rfl ?_
        refine G_go rfl rfl ?_
        refine G_rf rfl rfl (by decide) (hR 2 0 3 rfl) ?_
        refine G_rd rfl rfl (by decide) ?_
        refine G_idiv rfl c2 ?_
        refine G_go rfl rfl ?_
        exact G_ret rfl rfl h
    · have h := h.2 c2
      refine G_go rfl rfl ?_
      exact G_ret rfl rfl h
  · have h := h.2 c1
    refine G_go rfl rfl ?_
    refine G_go rfl rfl ?_
    refine G_call rfl rfl ?_
    refine G_go rfl rfl ?_
    refine G_go rfl rfl ?_
    refine G_go rfl rfl ?_
    refine G_go rfl rfl ?_
    refine G_le rfl rfl (fun c6 => ?_) (fun c6 => ?_)
    · have h := h.1 c6
      refine G_go rfl rfl ?_
      refine G_ret rfl rfl ?_
      exact G_ret rfl rfl h
    · have h := h.2 c6
      refine G_go rfl rfl ?_
      refine G_go rfl rfl ?_
      refine G_rf rfl rfl (by decide) (hR 2 7 119 rfl) ?_
      refine G_go rfl rfl ?_
      refine G_ge rfl rfl (fun c7 => ?_) (fun c7 => ?_)
      · have h := h.1 c7
        refine G_go rfl rfl ?_
        refine G_ret rfl rfl ?_
        exact G_ret rfl rfl h
      · have h := h.2 c7
        refine G_go rfl rfl ?_
        refine G_rf rfl rfl (by decide) (hR 2 7 119 rfl) ?_
        refine G_go rfl rfl ?_
        refine G_go rfl rfl ?_
        obtain ⟨g8, h⟩ := h
        refine G_ir (n := 7) rfl rfl (by decide) (by decide) g8 ?_
        refine G_go rfl rfl ?_
        refine G_go rfl rfl ?_
        refine G_iw (n := 7) rfl rfl (by decide) (by decide) g8 ?_
        have hR := refs_up (a := 119) (k := (wr (-x2)).toNat) (x := wr ((s 119 ((wr (-x2)).toNat)) + 1)) hR rfl
        refine G_go rfl rfl ?_
        refine G_ret rfl rfl ?_
        exact G_ret rfl rfl h
theorem sb_X7_shares_0 (n : Nat) (s : Nat → Nat → Int) (Q : List Vl → Sto → Prop) (a0 : Int) (hR : refs s)
    (h : (a0 < 0 → Q [(1, (-2))] (n, upS (upS s 120 10 0) 129 2 (wr ((s 129 2) + 1)))) ∧ (a0 ≥ 0 → (a0 > 1 → Q [(1, (-2))] (n, upS (upS s 120 10 0) 129 2 (wr ((s 129 2) + 1)))) ∧ (a0 ≤ 1 → (s 120 0 ≠ 0 → (a0 ≠ 0 → (0 ≤ (upS s 120 10 0) 120 0 ∧ (upS s 120 10 0) 120 0 ≤ 6) ∧ (Q [(1, xrem (itr (smF ((upS s 120 10 0) 125)) 0 ((upS s 120 10 0) 120 0).toNat) (s 120 0))] (n, upS s 120 10 0))) ∧ (a0 = 0 → (0 ≤ (upS s 120 10 0) 120 0 ∧ (upS s 120 10 0) 120 0 ≤ 6) ∧ (Q [(1, xdiv (itr (smF ((upS s 120 10 0) 125)) 0 ((upS s 120 10 0) 120 0).toNat) (s 120 0))] (n, upS s 120 10 0)))) ∧ (s 120 0 = 0 → Q [(1, 0)] (n, upS s 120 10 0))))) :
    G 120 140 216 0 [(3, 120), (1, a0)] [] (n, s) Q := by
  refine G_go rfl rfl ?_
  refine G_go rfl rfl ?_
  refine G_wr rfl rfl (by decide) ?_
  have hR := refs_up (a := 120) (k := 10) (x := 0) hR rfl
  refine G_go rfl rfl ?_
  refine G_go rfl rfl ?_
  refine G_go rfl rfl ?_
  refine G_go rfl rfl ?_
  refine G_call rfl rfl ?_
  refine G_go rfl rfl ?_
  refine G_go rfl rfl ?_
  refine G_go rfl rfl ?_
  refine G_lt rfl rfl (fun c1 => ?_) (fun c1 => ?_)
  · have c1 := xl_lt c1
    have h := h.1 c1
    refine G_go rfl rfl ?_
    refine G_ret rfl rfl ?_
    refine G_brF rfl rfl rfl ?_
    refine G_go rfl rfl ?_
    refine G_go rfl rfl ?_
    refine G_call rfl rfl ?_
    refine G_go rfl rfl ?_
    refine G_rf rfl rfl (by decide) (hR 120 11 129 rfl) ?_
    refine G_go rfl rfl ?_
    refine G_go rfl rfl ?_
    refine G_go rfl rfl ?_
    refine G_ir (n := 7) rfl rfl (by decide) (by decide) (by decide) ?_
    refine G_go rfl rfl ?_
    refine G_go rfl rfl ?_
    refine G_iw (n := 7) rfl rfl (by decide) (by decide) (by decide) ?_
    have hR := refs_up (a := 129) (k := 2) (x := wr ((s 129 2) + 1)) hR rfl
    refine G_go rfl rfl ?_
    refine G_ret rfl rfl ?_
    exact G_ret rfl rfl h
  · have c1 := xl_ge c1
    have h := h.2 c1
    refine G_go rfl rfl ?_
    refine G_go rfl rfl ?_
    refine G_go rfl rfl ?_
    refine G_gt rfl rfl (fun c2 => ?_) (fun c2 => ?_)
    · have c2 := xl_gt c2
      have h := h.1 c2
      refine G_go rfl rfl ?_
      refine G_ret rfl rfl ?_
      refine G_brF rfl rfl rfl ?_
      refine G_go rfl rfl ?_
      refine G_go rfl rfl ?_
      refine G_call rfl rfl ?_
      refine G_go rfl rfl ?_
      refine G_rf rfl rfl (by decide) (hR 120 11 129 rfl) ?_
      refine G_go rfl rfl ?_
      refine G_go rfl rfl ?_
      refine G_go rfl rfl ?_
      refine G_ir (n := 7) rfl rfl (by decide) (by decide) (by decide) ?_
      refine G_go rfl rfl ?_
      refine G_go rfl rfl ?_
      refine G_iw (n := 7) rfl rfl (by decide) (by decide) (by decide) ?_
      have hR := refs_up (a := 129) (k := 2) (x := wr ((s 129 2) + 1)) hR rfl
      refine G_go rfl rfl ?_
      refine G_ret rfl rfl ?_
      exact G_ret rfl rfl h
    · have c2 := xl_le c2
      have h := h.2 c2
      refine G_go rfl rfl ?_
      refine G_go rfl rfl ?_
      refine G_ret rfl rfl ?_
      refine G_brT rfl rfl rfl ?_
      refine G_go rfl rfl ?_
      refine G_rd rfl rfl (by decide) ?_
      refine G_ne rfl rfl (fun c3 => ?_) (fun c3 => ?_)
      · have h := h.1 c3
        refine G_go rfl rfl ?_
        refine G_ne rfl rfl (fun c4 => ?_) (fun c4 => ?_)
        · have h := h.1 c4
          refine G_go rfl rfl ?_
          refine G_call rfl rfl ?_
          obtain ⟨g5, h⟩ := h
          refine c_X7_allCandles n _ _ hR g5 ?_
          refine G_go rfl rfl ?_
          refine G_rd rfl rfl (by decide) ?_
          refine G_irem rfl c3 ?_
          exact G_ret rfl rfl h
        · have h := h.2 c4
          refine G_go rfl rfl ?_
          refine G_call rfl rfl ?_
          obtain ⟨g6, h⟩ := h
          refine c_X7_allCandles n _ _ hR g6 ?_
          refine G_go rfl rfl ?_
          refine G_rd rfl rfl (by decide) ?_
          refine G_idiv rfl c3 ?_
          refine G_go rfl rfl ?_
          exact G_ret rfl rfl h
      · have h := h.2 c3
        refine G_go rfl rfl ?_
        exact G_ret rfl rfl h
theorem sum_eq {s t : Nat → Nat → Int} (h : REL s t) {a b : Nat} (e : ∀ p : Nat, (p : Int) < t 120 0 → s a p = t b p) : itr (smF (s a)) 0 (s 3 9).toNat = itr (smF (t b)) 0 (t 120 0).toNat := by
  obtain ⟨hn1, hn2, hn3, hn4⟩ := h.np
  rw [hn1]
  refine itr_ext 0 _ (fun k b hk => ?_)
  unfold smF
  rw [e k (by omega)]
theorem op_shares (n : Nat) (s t : Nat → Nat → Int) (h : REL s t) (a0 : Int) : G 2 120 125 0 [(3, 2), (1, a0), (0, 0)] [] (n, s) (fun r s1 => G 120 140 216 0 [(3, 120), (1, a0)] [] (n, t) (Post n r s1)) := by
  obtain ⟨hn1, hn2, hn3, hn4⟩ := h.np
  have e : itr (smF (s 8)) 0 (s 3 9).toNat = itr (smF (t 125)) 0 (t 120 0).toNat := sum_eq h (fun p hp => (h.s p hp).2.2.2.2.1)
  refine sb_X6_shares_0 n s _ a0 h.1 ?_
  repeat' first | with_reducible refine And.intro ?_ ?_ | intro _
  all_goals first | omega | skip
  all_goals refine sb_X7_shares_0 n t _ a0 h.2.1 ?_
  all_goals repeat' first | with_reducible refine And.intro ?_ ?_ | intro _
  all_goals first | omega | exact post_ref h _ (by decide) | exact post_same h rfl | exact hn3.1 | exact hn3.2 | skip
  all_goals refine post_same h ?_
  all_goals rw [e, hn1]
  all_goals rfl

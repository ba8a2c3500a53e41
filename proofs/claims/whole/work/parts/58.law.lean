/-! THE LAW'S LOOP. -/
set_option maxRecDepth 100000 in
theorem lw_sw (s : Nat → Nat → Int) (i : Nat) (x : Int) (hL : s 0 0 ≤ 2560) (hi : (i : Int) + 5 ≤ s 0 0) (h : REL s s) (Q : List Vl → Sto → Prop) (K : ∀ s1, REL s1 s1 → (∀ a, a < 2 → s1 a = s a) → G 0 140 225 1519 [(3, 1), (3, 2), (3, 120), (1, (i : Int))] [] (140, s1) Q) : G 0 140 225 32 [(3, 1), (3, 2), (3, 120), (1, (i : Int))] [(1, x)] (140, s) Q := by
  by_cases c0 : x = 0
  · exact G_k c0 rfl rfl (lw_0 s i hL hi h Q K)
  by_cases c1 : x = 1
  · exact G_k c1 rfl rfl (lw_1 s i hL hi h Q K)
  by_cases c2 : x = 2
  · exact G_k c2 rfl rfl (lw_2 s i hL hi h Q K)
  by_cases c3 : x = 3
  · exact G_k c3 rfl rfl (lw_3 s i hL hi h Q K)
  by_cases c4 : x = 4
  · exact G_k c4 rfl rfl (lw_4 s i hL hi h Q K)
  by_cases c5 : x = 5
  · exact G_k c5 rfl rfl (lw_5 s i hL hi h Q K)
  by_cases c6 : x = 6
  · exact G_k c6 rfl rfl (lw_6 s i hL hi h Q K)
  by_cases c7 : x = 7
  · exact G_k c7 rfl rfl (lw_7 s i hL hi h Q K)
  by_cases c8 : x = 8
  · exact G_k c8 rfl rfl (lw_8 s i hL hi h Q K)
  by_cases c9 : x = 9
  · exact G_k c9 rfl rfl (lw_9 s i hL hi h Q K)
  by_cases c10 : x = 10
  · exact G_k c10 rfl rfl (lw_10 s i hL hi h Q K)
  by_cases c11 : x = 11
  · exact G_k c11 rfl rfl (lw_11 s i hL hi h Q K)
  by_cases c12 : x = 12
  · exact G_k c12 rfl rfl (lw_12 s i hL hi h Q K)
  by_cases c13 : x = 13
  · exact G_k c13 rfl rfl (lw_13 s i hL hi h Q K)
  by_cases c14 : x = 14
  · exact G_k c14 rfl rfl (lw_14 s i hL hi h Q K)
  by_cases c15 : x = 15
  · exact G_k c15 rfl rfl (lw_15 s i hL hi h Q K)
  by_cases c16 : x = 16
  · exact G_k c16 rfl rfl (lw_16 s i hL hi h Q K)
  by_cases c17 : x = 17
  · exact G_k c17 rfl rfl (lw_17 s i hL hi h Q K)
  by_cases c18 : x = 18
  · exact G_k c18 rfl rfl (lw_18 s i hL hi h Q K)
  by_cases c19 : x = 19
  · exact G_k c19 rfl rfl (lw_19 s i hL hi h Q K)
  by_cases c20 : x = 20
  · exact G_k c20 rfl rfl (lw_20 s i hL hi h Q K)
  by_cases c21 : x = 21
  · exact G_k c21 rfl rfl (lw_21 s i hL hi h Q K)
  by_cases c22 : x = 22
  · exact G_k c22 rfl rfl (lw_22 s i hL hi h Q K)
  by_cases c23 : x = 23
  · exact G_k c23 rfl rfl (lw_23 s i hL hi h Q K)
  by_cases c24 : x = 24
  · exact G_k c24 rfl rfl (lw_24 s i hL hi h Q K)
  by_cases c25 : x = 25
  · exact G_k c25 rfl rfl (lw_25 s i hL hi h Q K)
  by_cases c26 : x = 26
  · exact G_k c26 rfl rfl (lw_26 s i hL hi h Q K)
  by_cases c27 : x = 27
  · exact G_k c27 rfl rfl (lw_27 s i hL hi h Q K)
  by_cases c28 : x = 28
  · exact G_k c28 rfl rfl (lw_28 s i hL hi h Q K)
  by_cases c29 : x = 29
  · exact G_k c29 rfl rfl (lw_29 s i hL hi h Q K)
  by_cases c30 : x = 30
  · exact G_k c30 rfl rfl (lw_30 s i hL hi h Q K)
  by_cases c31 : x = 31
  · exact G_k c31 rfl rfl (lw_31 s i hL hi h Q K)
  by_cases c32 : x = 32
  · exact G_k c32 rfl rfl (lw_32 s i hL hi h Q K)
  by_cases c33 : x = 33
  · exact G_k c33 rfl rfl (lw_33 s i hL hi h Q K)
  by_cases c34 : x = 34
  · exact G_k c34 rfl rfl (lw_34 s i hL hi h Q K)
  by_cases c35 : x = 35
  · exact G_k c35 rfl rfl (lw_35 s i hL hi h Q K)
  by_cases c36 : x = 36
  · exact G_k c36 rfl rfl (lw_36 s i hL hi h Q K)
  by_cases c37 : x = 37
  · exact G_k c37 rfl rfl (lw_37 s i hL hi h Q K)
  by_cases c38 : x = 38
  · exact G_k c38 rfl rfl (lw_38 s i hL hi h Q K)
  by_cases c39 : x = 39
  · exact G_k c39 rfl rfl (lw_39 s i hL hi h Q K)
  by_cases c40 : x = 40
  · exact G_k c40 rfl rfl (lw_40 s i hL hi h Q K)
  by_cases c41 : x = 41
  · exact G_k c41 rfl rfl (lw_41 s i hL hi h Q K)
  by_cases c42 : x = 42
  · exact G_k c42 rfl rfl (lw_42 s i hL hi h Q K)
  by_cases c43 : x = 43
  · exact G_k c43 rfl rfl (lw_43 s i hL hi h Q K)
  by_cases c44 : x = 44
  · exact G_k c44 rfl rfl (lw_44 s i hL hi h Q K)
  by_cases c45 : x = 45
  · exact G_k c45 rfl rfl (lw_45 s i hL hi h Q K)
  by_cases c46 : x = 46
  · exact G_k c46 rfl rfl (lw_46 s i hL hi h Q K)
  refine G_tsd rfl rfl (by omega) ?_
  exact K s h (fun _ _ => rfl)
set_option maxRecDepth 100000 in
theorem lw_loop (L : Nat) (hL : L ≤ 2560) (Q : List Vl → Sto → Prop) (hQ : ∀ s, Q [(1, 1)] (140, s)) : ∀ f i, L ≤ i + f → i ≤ 2565 → ∀ s, s 0 0 = (L : Int) → REL s s → G 0 140 225 18 [(3, 1), (3, 2), (3, 120), (1, (i : Int))] [] (140, s) Q := by
  intro f
  induction f with
  | zero =>
    intro i h1 h2 s h0 hr
    have g : (L : Int) - 5 < (i : Int) := by omega
    have b1 : -2147483648 ≤ (L : Int) - 5 := by omega
    have b2 : (L : Int) - 5 < 2147483648 := by omega
    refine G_go rfl rfl ?_
    refine G_go rfl rfl ?_
    refine G_slv (v := (L : Int)) rfl (by decide) h0 ?_
    refine G_go rfl rfl ?_
    refine G_go rfl rfl ?_
    refine G_gt rfl rfl (fun _ => ?_) (fun c => ?_)
    · refine G_go rfl rfl ?_
      exact G_ret rfl rfl (hQ s)
    · have c : (i : Int) ≤ wr ((L : Int) - 5) := c
      rw [wr_id b1 b2] at c
      omega
  | succ f ih =>
    intro i h1 h2 s h0 hr
    have b1 : -2147483648 ≤ (L : Int) - 5 := by omega
    have b2 : (L : Int) - 5 < 2147483648 := by omega
    refine G_go rfl rfl ?_
    refine G_go rfl rfl ?_
    refine G_slv (v := (L : Int)) rfl (by decide) h0 ?_
    refine G_go rfl rfl ?_
    refine G_go rfl rfl ?_
    refine G_gt rfl rfl (fun _ => ?_) (fun c => ?_)
    · refine G_go rfl rfl ?_
      exact G_ret rfl rfl (hQ s)
    · have c : (i : Int) ≤ wr ((L : Int) - 5) := c
      rw [wr_id b1 b2] at c
      have g5 : (i : Int) + 5 ≤ s 0 0 := by omega
      have hl : s 0 0 ≤ 2560 := by omega
      have gi : ((i : Nat) : Int) < s 0 0 := by omega
      have i5 : i + 5 ≤ 2560 := by omega
      refine G_go rfl rfl ?_
      refine G_go rfl rfl ?_
      refine G_scv (j := i) (v := s 1 i) rfl (by decide) rfl gi rfl ?_
      refine G_go rfl rfl ?_
      refine G_go rfl rfl ?_
      refine lw_sw s i _ hl g5 hr Q (fun s1 r1 e1 => ?_)
      refine G_go rfl rfl ?_
      refine G_go rfl rfl ?_
      show G 0 140 225 18 [(3, 1), (3, 2), (3, 120), (1, wr ((i : Int) + 5))] [] (140, s1) Q
      rw [show wr ((i : Int) + 5) = ((i + 5 : Nat) : Int) from wr_i 5 i5 (by decide)]
      exact ih (i + 5) (by omega) (by omega) s1 (by rw [e1 0 (by decide)]; exact h0) r1
theorem law_run (L : Nat) (xs : Nat → Int32) (hL : L ≤ 2560) : G 0 140 225 0 [(3, 1), (0, 0), (0, 0), (0, 0)] [] (2, fun a k => if a = 0 then (L : Int) else if a = 1 then (xs k).toInt else 0) (fun r s' => r = [(1, 1)] ∧ s'.1 = 140) := by
  refine law_start _ (fun a k ha => ?_) _ (fun s1 r1 e1 => ?_)
  · show (if a = 0 then (L : Int) else if a = 1 then (xs k).toInt else 0) = 0
    rw [if_neg (by omega), if_neg (by omega)]
  · exact lw_loop L hL _ (fun _ => ⟨rfl, rfl⟩) L 0 (by omega) (by decide) s1 (by rw [e1 0 (by decide)]; rfl) r1

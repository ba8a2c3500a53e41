/-! THE REFERENCE'S NIGHT. -/
def ofU (k : Nat) (V : Nat → Nat → Int) (j p : Nat) : Int := if j = 5 ∧ p < k then 0 else V j p
theorem ofU_o {k j q : Nat} {V : Nat → Nat → Int} (h : j ≠ 5) : ofU k V j q = V j q := if_neg (fun e => h e.1)
theorem ofU_ne {k j q : Nat} {V : Nat → Nat → Int} (h : q ≠ k) : ofU (k + 1) V j q = ofU k V j q := by
  unfold ofU
  by_cases c : j = 5 ∧ q < k
  · rw [if_pos c, if_pos ⟨c.1, by omega⟩]
  · rw [if_neg c, if_neg (fun e => c ⟨e.1, by omega⟩)]
theorem ofU_s {k : Nat} {V : Nat → Nat → Int} : ofU (k + 1) V 5 k = 0 := if_pos ⟨rfl, by omega⟩
theorem row_put {m : Nat} {s1 s2 : Nat → Nat → Int} {W X : Nat → Nat → Int} (r : Nat) (h : ∀ j, j < 8 → ∀ p : Nat, (p : Int) < m → s1 (121 + j) p = W j p) (a : ∀ j, j < 8 → j ≠ r → ∀ p, s2 (121 + j) p = s1 (121 + j) p ∧ X j p = W j p) (b : ∀ p : Nat, (p : Int) < m → s2 (121 + r) p = X r p) : ∀ j, j < 8 → ∀ p : Nat, (p : Int) < m → s2 (121 + j) p = X j p := by
  intro j hj p hp
  by_cases c : j = r
  · subst c
    exact b p hp
  · rw [(a j hj c p).1, (a j hj c p).2]
    exact h j hj p hp
theorem sb_X7_goNight_0 (n : Nat) (s : Nat → Nat → Int) (Q : List Vl → Sto → Prop) (a0 : Int) (hR : refs s)
    (h : G 120 140 168 2 [(3, 120), (1, a0), (1, 0), (0, 0), (0, 0)] [] (n, s) Q) :
    G 120 140 168 0 [(3, 120), (1, a0), (0, 0), (0, 0), (0, 0)] [] (n, s) Q := by
  refine G_go rfl rfl ?_
  refine G_go rfl rfl ?_
  show G 120 140 168 2 [(3, 120), (1, a0), (1, 0), (0, 0), (0, 0)] [] (n, s) Q
  exact h
theorem sb_X7_goNight_2 (n : Nat) (s : Nat → Nat → Int) (Q : List Vl → Sto → Prop) (x1 : Int) (x2 : Int) (w3 : Vl) (hR : refs s)
    (h : (s 120 0 ≤ x2 → G 120 140 168 80 [(3, 120), (1, x1), (1, 0), w3, (0, 0)] [] (n, s) Q) ∧ (x2 < s 120 0 → (0 ≤ x2 ∧ x2 < 6) ∧ ((s 128 x2.toNat < 0 → G 120 140 168 2 [(3, 120), (1, x1), (1, wr (x2 + 1)), (1, s 128 x2.toNat), (0, 0)] [] (n, upS s 130 x2.toNat 0) Q) ∧ (0 ≤ s 128 x2.toNat → (0 ≤ s 128 x2.toNat ∧ s 128 x2.toNat < 6) ∧ (G 120 140 168 2 [(3, 120), (1, x1), (1, wr (x2 + 1)), (1, s 128 x2.toNat), (0, 0)] [] (n, upS (upS (upS (upS s 130 x2.toNat 0) 130 x2.toNat (s 123 x2.toNat)) 123 x2.toNat 0) 123 ((s 128 x2.toNat).toNat) (min 999 (wr (((upS (upS (upS s 130 x2.toNat 0) 130 x2.toNat (s 123 x2.toNat)) 123 x2.toNat 0) 123 ((s 128 x2.toNat).toNat)) + (s 123 x2.toNat))))) Q))))) :
    G 120 140 168 2 [(3, 120), (1, x1), (1, x2), w3, (0, 0)] [] (n, s) Q := by
  refine G_go rfl rfl ?_
  refine G_go rfl rfl ?_
  refine G_rd rfl rfl (by decide) ?_
  refine G_ge rfl rfl (fun c1 => ?_) (fun c1 => ?_)
  · have h := h.1 c1
    refine G_go rfl rfl ?_
    refine G_go rfl rfl ?_
    show G 120 140 168 80 [(3, 120), (1, x1), (1, 0), w3, (0, 0)] [] (n, s) Q
    exact h
  · have h := h.2 c1
    refine G_go rfl rfl ?_
    refine G_rf rfl rfl (by decide) (hR 120 8 128 rfl) ?_
    refine G_go rfl rfl ?_
    obtain ⟨g2, h⟩ := h
    refine G_ir (n := 6) rfl rfl (by decide) (by decide) g2 ?_
    refine G_go rfl rfl ?_
    show G 120 140 168 17 [(3, 120), (1, x1), (1, x2), (1, s 128 x2.toNat), (0, 0)] [] (n, s) Q
    refine G_go rfl rfl ?_
    refine G_rf rfl rfl (by decide) (hR 120 12 130 rfl) ?_
    refine G_go rfl rfl ?_
    refine G_go rfl rfl ?_
    refine G_iw (n := 6) rfl rfl (by decide) (by decide) g2 ?_
    have hR := refs_up (a := 130) (k := x2.toNat) (x := 0) hR rfl
    refine G_go rfl rfl ?_
    refine G_lt rfl rfl (fun c3 => ?_) (fun c3 => ?_)
    · have h := h.1 c3
      refine G_go rfl rfl ?_
      refine G_go rfl rfl ?_
      exact h
    · have h := h.2 c3
      refine G_go rfl rfl ?_
      refine G_rf rfl rfl (by decide) (hR 120 12 130 rfl) ?_
      refine G_go rfl rfl ?_
      refine G_go rfl rfl ?_
      refine G_rf rfl rfl (by decide) (hR 120 3 123 rfl) ?_
      refine G_go rfl rfl ?_
      refine G_ir (n := 6) rfl rfl (by decide) (by decide) g2 ?_
      refine G_iw (n := 6) rfl rfl (by decide) (by decide) g2 ?_
      have hR := refs_up (a := 130) (k := x2.toNat) (x := s 123 x2.toNat) hR rfl
      refine G_go rfl rfl ?_
      refine G_rf rfl rfl (by decide) (hR 120 3 123 rfl) ?_
      refine G_go rfl rfl ?_
      refine G_go rfl rfl ?_
      refine G_iw (n := 6) rfl rfl (by decide) (by decide) g2 ?_
      have hR := refs_up (a := 123) (k := x2.toNat) (x := 0) hR rfl
      refine G_go rfl rfl ?_
      refine G_rf rfl rfl (by decide) (hR 120 3 123 rfl) ?_
      refine G_go rfl rfl ?_
      refine G_go rfl rfl ?_
      refine G_go rfl rfl ?_
      refine G_rf rfl rfl (by decide) (hR 120 3 123 rfl) ?_
      refine G_go rfl rfl ?_
      obtain ⟨g4, h⟩ := h
      refine G_ir (n := 6) rfl rfl (by decide) (by decide) g4 ?_
      refine G_go rfl rfl ?_
      refine G_rf rfl rfl (by decide) (hR 120 12 130 rfl) ?_
      refine G_go rfl rfl ?_
      refine G_irv (n := 6) (v := s 123 x2.toNat) rfl rfl (by decide) (by decide) g2 (by simp [upS]) ?_
      refine G_go rfl rfl ?_
      refine G_call rfl rfl ?_
      refine c_X7_least n _ _ 999 (wr (((upS (upS (upS s 130 x2.toNat 0) 130 x2.toNat (s 123 x2.toNat)) 123 x2.toNat 0) 123 ((s 128 x2.toNat).toNat)) + (s 123 x2.toNat))) hR ?_
      refine G_iw (n := 6) rfl rfl (by decide) (by decide) g4 ?_
      have hR := refs_up (a := 123) (k := (s 128 x2.toNat).toNat) (x := min 999 (wr (((upS (upS (upS s 130 x2.toNat 0) 130 x2.toNat (s 123 x2.toNat)) 123 x2.toNat 0) 123 ((s 128 x2.toNat).toNat)) + (s 123 x2.toNat)))) hR rfl
      refine G_go rfl rfl ?_
      refine G_go rfl rfl ?_
      exact h
theorem sb_X7_goNight_80 (n : Nat) (s : Nat → Nat → Int) (Q : List Vl → Sto → Prop) (x1 : Int) (x2 : Int) (w3 : Vl) (hR : refs s)
    (h : (s 120 0 ≤ x2 → G 120 140 147 0 [(3, 120), (1, x1), (0, 0)] [] (n, s) (fun r s1 => G 120 140 168 119 [(3, 120), (1, x1), (1, x2), w3, (0, 0)] (r ++ []) s1 Q)) ∧ (x2 < s 120 0 → (0 ≤ x2 ∧ x2 < 6) ∧ ((s 125 x2.toNat ≤ 0 → G 120 140 168 80 [(3, 120), (1, x1), (1, wr (x2 + 1)), w3, (0, 0)] [] (n, upS s 126 x2.toNat 0) Q) ∧ (0 < s 125 x2.toNat → G 120 140 168 80 [(3, 120), (1, x1), (1, wr (x2 + 1)), w3, (0, 0)] [] (n, upS s 126 x2.toNat 1) Q)))) :
    G 120 140 168 80 [(3, 120), (1, x1), (1, x2), w3, (0, 0)] [] (n, s) Q := by
  refine G_go rfl rfl ?_
  refine G_go rfl rfl ?_
  refine G_rd rfl rfl (by decide) ?_
  refine G_ge rfl rfl (fun c1 => ?_) (fun c1 => ?_)
  · have h := h.1 c1
    refine G_go rfl rfl ?_
    refine G_go rfl rfl ?_
    exact G_call rfl rfl h
  · have h := h.2 c1
    refine G_go rfl rfl ?_
    refine G_rf rfl rfl (by decide) (hR 120 6 126 rfl) ?_
    refine G_go rfl rfl ?_
    refine G_go rfl rfl ?_
    refine G_rf rfl rfl (by decide) (hR 120 5 125 rfl) ?_
    refine G_go rfl rfl ?_
    obtain ⟨g2, h⟩ := h
    refine G_ir (n := 6) rfl rfl (by decide) (by decide) g2 ?_
    refine G_le rfl rfl (fun c3 => ?_) (fun c3 => ?_)
    · have h := h.1 c3
      refine G_go rfl rfl ?_
      refine G_iw (n := 6) rfl rfl (by decide) (by decide) g2 ?_
      have hR := refs_up (a := 126) (k := x2.toNat) (x := 0) hR rfl
      refine G_go rfl rfl ?_
      refine G_go rfl rfl ?_
      exact h
    · have h := h.2 c3
      refine G_go rfl rfl ?_
      refine G_go rfl rfl ?_
      refine G_iw (n := 6) rfl rfl (by decide) (by decide) g2 ?_
      have hR := refs_up (a := 126) (k := x2.toNat) (x := 1) hR rfl
      refine G_go rfl rfl ?_
      refine G_go rfl rfl ?_
      exact h
theorem sb_X7_goNight_119 (n : Nat) (s : Nat → Nat → Int) (Q : List Vl → Sto → Prop) (x1 : Int) (x2 : Int) (w3 : Vl) (hR : refs s)
    (h : G 120 140 168 126 [(3, 120), (1, x1), (1, wr ((s 120 0) - 1)), w3, (0, 0)] [] (n, s) Q) :
    G 120 140 168 119 [(3, 120), (1, x1), (1, x2), w3, (0, 0)] [] (n, s) Q := by
  refine G_go rfl rfl ?_
  refine G_rd rfl rfl (by decide) ?_
  refine G_go rfl rfl ?_
  refine G_go rfl rfl ?_
  refine G_go rfl rfl ?_
  show G 120 140 168 126 [(3, 120), (1, x1), (1, wr ((s 120 0) - 1)), w3, (0, 0)] [] (n, s) Q
  exact h
theorem sb_X7_goNight_126 (n : Nat) (s : Nat → Nat → Int) (Q : List Vl → Sto → Prop) (x1 : Int) (x2 : Int) (w3 : Vl) (w4 : Vl) (hR : refs s)
    (h : (x2 < 0 → G 120 140 168 221 [(3, 120), (1, x1), (1, 0), w3, w4] [] (n, s) Q) ∧ (0 ≤ x2 → (0 ≤ x2 ∧ x2 < 6) ∧ ((s 128 x2.toNat < 0 → G 120 140 168 126 [(3, 120), (1, x1), (1, wr (x2 + (-1))), (1, s 128 x2.toNat), w4] [] (n, s) Q) ∧ (0 ≤ s 128 x2.toNat → (0 ≤ s 128 x2.toNat ∧ s 128 x2.toNat < 6) ∧ ((hnW (vw 121 s) (s 128 x2.toNat).toNat = 0 → G 120 140 168 126 [(3, 120), (1, x1), (1, wr (x2 + (-1))), (1, s 128 x2.toNat), (1, min (xdiv (s 130 x2.toNat) 2) (s 123 ((s 128 x2.toNat).toNat)))] [] (n, upS (upS s 123 ((s 128 x2.toNat).toNat) (wr ((s 123 ((s 128 x2.toNat).toNat)) - (min (xdiv (s 130 x2.toNat) 2) (s 123 ((s 128 x2.toNat).toNat)))))) 123 x2.toNat (min 999 (wr (((upS s 123 ((s 128 x2.toNat).toNat) (wr ((s 123 ((s 128 x2.toNat).toNat)) - (min (xdiv (s 130 x2.toNat) 2) (s 123 ((s 128 x2.toNat).toNat)))))) 123 x2.toNat) + (min (xdiv (s 130 x2.toNat) 2) (s 123 ((s 128 x2.toNat).toNat))))))) Q) ∧ (hnW (vw 121 s) (s 128 x2.toNat).toNat ≠ 0 → G 120 140 168 126 [(3, 120), (1, x1), (1, wr (x2 + (-1))), (1, s 128 x2.toNat), (1, min (s 130 x2.toNat) (s 123 ((s 128 x2.toNat).toNat)))] [] (n, upS (upS s 123 ((s 128 x2.toNat).toNat) (wr ((s 123 ((s 128 x2.toNat).toNat)) - (min (s 130 x2.toNat) (s 123 ((s 128 x2.toNat).toNat)))))) 123 x2.toNat (min 999 (wr (((upS s 123 ((s 128 x2.toNat).toNat) (wr ((s 123 ((s 128 x2.toNat).toNat)) - (min (s 130 x2.toNat) (s 123 ((s 128 x2.toNat).toNat)))))) 123 x2.toNat) + (min (s 130 x2.toNat) (s 123 ((s 128 x2.toNat).toNat))))))) Q)))))) :
    G 120 140 168 126 [(3, 120), (1, x1), (1, x2), w3, w4] [] (n, s) Q := by
  refine G_go rfl rfl ?_
  refine G_lt rfl rfl (fun c1 => ?_) (fun c1 => ?_)
  · have h := h.1 c1
    refine G_go rfl rfl ?_
    refine G_go rfl rfl ?_
    show G 120 140 168 221 [(3, 120), (1, x1), (1, 0), w3, w4] [] (n, s) Q
    exact h
  · have h := h.2 c1
    refine G_go rfl rfl ?_
    refine G_rf rfl rfl (by decide) (hR 120 8 128 rfl) ?_
    refine G_go rfl rfl ?_
    obtain ⟨g2, h⟩ := h
    refine G_ir (n := 6) rfl rfl (by decide) (by decide) g2 ?_
    refine G_go rfl rfl ?_
    show G 120 140 168 137 [(3, 120), (1, x1), (1, x2), (1, s 128 x2.toNat), w4] [] (n, s) Q
    refine G_go rfl rfl ?_
    refine G_lt rfl rfl (fun c3 => ?_) (fun c3 => ?_)
    · have h := h.1 c3
      refine G_go rfl rfl ?_
      refine G_go rfl rfl ?_
      exact h
    · have h := h.2 c3
      refine G_go rfl rfl ?_
      refine G_go rfl rfl ?_
      refine G_call rfl rfl ?_
      obtain ⟨g4, h⟩ := h
      refine c_X7_isHonest n _ _ (s 128 x2.toNat) hR g4 ?_
      refine G_eq rfl rfl (fun c5 => ?_) (fun c5 => ?_)
      · have h := h.1 c5
        refine G_go rfl rfl ?_
        refine G_rf rfl rfl (by decide) (hR 120 12 130 rfl) ?_
        refine G_go rfl rfl ?_
        refine G_ir (n := 6) rfl rfl (by decide) (by decide) g2 ?_
        refine G_go rfl rfl ?_
        refine G_go rfl rfl ?_
        refine G_go rfl rfl ?_
        show G 120 140 168 168 [(3, 120), (1, x1), (1, x2), (1, s 128 x2.toNat), (1, xdiv (s 130 x2.toNat) 2)] [] (n, s) Q
        refine G_go rfl rfl ?_
        refine G_go rfl rfl ?_
        refine G_rf rfl rfl (by decide) (hR 120 3 123 rfl) ?_
        refine G_go rfl rfl ?_
        refine G_ir (n := 6) rfl rfl (by decide) (by decide) g4 ?_
        refine G_call rfl rfl ?_
        refine c_X7_least n _ _ (xdiv (s 130 x2.toNat) 2) (s 123 ((s 128 x2.toNat).toNat)) hR ?_
        refine G_go rfl rfl ?_
        show G 120 140 168 181 [(3, 120), (1, x1), (1, x2), (1, s 128 x2.toNat), (1, min (xdiv (s 130 x2.toNat) 2) (s 123 ((s 128 x2.toNat).toNat)))] [] (n, s) Q
        refine G_go rfl rfl ?_
        refine G_rf rfl rfl (by decide) (hR 120 3 123 rfl) ?_
        refine G_go rfl rfl ?_
        refine G_go rfl rfl ?_
        refine G_ir (n := 6) rfl rfl (by decide) (by decide) g4 ?_
        refine G_go rfl rfl ?_
        refine G_go rfl rfl ?_
        refine G_iw (n := 6) rfl rfl (by decide) (by decide) g4 ?_
        have hR := refs_up (a := 123) (k := (s 128 x2.toNat).toNat) (x := wr ((s 123 ((s 128 x2.toNat).toNat)) - (min (xdiv (s 130 x2.toNat) 2) (s 123 ((s 128 x2.toNat).toNat))))) hR rfl
        refine G_go rfl rfl ?_
        refine G_rf rfl rfl (by decide) (hR 120 3 123 rfl) ?_
        refine G_go rfl rfl ?_
        refine G_go rfl rfl ?_
        refine G_go rfl rfl ?_
        refine G_rf rfl rfl (by decide) (hR 120 3 123 rfl) ?_
        refine G_go rfl rfl ?_
        refine G_ir (n := 6) rfl rfl (by decide) (by decide) g2 ?_
        refine G_go rfl rfl ?_
        refine G_go rfl rfl ?_
        refine G_call rfl rfl ?_
        refine c_X7_least n _ _ 999 (wr (((upS s 123 ((s 128 x2.toNat).toNat) (wr ((s 123 ((s 128 x2.toNat).toNat)) - (min (xdiv (s 130 x2.toNat) 2) (s 123 ((s 128 x2.toNat).toNat)))))) 123 x2.toNat) + (min (xdiv (s 130 x2.toNat) 2) (s 123 ((s 128 x2.toNat).toNat))))) hR ?_
        refine G_iw (n := 6) rfl rfl (by decide) (by decide) g2 ?_
        have hR := refs_up (a := 123) (k := x2.toNat) (x := min 999 (wr (((upS s 123 ((s 128 x2.toNat).toNat) (wr ((s 123 ((s 128 x2.toNat).toNat)) - (min (xdiv (s 130 x2.toNat) 2) (s 123 ((s 128 x2.toNat).toNat)))))) 123 x2.toNat) + (min (xdiv (s 130 x2.toNat) 2) (s 123 ((s 128 x2.toNat).toNat)))))) hR rfl
        refine G_go rfl rfl ?_
        refine G_go rfl rfl ?_
        exact h
      · have h := h.2 c5
        refine G_go rfl rfl ?_
        refine G_rf rfl rfl (by decide) (hR 120 12 130 rfl) ?_
        refine G_go rfl rfl ?_
        refine G_ir (n := 6) rfl rfl (by decide) (by decide) g2 ?_
        refine G_go rfl rfl ?_
        refine G_go rfl rfl ?_
        show G 120 140 168 168 [(3, 120), (1, x1), (1, x2), (1, s 128 x2.toNat), (1, s 130 x2.toNat)] [] (n, s) Q
        refine G_go rfl rfl ?_
        refine G_go rfl rfl ?_
        refine G_rf rfl rfl (by decide) (hR 120 3 123 rfl) ?_
        refine G_go rfl rfl ?_
        refine G_ir (n := 6) rfl rfl (by decide) (by decide) g4 ?_
        refine G_call rfl rfl ?_
        refine c_X7_least n _ _ (s 130 x2.toNat) (s 123 ((s 128 x2.toNat).toNat)) hR ?_
        refine G_go rfl rfl ?_
        show G 120 140 168 181 [(3, 120), (1, x1), (1, x2), (1, s 128 x2.toNat), (1, min (s 130 x2.toNat) (s 123 ((s 128 x2.toNat).toNat)))] [] (n, s) Q
        refine G_go rfl rfl ?_
        refine G_rf rfl rfl (by decide) (hR 120 3 123 rfl) ?_
        refine G_go rfl rfl ?_
        refine G_go rfl rfl ?_
        refine G_ir (n := 6) rfl rfl (by decide) (by decide) g4 ?_
        refine G_go rfl rfl ?_
        refine G_go rfl rfl ?_
        refine G_iw (n := 6) rfl rfl (by decide) (by decide) g4 ?_
        have hR := refs_up (a := 123) (k := (s 128 x2.toNat).toNat) (x := wr ((s 123 ((s 128 x2.toNat).toNat)) - (min (s 130 x2.toNat) (s 123 ((s 128 x2.toNat).toNat))))) hR rfl
        refine G_go rfl rfl ?_
        refine G_rf rfl rfl (by decide) (hR 120 3 123 rfl) ?_
        refine G_go rfl rfl ?_
        refine G_go rfl rfl ?_
        refine G_go rfl rfl ?_
        refine G_rf rfl rfl (by decide) (hR 120 3 123 rfl) ?_
        refine G_go rfl rfl ?_
        refine G_ir (n := 6) rfl rfl (by decide) (by decide) g2 ?_
        refine G_go rfl rfl ?_
        refine G_go rfl rfl ?_
        refine G_call rfl rfl ?_
        refine c_X7_least n _ _ 999 (wr (((upS s 123 ((s 128 x2.toNat).toNat) (wr ((s 123 ((s 128 x2.toNat).toNat)) - (min (s 130 x2.toNat) (s 123 ((s 128 x2.toNat).toNat)))))) 123 x2.toNat) + (min (s 130 x2.toNat) (s 123 ((s 128 x2.toNat).toNat))))) hR ?_
        refine G_iw (n := 6) rfl rfl (by decide) (by decide) g2 ?_
        have hR := refs_up (a := 123) (k := x2.toNat) (x := min 999 (wr (((upS s 123 ((s 128 x2.toNat).toNat) (wr ((s 123 ((s 128 x2.toNat).toNat)) - (min (s 130 x2.toNat) (s 123 ((s 128 x2.toNat).toNat)))))) 123 x2.toNat) + (min (s 130 x2.toNat) (s 123 ((s 128 x2.toNat).toNat)))))) hR rfl
        refine G_go rfl rfl ?_
        refine G_go rfl rfl ?_
        exact h
theorem sb_X7_goNight_221 (n : Nat) (s : Nat → Nat → Int) (Q : List Vl → Sto → Prop) (x1 : Int) (x2 : Int) (w3 : Vl) (w4 : Vl) (hR : refs s)
    (h : (s 120 0 ≤ x2 → Q [] (n, s)) ∧ (x2 < s 120 0 → (0 ≤ x2 ∧ x2 < 6) ∧ (G 120 140 168 221 [(3, 120), (1, x1), (1, wr (x2 + 1)), w3, w4] [] (n, upS s 126 x2.toNat 0) Q))) :
    G 120 140 168 221 [(3, 120), (1, x1), (1, x2), w3, w4] [] (n, s) Q := by
  refine G_go rfl rfl ?_
  refine G_go rfl rfl ?_
  refine G_rd rfl rfl (by decide) ?_
  refine G_ge rfl rfl (fun c1 => ?_) (fun c1 => ?_)
  · have h := h.1 c1
    exact G_ret rfl rfl h
  · have h := h.2 c1
    refine G_go rfl rfl ?_
    refine G_rf rfl rfl (by decide) (hR 120 6 126 rfl) ?_
    refine G_go rfl rfl ?_
    refine G_go rfl rfl ?_
    obtain ⟨g2, h⟩ := h
    refine G_iw (n := 6) rfl rfl (by decide) (by decide) g2 ?_
    have hR := refs_up (a := 126) (k := x2.toNat) (x := 0) hR rfl
    refine G_go rfl rfl ?_
    refine G_go rfl rfl ?_
    exact h
theorem c_dusk_r (n : Nat) (s : Nat → Nat → Int) (Q : List Vl → Sto → Prop) (m : Nat) (h x1 : Int) (V : Nat → Nat → Int) (hR : refs s) (ok : okT (m : Int) V) (ht : twR s m h V) (hq : ∀ s1, refs s1 → frX 130 s s1 → twR s1 m h (dkV m V) → (∀ p : Nat, p < m → 0 ≤ V 7 p → s1 130 p = dkV m V 8 p) → ∀ w, G 120 140 168 80 [(3, 120), (1, x1), (1, 0), w, (0, 0)] [] (n, s1) Q) : G 120 140 168 0 [(3, 120), (1, x1), (0, 0), (0, 0), (0, 0)] [] (n, s) Q := by
  obtain ⟨⟨o1, o2⟩, o3⟩ := ok
  refine sb_X7_goNight_0 n s Q x1 hR ?_
  refine G_up m (fun k _ => ∀ w s1, refs s1 → (frX 130 s s1 ∧ twR s1 m h (dkV k V) ∧ (∀ p : Nat, p < k → 0 ≤ V 7 p → s1 130 p = dkV k V 8 p)) → G 120 140 168 2 [(3, 120), (1, x1), (1, (k : Int)), w, (0, 0)] [] (n, s1) Q) (fun _ _ => ()) (fun _ _ => True) () trivial (fun _ _ _ _ => trivial) (fun k _ hk _ hg w s1 hR1 hI => ?_) (fun _ w s1 hR1 hI => ?_) (0, 0) s hR ⟨frX_rfl, ht, fun p hp => absurd hp (by omega)⟩
  · obtain ⟨f1, ⟨u1, u2, u3⟩, u4⟩ := hI
    have hp : (k : Int) < m := by omega
    have ok2 : okV (m : Int) (dkV k V) := okV_dkV o3 k (by omega)
    have hk1 : dkV (k + 1) V = dkF k (dkV k V) := rfl
    have h7 : ∀ q, dkV k V 7 q = V 7 q := fun q => dkV_o (by decide) (by decide)
    generalize dkV k V = W at *
    rw [hk1] at hg
    obtain ⟨q0, q1, q2, q3, q4, q5, q6, q7⟩ := ok2 k hp
    have e2 : s1 123 k = W 2 k := u3 2 (by decide) k hp
    have e7 : s1 128 k = W 7 k := u3 7 (by decide) k hp
    rw [← wr_s hk (by omega)] at hg
    refine sb_X7_goNight_2 n s1 Q x1 k w hR1 ?_
    rw [Int.toNat_natCast, u1, e2, e7]
    refine ⟨fun e => by omega, fun _ => ⟨by omega, fun c => ?_, fun c => ?_⟩⟩
    · have hd : dkF k W = W := if_neg (by omega)
      refine hg _ _ (refs_up hR1 rfl) ⟨⟨fun b b1 b2 b3 => ?_, f1.2⟩, ⟨u1, u2, ?_⟩, fun p hp h0 => ?_⟩
      · funext z
        rw [upS_1 b2, f1.1 b b1 b2 b3]
      · rw [hd]
        intro j hj p hp
        rw [upS_1 (by omega)]
        exact u3 j hj p hp
      · have z : p ≠ k := fun z => by
          rw [z, ← h7] at h0
          omega
        rw [hd, upS_2 z]
        exact u4 p (by omega) h0
    · obtain ⟨c1, c2⟩ := co_ne ok2 hp c
      have hcc : s1 123 (W 7 k).toNat = W 2 (W 7 k).toNat := u3 2 (by decide) _ (by omega)
      have gc := (ok2 (W 7 k).toNat (by omega)).2.2.1
      rw [show upS (upS (upS s1 130 k 0) 130 k (W 2 k)) 123 k 0 123 (W 7 k).toNat = W 2 (W 7 k).toNat by rw [upS_2 c1, upS_1 (by decide), upS_1 (by decide), hcc], wr_id (x := W 2 (W 7 k).toNat + W 2 k) (by omega) (by omega)]
      refine ⟨by omega, hg _ _ (refs_up (refs_up (refs_up (refs_up hR1 rfl) rfl) rfl) rfl) ⟨⟨fun b b1 b2 b3 => ?_, f1.2⟩, ⟨u1, u2, row_put 2 u3 (fun j hj j2 p => ⟨?_, ?_⟩) (fun p hp => ?_)⟩, fun p hp h0 => ?_⟩⟩
      · funext z
        rw [upS_1 (by omega), upS_1 (by omega), upS_1 b2, upS_1 b2, f1.1 b b1 b2 b3]
      · rw [upS_1 (by omega), upS_1 (by omega), upS_1 (by omega), upS_1 (by omega)]
      · exact dk_o j2 (by omega)
      · rw [dk_2 c c1]
        show upS (upS (upS (upS s1 130 k 0) 130 k (W 2 k)) 123 k 0) 123 (W 7 k).toNat _ 123 p = _
        by_cases z : p = (W 7 k).toNat
        · rw [if_pos z, z, upS_eq]
        · rw [if_neg z, upS_2 z]
          by_cases y : p = k
          · rw [if_pos y, y, upS_eq]
          · rw [if_neg y, upS_2 y, upS_1 (by decide), upS_1 (by decide)]
            exact u3 2 (by decide) p hp
      · rw [upS_1 (by decide), upS_1 (by decide)]
        by_cases z : p = k
        · rw [z, upS_eq, dk_8p c]
        · rw [upS_2 z, upS_2 z, dk_8 z]
          exact u4 p (by omega) h0
  · obtain ⟨f1, u1, u2⟩ := hI
    exact sb_X7_goNight_2 n s1 Q x1 _ w hR1 ⟨fun _ => hq s1 hR1 f1 u1 u2 w, fun e => absurd e (by rw [u1.1]; omega)⟩
theorem c_lit_r (n : Nat) (s : Nat → Nat → Int) (Q : List Vl → Sto → Prop) (m : Nat) (h x1 : Int) (w : Vl) (V : Nat → Nat → Int) (hR : refs s) (ok : okT (m : Int) V) (ht : twR s m h V) (hq : ∀ s1, refs s1 → frX 130 s s1 → s1 130 = s 130 → twR s1 m h (ltV m V) → G 120 140 147 0 [(3, 120), (1, x1), (0, 0)] [] (n, s1) (fun r s1 => G 120 140 168 119 [(3, 120), (1, x1), (1, (m : Int)), w, (0, 0)] (r ++ []) s1 Q)) : G 120 140 168 80 [(3, 120), (1, x1), (1, 0), w, (0, 0)] [] (n, s) Q := by
  obtain ⟨⟨o1, o2⟩, o3⟩ := ok
  refine G_up m (fun k _ => ∀ s1, refs s1 → (frX 130 s s1 ∧ s1 130 = s 130 ∧ twR s1 m h (ltV k V)) → G 120 140 168 80 [(3, 120), (1, x1), (1, (k : Int)), w, (0, 0)] [] (n, s1) Q) (fun _ _ => ()) (fun _ _ => True) () trivial (fun _ _ _ _ => trivial) (fun k _ hk _ hg s1 hR1 hI => ?_) (fun _ s1 hR1 hI => ?_) s hR ⟨frX_rfl, rfl, ht.1, ht.2.1, fun j hj p hp => by rw [ltV_0]; exact ht.2.2 j hj p hp⟩
  · obtain ⟨f1, f2, u1, u2, u3⟩ := hI
    have hp : (k : Int) < m := by omega
    have e4 : s1 125 k = V 4 k := by
      have := u3 4 (by decide) k hp
      rw [ltV_o (by decide)] at this
      exact this
    rw [← wr_s hk (by omega)] at hg
    refine sb_X7_goNight_80 n s1 Q x1 k w hR1 ?_
    rw [Int.toNat_natCast, u1, e4]
    have go : ∀ x, (x = if 0 < V 4 k then 1 else 0) → G 120 140 168 80 [(3, 120), (1, x1), (1, wr ((k : Int) + 1)), w, (0, 0)] [] (n, upS s1 126 k x) Q := fun x hx => by
      refine hg _ (refs_up hR1 rfl) ⟨⟨fun b b1 b2 b3 => ?_, f1.2⟩, ?_, u1, u2, row_put 5 u3 (fun j hj j2 p => ⟨?_, ?_⟩) (fun p hp => ?_)⟩
      · funext z
        rw [upS_1 (by omega), f1.1 b b1 b2 b3]
      · funext z
        rw [upS_1 (by decide), f2]
      · rw [upS_1 (by omega)]
      · rw [ltV_o j2, ltV_o j2]
      · by_cases z : p = k
        · rw [z, ltV_s]
          exact upS_eq.trans hx
        · rw [ltV_ne z, upS_2 z]
          exact u3 5 (by decide) p hp
    exact ⟨fun e => by omega, fun _ => ⟨by omega, fun d => go 0 (by rw [if_neg (by omega)]), fun d => go 1 (by rw [if_pos d])⟩⟩
  · obtain ⟨f1, f2, u1⟩ := hI
    exact sb_X7_goNight_80 n s1 Q x1 _ w hR1 ⟨fun _ => hq s1 hR1 f1 f2 u1, fun e => absurd e (by rw [u1.1]; omega)⟩
theorem c_dawn_r (n : Nat) (s : Nat → Nat → Int) (Q : List Vl → Sto → Prop) (m : Nat) (h x1 x2 : Int) (w : Vl) (V : Nat → Nat → Int) (hR : refs s) (ok : okT (m : Int) V) (og : gvO m V) (ht : twR s m h V) (hv : ∀ p : Nat, p < m → 0 ≤ V 7 p → s 130 p = V 8 p) (hq : ∀ s1, refs s1 → frX 130 s s1 → twR s1 m h (dwV m m V) → ∀ w w2, G 120 140 168 221 [(3, 120), (1, x1), (1, 0), w, w2] [] (n, s1) Q) : G 120 140 168 119 [(3, 120), (1, x1), (1, x2), w, (0, 0)] [] (n, s) Q := by
  obtain ⟨⟨o1, o2⟩, o3⟩ := ok
  refine sb_X7_goNight_119 n s Q x1 x2 w hR ?_
  rw [ht.1, wr_id (x := (m : Int) - 1) (by omega) (by omega)]
  have h0 : ((m : Int) - 1) = ((m : Int) - 1 - ((0 : Nat) : Int)) := by omega
  rw [h0]
  refine G_up m (fun k _ => ∀ w w2 s1, refs s1 → (frX 130 s s1 ∧ s1 130 = s 130 ∧ twR s1 m h (dwV m k V)) → G 120 140 168 126 [(3, 120), (1, x1), (1, (m : Int) - 1 - (k : Int)), w, w2] [] (n, s1) Q) (fun _ _ => ()) (fun _ _ => True) () trivial (fun _ _ _ _ => trivial) (fun k _ hk _ hg w w2 s1 hR1 hI => ?_) (fun _ w w2 s1 hR1 hI => ?_) w (0, 0) s hR ⟨frX_rfl, rfl, ht⟩
  · obtain ⟨f1, f9, u1, u2, u3⟩ := hI
    have ok2 : okV (m : Int) (dwV m k V) := okV_dwV o3 og k (by omega)
    have h7 : ∀ q, dwV m k V 7 q = V 7 q := fun q => dwV_o (by decide)
    have h8 : ∀ q, dwV m k V 8 q = V 8 q := fun q => dwV_o (by decide)
    have hk1 : dwV m (k + 1) V = dwF (m - 1 - k) (dwV m k V) := rfl
    rw [hk1] at hg
    generalize dwV m k V = W at *
    obtain ⟨p, hpe⟩ : ∃ p : Nat, p = m - 1 - k := ⟨_, rfl⟩
    have hp : (p : Int) < m := by omega
    rw [← hpe, show (m : Int) - 1 - ((k + 1 : Nat) : Int) = (p : Int) + (-1) by omega, ← wr_id (x := (p : Int) + (-1)) (by omega) (by omega)] at hg
    rw [show (m : Int) - 1 - (k : Int) = (p : Int) by omega]
    obtain ⟨q0, q1, q2, q3, q4, q5, q6, q7⟩ := ok2 p hp
    have e2 : s1 123 p = W 2 p := u3 2 (by decide) p hp
    have e7 : s1 128 p = W 7 p := u3 7 (by decide) p hp
    refine sb_X7_goNight_126 n s1 Q x1 p w w2 hR1 ?_
    rw [Int.toNat_natCast, e7]
    have yes : 0 ≤ W 7 p → ∀ x, x = dueV W p → G 120 140 168 126 [(3, 120), (1, x1), (1, wr ((p : Int) + (-1))), (1, W 7 p), (1, x)] [] (n, upS (upS s1 123 (W 7 p).toNat (wr (W 2 (W 7 p).toNat - x))) 123 p (min 999 (wr (upS s1 123 (W 7 p).toNat (wr (W 2 (W 7 p).toNat - x)) 123 p + x)))) Q := fun c x hx => by
      obtain ⟨c1, c2⟩ := co_ne ok2 hp c
      have gd := due_rg ok2 hp c (by rw [h8]; rw [h7] at c; exact og p hp c)
      have gc := (ok2 (W 7 p).toNat (by omega)).2.2.1
      rw [wr_id (x := W 2 (W 7 p).toNat - x) (by omega) (by omega), show upS s1 123 (W 7 p).toNat (W 2 (W 7 p).toNat - x) 123 p = W 2 p by rw [upS_2 (Ne.symm c1), e2], wr_id (x := W 2 p + x) (by omega) (by omega)]
      refine hg _ _ _ (refs_up (refs_up hR1 rfl) rfl) ⟨⟨fun b b1 b2 b3 => ?_, f1.2⟩, ?_, u1, u2, row_put 2 u3 (fun j hj j2 q => ⟨?_, ?_⟩) (fun q hq => ?_)⟩
      · funext z
        rw [upS_1 (by omega), upS_1 (by omega), f1.1 b b1 b2 b3]
      · funext z
        rw [upS_1 (by decide), upS_1 (by decide), f9]
      · rw [upS_1 (by omega), upS_1 (by omega)]
      · exact dw_o j2
      · rw [dw_2 c c1]
        show upS (upS s1 123 (W 7 p).toNat _) 123 p _ 123 q = _
        by_cases z : q = p
        · rw [if_pos z, z, upS_eq, hx]
        · rw [if_neg z, upS_2 z]
          by_cases y : q = (W 7 p).toNat
          · rw [if_pos y, y, upS_eq, hx]
          · rw [if_neg y, upS_2 y]
            exact u3 2 (by decide) q hq
    refine ⟨fun e => by omega, fun _ => ⟨by omega, fun c => ?_, fun c => ?_⟩⟩
    · have hd : dwF p W = W := if_neg (by omega)
      rw [hd] at hg
      exact hg _ _ s1 hR1 ⟨f1, f9, u1, u2, u3⟩
    · obtain ⟨c3, c4⟩ := co_ne ok2 hp c
      have hc : ((W 7 p).toNat : Int) < m := by omega
      have x2 : s1 123 (W 7 p).toNat = W 2 (W 7 p).toNat := u3 2 (by decide) _ hc
      have xh : hnW (vw 121 s1) (W 7 p).toNat = hnW W (W 7 p).toNat := by
        show hon (s1 121 (W 7 p).toNat) (s1 122 (W 7 p).toNat) = hon (W 0 (W 7 p).toNat) (W 1 (W 7 p).toNat)
        rw [u3 0 (by decide) _ hc, u3 1 (by decide) _ hc]
      have x9 : s1 130 p = W 8 p := by
        rw [f9, h8]
        rw [h7] at c
        exact hv p (by omega) c
      have g8 : 0 ≤ W 8 p ∧ W 8 p ≤ 999 := by
        rw [h8]
        rw [h7] at c
        exact og p hp c
      rw [x2, xh, x9, xdiv_nn (a := W 8 p) (b := 2) (by omega) (by omega) (by decide) (by decide)]
      refine ⟨by omega, fun d => yes c _ ?_, fun d => yes c _ ?_⟩
      · unfold dueV
        rw [if_pos d]
      · unfold dueV
        rw [if_neg d]
  · refine sb_X7_goNight_126 n s1 Q x1 _ w w2 hR1 ⟨fun _ => hq s1 hR1 hI.1 hI.2.2 w w2, fun e => by omega⟩
theorem c_off_r (n : Nat) (s : Nat → Nat → Int) (Q : List Vl → Sto → Prop) (m : Nat) (h x1 : Int) (w w2 : Vl) (V : Nat → Nat → Int) (hR : refs s) (om : m ≤ 6) (ht : twR s m h V) (hq : ∀ s1, refs s1 → frX 130 s s1 → twR s1 m h (ofV 0 V) → Q [] (n, s1)) : G 120 140 168 221 [(3, 120), (1, x1), (1, 0), w, w2] [] (n, s) Q := by
  refine G_up m (fun k _ => ∀ s1, refs s1 → (frX 130 s s1 ∧ twR s1 m h (ofU k V)) → G 120 140 168 221 [(3, 120), (1, x1), (1, (k : Int)), w, w2] [] (n, s1) Q) (fun _ _ => ()) (fun _ _ => True) () trivial (fun _ _ _ _ => trivial) (fun k _ hk _ hg s1 hR1 hI => ?_) (fun _ s1 hR1 hI => ?_) s hR ⟨frX_rfl, ht.1, ht.2.1, fun j hj p hp => ?_⟩
  · obtain ⟨f1, u1, u2, u3⟩ := hI
    have hp : (k : Int) < m := by omega
    rw [← wr_s hk (by omega)] at hg
    refine sb_X7_goNight_221 n s1 Q x1 k w w2 hR1 ?_
    rw [Int.toNat_natCast, u1]
    refine ⟨fun e => by omega, fun _ => ⟨by omega, ?_⟩⟩
    refine hg _ (refs_up hR1 rfl) ⟨⟨fun b b1 b2 b3 => ?_, f1.2⟩, u1, u2, row_put 5 u3 (fun j hj j2 p => ⟨?_, ?_⟩) (fun p hp => ?_)⟩
    · funext z
      rw [upS_1 (by omega), f1.1 b b1 b2 b3]
    · rw [upS_1 (by omega)]
    · rw [ofU_o j2, ofU_o j2]
    · by_cases z : p = k
      · rw [z, ofU_s]
        exact upS_eq
      · rw [ofU_ne z, upS_2 z]
        exact u3 5 (by decide) p hp
  · obtain ⟨f1, u1, u2, u3⟩ := hI
    refine sb_X7_goNight_221 n s1 Q x1 _ w w2 hR1 ⟨fun _ => hq s1 hR1 f1 ⟨u1, u2, fun j hj p hp => ?_⟩, fun e => absurd e (by rw [u1]; omega)⟩
    rw [u3 j hj p hp]
    unfold ofU ofV
    by_cases c : j = 5
    · rw [if_pos ⟨c, by omega⟩, if_pos ⟨c, by omega⟩]
    · rw [if_neg (fun e => c e.1), if_neg (fun e => c e.1)]
  · rw [ht.2.2 j hj p hp]
    exact (if_neg (fun e => absurd e.2 (by omega))).symm
theorem c_goNight (n : Nat) (s : Nat → Nat → Int) (Q : List Vl → Sto → Prop) (m : Nat) (h : Int) (V : Nat → Nat → Int) (N : Nat) (hN : N ≤ 99) (hR : refs s) (ok : okT (m : Int) V) (ht : twR s m h V) (hq : ∀ s1, refs s1 → frX 130 s s1 → twR s1 m (hrN N h (ltV m (dkV m V))).1 (ntV m N h V) → Q [] (n, s1)) : G 120 140 168 0 [(3, 120), (1, (N : Int)), (0, 0), (0, 0), (0, 0)] [] (n, s) Q := by
  have om : m ≤ 6 := by have := ok.1.2; omega
  refine c_dusk_r n s Q m h N V hR ok ht (fun s1 hR1 f1 u1 v1 w => ?_)
  refine c_lit_r n s1 Q m h N w _ hR1 ⟨ok.1, okV_dkV ok.2 m (Int.le_refl _)⟩ u1 (fun s2 hR2 f2 g2 u2 => ?_)
  refine c_goHours n s2 _ m h _ N hN hR2 (okT_mid (N := 0) (h := h) ok) u2 (fun s3 hR3 f3 u3 => ?_)
  refine c_dawn_r n s3 Q m _ N _ w (hrN N h (ltV m (dkV m V))).2 hR3 (okT_mid ok) (nt_gv ok.2) u3 (fun p hp c => ?_) (fun s4 hR4 f4 u4 w3 w4 => ?_)
  · rw [hrN_7, ltV_o (by decide), dkV_o (by decide) (by decide)] at c
    rw [f3.1 130 (by decide), g2, hrN_8, ltV_o (by decide)]
    exact v1 p hp c
  · exact c_off_r n s4 Q m _ N w3 w4 _ hR4 om u4 (fun s5 hR5 f5 u5 => hq s5 hR5 (frX_trans f1 (frX_trans f2 (frX_trans (frY_x f3) (frX_trans f4 f5)))) u5)

/-! BITS OF WHO IS LIT. -/
def bcV (a0 : Int) : Int := xand (wr ((wr ((xand (wr ((wr ((xand (wr (a0 - (xand (xushr a0 1) 1431655765))) 858993459) + (xand (xushr (wr (a0 - (xand (xushr a0 1) 1431655765))) 2) 858993459))) + (xushr (wr ((xand (wr (a0 - (xand (xushr a0 1) 1431655765))) 858993459) + (xand (xushr (wr (a0 - (xand (xushr a0 1) 1431655765))) 2) 858993459))) 4))) 252645135) + (xushr (xand (wr ((wr ((xand (wr (a0 - (xand (xushr a0 1) 1431655765))) 858993459) + (xand (xushr (wr (a0 - (xand (xushr a0 1) 1431655765))) 2) 858993459))) + (xushr (wr ((xand (wr (a0 - (xand (xushr a0 1) 1431655765))) 858993459) + (xand (xushr (wr (a0 - (xand (xushr a0 1) 1431655765))) 2) 858993459))) 4))) 252645135) 8))) + (xushr (wr ((xand (wr ((wr ((xand (wr (a0 - (xand (xushr a0 1) 1431655765))) 858993459) + (xand (xushr (wr (a0 - (xand (xushr a0 1) 1431655765))) 2) 858993459))) + (xushr (wr ((xand (wr (a0 - (xand (xushr a0 1) 1431655765))) 858993459) + (xand (xushr (wr (a0 - (xand (xushr a0 1) 1431655765))) 2) 858993459))) 4))) 252645135) + (xushr (xand (wr ((wr ((xand (wr (a0 - (xand (xushr a0 1) 1431655765))) 858993459) + (xand (xushr (wr (a0 - (xand (xushr a0 1) 1431655765))) 2) 858993459))) + (xushr (wr ((xand (wr (a0 - (xand (xushr a0 1) 1431655765))) 858993459) + (xand (xushr (wr (a0 - (xand (xushr a0 1) 1431655765))) 2) 858993459))) 4))) 252645135) 8))) 16))) 63
theorem sb_J6_bitCount_0f7a4_0 (n : Nat) (s : Nat → Nat → Int) (Q : List Vl → Sto → Prop) (a0 : Int) (hR : refs s)
    (h : Q [(1, xand (wr ((wr ((xand (wr ((wr ((xand (wr (a0 - (xand (xushr a0 1) 1431655765))) 858993459) + (xand (xushr (wr (a0 - (xand (xushr a0 1) 1431655765))) 2) 858993459))) + (xushr (wr ((xand (wr (a0 - (xand (xushr a0 1) 1431655765))) 858993459) + (xand (xushr (wr (a0 - (xand (xushr a0 1) 1431655765))) 2) 858993459))) 4))) 252645135) + (xushr (xand (wr ((wr ((xand (wr (a0 - (xand (xushr a0 1) 1431655765))) 858993459) + (xand (xushr (wr (a0 - (xand (xushr a0 1) 1431655765))) 2) 858993459))) + (xushr (wr ((xand (wr (a0 - (xand (xushr a0 1) 1431655765))) 858993459) + (xand (xushr (wr (a0 - (xand (xushr a0 1) 1431655765))) 2) 858993459))) 4))) 252645135) 8))) + (xushr (wr ((xand (wr ((wr ((xand (wr (a0 - (xand (xushr a0 1) 1431655765))) 858993459) + (xand (xushr (wr (a0 - (xand (xushr a0 1) 1431655765))) 2) 858993459))) + (xushr (wr ((xand (wr (a0 - (xand (xushr a0 1) 1431655765))) 858993459) + (xand (xushr (wr (a0 - (xand (xushr a0 1) 1431655765))) 2) 858993459))) 4))) 252645135) + (xushr (xand (wr ((wr ((xand (wr (a0 - (xand (xushr a0 1) 1431655765))) 858993459) + (xand (xushr (wr (a0 - (xand (xushr a0 1) 1431655765))) 2) 858993459))) + (xushr (wr ((xand (wr (a0 - (xand (xushr a0 1) 1431655765))) 858993459) + (xand (xushr (wr (a0 - (xand (xushr a0 1) 1431655765))) 2) 858993459))) 4))) 252645135) 8))) 16))) 63)] (n, s)) :
    G 2 120 0 0 [(1, a0)] [] (n, s) Q := by
  refine G_go rfl rfl ?_
  refine G_go rfl rfl ?_
  refine G_go rfl rfl ?_
  refine G_go rfl rfl ?_
  refine G_go rfl rfl ?_
  refine G_go rfl rfl ?_
  refine G_go rfl rfl ?_
  refine G_go rfl rfl ?_
  show G 2 120 0 10 [(1, wr (a0 - (xand (xushr a0 1) 1431655765)))] [] (n, s) Q
  refine G_go rfl rfl ?_
  refine G_go rfl rfl ?_
  refine G_go rfl rfl ?_
  refine G_go rfl rfl ?_
  refine G_go rfl rfl ?_
  refine G_go rfl rfl ?_
  refine G_go rfl rfl ?_
  refine G_go rfl rfl ?_
  refine G_go rfl rfl ?_
  refine G_go rfl rfl ?_
  show G 2 120 0 24 [(1, wr ((xand (wr (a0 - (xand (xushr a0 1) 1431655765))) 858993459) + (xand (xushr (wr (a0 - (xand (xushr a0 1) 1431655765))) 2) 858993459)))] [] (n, s) Q
  refine G_go rfl rfl ?_
  refine G_go rfl rfl ?_
  refine G_go rfl rfl ?_
  refine G_go rfl rfl ?_
  refine G_go rfl rfl ?_
  refine G_go rfl rfl ?_
  refine G_go rfl rfl ?_
  refine G_go rfl rfl ?_
  show G 2 120 0 34 [(1, xand (wr ((wr ((xand (wr (a0 - (xand (xushr a0 1) 1431655765))) 858993459) + (xand (xushr (wr (a0 - (xand (xushr a0 1) 1431655765))) 2) 858993459))) + (xushr (wr ((xand (wr (a0 - (xand (xushr a0 1) 1431655765))) 858993459) + (xand (xushr (wr (a0 - (xand (xushr a0 1) 1431655765))) 2) 858993459))) 4))) 252645135)] [] (n, s) Q
  refine G_go rfl rfl ?_
  refine G_go rfl rfl ?_
  refine G_go rfl rfl ?_
  refine G_go rfl rfl ?_
  refine G_go rfl rfl ?_
  refine G_go rfl rfl ?_
  show G 2 120 0 41 [(1, wr ((xand (wr ((wr ((xand (wr (a0 - (xand (xushr a0 1) 1431655765))) 858993459) + (xand (xushr (wr (a0 - (xand (xushr a0 1) 1431655765))) 2) 858993459))) + (xushr (wr ((xand (wr (a0 - (xand (xushr a0 1) 1431655765))) 858993459) + (xand (xushr (wr (a0 - (xand (xushr a0 1) 1431655765))) 2) 858993459))) 4))) 252645135) + (xushr (xand (wr ((wr ((xand (wr (a0 - (xand (xushr a0 1) 1431655765))) 858993459) + (xand (xushr (wr (a0 - (xand (xushr a0 1) 1431655765))) 2) 858993459))) + (xushr (wr ((xand (wr (a0 - (xand (xushr a0 1) 1431655765))) 858993459) + (xand (xushr (wr (a0 - (xand (xushr a0 1) 1431655765))) 2) 858993459))) 4))) 252645135) 8)))] [] (n, s) Q
  refine G_go rfl rfl ?_
  refine G_go rfl rfl ?_
  refine G_go rfl rfl ?_
  refine G_go rfl rfl ?_
  refine G_go rfl rfl ?_
  refine G_go rfl rfl ?_
  show G 2 120 0 48 [(1, wr ((wr ((xand (wr ((wr ((xand (wr (a0 - (xand (xushr a0 1) 1431655765))) 858993459) + (xand (xushr (wr (a0 - (xand (xushr a0 1) 1431655765))) 2) 858993459))) + (xushr (wr ((xand (wr (a0 - (xand (xushr a0 1) 1431655765))) 858993459) + (xand (xushr (wr (a0 - (xand (xushr a0 1) 1431655765))) 2) 858993459))) 4))) 252645135) + (xushr (xand (wr ((wr ((xand (wr (a0 - (xand (xushr a0 1) 1431655765))) 858993459) + (xand (xushr (wr (a0 - (xand (xushr a0 1) 1431655765))) 2) 858993459))) + (xushr (wr ((xand (wr (a0 - (xand (xushr a0 1) 1431655765))) 858993459) + (xand (xushr (wr (a0 - (xand (xushr a0 1) 1431655765))) 2) 858993459))) 4))) 252645135) 8))) + (xushr (wr ((xand (wr ((wr ((xand (wr (a0 - (xand (xushr a0 1) 1431655765))) 858993459) + (xand (xushr (wr (a0 - (xand (xushr a0 1) 1431655765))) 2) 858993459))) + (xushr (wr ((xand (wr (a0 - (xand (xushr a0 1) 1431655765))) 858993459) + (xand (xushr (wr (a0 - (xand (xushr a0 1) 1431655765))) 2) 858993459))) 4))) 252645135) + (xushr (xand (wr ((wr ((xand (wr (a0 - (xand (xushr a0 1) 1431655765))) 858993459) + (xand (xushr (wr (a0 - (xand (xushr a0 1) 1431655765))) 2) 858993459))) + (xushr (wr ((xand (wr (a0 - (xand (xushr a0 1) 1431655765))) 858993459) + (xand (xushr (wr (a0 - (xand (xushr a0 1) 1431655765))) 2) 858993459))) 4))) 252645135) 8))) 16)))] [] (n, s) Q
  refine G_go rfl rfl ?_
  refine G_go rfl rfl ?_
  refine G_go rfl rfl ?_
  exact G_ret rfl rfl h
theorem c_bitCount (n : Nat) (s : Nat → Nat → Int) (Q : List Vl → Sto → Prop) (x : Int) (hR : refs s) (hq : Q [(1, bcV x)] (n, s)) : G 2 120 0 0 [(1, x)] [] (n, s) Q := sb_J6_bitCount_0f7a4_0 n s Q x hR hq
def lbF (r : Nat → Int) (k : Nat) (b : Int) : Int := if r k = 0 then b else xor_ b (xshl 1 k)
def drF (r : Nat → Int) (k : Nat) (b : Int) : Int := if r k = 0 then wr (b + 1) else b
def lcF (r : Nat → Int) (k : Nat) (b : Int) : Int := xor_ b (xshl (r k) k)
def rw6 (a b c d e f : Fin 2) (k : Nat) : Int := if k = 0 then ((a.1 : Nat) : Int) else if k = 1 then ((b.1 : Nat) : Int) else if k = 2 then ((c.1 : Nat) : Int) else if k = 3 then ((d.1 : Nat) : Int) else if k = 4 then ((e.1 : Nat) : Int) else ((f.1 : Nat) : Int)
theorem bits6 : ∀ (a b c d e f : Fin 2) (m : Fin 7), bcV (itr (lbF (rw6 a b c d e f)) 0 m.1) = itr (smF (rw6 a b c d e f)) 0 m.1 ∧ itr (lcF (rw6 a b c d e f)) 0 m.1 = itr (lbF (rw6 a b c d e f)) 0 m.1 := by decide +kernel
theorem of01 (x : Int) (h : x = 0 ∨ x = 1) : ∃ a : Fin 2, x = ((a.1 : Nat) : Int) := by
  rcases h with rfl | rfl
  · exact ⟨0, rfl⟩
  · exact ⟨1, rfl⟩
theorem bits_of (r : Nat → Int) (m : Nat) (hm : m ≤ 6) (h : ∀ k, k < m → r k = 0 ∨ r k = 1) : bcV (itr (lbF r) 0 m) = itr (smF r) 0 m ∧ itr (lcF r) 0 m = itr (lbF r) 0 m := by
  have g : ∀ k, ∃ a : Fin 2, k < m → r k = ((a.1 : Nat) : Int) := fun k => by
    by_cases c : k < m
    · obtain ⟨a, ha⟩ := of01 _ (h k c)
      exact ⟨a, fun _ => ha⟩
    · exact ⟨0, fun e => absurd e c⟩
  obtain ⟨a, ha⟩ := g 0
  obtain ⟨b, hb⟩ := g 1
  obtain ⟨c, hc⟩ := g 2
  obtain ⟨d, hd⟩ := g 3
  obtain ⟨e, he⟩ := g 4
  obtain ⟨f, hf⟩ := g 5
  have hr : ∀ k, k < m → r k = rw6 a b c d e f k := fun k hk => by
    have : k = 0 ∨ k = 1 ∨ k = 2 ∨ k = 3 ∨ k = 4 ∨ k = 5 := by omega
    rcases this with rfl | rfl | rfl | rfl | rfl | rfl
    · exact ha hk
    · exact hb hk
    · exact hc hk
    · exact hd hk
    · exact he hk
    · exact hf hk
  have h6 := bits6 a b c d e f ⟨m, by omega⟩
  dsimp only at h6
  rw [itr_ext (f := lbF r) (g := lbF (rw6 a b c d e f)) 0 m (fun k x hk => by unfold lbF; rw [hr k hk]), itr_ext (f := lcF r) (g := lcF (rw6 a b c d e f)) 0 m (fun k x hk => by unfold lcF; rw [hr k hk]), itr_ext (f := smF r) (g := smF (rw6 a b c d e f)) 0 m (fun k x hk => by unfold smF; rw [hr k hk])]
  exact h6
theorem sb_X5_litOnes_0_3 (n : Nat) (s : Nat → Nat → Int) (Q : List Vl → Sto → Prop) (hR : refs s)
    (h : G 2 120 51 4 [(3, 3), (1, 0), (1, 0)] [] (n, s) Q) :
    G 2 120 51 0 [(3, 3), (0, 0), (0, 0)] [] (n, s) Q := by
  refine G_go rfl rfl ?_
  refine G_go rfl rfl ?_
  show G 2 120 51 2 [(3, 3), (1, 0), (0, 0)] [] (n, s) Q
  refine G_go rfl rfl ?_
  refine G_go rfl rfl ?_
  show G 2 120 51 4 [(3, 3), (1, 0), (1, 0)] [] (n, s) Q
  exact h
theorem sb_X5_litOnes_4_3 (n : Nat) (s : Nat → Nat → Int) (Q : List Vl → Sto → Prop) (x1 : Int) (x2 : Int) (hR : refs s)
    (h : (s 3 9 ≤ x2 → Q [(1, x1)] (n, s)) ∧ (x2 < s 3 9 → (0 ≤ x2 ∧ x2 < 6) ∧ ((s 9 x2.toNat = 0 → G 2 120 51 4 [(3, 3), (1, x1), (1, wr (x2 + 1))] [] (n, s) Q) ∧ (s 9 x2.toNat ≠ 0 → G 2 120 51 4 [(3, 3), (1, xor_ x1 (xshl 1 x2)), (1, wr (x2 + 1))] [] (n, s) Q)))) :
    G 2 120 51 4 [(3, 3), (1, x1), (1, x2)] [] (n, s) Q := by
  refine G_go rfl rfl ?_
  refine G_go rfl rfl ?_
  refine G_rd rfl rfl (by decide) ?_
  refine G_ge rfl rfl (fun c1 => ?_) (fun c1 => ?_)
  · have h := h.1 c1
    refine G_go rfl rfl ?_
    exact G_ret rfl rfl h
  · have h := h.2 c1
    refine G_go rfl rfl ?_
    refine G_rf rfl rfl (by decide) (hR 3 5 9 rfl) ?_
    refine G_go rfl rfl ?_
    obtain ⟨g2, h⟩ := h
    refine G_zr (n := 6) rfl rfl (by decide) (by decide) g2 ?_
    refine G_eq rfl rfl (fun c3 => ?_) (fun c3 => ?_)
    · have h := h.1 c3
      refine G_go rfl rfl ?_
      refine G_go rfl rfl ?_
      exact h
    · have h := h.2 c3
      refine G_go rfl rfl ?_
      refine G_go rfl rfl ?_
      refine G_go rfl rfl ?_
      refine G_go rfl rfl ?_
      refine G_go rfl rfl ?_
      refine G_go rfl rfl ?_
      show G 2 120 51 27 [(3, 3), (1, xor_ x1 (xshl 1 x2)), (1, x2)] [] (n, s) Q
      refine G_go rfl rfl ?_
      refine G_go rfl rfl ?_
      exact h
theorem sb_X5_howManyLit_0_3 (n : Nat) (s : Nat → Nat → Int) (Q : List Vl → Sto → Prop) (hR : refs s)
    (h : G 2 120 51 0 [(3, 3), (0, 0), (0, 0)] [] (n, s) (fun r s1 => G 2 120 52 4 [(3, 3)] (r ++ []) s1 Q)) :
    G 2 120 52 0 [(3, 3)] [] (n, s) Q := by
  refine G_go rfl rfl ?_
  exact G_call rfl rfl h
theorem sb_X5_howManyLit_4_3 (n : Nat) (s : Nat → Nat → Int) (Q : List Vl → Sto → Prop) (y0 : Int) (hR : refs s)
    (h : G 2 120 0 0 [(1, y0)] [] (n, s) (fun r s1 => G 2 120 52 7 [(3, 3)] (r ++ []) s1 Q)) :
    G 2 120 52 4 [(3, 3)] [(1, y0)] (n, s) Q := by
  exact G_call rfl rfl h
theorem sb_X5_howManyLit_7_3 (n : Nat) (s : Nat → Nat → Int) (Q : List Vl → Sto → Prop) (y0 : Int) (hR : refs s)
    (h : Q [(1, y0)] (n, s)) :
    G 2 120 52 7 [(3, 3)] [(1, y0)] (n, s) Q := by
  exact G_ret rfl rfl h
theorem sb_X5_howManyDark_0_3 (n : Nat) (s : Nat → Nat → Int) (Q : List Vl → Sto → Prop) (hR : refs s)
    (h : G 2 120 50 4 [(3, 3), (1, 0), (1, 0)] [] (n, s) Q) :
    G 2 120 50 0 [(3, 3), (0, 0), (0, 0)] [] (n, s) Q := by
  refine G_go rfl rfl ?_
  refine G_go rfl rfl ?_
  show G 2 120 50 2 [(3, 3), (1, 0), (0, 0)] [] (n, s) Q
  refine G_go rfl rfl ?_
  refine G_go rfl rfl ?_
  show G 2 120 50 4 [(3, 3), (1, 0), (1, 0)] [] (n, s) Q
  exact h
theorem sb_X5_howManyDark_4_3 (n : Nat) (s : Nat → Nat → Int) (Q : List Vl → Sto → Prop) (x1 : Int) (x2 : Int) (hR : refs s)
    (h : (s 3 9 ≤ x2 → Q [(1, x1)] (n, s)) ∧ (x2 < s 3 9 → (0 ≤ x2 ∧ x2 < 6) ∧ ((s 8 x2.toNat ≠ 0 → G 2 120 50 4 [(3, 3), (1, x1), (1, wr (x2 + 1))] [] (n, s) Q) ∧ (s 8 x2.toNat = 0 → G 2 120 50 4 [(3, 3), (1, wr (x1 + 1)), (1, wr (x2 + 1))] [] (n, s) Q)))) :
    G 2 120 50 4 [(3, 3), (1, x1), (1, x2)] [] (n, s) Q := by
  refine G_go rfl rfl ?_
  refine G_go rfl rfl ?_
  refine G_rd rfl rfl (by decide) ?_
  refine G_ge rfl rfl (fun c1 => ?_) (fun c1 => ?_)
  · have h := h.1 c1
    refine G_go rfl rfl ?_
    exact G_ret rfl rfl h
  · have h := h.2 c1
    refine G_go rfl rfl ?_
    refine G_rf rfl rfl (by decide) (hR 3 4 8 rfl) ?_
    refine G_go rfl rfl ?_
    obtain ⟨g2, h⟩ := h
    refine G_ir (n := 6) rfl rfl (by decide) (by decide) g2 ?_
    refine G_ne rfl rfl (fun c3 => ?_) (fun c3 => ?_)
    · have h := h.1 c3
      refine G_go rfl rfl ?_
      refine G_go rfl rfl ?_
      exact h
    · have h := h.2 c3
      refine G_go rfl rfl ?_
      refine G_go rfl rfl ?_
      refine G_go rfl rfl ?_
      exact h
theorem c_litOnes_3 (n : Nat) (s : Nat → Nat → Int) (Q : List Vl → Sto → Prop) (hR : refs s) (g : 0 ≤ s 3 9 ∧ s 3 9 ≤ 6) (hq : Q [(1, itr (lbF (s 9)) 0 (s 3 9).toNat)] (n, s)) : G 2 120 51 0 [(3, 3), (0, 0), (0, 0)] [] (n, s) Q := by
  refine sb_X5_litOnes_0_3 n s Q hR ?_
  refine G_up (s 3 9).toNat (fun k b => G 2 120 51 4 [(3, 3), (1, b), (1, (k : Int))] [] (n, s) Q) (lbF (s 9)) (fun _ _ => True) 0 trivial (fun _ _ _ _ => trivial) (fun k b hk _ hg => ?_) (fun _ => ?_)
  · rw [← wr_s hk (by omega)] at hg
    unfold lbF at hg
    refine sb_X5_litOnes_4_3 n s Q b k hR ⟨fun e => by omega, fun _ => ⟨by omega, fun e => ?_, fun e => ?_⟩⟩
    · rw [Int.toNat_natCast] at e
      rw [if_pos e] at hg
      exact hg
    · rw [Int.toNat_natCast] at e
      rw [if_neg e] at hg
      exact hg
  · exact sb_X5_litOnes_4_3 n s Q _ _ hR ⟨fun _ => hq, fun e => by omega⟩
theorem c_howManyLit_3 (n : Nat) (s : Nat → Nat → Int) (Q : List Vl → Sto → Prop) (hR : refs s) (g : 0 ≤ s 3 9 ∧ s 3 9 ≤ 6) (g2 : ∀ p : Nat, (p : Int) < s 3 9 → s 9 p = 0 ∨ s 9 p = 1) (hq : Q [(1, itr (smF (s 9)) 0 (s 3 9).toNat)] (n, s)) : G 2 120 52 0 [(3, 3)] [] (n, s) Q := by
  refine sb_X5_howManyLit_0_3 n s Q hR ?_
  refine c_litOnes_3 n s _ hR g ?_
  refine sb_X5_howManyLit_4_3 n s Q _ hR ?_
  refine c_bitCount n s _ _ hR ?_
  refine sb_X5_howManyLit_7_3 n s Q _ hR ?_
  rw [(bits_of (s 9) (s 3 9).toNat (by omega) (fun k hk => g2 k (by omega))).1]
  exact hq
theorem c_howManyDark_3 (n : Nat) (s : Nat → Nat → Int) (Q : List Vl → Sto → Prop) (hR : refs s) (g : 0 ≤ s 3 9 ∧ s 3 9 ≤ 6) (hq : Q [(1, itr (drF (s 8)) 0 (s 3 9).toNat)] (n, s)) : G 2 120 50 0 [(3, 3), (0, 0), (0, 0)] [] (n, s) Q := by
  refine sb_X5_howManyDark_0_3 n s Q hR ?_
  refine G_up (s 3 9).toNat (fun k b => G 2 120 50 4 [(3, 3), (1, b), (1, (k : Int))] [] (n, s) Q) (drF (s 8)) (fun _ _ => True) 0 trivial (fun _ _ _ _ => trivial) (fun k b hk _ hg => ?_) (fun _ => ?_)
  · rw [← wr_s hk (by omega)] at hg
    unfold drF at hg
    refine sb_X5_howManyDark_4_3 n s Q b k hR ⟨fun e => by omega, fun _ => ⟨by omega, fun e => ?_, fun e => ?_⟩⟩
    · rw [Int.toNat_natCast] at e
      rw [if_neg e] at hg
      exact hg
    · rw [Int.toNat_natCast] at e
      rw [if_pos e] at hg
      exact hg
  · exact sb_X5_howManyDark_4_3 n s Q _ _ hR ⟨fun _ => hq, fun e => by omega⟩
theorem sb_X5_litOnes_0_13 (n : Nat) (s : Nat → Nat → Int) (Q : List Vl → Sto → Prop) (hR : refs s)
    (h : G 2 120 51 4 [(3, 13), (1, 0), (1, 0)] [] (n, s) Q) :
    G 2 120 51 0 [(3, 13), (0, 0), (0, 0)] [] (n, s) Q := by
  refine G_go rfl rfl ?_
  refine G_go rfl rfl ?_
  show G 2 120 51 2 [(3, 13), (1, 0), (0, 0)] [] (n, s) Q
  refine G_go rfl rfl ?_
  refine G_go rfl rfl ?_
  show G 2 120 51 4 [(3, 13), (1, 0), (1, 0)] [] (n, s) Q
  exact h
theorem sb_X5_litOnes_4_13 (n : Nat) (s : Nat → Nat → Int) (Q : List Vl → Sto → Prop) (x1 : Int) (x2 : Int) (hR : refs s)
    (h : (s 13 9 ≤ x2 → Q [(1, x1)] (n, s)) ∧ (x2 < s 13 9 → (0 ≤ x2 ∧ x2 < 6) ∧ ((s 19 x2.toNat = 0 → G 2 120 51 4 [(3, 13), (1, x1), (1, wr (x2 + 1))] [] (n, s) Q) ∧ (s 19 x2.toNat ≠ 0 → G 2 120 51 4 [(3, 13), (1, xor_ x1 (xshl 1 x2)), (1, wr (x2 + 1))] [] (n, s) Q)))) :
    G 2 120 51 4 [(3, 13), (1, x1), (1, x2)] [] (n, s) Q := by
  refine G_go rfl rfl ?_
  refine G_go rfl rfl ?_
  refine G_rd rfl rfl (by decide) ?_
  refine G_ge rfl rfl (fun c1 => ?_) (fun c1 => ?_)
  · have h := h.1 c1
    refine G_go rfl rfl ?_
    exact G_ret rfl rfl h
  · have h := h.2 c1
    refine G_go rfl rfl ?_
    refine G_rf rfl rfl (by decide) (hR 13 5 19 rfl) ?_
    refine G_go rfl rfl ?_
    obtain ⟨g2, h⟩ := h
    refine G_zr (n := 6) rfl rfl (by decide) (by decide) g2 ?_
    refine G_eq rfl rfl (fun c3 => ?_) (fun c3 => ?_)
    · have h := h.1 c3
      refine G_go rfl rfl ?_
      refine G_go rfl rfl ?_
      exact h
    · have h := h.2 c3
      refine G_go rfl rfl ?_
      refine G_go rfl rfl ?_
      refine G_go rfl rfl ?_
      refine G_go rfl rfl ?_
      refine G_go rfl rfl ?_
      refine G_go rfl rfl ?_
      show G 2 120 51 27 [(3, 13), (1, xor_ x1 (xshl 1 x2)), (1, x2)] [] (n, s) Q
      refine G_go rfl rfl ?_
      refine G_go rfl rfl ?_
      exact h
theorem sb_X5_howManyLit_0_13 (n : Nat) (s : Nat → Nat → Int) (Q : List Vl → Sto → Prop) (hR : refs s)
    (h : G 2 120 51 0 [(3, 13), (0, 0), (0, 0)] [] (n, s) (fun r s1 => G 2 120 52 4 [(3, 13)] (r ++ []) s1 Q)) :
    G 2 120 52 0 [(3, 13)] [] (n, s) Q := by
  refine G_go rfl rfl ?_
  exact G_call rfl rfl h
theorem sb_X5_howManyLit_4_13 (n : Nat) (s : Nat → Nat → Int) (Q : List Vl → Sto → Prop) (y0 : Int) (hR : refs s)
    (h : G 2 120 0 0 [(1, y0)] [] (n, s) (fun r s1 => G 2 120 52 7 [(3, 13)] (r ++ []) s1 Q)) :
    G 2 120 52 4 [(3, 13)] [(1, y0)] (n, s) Q := by
  exact G_call rfl rfl h
theorem sb_X5_howManyLit_7_13 (n : Nat) (s : Nat → Nat → Int) (Q : List Vl → Sto → Prop) (y0 : Int) (hR : refs s)
    (h : Q [(1, y0)] (n, s)) :
    G 2 120 52 7 [(3, 13)] [(1, y0)] (n, s) Q := by
  exact G_ret rfl rfl h
theorem sb_X5_howManyDark_0_13 (n : Nat) (s : Nat → Nat → Int) (Q : List Vl → Sto → Prop) (hR : refs s)
    (h : G 2 120 50 4 [(3, 13), (1, 0), (1, 0)] [] (n, s) Q) :
    G 2 120 50 0 [(3, 13), (0, 0), (0, 0)] [] (n, s) Q := by
  refine G_go rfl rfl ?_
  refine G_go rfl rfl ?_
  show G 2 120 50 2 [(3, 13), (1, 0), (0, 0)] [] (n, s) Q
  refine G_go rfl rfl ?_
  refine G_go rfl rfl ?_
  show G 2 120 50 4 [(3, 13), (1, 0), (1, 0)] [] (n, s) Q
  exact h
theorem sb_X5_howManyDark_4_13 (n : Nat) (s : Nat → Nat → Int) (Q : List Vl → Sto → Prop) (x1 : Int) (x2 : Int) (hR : refs s)
    (h : (s 13 9 ≤ x2 → Q [(1, x1)] (n, s)) ∧ (x2 < s 13 9 → (0 ≤ x2 ∧ x2 < 6) ∧ ((s 18 x2.toNat ≠ 0 → G 2 120 50 4 [(3, 13), (1, x1), (1, wr (x2 + 1))] [] (n, s) Q) ∧ (s 18 x2.toNat = 0 → G 2 120 50 4 [(3, 13), (1, wr (x1 + 1)), (1, wr (x2 + 1))] [] (n, s) Q)))) :
    G 2 120 50 4 [(3, 13), (1, x1), (1, x2)] [] (n, s) Q := by
  refine G_go rfl rfl ?_
  refine G_go rfl rfl ?_
  refine G_rd rfl rfl (by decide) ?_
  refine G_ge rfl rfl (fun c1 => ?_) (fun c1 => ?_)
  · have h := h.1 c1
    refine G_go rfl rfl ?_
    exact G_ret rfl rfl h
  · have h := h.2 c1
    refine G_go rfl rfl ?_
    refine G_rf rfl rfl (by decide) (hR 13 4 18 rfl) ?_
    refine G_go rfl rfl ?_
    obtain ⟨g2, h⟩ := h
    refine G_ir (n := 6) rfl rfl (by decide) (by decide) g2 ?_
    refine G_ne rfl rfl (fun c3 => ?_) (fun c3 => ?_)
    · have h := h.1 c3
      refine G_go rfl rfl ?_
      refine G_go rfl rfl ?_
      exact h
    · have h := h.2 c3
      refine G_go rfl rfl ?_
      refine G_go rfl rfl ?_
      refine G_go rfl rfl ?_
      exact h
theorem c_litOnes_13 (n : Nat) (s : Nat → Nat → Int) (Q : List Vl → Sto → Prop) (hR : refs s) (g : 0 ≤ s 13 9 ∧ s 13 9 ≤ 6) (hq : Q [(1, itr (lbF (s 19)) 0 (s 13 9).toNat)] (n, s)) : G 2 120 51 0 [(3, 13), (0, 0), (0, 0)] [] (n, s) Q := by
  refine sb_X5_litOnes_0_13 n s Q hR ?_
  refine G_up (s 13 9).toNat (fun k b => G 2 120 51 4 [(3, 13), (1, b), (1, (k : Int))] [] (n, s) Q) (lbF (s 19)) (fun _ _ => True) 0 trivial (fun _ _ _ _ => trivial) (fun k b hk _ hg => ?_) (fun _ => ?_)
  · rw [← wr_s hk (by omega)] at hg
    unfold lbF at hg
    refine sb_X5_litOnes_4_13 n s Q b k hR ⟨fun e => by omega, fun _ => ⟨by omega, fun e => ?_, fun e => ?_⟩⟩
    · rw [Int.toNat_natCast] at e
      rw [if_pos e] at hg
      exact hg
    · rw [Int.toNat_natCast] at e
      rw [if_neg e] at hg
      exact hg
  · exact sb_X5_litOnes_4_13 n s Q _ _ hR ⟨fun _ => hq, fun e => by omega⟩
theorem c_howManyLit_13 (n : Nat) (s : Nat → Nat → Int) (Q : List Vl → Sto → Prop) (hR : refs s) (g : 0 ≤ s 13 9 ∧ s 13 9 ≤ 6) (g2 : ∀ p : Nat, (p : Int) < s 13 9 → s 19 p = 0 ∨ s 19 p = 1) (hq : Q [(1, itr (smF (s 19)) 0 (s 13 9).toNat)] (n, s)) : G 2 120 52 0 [(3, 13)] [] (n, s) Q := by
  refine sb_X5_howManyLit_0_13 n s Q hR ?_
  refine c_litOnes_13 n s _ hR g ?_
  refine sb_X5_howManyLit_4_13 n s Q _ hR ?_
  refine c_bitCount n s _ _ hR ?_
  refine sb_X5_howManyLit_7_13 n s Q _ hR ?_
  rw [(bits_of (s 19) (s 13 9).toNat (by omega) (fun k hk => g2 k (by omega))).1]
  exact hq
theorem c_howManyDark_13 (n : Nat) (s : Nat → Nat → Int) (Q : List Vl → Sto → Prop) (hR : refs s) (g : 0 ≤ s 13 9 ∧ s 13 9 ≤ 6) (hq : Q [(1, itr (drF (s 18)) 0 (s 13 9).toNat)] (n, s)) : G 2 120 50 0 [(3, 13), (0, 0), (0, 0)] [] (n, s) Q := by
  refine sb_X5_howManyDark_0_13 n s Q hR ?_
  refine G_up (s 13 9).toNat (fun k b => G 2 120 50 4 [(3, 13), (1, b), (1, (k : Int))] [] (n, s) Q) (drF (s 18)) (fun _ _ => True) 0 trivial (fun _ _ _ _ => trivial) (fun k b hk _ hg => ?_) (fun _ => ?_)
  · rw [← wr_s hk (by omega)] at hg
    unfold drF at hg
    refine sb_X5_howManyDark_4_13 n s Q b k hR ⟨fun e => by omega, fun _ => ⟨by omega, fun e => ?_, fun e => ?_⟩⟩
    · rw [Int.toNat_natCast] at e
      rw [if_neg e] at hg
      exact hg
    · rw [Int.toNat_natCast] at e
      rw [if_pos e] at hg
      exact hg
  · exact sb_X5_howManyDark_4_13 n s Q _ _ hR ⟨fun _ => hq, fun e => by omega⟩
theorem sb_X7_litMany_0 (n : Nat) (s : Nat → Nat → Int) (Q : List Vl → Sto → Prop) (hR : refs s)
    (h : G 120 140 148 4 [(3, 120), (1, 0), (1, 0)] [] (n, s) Q) :
    G 120 140 148 0 [(3, 120), (0, 0), (0, 0)] [] (n, s) Q := by
  refine G_go rfl rfl ?_
  refine G_go rfl rfl ?_
  show G 120 140 148 2 [(3, 120), (1, 0), (0, 0)] [] (n, s) Q
  refine G_go rfl rfl ?_
  refine G_go rfl rfl ?_
  show G 120 140 148 4 [(3, 120), (1, 0), (1, 0)] [] (n, s) Q
  exact h
theorem sb_X7_litMany_4 (n : Nat) (s : Nat → Nat → Int) (Q : List Vl → Sto → Prop) (x1 : Int) (x2 : Int) (hR : refs s)
    (h : (s 120 0 ≤ x2 → Q [(1, x1)] (n, s)) ∧ (x2 < s 120 0 → (0 ≤ x2 ∧ x2 < 6) ∧ (G 120 140 148 4 [(3, 120), (1, wr (x1 + (s 126 x2.toNat))), (1, wr (x2 + 1))] [] (n, s) Q))) :
    G 120 140 148 4 [(3, 120), (1, x1), (1, x2)] [] (n, s) Q := by
  refine G_go rfl rfl ?_
  refine G_go rfl rfl ?_
  refine G_rd rfl rfl (by decide) ?_
  refine G_ge rfl rfl (fun c1 => ?_) (fun c1 => ?_)
  · have h := h.1 c1
    refine G_go rfl rfl ?_
    exact G_ret rfl rfl h
  · have h := h.2 c1
    refine G_go rfl rfl ?_
    refine G_go rfl rfl ?_
    refine G_rf rfl rfl (by decide) (hR 120 6 126 rfl) ?_
    refine G_go rfl rfl ?_
    obtain ⟨g2, h⟩ := h
    refine G_ir (n := 6) rfl rfl (by decide) (by decide) g2 ?_
    refine G_go rfl rfl ?_
    refine G_go rfl rfl ?_
    show G 120 140 148 21 [(3, 120), (1, wr (x1 + (s 126 x2.toNat))), (1, x2)] [] (n, s) Q
    refine G_go rfl rfl ?_
    refine G_go rfl rfl ?_
    exact h
theorem sb_X7_litBits_0 (n : Nat) (s : Nat → Nat → Int) (Q : List Vl → Sto → Prop) (hR : refs s)
    (h : G 120 140 170 4 [(3, 120), (1, 0), (1, 0)] [] (n, s) Q) :
    G 120 140 170 0 [(3, 120), (0, 0), (0, 0)] [] (n, s) Q := by
  refine G_go rfl rfl ?_
  refine G_go rfl rfl ?_
  show G 120 140 170 2 [(3, 120), (1, 0), (0, 0)] [] (n, s) Q
  refine G_go rfl rfl ?_
  refine G_go rfl rfl ?_
  show G 120 140 170 4 [(3, 120), (1, 0), (1, 0)] [] (n, s) Q
  exact h
theorem sb_X7_litBits_4 (n : Nat) (s : Nat → Nat → Int) (Q : List Vl → Sto → Prop) (x1 : Int) (x2 : Int) (hR : refs s)
    (h : (s 120 0 ≤ x2 → Q [(1, x1)] (n, s)) ∧ (x2 < s 120 0 → (0 ≤ x2 ∧ x2 < 6) ∧ (G 120 140 170 4 [(3, 120), (1, xor_ x1 (xshl (s 126 x2.toNat) x2)), (1, wr (x2 + 1))] [] (n, s) Q))) :
    G 120 140 170 4 [(3, 120), (1, x1), (1, x2)] [] (n, s) Q := by
  refine G_go rfl rfl ?_
  refine G_go rfl rfl ?_
  refine G_rd rfl rfl (by decide) ?_
  refine G_ge rfl rfl (fun c1 => ?_) (fun c1 => ?_)
  · have h := h.1 c1
    refine G_go rfl rfl ?_
    exact G_ret rfl rfl h
  · have h := h.2 c1
    refine G_go rfl rfl ?_
    refine G_go rfl rfl ?_
    refine G_rf rfl rfl (by decide) (hR 120 6 126 rfl) ?_
    refine G_go rfl rfl ?_
    obtain ⟨g2, h⟩ := h
    refine G_ir (n := 6) rfl rfl (by decide) (by decide) g2 ?_
    refine G_go rfl rfl ?_
    refine G_go rfl rfl ?_
    refine G_go rfl rfl ?_
    refine G_go rfl rfl ?_
    show G 120 140 170 23 [(3, 120), (1, xor_ x1 (xshl (s 126 x2.toNat) x2)), (1, x2)] [] (n, s) Q
    refine G_go rfl rfl ?_
    refine G_go rfl rfl ?_
    exact h
theorem c_litMany (n : Nat) (s : Nat → Nat → Int) (Q : List Vl → Sto → Prop) (hR : refs s) (g : 0 ≤ s 120 0 ∧ s 120 0 ≤ 6) (hq : Q [(1, itr (smF (s 126)) 0 (s 120 0).toNat)] (n, s)) : G 120 140 148 0 [(3, 120), (0, 0), (0, 0)] [] (n, s) Q := by
  refine sb_X7_litMany_0 n s Q hR ?_
  refine G_up (s 120 0).toNat (fun k b => G 120 140 148 4 [(3, 120), (1, b), (1, (k : Int))] [] (n, s) Q) (smF (s 126)) (fun _ _ => True) 0 trivial (fun _ _ _ _ => trivial) (fun k b hk _ hg => ?_) (fun _ => ?_)
  · rw [← wr_s hk (by omega)] at hg
    refine sb_X7_litMany_4 n s Q b k hR ⟨fun e => by omega, fun _ => ⟨by omega, ?_⟩⟩
    exact hg
  · exact sb_X7_litMany_4 n s Q _ _ hR ⟨fun _ => hq, fun e => by omega⟩
theorem c_litBits (n : Nat) (s : Nat → Nat → Int) (Q : List Vl → Sto → Prop) (hR : refs s) (g : 0 ≤ s 120 0 ∧ s 120 0 ≤ 6) (hq : Q [(1, itr (lcF (s 126)) 0 (s 120 0).toNat)] (n, s)) : G 120 140 170 0 [(3, 120), (0, 0), (0, 0)] [] (n, s) Q := by
  refine sb_X7_litBits_0 n s Q hR ?_
  refine G_up (s 120 0).toNat (fun k b => G 120 140 170 4 [(3, 120), (1, b), (1, (k : Int))] [] (n, s) Q) (lcF (s 126)) (fun _ _ => True) 0 trivial (fun _ _ _ _ => trivial) (fun k b hk _ hg => ?_) (fun _ => ?_)
  · rw [← wr_s hk (by omega)] at hg
    refine sb_X7_litBits_4 n s Q b k hR ⟨fun e => by omega, fun _ => ⟨by omega, ?_⟩⟩
    exact hg
  · exact sb_X7_litBits_4 n s Q _ _ hR ⟨fun _ => hq, fun e => by omega⟩

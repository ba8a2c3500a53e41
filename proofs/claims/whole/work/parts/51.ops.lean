/-! THE REFERENCE READS A STATEMENT. -/
theorem c_rn (n : Nat) (t : Nat → Nat → Int) (Q : List Vl → Sto → Prop) (hR : refs t) (c : Nat → Int) (L : Nat) (hc : ∀ k, k < L → t 131 k = c k) (hL : t 120 14 = (L : Int)) (hL2 : L ≤ 96) (x : Int × Nat) (hb : t 120 16 = x.1) (hq : t 120 15 = (x.2 : Int)) (hx : x.2 ≤ L) (i : Nat) (hi : i ≤ 144) (l : Int) (hl : 1 ≤ dgO l)
    (K : ∀ t1, refs t1 → frN i t t1 → t1 120 16 = (rdI c L (dgO l).toNat x).1 → t1 120 15 = ((rdI c L (dgO l).toNat x).2 : Int) → ((rdI c L (dgO l).toNat x).1 = 0 → tdN c l x.2 i t1) → Q [] (n, t1)) : G 120 140 205 0 [(3, 120), (1, l), (1, (i : Int))] [] (n, t) Q := by
  rcases dg_lt hl with rfl | rfl | rfl | rfl | rfl | rfl
  · rw [show (dgO 112).toNat = 4 from rfl] at K
    exact c_rn_p n t Q hR c L hc hL hL2 x hb hq hx i hi K
  · rw [show (dgO 104).toNat = 3 from rfl] at K
    exact c_rn_h n t Q hR c L hc hL hL2 x hb hq hx i hi K
  · rw [show (dgO 99).toNat = 3 from rfl] at K
    exact c_rn_c n t Q hR c L hc hL hL2 x hb hq hx i hi K
  · rw [show (dgO 116).toNat = 2 from rfl] at K
    exact c_rn_t n t Q hR c L hc hL hL2 x hb hq hx i hi K
  · rw [show (dgO 108).toNat = 1 from rfl] at K
    exact c_rn_l n t Q hR c L hc hL hL2 x hb hq hx i hi K
  · rw [show (dgO 110).toNat = 2 from rfl] at K
    exact c_rn_n n t Q hR c L hc hL hL2 x hb hq hx i hi K
theorem y_wf {c : Nat → Int} {L p : Nat} (w : wfS c L p) : rdI c L (dgN c p) (0, p + 1) = (0, p + 1 + dgN c p) := rdI_good _ w.2.1
theorem y_bad {c : Nat → Int} {L p e : Nat} (hp : p < L) (d : 1 ≤ dgO (c p)) (b : badS c L p e) : rdI c L (dgN c p) (0, p + 1) = (1, e) ∨ (rdI c L (dgN c p) (0, p + 1) = (0, e) ∧ ¬ (e < L ∧ c e = 59)) := by
  rcases b with ⟨rfl, b⟩ | ⟨_, _, b⟩
  · exact absurd b (by omega)
  · rcases b with ⟨j, hj, rfl, hg, hb⟩ | ⟨rfl, hg, hb⟩
    · exact Or.inl (rdI_bad hg hb _ hj)
    · exact Or.inr ⟨rdI_good _ hg, hb⟩
def frS (k : Nat) (t t1 : Nat → Nat → Int) : Prop := (∀ a, a ≠ 120 → a ≠ 132 → a ≠ 133 → a ≠ 134 → t1 a = t a) ∧ (∀ j, j ≠ 15 → j ≠ 16 → j ≠ 17 → t1 120 j = t 120 j) ∧ (∀ j, j < k → t1 132 j = t 132 j ∧ t1 133 j = t 133 j) ∧ ∀ j, j < 3 * k → t1 134 j = t 134 j
/-- what has been told of the k-th statement, at p -/
def tdS (c : Nat → Int) (k p : Nat) (t : Nat → Nat → Int) : Prop := t 132 k = (p : Int) ∧ t 133 k = c p ∧ tdN c (c p) (p + 1) (3 * k) t

theorem sb_X7_readStatement_0 (n : Nat) (s : Nat → Nat → Int) (Q : List Vl → Sto → Prop) (hR : refs s)
    (h : (s 120 14 ≤ s 120 15 → (0 ≤ s 120 17 ∧ s 120 17 < 49) ∧ ((s 120 16 ≠ 0 → Q [] (n, upS (upS (upS (upS (upS (upS (upS s 132 ((s 120 17).toNat) (s 120 15)) 133 ((s 120 17).toNat) (-1)) 120 16 1) 120 15 (wr ((s 120 15) + 0))) 120 16 1) 120 15 (wr ((wr ((s 120 15) + 0)) + 0))) 120 17 (wr ((s 120 17) + 1)))) ∧ (s 120 16 = 0 → Q [] (n, upS (upS (upS (upS (upS (upS (upS s 132 ((s 120 17).toNat) (s 120 15)) 133 ((s 120 17).toNat) (-1)) 120 16 1) 120 15 (wr ((s 120 15) + 0))) 120 16 1) 120 15 (wr ((wr ((s 120 15) + 0)) + 0))) 120 17 (wr ((s 120 17) + 1)))))) ∧ (s 120 15 < s 120 14 → (0 ≤ s 120 15 ∧ s 120 15 < 96) ∧ ((0 ≤ s 120 17 ∧ s 120 17 < 49) ∧ ((s 120 16 ≠ 0 → Q [] (n, upS (upS (upS (upS (upS (upS (upS s 132 ((s 120 17).toNat) (s 120 15)) 133 ((s 120 17).toNat) (s 131 ((s 120 15).toNat))) 120 16 1) 120 15 (wr ((s 120 15) + 0))) 120 16 1) 120 15 (wr ((wr ((s 120 15) + 0)) + 0))) 120 17 (wr ((s 120 17) + 1)))) ∧ (s 120 16 = 0 → (s 131 ((s 120 15).toNat) = 112 → G 120 140 205 0 [(3, 120), (1, s 131 ((s 120 15).toNat)), (1, wr (3 * (s 120 17)))] [] (n, upS (upS (upS (upS s 132 ((s 120 17).toNat) (s 120 15)) 133 ((s 120 17).toNat) (s 131 ((s 120 15).toNat))) 120 16 0) 120 15 (wr ((s 120 15) + 1))) (fun r s1 => G 120 140 206 86 [(3, 120), (1, s 120 17), (1, s 131 ((s 120 15).toNat))] (r ++ []) s1 Q)) ∧ (s 131 ((s 120 15).toNat) ≠ 112 → (s 131 ((s 120 15).toNat) = 104 → G 120 140 205 0 [(3, 120), (1, s 131 ((s 120 15).toNat)), (1, wr (3 * (s 120 17)))] [] (n, upS (upS (upS (upS s 132 ((s 120 17).toNat) (s 120 15)) 133 ((s 120 17).toNat) (s 131 ((s 120 15).toNat))) 120 16 0) 120 15 (wr ((s 120 15) + 1))) (fun r s1 => G 120 140 206 86 [(3, 120), (1, s 120 17), (1, s 131 ((s 120 15).toNat))] (r ++ []) s1 Q)) ∧ (s 131 ((s 120 15).toNat) ≠ 104 → (s 131 ((s 120 15).toNat) = 99 → G 120 140 205 0 [(3, 120), (1, s 131 ((s 120 15).toNat)), (1, wr (3 * (s 120 17)))] [] (n, upS (upS (upS (upS s 132 ((s 120 17).toNat) (s 120 15)) 133 ((s 120 17).toNat) (s 131 ((s 120 15).toNat))) 120 16 0) 120 15 (wr ((s 120 15) + 1))) (fun r s1 => G 120 140 206 86 [(3, 120), (1, s 120 17), (1, s 131 ((s 120 15).toNat))] (r ++ []) s1 Q)) ∧ (s 131 ((s 120 15).toNat) ≠ 99 → (s 131 ((s 120 15).toNat) = 116 → G 120 140 205 0 [(3, 120), (1, s 131 ((s 120 15).toNat)), (1, wr (3 * (s 120 17)))] [] (n, upS (upS (upS (upS s 132 ((s 120 17).toNat) (s 120 15)) 133 ((s 120 17).toNat) (s 131 ((s 120 15).toNat))) 120 16 0) 120 15 (wr ((s 120 15) + 1))) (fun r s1 => G 120 140 206 86 [(3, 120), (1, s 120 17), (1, s 131 ((s 120 15).toNat))] (r ++ []) s1 Q)) ∧ (s 131 ((s 120 15).toNat) ≠ 116 → (s 131 ((s 120 15).toNat) = 108 → G 120 140 205 0 [(3, 120), (1, s 131 ((s 120 15).toNat)), (1, wr (3 * (s 120 17)))] [] (n, upS (upS (upS (upS s 132 ((s 120 17).toNat) (s 120 15)) 133 ((s 120 17).toNat) (s 131 ((s 120 15).toNat))) 120 16 0) 120 15 (wr ((s 120 15) + 1))) (fun r s1 => G 120 140 206 86 [(3, 120), (1, s 120 17), (1, s 131 ((s 120 15).toNat))] (r ++ []) s1 Q)) ∧ (s 131 ((s 120 15).toNat) ≠ 108 → (s 131 ((s 120 15).toNat) ≠ 110 → Q [] (n, upS (upS (upS (upS (upS (upS (upS s 132 ((s 120 17).toNat) (s 120 15)) 133 ((s 120 17).toNat) (s 131 ((s 120 15).toNat))) 120 16 1) 120 15 (wr ((s 120 15) + 0))) 120 16 1) 120 15 (wr ((wr ((s 120 15) + 0)) + 0))) 120 17 (wr ((s 120 17) + 1)))) ∧ (s 131 ((s 120 15).toNat) = 110 → G 120 140 205 0 [(3, 120), (1, s 131 ((s 120 15).toNat)), (1, wr (3 * (s 120 17)))] [] (n, upS (upS (upS (upS s 132 ((s 120 17).toNat) (s 120 15)) 133 ((s 120 17).toNat) (s 131 ((s 120 15).toNat))) 120 16 0) 120 15 (wr ((s 120 15) + 1))) (fun r s1 => G 120 140 206 86 [(3, 120), (1, s 120 17), (1, s 131 ((s 120 15).toNat))] (r ++ []) s1 Q)))))))))))) :
    G 120 140 206 0 [(3, 120), (0, 0), (0, 0)] [] (n, s) Q := by
  refine G_go rfl rfl ?_
  refine G_rd rfl rfl (by decide) ?_
  refine G_go rfl rfl ?_
  show G 120 140 206 5 [(3, 120), (1, s 120 17), (0, 0)] [] (n, s) Q
  refine G_go rfl rfl ?_
  refine G_call rfl rfl ?_
  refine G_go rfl rfl ?_
  refine G_rd rfl rfl (by decide) ?_
  refine G_go rfl rfl ?_
  refine G_rd rfl rfl (by decide) ?_
  refine G_ge rfl rfl (fun c1 => ?_) (fun c1 => ?_)
  · have h := h.1 c1
    refine G_go rfl rfl ?_
    refine G_ret rfl rfl ?_
    refine G_go rfl rfl ?_
    show G 120 140 206 10 [(3, 120), (1, s 120 17), (1, (-1))] [] (n, s) Q
    refine G_go rfl rfl ?_
    refine G_rf rfl rfl (by decide) (hR 120 18 132 rfl) ?_
    refine G_go rfl rfl ?_
    refine G_go rfl rfl ?_
    refine G_rd rfl rfl (by decide) ?_
    obtain ⟨g2, h⟩ := h
    refine G_iw (n := 49) rfl rfl (by decide) (by decide) g2 ?_
    have hR := refs_up (a := 132) (k := (s 120 17).toNat) (x := s 120 15) hR rfl
    refine G_go rfl rfl ?_
    refine G_rf rfl rfl (by decide) (hR 120 19 133 rfl) ?_
    refine G_go rfl rfl ?_
    refine G_go rfl rfl ?_
    refine G_iw (n := 49) rfl rfl (by decide) (by decide) g2 ?_
    have hR := refs_up (a := 133) (k := (s 120 17).toNat) (x := (-1)) hR rfl
    refine G_go rfl rfl ?_
    refine G_go rfl rfl ?_
    refine G_rd rfl rfl (by decide) ?_
    refine G_ne rfl rfl (fun c3 => ?_) (fun c3 => ?_)
    · have h := h.1 c3
      refine G_go rfl rfl ?_
      refine G_go rfl rfl ?_
      refine G_wr rfl rfl (by decide) ?_
      have hR := refs_up (a := 120) (k := 16) (x := 1) hR rfl
      refine G_go rfl rfl ?_
      refine G_go rfl rfl ?_
      refine G_rd rfl rfl (by decide) ?_
      refine G_go rfl rfl ?_
      refine G_rdv (v := 1) rfl rfl (by decide) (by simp [upS]) ?_
      refine G_brF rfl rfl rfl ?_
      refine G_go rfl rfl ?_
      refine G_go rfl rfl ?_
      refine G_go rfl rfl ?_
      refine G_wr rfl rfl (by decide) ?_
      have hR := refs_up (a := 120) (k := 15) (x := wr ((s 120 15) + 0)) hR rfl
      refine G_go rfl rfl ?_
      refine G_rdv (v := 1) rfl rfl (by decide) (by simp [upS]) ?_
      refine G_brT rfl rfl rfl ?_
      refine G_go rfl rfl ?_
      refine G_go rfl rfl ?_
      refine G_rdv (v := 1) rfl rfl (by decide) (by simp [upS]) ?_
      refine G_brT rfl rfl rfl ?_
      refine G_go rfl rfl ?_
      refine G_go rfl rfl ?_
      refine G_wr rfl rfl (by decide) ?_
      have hR := refs_up (a := 120) (k := 16) (x := 1) hR rfl
      refine G_go rfl rfl ?_
      refine G_go rfl rfl ?_
      refine G_rdv (v := wr ((s 120 15) + 0)) rfl rfl (by decide) (by simp [upS]) ?_
      refine G_go rfl rfl ?_
      refine G_rdv (v := 1) rfl rfl (by decide) (by simp [upS]) ?_
      refine G_brF rfl rfl rfl ?_
      refine G_go rfl rfl ?_
      refine G_go rfl rfl ?_
      refine G_go rfl rfl ?_
      refine G_wr rfl rfl (by decide) ?_
      have hR := refs_up (a := 120) (k := 15) (x := wr ((wr ((s 120 15) + 0)) + 0)) hR rfl
      refine G_go rfl rfl ?_
      refine G_go rfl rfl ?_
      refine G_rd rfl rfl (by decide) ?_
      refine G_go rfl rfl ?_
      refine G_go rfl rfl ?_
      refine G_wr rfl rfl (by decide) ?_
      have hR := refs_up (a := 120) (k := 17) (x := wr ((s 120 17) + 1)) hR rfl
      exact G_ret rfl rfl h
    · have h := h.2 c3
      refine G_go rfl rfl ?_
      refine G_call rfl rfl ?_
      refine G_go rfl rfl ?_
      refine G_go rfl rfl ?_
      refine G_brF rfl rfl rfl ?_
      refine G_go rfl rfl ?_
      refine G_go rfl rfl ?_
      refine G_brF rfl rfl rfl ?_
      refine G_go rfl rfl ?_
      refine G_go rfl rfl ?_
      refine G_brF rfl rfl rfl ?_
      refine G_go rfl rfl ?_
      refine G_go rfl rfl ?_
      refine G_brF rfl rfl rfl ?_
      refine G_go rfl rfl ?_
      refine G_go rfl rfl ?_
      refine G_brF rfl rfl rfl ?_
      refine G_go rfl rfl ?_
      refine G_go rfl rfl ?_
      refine G_brT rfl rfl rfl ?_
      refine G_go rfl rfl ?_
      refine G_ret rfl rfl ?_
      refine G_brF rfl rfl rfl ?_
      refine G_go rfl rfl ?_
      refine G_go rfl rfl ?_
      refine G_wr rfl rfl (by decide) ?_
      have hR := refs_up (a := 120) (k := 16) (x := 1) hR rfl
      refine G_go rfl rfl ?_
      refine G_go rfl rfl ?_
      refine G_rd rfl rfl (by decide) ?_
      refine G_go rfl rfl ?_
      refine G_rdv (v := 1) rfl rfl (by decide) (by simp [upS]) ?_
      refine G_brF rfl rfl rfl ?_
      refine G_go rfl rfl ?_
      refine G_go rfl rfl ?_
      refine G_go rfl rfl ?_
      refine G_wr rfl rfl (by decide) ?_
      have hR := refs_up (a := 120) (k := 15) (x := wr ((s 120 15) + 0)) hR rfl
      refine G_go rfl rfl ?_
      refine G_rdv (v := 1) rfl rfl (by decide) (by simp [upS]) ?_
      refine G_brT rfl rfl rfl ?_
      refine G_go rfl rfl ?_
      refine G_go rfl rfl ?_
      refine G_rdv (v := 1) rfl rfl (by decide) (by simp [upS]) ?_
      refine G_brT rfl rfl rfl ?_
      refine G_go rfl rfl ?_
      refine G_go rfl rfl ?_
      refine G_wr rfl rfl (by decide) ?_
      have hR := refs_up (a := 120) (k := 16) (x := 1) hR rfl
      refine G_go rfl rfl ?_
      refine G_go rfl rfl ?_
      refine G_rdv (v := wr ((s 120 15) + 0)) rfl rfl (by decide) (by simp [upS]) ?_
      refine G_go rfl rfl ?_
      refine G_rdv (v := 1) rfl rfl (by decide) (by simp [upS]) ?_
      refine G_brF rfl rfl rfl ?_
      refine G_go rfl rfl ?_
      refine G_go rfl rfl ?_
      refine G_go rfl rfl ?_
      refine G_wr rfl rfl (by decide) ?_
      have hR := refs_up (a := 120) (k := 15) (x := wr ((wr ((s 120 15) + 0)) + 0)) hR rfl
      refine G_go rfl rfl ?_
      refine G_go rfl rfl ?_
      refine G_rd rfl rfl (by decide) ?_
      refine G_go rfl rfl ?_
      refine G_go rfl rfl ?_
      refine G_wr rfl rfl (by decide) ?_
      have hR := refs_up (a := 120) (k := 17) (x := wr ((s 120 17) + 1)) hR rfl
      exact G_ret rfl rfl h
  · have h := h.2 c1
    refine G_go rfl rfl ?_
    refine G_rf rfl rfl (by decide) (hR 120 13 131 rfl) ?_
    refine G_go rfl rfl ?_
    refine G_rd rfl rfl (by decide) ?_
    obtain ⟨g4, h⟩ := h
    refine G_ir (n := 96) rfl rfl (by decide) (by decide) g4 ?_
    refine G_go rfl rfl ?_
    refine G_ret rfl rfl ?_
    refine G_go rfl rfl ?_
    show G 120 140 206 10 [(3, 120), (1, s 120 17), (1, s 131 ((s 120 15).toNat))] [] (n, s) Q
    refine G_go rfl rfl ?_
    refine G_rf rfl rfl (by decide) (hR 120 18 132 rfl) ?_
    refine G_go rfl rfl ?_
    refine G_go rfl rfl ?_
    refine G_rd rfl rfl (by decide) ?_
    obtain ⟨g5, h⟩ := h
    refine G_iw (n := 49) rfl rfl (by decide) (by decide) g5 ?_
    have hR := refs_up (a := 132) (k := (s 120 17).toNat) (x := s 120 15) hR rfl
    refine G_go rfl rfl ?_
    refine G_rf rfl rfl (by decide) (hR 120 19 133 rfl) ?_
    refine G_go rfl rfl ?_
    refine G_go rfl rfl ?_
    refine G_iw (n := 49) rfl rfl (by decide) (by decide) g5 ?_
    have hR := refs_up (a := 133) (k := (s 120 17).toNat) (x := s 131 ((s 120 15).toNat)) hR rfl
    refine G_go rfl rfl ?_
    refine G_go rfl rfl ?_
    refine G_rd rfl rfl (by decide) ?_
    refine G_ne rfl rfl (fun c6 => ?_) (fun c6 => ?_)
    · have h := h.1 c6
      refine G_go rfl rfl ?_
      refine G_go rfl rfl ?_
      refine G_wr rfl rfl (by decide) ?_
      have hR := refs_up (a := 120) (k := 16) (x := 1) hR rfl
      refine G_go rfl rfl ?_
      refine G_go rfl rfl ?_
      refine G_rd rfl rfl (by decide) ?_
      refine G_go rfl rfl ?_
      refine G_rdv (v := 1) rfl rfl (by decide) (by simp [upS]) ?_
      refine G_brF rfl rfl rfl ?_
      refine G_go rfl rfl ?_
      refine G_go rfl rfl ?_
      refine G_go rfl rfl ?_
      refine G_wr rfl rfl (by decide) ?_
      have hR := refs_up (a := 120) (k := 15) (x := wr ((s 120 15) + 0)) hR rfl
      refine G_go rfl rfl ?_
      refine G_rdv (v := 1) rfl rfl (by decide) (by simp [upS]) ?_
      refine G_brT rfl rfl rfl ?_
      refine G_go rfl rfl ?_
      refine G_go rfl rfl ?_
      refine G_rdv (v := 1) rfl rfl (by decide) (by simp [upS]) ?_
      refine G_brT rfl rfl rfl ?_
      refine G_go rfl rfl ?_
      refine G_go rfl rfl ?_
      refine G_wr rfl rfl (by decide) ?_
      have hR := refs_up (a := 120) (k := 16) (x := 1) hR rfl
      refine G_go rfl rfl ?_
      refine G_go rfl rfl ?_
      refine G_rdv (v := wr ((s 120 15) + 0)) rfl rfl (by decide) (by simp [upS]) ?_
      refine G_go rfl rfl ?_
      refine G_rdv (v := 1) rfl rfl (by decide) (by simp [upS]) ?_
      refine G_brF rfl rfl rfl ?_
      refine G_go rfl rfl ?_
      refine G_go rfl rfl ?_
      refine G_go rfl rfl ?_
      refine G_wr rfl rfl (by decide) ?_
      have hR := refs_up (a := 120) (k := 15) (x := wr ((wr ((s 120 15) + 0)) + 0)) hR rfl
      refine G_go rfl rfl ?_
      refine G_go rfl rfl ?_
      refine G_rd rfl rfl (by decide) ?_
      refine G_go rfl rfl ?_
      refine G_go rfl rfl ?_
      refine G_wr rfl rfl (by decide) ?_
      have hR := refs_up (a := 120) (k := 17) (x := wr ((s 120 17) + 1)) hR rfl
      exact G_ret rfl rfl h
    · have h := h.2 c6
      refine G_go rfl rfl ?_
      refine G_call rfl rfl ?_
      refine G_go rfl rfl ?_
      refine G_go rfl rfl ?_
      refine G_eq rfl rfl (fun c7 => ?_) (fun c7 => ?_)
      · have h := h.1 c7
        refine G_go rfl rfl ?_
        refine G_go rfl rfl ?_
        refine G_ret rfl rfl ?_
        refine G_brT rfl rfl rfl ?_
        refine G_go rfl rfl ?_
        refine G_wr rfl rfl (by decide) ?_
        have hR := refs_up (a := 120) (k := 16) (x := 0) hR rfl
        refine G_go rfl rfl ?_
        refine G_go rfl rfl ?_
        refine G_rd rfl rfl (by decide) ?_
        refine G_go rfl rfl ?_
        refine G_rdv (v := 0) rfl rfl (by decide) (by simp [upS]) ?_
        refine G_brT rfl rfl rfl ?_
        refine G_go rfl rfl ?_
        refine G_go rfl rfl ?_
        refine G_wr rfl rfl (by decide) ?_
        have hR := refs_up (a := 120) (k := 15) (x := wr ((s 120 15) + 1)) hR rfl
        refine G_go rfl rfl ?_
        refine G_rdv (v := 0) rfl rfl (by decide) (by simp [upS]) ?_
        refine G_brF rfl rfl rfl ?_
        refine G_go rfl rfl ?_
        refine G_go rfl rfl ?_
        refine G_go rfl rfl ?_
        refine G_go rfl rfl ?_
        refine G_go rfl rfl ?_
        exact G_call rfl rfl h
      · have h := h.2 c7
        refine G_go rfl rfl ?_
        refine G_go rfl rfl ?_
        refine G_eq rfl rfl (fun c8 => ?_) (fun c8 => ?_)
        · have h := h.1 c8
          refine G_go rfl rfl ?_
          refine G_go rfl rfl ?_
          refine G_ret rfl rfl ?_
          refine G_brT rfl rfl rfl ?_
          refine G_go rfl rfl ?_
          refine G_wr rfl rfl (by decide) ?_
          have hR := refs_up (a := 120) (k := 16) (x := 0) hR rfl
          refine G_go rfl rfl ?_
          refine G_go rfl rfl ?_
          refine G_rd rfl rfl (by decide) ?_
          refine G_go rfl rfl ?_
          refine G_rdv (v := 0) rfl rfl (by decide) (by simp [upS]) ?_
          refine G_brT rfl rfl rfl ?_
          refine G_go rfl rfl ?_
          refine G_go rfl rfl ?_
          refine G_wr rfl rfl (by decide) ?_
          have hR := refs_up (a := 120) (k := 15) (x := wr ((s 120 15) + 1)) hR rfl
          refine G_go rfl rfl ?_
          refine G_rdv (v := 0) rfl rfl (by decide) (by simp [upS]) ?_
          refine G_brF rfl rfl rfl ?_
          refine G_go rfl rfl ?_
          refine G_go rfl rfl ?_
          refine G_go rfl rfl ?_
          refine G_go rfl rfl ?_
          refine G_go rfl rfl ?_
          exact G_call rfl rfl h
        · have h := h.2 c8
          refine G_go rfl rfl ?_
          refine G_go rfl rfl ?_
          refine G_eq rfl rfl (fun c9 => ?_) (fun c9 => ?_)
          · have h := h.1 c9
            refine G_go rfl rfl ?_
            refine G_go rfl rfl ?_
            refine G_ret rfl rfl ?_
            refine G_brT rfl rfl rfl ?_
            refine G_go rfl rfl ?_
            refine G_wr rfl rfl (by decide) ?_
            have hR := refs_up (a := 120) (k := 16) (x := 0) hR rfl
            refine G_go rfl rfl ?_
            refine G_go rfl rfl ?_
            refine G_rd rfl rfl (by decide) ?_
            refine G_go rfl rfl ?_
            refine G_rdv (v := 0) rfl rfl (by decide) (by simp [upS]) ?_
            refine G_brT rfl rfl rfl ?_
            refine G_go rfl rfl ?_
            refine G_go rfl rfl ?_
            refine G_wr rfl rfl (by decide) ?_
            have hR := refs_up (a := 120) (k := 15) (x := wr ((s 120 15) + 1)) hR rfl
            refine G_go rfl rfl ?_
            refine G_rdv (v := 0) rfl rfl (by decide) (by simp [upS]) ?_
            refine G_brF rfl rfl rfl ?_
            refine G_go rfl rfl ?_
            refine G_go rfl rfl ?_
            refine G_go rfl rfl ?_
            refine G_go rfl rfl ?_
            refine G_go rfl rfl ?_
            exact G_call rfl rfl h
          · have h := h.2 c9
            refine G_go rfl rfl ?_
            refine G_go rfl rfl ?_
            refine G_eq rfl rfl (fun c10 => ?_) (fun c10 => ?_)
            · have h := h.1 c10
              refine G_go rfl rfl ?_
              refine G_go rfl rfl ?_
              refine G_ret rfl rfl ?_
              refine G_brT rfl rfl rfl ?_
              refine G_go rfl rfl ?_
              refine G_wr rfl rfl (by decide) ?_
              have hR := refs_up (a := 120) (k := 16) (x := 0) hR rfl
              refine G_go rfl rfl ?_
              refine G_go rfl rfl ?_
              refine G_rd rfl rfl (by decide) ?_
              refine G_go rfl rfl ?_
              refine G_rdv (v := 0) rfl rfl (by decide) (by simp [upS]) ?_
              refine G_brT rfl rfl rfl ?_
              refine G_go rfl rfl ?_
              refine G_go rfl rfl ?_
              refine G_wr rfl rfl (by decide) ?_
              have hR := refs_up (a := 120) (k := 15) (x := wr ((s 120 15) + 1)) hR rfl
              refine G_go rfl rfl ?_
              refine G_rdv (v := 0) rfl rfl (by decide) (by simp [upS]) ?_
              refine G_brF rfl rfl rfl ?_
              refine G_go rfl rfl ?_
              refine G_go rfl rfl ?_
              refine G_go rfl rfl ?_
              refine G_go rfl rfl ?_
              refine G_go rfl rfl ?_
              exact G_call rfl rfl h
            · have h := h.2 c10
              refine G_go rfl rfl ?_
              refine G_go rfl rfl ?_
              refine G_eq rfl rfl (fun c11 => ?_) (fun c11 => ?_)
              · have h := h.1 c11
                refine G_go rfl rfl ?_
                refine G_go rfl rfl ?_
                refine G_ret rfl rfl ?_
                refine G_brT rfl rfl rfl ?_
                refine G_go rfl rfl ?_
                refine G_wr rfl rfl (by decide) ?_
                have hR := refs_up (a := 120) (k := 16) (x := 0) hR rfl
                refine G_go rfl rfl ?_
                refine G_go rfl rfl ?_
                refine G_rd rfl rfl (by decide) ?_
                refine G_go rfl rfl ?_
                refine G_rdv (v := 0) rfl rfl (by decide) (by simp [upS]) ?_
                refine G_brT rfl rfl rfl ?_
                refine G_go rfl rfl ?_
                refine G_go rfl rfl ?_
                refine G_wr rfl rfl (by decide) ?_
                have hR := refs_up (a := 120) (k := 15) (x := wr ((s 120 15) + 1)) hR rfl
                refine G_go rfl rfl ?_
                refine G_rdv (v := 0) rfl rfl (by decide) (by simp [upS]) ?_
                refine G_brF rfl rfl rfl ?_
                refine G_go rfl rfl ?_
                refine G_go rfl rfl ?_
                refine G_go rfl rfl ?_
                refine G_go rfl rfl ?_
                refine G_go rfl rfl ?_
                exact G_call rfl rfl h
              · have h := h.2 c11
                refine G_go rfl rfl ?_
                refine G_go rfl rfl ?_
                refine G_ne rfl rfl (fun c12 => ?_) (fun c12 => ?_)
                · have h := h.1 c12
                  refine G_go rfl rfl ?_
                  refine G_ret rfl rfl ?_
                  refine G_brF rfl rfl rfl ?_
                  refine G_go rfl rfl ?_
                  refine G_go rfl rfl ?_
                  refine G_wr rfl rfl (by decide) ?_
                  have hR := refs_up (a := 120) (k := 16) (x := 1) hR rfl
                  refine G_go rfl rfl ?_
                  refine G_go rfl rfl ?_
                  refine G_rd rfl rfl (by decide) ?_
                  refine G_go rfl rfl ?_
                  refine G_rdv (v := 1) rfl rfl (by decide) (by simp [upS]) ?_
                  refine G_brF rfl rfl rfl ?_
                  refine G_go rfl rfl ?_
                  refine G_go rfl rfl ?_
                  refine G_go rfl rfl ?_
                  refine G_wr rfl rfl (by decide) ?_
                  have hR := refs_up (a := 120) (k := 15) (x := wr ((s 120 15) + 0)) hR rfl
                  refine G_go rfl rfl ?_
                  refine G_rdv (v := 1) rfl rfl (by decide) (by simp [upS]) ?_
                  refine G_brT rfl rfl rfl ?_
                  refine G_go rfl rfl ?_
                  refine G_go rfl rfl ?_
                  refine G_rdv (v := 1) rfl rfl (by decide) (by simp [upS]) ?_
                  refine G_brT rfl rfl rfl ?_
                  refine G_go rfl rfl ?_
                  refine G_go rfl rfl ?_
                  refine G_wr rfl rfl (by decide) ?_
                  have hR := refs_up (a := 120) (k := 16) (x := 1) hR rfl
                  refine G_go rfl rfl ?_
                  refine G_go rfl rfl ?_
                  refine G_rdv (v := wr ((s 120 15) + 0)) rfl rfl (by decide) (by simp [upS]) ?_
                  refine G_go rfl rfl ?_
                  refine G_rdv (v := 1) rfl rfl (by decide) (by simp [upS]) ?_
                  refine G_brF rfl rfl rfl ?_
                  refine G_go rfl rfl ?_
                  refine G_go rfl rfl ?_
                  refine G_go rfl rfl ?_
                  refine G_wr rfl rfl (by decide) ?_
                  have hR := refs_up (a := 120) (k := 15) (x := wr ((wr ((s 120 15) + 0)) + 0)) hR rfl
                  refine G_go rfl rfl ?_
                  refine G_go rfl rfl ?_
                  refine G_rd rfl rfl (by decide) ?_
                  refine G_go rfl rfl ?_
                  refine G_go rfl rfl ?_
                  refine G_wr rfl rfl (by decide) ?_
                  have hR := refs_up (a := 120) (k := 17) (x := wr ((s 120 17) + 1)) hR rfl
                  exact G_ret rfl rfl h
                · have h := h.2 c12
                  refine G_go rfl rfl ?_
                  refine G_go rfl rfl ?_
                  refine G_ret rfl rfl ?_
                  refine G_brT rfl rfl rfl ?_
                  refine G_go rfl rfl ?_
                  refine G_wr rfl rfl (by decide) ?_
                  have hR := refs_up (a := 120) (k := 16) (x := 0) hR rfl
                  refine G_go rfl rfl ?_
                  refine G_go rfl rfl ?_
                  refine G_rd rfl rfl (by decide) ?_
                  refine G_go rfl rfl ?_
                  refine G_rdv (v := 0) rfl rfl (by decide) (by simp [upS]) ?_
                  refine G_brT rfl rfl rfl ?_
                  refine G_go rfl rfl ?_
                  refine G_go rfl rfl ?_
                  refine G_wr rfl rfl (by decide) ?_
                  have hR := refs_up (a := 120) (k := 15) (x := wr ((s 120 15) + 1)) hR rfl
                  refine G_go rfl rfl ?_
                  refine G_rdv (v := 0) rfl rfl (by decide) (by simp [upS]) ?_
                  refine G_brF rfl rfl rfl ?_
                  refine G_go rfl rfl ?_
                  refine G_go rfl rfl ?_
                  refine G_go rfl rfl ?_
                  refine G_go rfl rfl ?_
                  refine G_go rfl rfl ?_
                  exact G_call rfl rfl h
theorem sb_X7_readStatement_86 (n : Nat) (s : Nat → Nat → Int) (Q : List Vl → Sto → Prop) (x1 : Int) (x2 : Int) (hR : refs s)
    (h : (s 120 16 ≠ 0 → Q [] (n, upS (upS (upS s 120 16 1) 120 15 (wr ((s 120 15) + 0))) 120 17 (wr ((s 120 17) + 1)))) ∧ (s 120 16 = 0 → (s 120 14 ≤ s 120 15 → Q [] (n, upS (upS (upS s 120 16 1) 120 15 (wr ((s 120 15) + 0))) 120 17 (wr ((s 120 17) + 1)))) ∧ (s 120 15 < s 120 14 → (0 ≤ s 120 15 ∧ s 120 15 < 96) ∧ ((s 131 ((s 120 15).toNat) = 59 → Q [] (n, upS (upS (upS s 120 16 0) 120 15 (wr ((s 120 15) + 1))) 120 17 (wr ((s 120 17) + 1)))) ∧ (s 131 ((s 120 15).toNat) ≠ 59 → Q [] (n, upS (upS (upS s 120 16 1) 120 15 (wr ((s 120 15) + 0))) 120 17 (wr ((s 120 17) + 1)))))))) :
    G 120 140 206 86 [(3, 120), (1, x1), (1, x2)] [] (n, s) Q := by
  refine G_go rfl rfl ?_
  refine G_go rfl rfl ?_
  refine G_rd rfl rfl (by decide) ?_
  refine G_ne rfl rfl (fun c1 => ?_) (fun c1 => ?_)
  · have h := h.1 c1
    refine G_go rfl rfl ?_
    refine G_go rfl rfl ?_
    refine G_wr rfl rfl (by decide) ?_
    have hR := refs_up (a := 120) (k := 16) (x := 1) hR rfl
    refine G_go rfl rfl ?_
    refine G_go rfl rfl ?_
    refine G_rd rfl rfl (by decide) ?_
    refine G_go rfl rfl ?_
    refine G_rdv (v := 1) rfl rfl (by decide) (by simp [upS]) ?_
    refine G_brF rfl rfl rfl ?_
    refine G_go rfl rfl ?_
    refine G_go rfl rfl ?_
    refine G_go rfl rfl ?_
    refine G_wr rfl rfl (by decide) ?_
    have hR := refs_up (a := 120) (k := 15) (x := wr ((s 120 15) + 0)) hR rfl
    refine G_go rfl rfl ?_
    refine G_go rfl rfl ?_
    refine G_rd rfl rfl (by decide) ?_
    refine G_go rfl rfl ?_
    refine G_go rfl rfl ?_
    refine G_wr rfl rfl (by decide) ?_
    have hR := refs_up (a := 120) (k := 17) (x := wr ((s 120 17) + 1)) hR rfl
    exact G_ret rfl rfl h
  · have h := h.2 c1
    refine G_go rfl rfl ?_
    refine G_call rfl rfl ?_
    refine G_go rfl rfl ?_
    refine G_rd rfl rfl (by decide) ?_
    refine G_go rfl rfl ?_
    refine G_rd rfl rfl (by decide) ?_
    refine G_ge rfl rfl (fun c2 => ?_) (fun c2 => ?_)
    · have h := h.1 c2
      refine G_go rfl rfl ?_
      refine G_ret rfl rfl ?_
      refine G_go rfl rfl ?_
      refine G_brF rfl rfl rfl ?_
      refine G_go rfl rfl ?_
      refine G_go rfl rfl ?_
      refine G_wr rfl rfl (by decide) ?_
      have hR := refs_up (a := 120) (k := 16) (x := 1) hR rfl
      refine G_go rfl rfl ?_
      refine G_go rfl rfl ?_
      refine G_rd rfl rfl (by decide) ?_
      refine G_go rfl rfl ?_
      refine G_rdv (v := 1) rfl rfl (by decide) (by simp [upS]) ?_
      refine G_brF rfl rfl rfl ?_
      refine G_go rfl rfl ?_
      refine G_go rfl rfl ?_
      refine G_go rfl rfl ?_
      refine G_wr rfl rfl (by decide) ?_
      have hR := refs_up (a := 120) (k := 15) (x := wr ((s 120 15) + 0)) hR rfl
      refine G_go rfl rfl ?_
      refine G_go rfl rfl ?_
      refine G_rd rfl rfl (by decide) ?_
      refine G_go rfl rfl ?_
      refine G_go rfl rfl ?_
      refine G_wr rfl rfl (by decide) ?_
      have hR := refs_up (a := 120) (k := 17) (x := wr ((s 120 17) + 1)) hR rfl
      exact G_ret rfl rfl h
    · have h := h.2 c2
      refine G_go rfl rfl ?_
      refine G_rf rfl rfl (by decide) (hR 120 13 131 rfl) ?_
      refine G_go rfl rfl ?_
      refine G_rd rfl rfl (by decide) ?_
      obtain ⟨g3, h⟩ := h
      refine G_ir (n := 96) rfl rfl (by decide) (by decide) g3 ?_
      refine G_go rfl rfl ?_
      refine G_ret rfl rfl ?_
      refine G_go rfl rfl ?_
      refine G_eq rfl rfl (fun c4 => ?_) (fun c4 => ?_)
      · have h := h.1 c4
        refine G_go rfl rfl ?_
        refine G_wr rfl rfl (by decide) ?_
        have hR := refs_up (a := 120) (k := 16) (x := 0) hR rfl
        refine G_go rfl rfl ?_
        refine G_go rfl rfl ?_
        refine G_rd rfl rfl (by decide) ?_
        refine G_go rfl rfl ?_
        refine G_rdv (v := 0) rfl rfl (by decide) (by simp [upS]) ?_
        refine G_brT rfl rfl rfl ?_
        refine G_go rfl rfl ?_
        refine G_go rfl rfl ?_
        refine G_wr rfl rfl (by decide) ?_
        have hR := refs_up (a := 120) (k := 15) (x := wr ((s 120 15) + 1)) hR rfl
        refine G_go rfl rfl ?_
        refine G_go rfl rfl ?_
        refine G_rd rfl rfl (by decide) ?_
        refine G_go rfl rfl ?_
        refine G_go rfl rfl ?_
        refine G_wr rfl rfl (by decide) ?_
        have hR := refs_up (a := 120) (k := 17) (x := wr ((s 120 17) + 1)) hR rfl
        exact G_ret rfl rfl h
      · have h := h.2 c4
        refine G_go rfl rfl ?_
        refine G_go rfl rfl ?_
        refine G_wr rfl rfl (by decide) ?_
        have hR := refs_up (a := 120) (k := 16) (x := 1) hR rfl
        refine G_go rfl rfl ?_
        refine G_go rfl rfl ?_
        refine G_rd rfl rfl (by decide) ?_
        refine G_go rfl rfl ?_
        refine G_rdv (v := 1) rfl rfl (by decide) (by simp [upS]) ?_
        refine G_brF rfl rfl rfl ?_
        refine G_go rfl rfl ?_
        refine G_go rfl rfl ?_
        refine G_go rfl rfl ?_
        refine G_wr rfl rfl (by decide) ?_
        have hR := refs_up (a := 120) (k := 15) (x := wr ((s 120 15) + 0)) hR rfl
        refine G_go rfl rfl ?_
        refine G_go rfl rfl ?_
        refine G_rd rfl rfl (by decide) ?_
        refine G_go rfl rfl ?_
        refine G_go rfl rfl ?_
        refine G_wr rfl rfl (by decide) ?_
        have hR := refs_up (a := 120) (k := 17) (x := wr ((s 120 17) + 1)) hR rfl
        exact G_ret rfl rfl h
theorem c_rs86 (n : Nat) (t : Nat → Nat → Int) (Q : List Vl → Sto → Prop) (hR : refs t) (c : Nat → Int) (L : Nat) (hc : ∀ k, k < L → t 131 k = c k) (hL : t 120 14 = (L : Int)) (hL2 : L ≤ 96) (x : Int × Nat) (hx0 : x.1 = 0 ∨ x.1 = 1) (hb : t 120 16 = x.1) (hq : t 120 15 = (x.2 : Int)) (hx : x.2 ≤ L) (k : Nat) (hk : k ≤ 48) (h17 : t 120 17 = (k : Int)) (a b : Int)
    (K1 : (x.1 = 0 ∧ x.2 < L ∧ c x.2 = 59) → Q [] (n, upS (upS (upS t 120 16 0) 120 15 ((x.2 + 1 : Nat) : Int)) 120 17 ((k + 1 : Nat) : Int)))
    (K2 : ¬ (x.1 = 0 ∧ x.2 < L ∧ c x.2 = 59) → Q [] (n, upS (upS (upS t 120 16 1) 120 15 (x.2 : Int)) 120 17 ((k + 1 : Nat) : Int))) : G 120 140 206 86 [(3, 120), (1, a), (1, b)] [] (n, t) Q := by
  obtain ⟨y, q⟩ := x
  have hb : t 120 16 = y := hb
  have hq : t 120 15 = (q : Int) := hq
  have hx : q ≤ L := hx
  have K1 : (y = 0 ∧ q < L ∧ c q = 59) → Q [] (n, upS (upS (upS t 120 16 0) 120 15 ((q + 1 : Nat) : Int)) 120 17 ((k + 1 : Nat) : Int)) := K1
  have K2 : ¬ (y = 0 ∧ q < L ∧ c q = 59) → Q [] (n, upS (upS (upS t 120 16 1) 120 15 (q : Int)) 120 17 ((k + 1 : Nat) : Int)) := K2
  refine sb_X7_readStatement_86 n t Q a b hR ?_
  rw [hb, hq, h17, hL, Int.toNat_natCast, wr_s (show k < 96 by omega) (by decide), wr_s (show q < 97 by omega) (by decide), show wr ((q : Int) + 0) = (q : Int) by rw [Int.add_zero]; exact wr_id (by omega) (by omega)]
  by_cases ql : q < L
  · rw [hc q ql]
    exact ⟨fun z => K2 (fun g => z g.1), fun z => ⟨fun f => by omega, fun _ => ⟨by omega, fun f => K1 ⟨z, ql, f⟩, fun f => K2 (fun g => f g.2.2)⟩⟩⟩
  · exact ⟨fun z => K2 (fun g => z g.1), fun z => ⟨fun f => K2 (fun g => ql g.2.1), fun f => by omega⟩⟩
theorem rdS_01 {c : Nat → Int} {L : Nat} {x : Int × Nat} : (rdS c L x).1 = 0 ∨ (rdS c L x).1 = 1 := by
  by_cases g : x.1 = 0 ∧ x.2 < L ∧ 48 ≤ c x.2 ∧ c x.2 ≤ 57
  · exact Or.inl (by rw [show rdS c L x = (0, x.2 + 1) from if_pos g])
  · exact Or.inr (by rw [show rdS c L x = (1, x.2) from if_neg g])
theorem rdI_01 {c : Nat → Int} {L : Nat} {x : Int × Nat} (h : x.1 = 0 ∨ x.1 = 1) : ∀ k, (rdI c L k x).1 = 0 ∨ (rdI c L k x).1 = 1
  | 0 => h
  | _ + 1 => rdS_01
theorem c_rs (n : Nat) (t : Nat → Nat → Int) (Q : List Vl → Sto → Prop) (hR : refs t) (c : Nat → Int) (L : Nat) (hc : ∀ k, k < L → t 131 k = c k) (hL : t 120 14 = (L : Int)) (hL2 : L ≤ 96) (k p : Nat) (hk : k ≤ 32) (hp : p ≤ L) (hb : t 120 16 = 0) (hq : t 120 15 = (p : Int)) (h17 : t 120 17 = (k : Int))
    (K : ∀ t1, refs t1 → frS k t t1 → t1 120 17 = ((k + 1 : Nat) : Int) → (wfS c L p → t1 120 16 = 0 ∧ t1 120 15 = ((p + dgN c p + 2 : Nat) : Int) ∧ tdS c k p t1) → (∀ e, badS c L p e → t1 120 16 = 1 ∧ t1 120 15 = (e : Int)) → Q [] (n, t1)) : G 120 140 206 0 [(3, 120), (0, 0), (0, 0)] [] (n, t) Q := by
  -- it goes bad at once
  have bad : ∀ X : Int, (L ≤ p ∨ dgO (c p) = -2) → Q [] (n, upS (upS (upS (upS (upS (upS (upS t 132 k (p : Int)) 133 k X) 120 16 1) 120 15 (p : Int)) 120 16 1) 120 15 (p : Int)) 120 17 ((k + 1 : Nat) : Int)) := by
    intro X g
    refine K _ ?_ ⟨fun a h1 h2 h3 h4 => ?_, fun j h1 h2 h3 => ?_, fun j hj => ⟨?_, ?_⟩, fun j hj => ?_⟩ upS_eq (fun w => ?_) (fun e b => ⟨?_, ?_⟩)
    · repeat first | exact hR | refine refs_up ?_ rfl
    · rw [upS_row h1, upS_row h1, upS_row h1, upS_row h1, upS_row h1, upS_row h3, upS_row h2]
    · rw [upS_2 h3, upS_2 h1, upS_2 h2, upS_2 h1, upS_2 h2, upS_row (by decide), upS_row (by decide)]
    · rw [upS_row (by decide), upS_row (by decide), upS_row (by decide), upS_row (by decide), upS_row (by decide), upS_row (by decide), upS_2 (by omega)]
    · rw [upS_row (by decide), upS_row (by decide), upS_row (by decide), upS_row (by decide), upS_row (by decide), upS_2 (by omega), upS_row (by decide)]
    · rw [upS_row (by decide), upS_row (by decide), upS_row (by decide), upS_row (by decide), upS_row (by decide), upS_row (by decide), upS_row (by decide)]
    · have w1 := w.1
      have w3 := w.2.2.1
      omega
    · rw [upS_2 (by decide), upS_2 (by decide), upS_eq]
    · rw [upS_2 (by decide), upS_eq]
      rcases b with ⟨rfl, -⟩ | ⟨b1, b2, -⟩
      · rfl
      · omega
  refine sb_X7_readStatement_0 n t Q hR ?_
  rw [hb, hq, h17, hL, Int.toNat_natCast, Int.toNat_natCast, wr_s (show k < 96 by omega) (by decide), wr_s (show p < 97 by omega) (by decide), show wr ((p : Int) + 0) = (p : Int) by rw [Int.add_zero]; exact wr_id (by omega) (by omega), show wr (3 * (k : Int)) = ((3 * k : Nat) : Int) by rw [wr_id (by omega) (by omega)]; omega]
  rw [show wr ((p : Int) + 0) = (p : Int) by rw [Int.add_zero]; exact wr_id (by omega) (by omega)]
  by_cases pl : p < L
  · rw [hc p pl]
    have good : 1 ≤ dgO (c p) → G 120 140 205 0 [(3, 120), (1, c p), (1, ((3 * k : Nat) : Int))] [] (n, upS (upS (upS (upS t 132 k (p : Int)) 133 k (c p)) 120 16 0) 120 15 ((p + 1 : Nat) : Int)) (fun r s1 => G 120 140 206 86 [(3, 120), (1, (k : Int)), (1, c p)] (r ++ []) s1 Q) := by
      intro d
      obtain ⟨d1, d2, d3⟩ := dgN_rg d
      have rr : refs (upS (upS (upS (upS t 132 k (p : Int)) 133 k (c p)) 120 16 0) 120 15 ((p + 1 : Nat) : Int)) := by
        repeat first | exact hR | refine refs_up ?_ rfl
      refine c_rn n _ _ rr c L (fun j hj => ?_) ?_ hL2 (0, p + 1) ?_ ?_ pl (3 * k) (by omega) (c p) d (fun t1 r1 f1 b1 q1 td => ?_)
      · rw [upS_row (by decide), upS_row (by decide), upS_row (by decide), upS_row (by decide)]
        exact hc j hj
      · rw [upS_2 (by decide), upS_2 (by decide), upS_row (by decide), upS_row (by decide)]
        exact hL
      · rw [upS_2 (by decide), upS_eq]
      · rw [upS_eq]
      have ed : (dgO (c p)).toNat = dgN c p := rfl
      rw [ed] at b1 q1 td
      obtain ⟨f1a, f1b, f1c⟩ := f1
      have y01 := rdI_01 (c := c) (L := L) (x := (0, p + 1)) (Or.inl rfl) (dgN c p)
      have yL := rdI_rg (c := c) (L := L) (x := (0, p + 1)) pl (dgN c p)
      have ywf := y_wf (c := c) (L := L) (p := p)
      have ybad := fun e => y_bad (c := c) (L := L) (p := p) (e := e) pl d
      generalize rdI c L (dgN c p) (0, p + 1) = y at b1 q1 td y01 yL ywf ybad
      have c1 : ∀ a, a ≠ 120 → a ≠ 132 → a ≠ 133 → a ≠ 134 → t1 a = t a := fun a h1 h2 h3 h4 => by rw [f1a a h1 h4, upS_row h1, upS_row h1, upS_row h3, upS_row h2]
      have c2 : ∀ j, j ≠ 15 → j ≠ 16 → t1 120 j = t 120 j := fun j h1 h2 => by rw [f1b j h1 h2, upS_2 h1, upS_2 h2, upS_row (by decide), upS_row (by decide)]
      have c3 : ∀ j, t1 132 j = upS t 132 k (p : Int) 132 j := fun j => by rw [f1a 132 (by decide) (by decide), upS_row (by decide), upS_row (by decide), upS_row (by decide)]
      have c4 : ∀ j, t1 133 j = upS t 133 k (c p) 133 j := fun j => by rw [f1a 133 (by decide) (by decide), upS_row (by decide), upS_row (by decide)]; simp [upS]
      have c5 : ∀ j, j < 3 * k → t1 134 j = t 134 j := fun j hj => by rw [f1c j hj, upS_row (by decide), upS_row (by decide), upS_row (by decide), upS_row (by decide)]
      have fr : ∀ u v : Int, frS k t (upS (upS (upS t1 120 16 u) 120 15 v) 120 17 ((k + 1 : Nat) : Int)) := fun u v => by
        refine ⟨fun a h1 h2 h3 h4 => ?_, fun j h1 h2 h3 => ?_, fun j hj => ⟨?_, ?_⟩, fun j hj => ?_⟩
        · rw [upS_row h1, upS_row h1, upS_row h1, c1 a h1 h2 h3 h4]
        · rw [upS_2 h3, upS_2 h1, upS_2 h2, c2 j h1 h2]
        · rw [upS_row (by decide), upS_row (by decide), upS_row (by decide), c3 j, upS_2 (by omega)]
        · rw [upS_row (by decide), upS_row (by decide), upS_row (by decide), c4 j, upS_2 (by omega)]
        · rw [upS_row (by decide), upS_row (by decide), upS_row (by decide), c5 j hj]
      refine c_rs86 n t1 Q r1 c L (fun j hj => by rw [c1 131 (by decide) (by decide) (by decide) (by decide)]; exact hc j hj) (by rw [c2 14 (by decide) (by decide)]; exact hL) hL2 y y01 b1 q1 yL k (by omega) (by rw [c2 17 (by decide) (by decide)]; exact h17) _ _ (fun g => ?_) (fun g => ?_)
      · refine K _ (refs_up (refs_up (refs_up r1 rfl) rfl) rfl) (fr _ _) upS_eq (fun w => ⟨?_, ?_, ?_, ?_, ?_⟩) (fun e b => ?_)
        · rw [upS_2 (by decide), upS_2 (by decide), upS_eq]
        · rw [upS_2 (by decide), upS_eq, ywf w]
          show ((p + 1 + dgN c p + 1 : Nat) : Int) = _
          omega
        · rw [upS_row (by decide), upS_row (by decide), upS_row (by decide), c3 k, upS_eq]
        · rw [upS_row (by decide), upS_row (by decide), upS_row (by decide), c4 k, upS_eq]
        · have q := td g.1
          unfold tdN at q ⊢
          rw [upS_row (by decide), upS_row (by decide), upS_row (by decide)]
          exact q
        · rcases ybad e b with h | ⟨h, h2⟩
          · rw [h] at g
            exact absurd g.1 (show ¬ (1 : Int) = 0 by decide)
          · rw [h] at g
            exact absurd g.2 h2
      · refine K _ (refs_up (refs_up (refs_up r1 rfl) rfl) rfl) (fr _ _) upS_eq (fun w => ?_) (fun e b => ⟨?_, ?_⟩)
        · refine absurd ?_ g
          rw [ywf w]
          exact ⟨rfl, by have := w.2.2.1; exact this, w.2.2.2⟩
        · rw [upS_2 (by decide), upS_2 (by decide), upS_eq]
        · rw [upS_2 (by decide), upS_eq]
          rcases ybad e b with h | ⟨h, _⟩
          · rw [h]
          · rw [h]
    have dd := dgO_rg (c p)
    have nb : ∀ x : Int, c p = x → 1 ≤ dgO x → 1 ≤ dgO (c p) := fun x e h => by rw [e]; exact h
    refine ⟨fun e => by omega, fun _ => ⟨by omega, by omega, fun e => absurd rfl e, fun _ => ⟨fun e => good (nb _ e (by decide)), fun e1 => ⟨fun e => good (nb _ e (by decide)), fun e2 => ⟨fun e => good (nb _ e (by decide)), fun e3 => ⟨fun e => good (nb _ e (by decide)), fun e4 => ⟨fun e => good (nb _ e (by decide)), fun e5 => ⟨fun e6 => ?_, fun e => good (nb _ e (by decide))⟩⟩⟩⟩⟩⟩⟩⟩
    refine bad (c p) (Or.inr ?_)
    rcases dd with dd | dd
    · exact dd
    · have := dg_lt dd.1
      omega
  · exact ⟨fun _ => ⟨by omega, fun _ => bad _ (Or.inl (by omega)), fun _ => bad _ (Or.inl (by omega))⟩, fun e => by omega⟩


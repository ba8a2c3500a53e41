/-! SAME -/
theorem sb_X6_same_0 (n : Nat) (s : Nat → Nat → Int) (Q : List Vl → Sto → Prop) (hR : refs s)
    (h : G 2 120 123 4 [(3, 2), (1, 0), (1, 0), (0, 0)] [] (n, s) Q) :
    G 2 120 123 0 [(3, 2), (0, 0), (0, 0), (0, 0)] [] (n, s) Q := by
  refine G_go rfl rfl ?_
  refine G_go rfl rfl ?_
  show G 2 120 123 2 [(3, 2), (1, 0), (0, 0), (0, 0)] [] (n, s) Q
  refine G_go rfl rfl ?_
  refine G_go rfl rfl ?_
  show G 2 120 123 4 [(3, 2), (1, 0), (1, 0), (0, 0)] [] (n, s) Q
  exact h
theorem sb_X6_same_4 (n : Nat) (s : Nat → Nat → Int) (Q : List Vl → Sto → Prop) (x1 : Int) (x2 : Int) (w3 : Vl) (hR : refs s)
    (h : (s 3 9 ≤ x2 → Q [(1, x1)] (n, s)) ∧ (x2 < s 3 9 → G 2 120 123 19 [(3, 2), (1, x1), (1, x2), (1, wr (x2 + 1))] [] (n, s) Q)) :
    G 2 120 123 4 [(3, 2), (1, x1), (1, x2), w3] [] (n, s) Q := by
  refine G_go rfl rfl ?_
  refine G_go rfl rfl ?_
  refine G_rf rfl rfl (by decide) (hR 2 0 3 rfl) ?_
  refine G_rd rfl rfl (by decide) ?_
  refine G_ge rfl rfl (fun c1 => ?_) (fun c1 => ?_)
  · have h := h.1 c1
    refine G_go rfl rfl ?_
    exact G_ret rfl rfl h
  · have h := h.2 c1
    refine G_go rfl rfl ?_
    refine G_go rfl rfl ?_
    refine G_go rfl rfl ?_
    refine G_go rfl rfl ?_
    show G 2 120 123 19 [(3, 2), (1, x1), (1, x2), (1, wr (x2 + 1))] [] (n, s) Q
    exact h
theorem sb_X6_same_19 (n : Nat) (s : Nat → Nat → Int) (Q : List Vl → Sto → Prop) (x1 : Int) (x2 : Int) (x3 : Int) (hR : refs s)
    (h : (s 3 9 ≤ x3 → G 2 120 123 4 [(3, 2), (1, x1), (1, wr (x2 + 1)), (1, x3)] [] (n, s) Q) ∧ (x3 < s 3 9 → (0 ≤ x2 ∧ x2 < 6) ∧ ((rgP (vw 4 s) x2.toNat) ∧ ((0 ≤ s 6 x2.toNat ∧ s 6 x2.toNat ≤ 2000) ∧ ((0 ≤ vw 4 s 4 x2.toNat ∧ vw 4 s 4 x2.toNat ≤ 99) ∧ ((0 ≤ x3 ∧ x3 < 6) ∧ ((rgP (vw 4 s) x3.toNat) ∧ ((0 ≤ s 6 x3.toNat ∧ s 6 x3.toNat ≤ 2000) ∧ ((0 ≤ vw 4 s 4 x3.toNat ∧ vw 4 s 4 x3.toNat ≤ 99) ∧ ((lsV (vw 4 s) x2.toNat (s 6 x2.toNat) ≠ lsV (vw 4 s) x3.toNat (s 6 x3.toNat) → G 2 120 123 19 [(3, 2), (1, x1), (1, x2), (1, wr (x3 + 1))] [] (n, s) Q) ∧ (lsV (vw 4 s) x2.toNat (s 6 x2.toNat) = lsV (vw 4 s) x3.toNat (s 6 x3.toNat) → G 2 120 123 19 [(3, 2), (1, wr (x1 + 1)), (1, x2), (1, wr (x3 + 1))] [] (n, s) Q))))))))))) :
    G 2 120 123 19 [(3, 2), (1, x1), (1, x2), (1, x3)] [] (n, s) Q := by
  refine G_go rfl rfl ?_
  refine G_go rfl rfl ?_
  refine G_rf rfl rfl (by decide) (hR 2 0 3 rfl) ?_
  refine G_rd rfl rfl (by decide) ?_
  refine G_ge rfl rfl (fun c1 => ?_) (fun c1 => ?_)
  · have h := h.1 c1
    refine G_go rfl rfl ?_
    refine G_go rfl rfl ?_
    exact h
  · have h := h.2 c1
    refine G_go rfl rfl ?_
    refine G_rf rfl rfl (by decide) (hR 2 0 3 rfl) ?_
    refine G_go rfl rfl ?_
    refine G_call rfl rfl ?_
    refine G_go rfl rfl ?_
    refine G_go rfl rfl ?_
    refine G_go rfl rfl ?_
    refine G_rf rfl rfl (by decide) (hR 3 2 6 rfl) ?_
    refine G_go rfl rfl ?_
    obtain ⟨g2, h⟩ := h
    refine G_ir (n := 6) rfl rfl (by decide) (by decide) g2 ?_
    refine G_call rfl rfl ?_
    obtain ⟨g3, h⟩ := h
    obtain ⟨g4, h⟩ := h
    obtain ⟨g5, h⟩ := h
    refine c_X5_lastsHolding_3 n _ _ x2 (s 6 x2.toNat) hR g2 g3 g4 g5 ?_
    refine G_ret rfl rfl ?_
    refine G_go rfl rfl ?_
    refine G_rf rfl rfl (by decide) (hR 2 0 3 rfl) ?_
    refine G_go rfl rfl ?_
    refine G_call rfl rfl ?_
    refine G_go rfl rfl ?_
    refine G_go rfl rfl ?_
    refine G_go rfl rfl ?_
    refine G_rf rfl rfl (by decide) (hR 3 2 6 rfl) ?_
    refine G_go rfl rfl ?_
    obtain ⟨g6, h⟩ := h
    refine G_ir (n := 6) rfl rfl (by decide) (by decide) g6 ?_
    refine G_call rfl rfl ?_
    obtain ⟨g7, h⟩ := h
    obtain ⟨g8, h⟩ := h
    obtain ⟨g9, h⟩ := h
    refine c_X5_lastsHolding_3 n _ _ x3 (s 6 x3.toNat) hR g6 g7 g8 g9 ?_
    refine G_ret rfl rfl ?_
    refine G_ne rfl rfl (fun c10 => ?_) (fun c10 => ?_)
    · have h := h.1 c10
      refine G_go rfl rfl ?_
      refine G_go rfl rfl ?_
      exact h
    · have h := h.2 c10
      refine G_go rfl rfl ?_
      refine G_go rfl rfl ?_
      refine G_go rfl rfl ?_
      exact h
theorem sb_X7_same_0 (n : Nat) (s : Nat → Nat → Int) (Q : List Vl → Sto → Prop) (hR : refs s)
    (h : G 120 140 214 9 [(3, 120), (1, 0), (1, 0), (0, 0)] [] (n, upS s 120 10 0) Q) :
    G 120 140 214 0 [(3, 120), (0, 0), (0, 0), (0, 0)] [] (n, s) Q := by
  refine G_go rfl rfl ?_
  refine G_go rfl rfl ?_
  refine G_wr rfl rfl (by decide) ?_
  have hR := refs_up (a := 120) (k := 10) (x := 0) hR rfl
  refine G_go rfl rfl ?_
  refine G_go rfl rfl ?_
  show G 120 140 214 7 [(3, 120), (1, 0), (0, 0), (0, 0)] [] (n, upS s 120 10 0) Q
  refine G_go rfl rfl ?_
  refine G_go rfl rfl ?_
  show G 120 140 214 9 [(3, 120), (1, 0), (1, 0), (0, 0)] [] (n, upS s 120 10 0) Q
  exact h
theorem sb_X7_same_9 (n : Nat) (s : Nat → Nat → Int) (Q : List Vl → Sto → Prop) (x1 : Int) (x2 : Int) (w3 : Vl) (hR : refs s)
    (h : (s 120 0 ≤ x2 → Q [(1, x1)] (n, s)) ∧ (x2 < s 120 0 → G 120 140 214 21 [(3, 120), (1, x1), (1, x2), (1, wr (x2 + 1))] [] (n, s) Q)) :
    G 120 140 214 9 [(3, 120), (1, x1), (1, x2), w3] [] (n, s) Q := by
  refine G_go rfl rfl ?_
  refine G_go rfl rfl ?_
  refine G_rd rfl rfl (by decide) ?_
  refine G_ge rfl rfl (fun c1 => ?_) (fun c1 => ?_)
  · have h := h.1 c1
    refine G_go rfl rfl ?_
    exact G_ret rfl rfl h
  · have h := h.2 c1
    refine G_go rfl rfl ?_
    refine G_go rfl rfl ?_
    refine G_go rfl rfl ?_
    refine G_go rfl rfl ?_
    show G 120 140 214 21 [(3, 120), (1, x1), (1, x2), (1, wr (x2 + 1))] [] (n, s) Q
    exact h
theorem sb_X7_same_21 (n : Nat) (s : Nat → Nat → Int) (Q : List Vl → Sto → Prop) (x1 : Int) (x2 : Int) (x3 : Int) (hR : refs s)
    (h : (s 120 0 ≤ x3 → G 120 140 214 9 [(3, 120), (1, x1), (1, wr (x2 + 1)), (1, x3)] [] (n, s) Q) ∧ (x3 < s 120 0 → (0 ≤ x2 ∧ x2 < 6) ∧ ((rgP (vw 121 s) x2.toNat) ∧ ((0 ≤ vw 121 s 2 x2.toNat ∧ vw 121 s 2 x2.toNat ≤ 2000) ∧ ((0 ≤ vw 121 s 4 x2.toNat ∧ vw 121 s 4 x2.toNat ≤ 99) ∧ ((0 ≤ x3 ∧ x3 < 6) ∧ ((rgP (vw 121 s) x3.toNat) ∧ ((0 ≤ vw 121 s 2 x3.toNat ∧ vw 121 s 2 x3.toNat ≤ 2000) ∧ ((0 ≤ vw 121 s 4 x3.toNat ∧ vw 121 s 4 x3.toNat ≤ 99) ∧ ((lsW (vw 121 s) x2.toNat ≠ lsW (vw 121 s) x3.toNat → G 120 140 214 21 [(3, 120), (1, wr (x1 + 0)), (1, x2), (1, wr (x3 + 1))] [] (n, s) Q) ∧ (lsW (vw 121 s) x2.toNat = lsW (vw 121 s) x3.toNat → G 120 140 214 21 [(3, 120), (1, wr (x1 + 1)), (1, x2), (1, wr (x3 + 1))] [] (n, s) Q))))))))))) :
    G 120 140 214 21 [(3, 120), (1, x1), (1, x2), (1, x3)] [] (n, s) Q := by
  refine G_go rfl rfl ?_
  refine G_go rfl rfl ?_
  refine G_rd rfl rfl (by decide) ?_
  refine G_ge rfl rfl (fun c1 => ?_) (fun c1 => ?_)
  · have h := h.1 c1
    refine G_go rfl rfl ?_
    refine G_go rfl rfl ?_
    exact h
  · have h := h.2 c1
    refine G_go rfl rfl ?_
    refine G_go rfl rfl ?_
    refine G_go rfl rfl ?_
    refine G_call rfl rfl ?_
    obtain ⟨g2, h⟩ := h
    obtain ⟨g3, h⟩ := h
    obtain ⟨g4, h⟩ := h
    obtain ⟨g5, h⟩ := h
    refine c_X7_lastsOf n _ _ x2 hR g2 g3 g4 g5 ?_
    refine G_go rfl rfl ?_
    refine G_go rfl rfl ?_
    refine G_call rfl rfl ?_
    obtain ⟨g6, h⟩ := h
    obtain ⟨g7, h⟩ := h
    obtain ⟨g8, h⟩ := h
    obtain ⟨g9, h⟩ := h
    refine c_X7_lastsOf n _ _ x3 hR g6 g7 g8 g9 ?_
    refine G_ne rfl rfl (fun c10 => ?_) (fun c10 => ?_)
    · have h := h.1 c10
      refine G_go rfl rfl ?_
      refine G_go rfl rfl ?_
      refine G_go rfl rfl ?_
      show G 120 140 214 50 [(3, 120), (1, wr (x1 + 0)), (1, x2), (1, x3)] [] (n, s) Q
      refine G_go rfl rfl ?_
      refine G_go rfl rfl ?_
      exact h
    · have h := h.2 c10
      refine G_go rfl rfl ?_
      refine G_go rfl rfl ?_
      refine G_go rfl rfl ?_
      refine G_go rfl rfl ?_
      show G 120 140 214 50 [(3, 120), (1, wr (x1 + 1)), (1, x2), (1, x3)] [] (n, s) Q
      refine G_go rfl rfl ?_
      refine G_go rfl rfl ?_
      exact h
def saF (t : Nat → Nat → Int) (i k : Nat) (b : Int) : Int := if lsW (vw 121 t) i = lsW (vw 121 t) (i + 1 + k) then wr (b + 1) else wr (b + 0)
def saO (t : Nat → Nat → Int) (i : Nat) (b : Int) : Int := itr (saF t i) b ((t 120 0).toNat - (i + 1))
theorem saF_in {t : Nat → Nat → Int} {i : Nat} (k : Nat) (b : Int) : inI (k + 1) (saF t i k b) := by
  unfold saF
  split
  · exact wr_in _
  · exact wr_in _
theorem saO_in {t : Nat → Nat → Int} (k : Nat) (b : Int) (hb : inI k b) : inI (k + 1) (saO t k b) :=
  itr_inv inI hb _ (fun k b _ _ => saF_in k b)
theorem cl_same_in (n : Nat) (s t : Nat → Nat → Int) (h : REL s t) (Q : List Vl → Sto → Prop) (i : Nat) (hi : i < (t 120 0).toNat) (b0 : Int) (hb0 : inI i b0) (hq : ∀ w, G 2 120 123 4 [(3, 2), (1, saO t i b0), (1, ((i + 1 : Nat) : Int)), w] [] (n, s) Q) : G 2 120 123 19 [(3, 2), (1, b0), (1, (i : Int)), (1, ((i + 1 : Nat) : Int))] [] (n, s) Q := by
  obtain ⟨hn1, hn2, hn3, hn4⟩ := h.np
  refine G_up ((t 120 0).toNat - (i + 1)) (fun k b => G 2 120 123 19 [(3, 2), (1, b), (1, (i : Int)), (1, ((i + 1 + k : Nat) : Int))] [] (n, s) Q) (saF t i) inI b0 hb0 (fun k b _ _ => saF_in k b) (fun k b hk hb hg => ?_) (fun _ => ?_)
  · have hp : (i : Int) < t 120 0 := by omega
    have hj : ((i + 1 + k : Nat) : Int) < t 120 0 := by omega
    obtain ⟨g1, g2, g3, g4, g5, g6⟩ := h.rg i hp
    obtain ⟨j1, j2, j3, j4, j5, j6⟩ := h.rg (i + 1 + k) hj
    have e : ((i + 1 + (k + 1) : Nat) : Int) = wr (((i + 1 + k : Nat) : Int) + 1) := (wr_s (show i + 1 + k < 6 by omega) (by omega)).symm
    rw [e] at hg
    clear e
    refine sb_X6_same_19 n s Q b i _ h.1 ⟨fun e => by omega, fun _ => ?_⟩
    rw [Int.toNat_natCast, Int.toNat_natCast]
    have e1 : lsV (vw 4 s) i (s 6 i) = lsW (vw 121 t) i := by
      rw [h.ls i hp, (h.s i hp).2.2.1]
      rfl
    have e2 : lsV (vw 4 s) (i + 1 + k) (s 6 (i + 1 + k)) = lsW (vw 121 t) (i + 1 + k) := by
      rw [h.ls _ hj, (h.s _ hj).2.2.1]
      rfl
    rw [e1, e2]
    refine ⟨by omega, g1, g3, g5, by omega, j1, j3, j5, fun c => ?_, fun c => ?_⟩
    · rw [show saF t i k b = wr (b + 0) from if_neg c, wr_0 hb] at hg
      exact hg
    · rw [show saF t i k b = wr (b + 1) from if_pos c] at hg
      exact hg
  · refine sb_X6_same_19 n s Q _ i _ h.1 ⟨fun _ => ?_, fun e => by omega⟩
    rw [show wr ((i : Int) + 1) = ((i + 1 : Nat) : Int) from wr_s hi (by omega)]
    exact hq _
theorem cl_same (n : Nat) (s t : Nat → Nat → Int) (h : REL s t) (Q : List Vl → Sto → Prop) (hq : Q [(1, itr (saO t) 0 (t 120 0).toNat)] (n, s)) : G 2 120 123 4 [(3, 2), (1, 0), (1, 0), (0, 0)] [] (n, s) Q := by
  obtain ⟨hn1, hn2, hn3, hn4⟩ := h.np
  refine G_up (t 120 0).toNat (fun k b => ∀ w, G 2 120 123 4 [(3, 2), (1, b), (1, (k : Int)), w] [] (n, s) Q) (saO t) inI 0 (by unfold inI; omega) (fun k b _ hb => saO_in k b hb) (fun k b hk hb hg w => ?_) (fun _ w => ?_) (0, 0)
  · refine sb_X6_same_4 n s Q b k w h.1 ⟨fun e => by omega, fun _ => ?_⟩
    rw [wr_s hk (by omega)]
    exact cl_same_in n s t h Q k hk b hb hg
  · exact sb_X6_same_4 n s Q _ _ w h.1 ⟨fun _ => hq, fun e => by omega⟩
theorem rl_same_in (n : Nat) (s t : Nat → Nat → Int) (h : REL s t) (Q : List Vl → Sto → Prop) (i : Nat) (hi : i < (t 120 0).toNat) (b0 : Int) (hb0 : inI i b0) (hq : ∀ w, G 120 140 214 9 [(3, 120), (1, saO t i b0), (1, ((i + 1 : Nat) : Int)), w] [] (n, t) Q) : G 120 140 214 21 [(3, 120), (1, b0), (1, (i : Int)), (1, ((i + 1 : Nat) : Int))] [] (n, t) Q := by
  obtain ⟨hn1, hn2, hn3, hn4⟩ := h.np
  refine G_up ((t 120 0).toNat - (i + 1)) (fun k b => G 120 140 214 21 [(3, 120), (1, b), (1, (i : Int)), (1, ((i + 1 + k : Nat) : Int))] [] (n, t) Q) (saF t i) inI b0 hb0 (fun k b _ _ => saF_in k b) (fun k b hk hb hg => ?_) (fun _ => ?_)
  · have hp : (i : Int) < t 120 0 := by omega
    have hj : ((i + 1 + k : Nat) : Int) < t 120 0 := by omega
    obtain ⟨g1, g2, g3, g4, g5, g6⟩ := h.rg i hp
    obtain ⟨j1, j2, j3, j4, j5, j6⟩ := h.rg (i + 1 + k) hj
    have e : ((i + 1 + (k + 1) : Nat) : Int) = wr (((i + 1 + k : Nat) : Int) + 1) := (wr_s (show i + 1 + k < 6 by omega) (by omega)).symm
    rw [e] at hg
    clear e
    refine sb_X7_same_21 n t Q b i _ h.2.1 ⟨fun e => by omega, fun _ => ?_⟩
    rw [Int.toNat_natCast, Int.toNat_natCast]
    refine ⟨by omega, g2, g4, g6, by omega, j2, j4, j6, fun c => ?_, fun c => ?_⟩
    · rw [show saF t i k b = wr (b + 0) from if_neg c] at hg
      exact hg
    · rw [show saF t i k b = wr (b + 1) from if_pos c] at hg
      exact hg
  · refine sb_X7_same_21 n t Q _ i _ h.2.1 ⟨fun _ => ?_, fun e => by omega⟩
    rw [show wr ((i : Int) + 1) = ((i + 1 : Nat) : Int) from wr_s hi (by omega)]
    exact hq _
theorem rl_same (n : Nat) (s t : Nat → Nat → Int) (h : REL s t) (Q : List Vl → Sto → Prop) (hq : Q [(1, itr (saO t) 0 (t 120 0).toNat)] (n, t)) : G 120 140 214 9 [(3, 120), (1, 0), (1, 0), (0, 0)] [] (n, t) Q := by
  obtain ⟨hn1, hn2, hn3, hn4⟩ := h.np
  refine G_up (t 120 0).toNat (fun k b => ∀ w, G 120 140 214 9 [(3, 120), (1, b), (1, (k : Int)), w] [] (n, t) Q) (saO t) inI 0 (by unfold inI; omega) (fun k b _ hb => saO_in k b hb) (fun k b hk hb hg w => ?_) (fun _ w => ?_) (0, 0)
  · refine sb_X7_same_9 n t Q b k w h.2.1 ⟨fun e => by omega, fun _ => ?_⟩
    rw [wr_s hk (by omega)]
    exact rl_same_in n s t h Q k hk b hb hg
  · exact sb_X7_same_9 n t Q _ _ w h.2.1 ⟨fun _ => hq, fun e => by omega⟩
theorem op_same (n : Nat) (s t : Nat → Nat → Int) (h : REL s t) : G 2 120 123 0 [(3, 2), (0, 0), (0, 0), (0, 0)] [] (n, s) (fun r s1 => G 120 140 214 0 [(3, 120), (0, 0), (0, 0), (0, 0)] [] (n, t) (Post n r s1)) :=
  sb_X6_same_0 n s _ h.1 (cl_same n s _ h.up _ (sb_X7_same_0 n t _ h.2.1 (rl_same n s _ h.up _ (post_same h rfl))))

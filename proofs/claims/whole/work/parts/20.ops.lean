theorem sb_X6_borrow_0 (n : Nat) (s : Nat → Nat → Int) (Q : List Vl → Sto → Prop) (a0 : Int) (hR : refs s)
    (h : (a0 < 0 → Q [(1, 1000000001)] (n, upS s 119 1 (wr ((s 119 1) + 1)))) ∧ (0 ≤ a0 → (s 3 9 ≤ a0 → Q [(1, 1000000001)] (n, upS s 119 1 (wr ((s 119 1) + 1)))) ∧ (a0 < s 3 9 → (0 ≤ a0 ∧ a0 < 6) ∧ ((rgP (vw 4 s) a0.toNat) ∧ ((0 ≤ s 6 a0.toNat ∧ s 6 a0.toNat ≤ 2000) ∧ ((0 ≤ vw 4 s 4 a0.toNat ∧ vw 4 s 4 a0.toNat ≤ 99) ∧ ((0 ≤ min 999 (wr ((s 6 a0.toNat) + 10)) ∧ min 999 (wr ((s 6 a0.toNat) + 10)) ≤ 2000) ∧ (Q [(1, wr ((lsV (vw 4 s) a0.toNat (s 6 a0.toNat)) - (lsV (vw 4 s) a0.toNat (min 999 (wr ((s 6 a0.toNat) + 10))))))] (n, s))))))))) :
    G 2 120 72 0 [(3, 2), (1, a0), (0, 0)] [] (n, s) Q := by
  refine G_go rfl rfl ?_
  refine G_go rfl rfl ?_
  refine G_call rfl rfl ?_
  refine G_go rfl rfl ?_
  refine G_rf rfl rfl (by decide) (hR 2 0 3 rfl) ?_
  refine G_go rfl rfl ?_
  refine G_call rfl rfl ?_
  refine G_go rfl rfl ?_
  refine G_lt rfl rfl (fun c1 => ?_) (fun c1 => ?_)
  · have h := h.1 c1
    refine G_go rfl rfl ?_
    refine G_ret rfl rfl ?_
    refine G_brT rfl rfl rfl ?_
    refine G_go rfl rfl ?_
    refine G_ret rfl rfl ?_
    refine G_go rfl rfl ?_
    refine G_go rfl rfl ?_
    refine G_brF rfl rfl rfl ?_
    refine G_go rfl rfl ?_
    refine G_go rfl rfl ?_
    refine G_go rfl rfl ?_
    refine G_call rfl rfl ?_
    refine G_go rfl rfl ?_
    refine G_go rfl rfl ?_
    refine G_go rfl rfl ?_
    refine G_go rfl rfl ?_
    refine G_brF rfl rfl rfl ?_
    refine G_go rfl rfl ?_
    refine G_go rfl rfl ?_
    refine G_rf rfl rfl (by decide) (hR 2 7 119 rfl) ?_
    refine G_go rfl rfl ?_
    refine G_brF rfl rfl rfl ?_
    refine G_go rfl rfl ?_
    refine G_rf rfl rfl (by decide) (hR 2 7 119 rfl) ?_
    refine G_go rfl rfl ?_
    refine G_go rfl rfl ?_
    refine G_ir (n := 7) rfl rfl (by decide) (by decide) (by decide) ?_
    refine G_go rfl rfl ?_
    refine G_go rfl rfl ?_
    refine G_iw (n := 7) rfl rfl (by decide) (by decide) (by decide) ?_
    have hR := refs_up (a := 119) (k := 1) (x := wr ((s 119 1) + 1)) hR rfl
    refine G_go rfl rfl ?_
    refine G_ret rfl rfl ?_
    refine G_go rfl rfl ?_
    exact G_ret rfl rfl h
  · have h := h.2 c1
    refine G_go rfl rfl ?_
    refine G_go rfl rfl ?_
    refine G_rd rfl rfl (by decide) ?_
    refine G_ge rfl rfl (fun c2 => ?_) (fun c2 => ?_)
    · have h := h.1 c2
      refine G_go rfl rfl ?_
      refine G_ret rfl rfl ?_
      refine G_brT rfl rfl rfl ?_
      refine G_go rfl rfl ?_
      refine G_ret rfl rfl ?_
      refine G_go rfl rfl ?_
      refine G_go rfl rfl ?_
      refine G_brF rfl rfl rfl ?_
      refine G_go rfl rfl ?_
      refine G_go rfl rfl ?_
      refine G_go rfl rfl ?_
      refine G_call rfl rfl ?_
      refine G_go rfl rfl ?_
      refine G_go rfl rfl ?_
      refine G_go rfl rfl ?_
      refine G_go rfl rfl ?_
      refine G_brF rfl rfl rfl ?_
      refine G_go rfl rfl ?_
      refine G_go rfl rfl ?_
      refine G_rf rfl rfl (by decide) (hR 2 7 119 rfl) ?_
      refine G_go rfl rfl ?_
      refine G_brF rfl rfl rfl ?_
      refine G_go rfl rfl ?_
      refine G_rf rfl rfl (by decide) (hR 2 7 119 rfl) ?_
      refine G_go rfl rfl ?_
      refine G_go rfl rfl ?_
      refine G_ir (n := 7) rfl rfl (by decide) (by decide) (by decide) ?_
      refine G_go rfl rfl ?_
      refine G_go rfl rfl ?_
      refine G_iw (n := 7) rfl rfl (by decide) (by decide) (by decide) ?_
      have hR := refs_up (a := 119) (k := 1) (x := wr ((s 119 1) + 1)) hR rfl
      refine G_go rfl rfl ?_
      refine G_ret rfl rfl ?_
      refine G_go rfl rfl ?_
      exact G_ret rfl rfl h
    · have h := h.2 c2
      refine G_go rfl rfl ?_
      refine G_go rfl rfl ?_
      refine G_ret rfl rfl ?_
      refine G_brF rfl rfl rfl ?_
      refine G_go rfl rfl ?_
      refine G_go rfl rfl ?_
      refine G_ret rfl rfl ?_
      refine G_go rfl rfl ?_
      refine G_go rfl rfl ?_
      refine G_brT rfl rfl rfl ?_
      refine G_go rfl rfl ?_
      refine G_rf rfl rfl (by decide) (hR 2 0 3 rfl) ?_
      refine G_go rfl rfl ?_
      refine G_call rfl rfl ?_
      refine G_go rfl rfl ?_
      refine G_go rfl rfl ?_
      refine G_go rfl rfl ?_
      refine G_rf rfl rfl (by decide) (hR 3 2 6 rfl) ?_
      refine G_go rfl rfl ?_
      obtain ⟨g3, h⟩ := h
      refine G_ir (n := 6) rfl rfl (by decide) (by decide) g3 ?_
      refine G_call rfl rfl ?_
      obtain ⟨g4, h⟩ := h
      obtain ⟨g5, h⟩ := h
      obtain ⟨g6, h⟩ := h
      refine c_X5_lastsHolding_3 n _ _ a0 (s 6 a0.toNat) hR g3 g4 g5 g6 ?_
      refine G_ret rfl rfl ?_
      refine G_go rfl rfl ?_
      refine G_rf rfl rfl (by decide) (hR 2 0 3 rfl) ?_
      refine G_go rfl rfl ?_
      refine G_go rfl rfl ?_
      refine G_call rfl rfl ?_
      refine G_go rfl rfl ?_
      refine G_go rfl rfl ?_
      refine G_go rfl rfl ?_
      refine G_go rfl rfl ?_
      refine G_go rfl rfl ?_
      refine G_call rfl rfl ?_
      refine G_go rfl rfl ?_
      refine G_go rfl rfl ?_
      refine G_rf rfl rfl (by decide) (hR 3 2 6 rfl) ?_
      refine G_go rfl rfl ?_
      refine G_ir (n := 6) rfl rfl (by decide) (by decide) g3 ?_
      refine G_go rfl rfl ?_
      refine G_go rfl rfl ?_
      refine G_min rfl rfl ?_
      refine G_ret rfl rfl ?_
      refine G_call rfl rfl ?_
      obtain ⟨g7, h⟩ := h
      refine c_X5_lastsHolding_3 n _ _ a0 (min 999 (wr ((s 6 a0.toNat) + 10))) hR g3 g4 g7 g6 ?_
      refine G_ret rfl rfl ?_
      refine G_go rfl rfl ?_
      exact G_ret rfl rfl h
theorem sb_X7_borrow_0 (n : Nat) (s : Nat → Nat → Int) (Q : List Vl → Sto → Prop) (a0 : Int) (hR : refs s)
    (h : (a0 < 0 → Q [(1, 1000000001)] (n, upS (upS s 120 10 0) 129 1 (wr ((s 129 1) + 1)))) ∧ (a0 ≥ 0 → (a0 > wr ((s 120 0) - 1) → Q [(1, 1000000001)] (n, upS (upS s 120 10 0) 129 1 (wr ((s 129 1) + 1)))) ∧ (a0 ≤ wr ((s 120 0) - 1) → (0 ≤ a0 ∧ a0 < 6) ∧ ((rgP (vw 121 (upS s 120 10 0)) a0.toNat) ∧ ((0 ≤ vw 121 (upS s 120 10 0) 2 a0.toNat ∧ vw 121 (upS s 120 10 0) 2 a0.toNat ≤ 2000) ∧ ((0 ≤ vw 121 (upS s 120 10 0) 4 a0.toNat ∧ vw 121 (upS s 120 10 0) 4 a0.toNat ≤ 99) ∧ ((rgP (vw 121 (upS (upS s 120 10 0) 123 a0.toNat (min 999 (wr ((s 123 a0.toNat) + 10))))) a0.toNat) ∧ ((0 ≤ vw 121 (upS (upS s 120 10 0) 123 a0.toNat (min 999 (wr ((s 123 a0.toNat) + 10)))) 2 a0.toNat ∧ vw 121 (upS (upS s 120 10 0) 123 a0.toNat (min 999 (wr ((s 123 a0.toNat) + 10)))) 2 a0.toNat ≤ 2000) ∧ ((0 ≤ vw 121 (upS (upS s 120 10 0) 123 a0.toNat (min 999 (wr ((s 123 a0.toNat) + 10)))) 4 a0.toNat ∧ vw 121 (upS (upS s 120 10 0) 123 a0.toNat (min 999 (wr ((s 123 a0.toNat) + 10)))) 4 a0.toNat ≤ 99) ∧ (Q [(1, wr ((lsW (vw 121 (upS s 120 10 0)) a0.toNat) - (lsW (vw 121 (upS (upS s 120 10 0) 123 a0.toNat (min 999 (wr ((s 123 a0.toNat) + 10))))) a0.toNat)))] (n, upS (upS (upS s 120 10 0) 123 a0.toNat (min 999 (wr ((s 123 a0.toNat) + 10)))) 123 a0.toNat (s 123 a0.toNat)))))))))))) :
    G 120 140 162 0 [(3, 120), (1, a0), (0, 0), (0, 0), (0, 0)] [] (n, s) Q := by
  refine G_go rfl rfl ?_
  refine G_go rfl rfl ?_
  refine G_wr rfl rfl (by decide) ?_
  have hR := refs_up (a := 120) (k := 10) (x := 0) hR rfl
  refine G_go rfl rfl ?_
  refine G_go rfl rfl ?_
  refine G_call rfl rfl ?_
  refine G_go rfl rfl ?_
  refine G_go rfl rfl ?_
  refine G_go rfl rfl ?_
  refine G_go rfl rfl ?_
  refine G_rd rfl rfl (by decide) ?_
  refine G_go rfl rfl ?_
  refine G_go rfl rfl ?_
  refine G_go rfl rfl ?_
  refine G_call rfl rfl ?_
  refine G_go rfl rfl ?_
  refine G_go rfl rfl ?_
  refine G_go rfl rfl ?_
  refine G_lt rfl rfl (fun c1 => ?_) (fun c1 => ?_)
  · have c1 := xl_lt c1
    have h := h.1 c1
    refine G_go rfl rfl ?_
    refine G_ret rfl rfl ?_
    refine G_ret rfl rfl ?_
    refine G_brF rfl rfl rfl ?_
    refine G_go rfl rfl ?_
    refine G_go rfl rfl ?_
    refine G_go rfl rfl ?_
    refine G_call rfl rfl ?_
    refine G_go rfl rfl ?_
    refine G_rf rfl rfl (by decide) (hR 120 11 129 rfl) ?_
    refine G_go rfl rfl ?_
    refine G_go rfl rfl ?_
    refine G_go rfl rfl ?_
    refine G_ir (n := 7) rfl rfl (by decide) (by decide) (by decide) ?_
    refine G_go rfl rfl ?_
    refine G_go rfl rfl ?_
    refine G_iw (n := 7) rfl rfl (by decide) (by decide) (by decide) ?_
    have hR := refs_up (a := 129) (k := 1) (x := wr ((s 129 1) + 1)) hR rfl
    refine G_go rfl rfl ?_
    refine G_ret rfl rfl ?_
    refine G_go rfl rfl ?_
    exact G_ret rfl rfl h
  · have c1 := xl_ge c1
    have h := h.2 c1
    refine G_go rfl rfl ?_
    refine G_go rfl rfl ?_
    refine G_go rfl rfl ?_
    refine G_gt rfl rfl (fun c2 => ?_) (fun c2 => ?_)
    · have c2 := xl_gt c2
      have h := h.1 c2
      refine G_go rfl rfl ?_
      refine G_ret rfl rfl ?_
      refine G_ret rfl rfl ?_
      refine G_brF rfl rfl rfl ?_
      refine G_go rfl rfl ?_
      refine G_go rfl rfl ?_
      refine G_go rfl rfl ?_
      refine G_call rfl rfl ?_
      refine G_go rfl rfl ?_
      refine G_rf rfl rfl (by decide) (hR 120 11 129 rfl) ?_
      refine G_go rfl rfl ?_
      refine G_go rfl rfl ?_
      refine G_go rfl rfl ?_
      refine G_ir (n := 7) rfl rfl (by decide) (by decide) (by decide) ?_
      refine G_go rfl rfl ?_
      refine G_go rfl rfl ?_
      refine G_iw (n := 7) rfl rfl (by decide) (by decide) (by decide) ?_
      have hR := refs_up (a := 129) (k := 1) (x := wr ((s 129 1) + 1)) hR rfl
      refine G_go rfl rfl ?_
      refine G_ret rfl rfl ?_
      refine G_go rfl rfl ?_
      exact G_ret rfl rfl h
    · have c2 := xl_le c2
      have h := h.2 c2
      refine G_go rfl rfl ?_
      refine G_go rfl rfl ?_
      refine G_ret rfl rfl ?_
      refine G_ret rfl rfl ?_
      refine G_brT rfl rfl rfl ?_
      refine G_go rfl rfl ?_
      refine G_go rfl rfl ?_
      refine G_call rfl rfl ?_
      obtain ⟨g3, h⟩ := h
      obtain ⟨g4, h⟩ := h
      obtain ⟨g5, h⟩ := h
      obtain ⟨g6, h⟩ := h
      refine c_X7_lastsOf n _ _ a0 hR g3 g4 g5 g6 ?_
      refine G_go rfl rfl ?_
      refine G_go rfl rfl ?_
      refine G_rf rfl rfl (by decide) (hR 120 3 123 rfl) ?_
      refine G_go rfl rfl ?_
      refine G_ir (n := 6) rfl rfl (by decide) (by decide) g3 ?_
      refine G_go rfl rfl ?_
      refine G_go rfl rfl ?_
      refine G_rf rfl rfl (by decide) (hR 120 3 123 rfl) ?_
      refine G_go rfl rfl ?_
      refine G_go rfl rfl ?_
      refine G_go rfl rfl ?_
      refine G_go rfl rfl ?_
      refine G_go rfl rfl ?_
      refine G_call rfl rfl ?_
      refine c_X7_least n _ _ 999 (wr ((s 123 a0.toNat) + 10)) hR ?_
      refine G_iw (n := 6) rfl rfl (by decide) (by decide) g3 ?_
      have hR := refs_up (a := 123) (k := a0.toNat) (x := min 999 (wr ((s 123 a0.toNat) + 10))) hR rfl
      refine G_go rfl rfl ?_
      refine G_go rfl rfl ?_
      refine G_call rfl rfl ?_
      obtain ⟨g7, h⟩ := h
      obtain ⟨g8, h⟩ := h
      obtain ⟨g9, h⟩ := h
      refine c_X7_lastsOf n _ _ a0 hR g3 g7 g8 g9 ?_
      refine G_go rfl rfl ?_
      refine G_go rfl rfl ?_
      refine G_rf rfl rfl (by decide) (hR 120 3 123 rfl) ?_
      refine G_go rfl rfl ?_
      refine G_go rfl rfl ?_
      refine G_iw (n := 6) rfl rfl (by decide) (by decide) g3 ?_
      have hR := refs_up (a := 123) (k := a0.toNat) (x := s 123 a0.toNat) hR rfl
      refine G_go rfl rfl ?_
      refine G_go rfl rfl ?_
      refine G_go rfl rfl ?_
      exact G_ret rfl rfl h
/-! APART -/
def apF (t : Nat → Nat → Int) (k : Nat) (b : Int × Int) : Int × Int := if k = 0 then (wlW (vw 121 t) k, wlW (vw 121 t) k) else (max b.1 (wlW (vw 121 t) k), min b.2 (wlW (vw 121 t) k))
def apV (t : Nat → Nat → Int) : Int := wr ((itr (apF t) (0, 0) (t 120 0).toNat).1 - (itr (apF t) (0, 0) (t 120 0).toNat).2)
theorem cl_apart (n : Nat) (s t : Nat → Nat → Int) (h : REL s t) (Q : List Vl → Sto → Prop) (hq : Q [(1, apV t)] (n, s)) : G 2 120 64 0 [(3, 2), (0, 0), (0, 0), (0, 0)] [] (n, s) Q := by
  obtain ⟨hn1, hn2, hn3, hn4⟩ := h.np
  refine sb_X6_apart_0 n s Q h.1 ⟨fun c => ?_, fun c => ?_⟩
  · have hp : ((0 : Nat) : Int) < t 120 0 := by omega
    obtain ⟨⟨g1, g2⟩, _, g3, g4, g5, g6⟩ := h.rg 0 hp
    refine ⟨g1, g3, g2, ?_⟩
    rw [h.wl 0 hp]
    obtain ⟨N, hN⟩ : ∃ N, (t 120 0).toNat = N + 1 := ⟨(t 120 0).toNat - 1, by omega⟩
    refine G_up N (fun k b => G 2 120 64 25 [(3, 2), (1, b.1), (1, b.2), (1, ((k + 1 : Nat) : Int))] [] (n, s) Q) (fun k b => apF t (k + 1) b) (fun _ _ => True) (wlW (vw 121 t) 0, wlW (vw 121 t) 0) trivial (fun _ _ _ _ => trivial) (fun k b hk _ hg => ?_) (fun _ => ?_)
    · have hp : ((k + 1 : Nat) : Int) < t 120 0 := by omega
      obtain ⟨⟨g1, g2⟩, _, g3, g4, g5, g6⟩ := h.rg (k + 1) hp
      rw [← wr_s (show k + 1 < N + 1 by omega) (by omega)] at hg
      refine sb_X6_apart_25 n s Q _ _ _ h.1 ⟨fun e => by omega, fun _ => ?_⟩
      rw [Int.toNat_natCast, h.wl (k + 1) hp]
      refine ⟨by omega, g1, g3, g2, ?_⟩
      exact hg
    · refine sb_X6_apart_25 n s Q _ _ _ h.1 ⟨fun _ => ?_, fun e => by omega⟩
      have e : ∀ M, itr (fun k b => apF t (k + 1) b) (wlW (vw 121 t) 0, wlW (vw 121 t) 0) M = itr (apF t) (0, 0) (M + 1) := by
        intro M
        induction M with
        | zero => rfl
        | succ M ih => show apF t (M + 1) _ = apF t (M + 1) _; rw [ih]
      rw [e N]
      unfold apV at hq
      rw [hN] at hq
      exact hq
  · unfold apV at hq
    rw [show (t 120 0).toNat = 0 by omega] at hq
    exact Qe hq (show (0 : Int) = wr (0 - 0) by decide)
theorem rl_apart (n : Nat) (s t : Nat → Nat → Int) (h : REL s t) (Q : List Vl → Sto → Prop) (hq : Q [(1, apV t)] (n, t)) : G 120 140 154 11 [(3, 120), (1, 0), (1, 0), (1, 0), (0, 0)] [] (n, t) Q := by
  obtain ⟨hn1, hn2, hn3, hn4⟩ := h.np
  refine G_up (t 120 0).toNat (fun k b => ∀ w, G 120 140 154 11 [(3, 120), (1, b.1), (1, b.2), (1, (k : Int)), w] [] (n, t) Q) (apF t) (fun _ _ => True) (0, 0) trivial (fun _ _ _ _ => trivial) (fun k b hk _ hg w => ?_) (fun _ w => ?_) (0, 0)
  · have hp : (k : Int) < t 120 0 := by omega
    obtain ⟨_, g2, _, g4, g5, g6⟩ := h.rg k hp
    rw [← wr_s hk (by omega)] at hg
    refine sb_X7_apart_11 n t Q _ _ k w h.2.1 ⟨fun e => by omega, fun _ => ?_⟩
    rw [Int.toNat_natCast]
    refine ⟨by omega, g2, g4, fun c => ?_, fun c => ⟨fun d => ⟨fun e => ?_, fun e => ?_⟩, fun d => ⟨fun e => ?_, fun e => ?_⟩⟩⟩
    · rw [show apF t k b = _ from if_pos (by omega)] at hg
      exact hg _
    all_goals rw [show apF t k b = _ from if_neg (by omega)] at hg
    · rw [show max b.1 (wlW (vw 121 t) k) = b.1 by omega, show min b.2 (wlW (vw 121 t) k) = b.2 by omega] at hg
      exact hg _
    · rw [show max b.1 (wlW (vw 121 t) k) = b.1 by omega, show min b.2 (wlW (vw 121 t) k) = wlW (vw 121 t) k by omega] at hg
      exact hg _
    · rw [show max b.1 (wlW (vw 121 t) k) = wlW (vw 121 t) k by omega, show min b.2 (wlW (vw 121 t) k) = b.2 by omega] at hg
      exact hg _
    · rw [show max b.1 (wlW (vw 121 t) k) = wlW (vw 121 t) k by omega, show min b.2 (wlW (vw 121 t) k) = wlW (vw 121 t) k by omega] at hg
      exact hg _
  · exact sb_X7_apart_11 n t Q _ _ _ w h.2.1 ⟨fun _ => hq, fun e => by omega⟩
theorem op_apart (n : Nat) (s t : Nat → Nat → Int) (h : REL s t) : G 2 120 64 0 [(3, 2), (0, 0), (0, 0), (0, 0)] [] (n, s) (fun r s1 => G 120 140 154 0 [(3, 120), (0, 0), (0, 0), (0, 0), (0, 0)] [] (n, t) (Post n r s1)) :=
  cl_apart n s _ h.up _ (sb_X7_apart_0 n t _ h.2.1 (rl_apart n s _ h.up _ (post_same h rfl)))
/-! BORROW -/
theorem lsV_c {V : Nat → Nat → Int} {p : Nat} {s : Nat → Nat → Int} {x : Int} (e : V = vw 121 s) : lsW (vw 121 (upS s 123 p x)) p = lsV V p x := by
  subst e
  unfold lsW lsV bnV vw upS
  simp
theorem rgP_c {p : Nat} {s : Nat → Nat → Int} {x : Int} (g : rgP (vw 121 s) p) : rgP (vw 121 (upS s 123 p x)) p := by
  unfold rgP vw upS at *
  simpa using g
theorem upS_back {s : Nat → Nat → Int} {a p : Nat} {x y : Int} (e : y = s a p) : upS (upS s a p x) a p y = s := by
  funext i j
  simp only [upS]
  by_cases c : i = a ∧ j = p
  · obtain ⟨rfl, rfl⟩ := c
    simp [e]
  · by_cases c1 : i = a <;> by_cases c2 : j = p <;> simp_all
theorem op_borrow (n : Nat) (s t : Nat → Nat → Int) (h : REL s t) (a0 : Int) : G 2 120 72 0 [(3, 2), (1, a0), (0, 0)] [] (n, s) (fun r s1 => G 120 140 162 0 [(3, 120), (1, a0), (0, 0), (0, 0), (0, 0)] [] (n, t) (Post n r s1)) := by
  obtain ⟨hn1, hn2, hn3, hn4⟩ := h.np
  have hw : wr (t 120 0 - 1) = t 120 0 - 1 := wr_id (by omega) (by omega)
  have h1 : ∀ z : Int, 0 ≤ z → z < t 120 0 → ∃ p : Nat, z = p ∧ (p : Int) < t 120 0 := fun z h1 h2 => ⟨z.toNat, by omega, by omega⟩
  refine sb_X6_borrow_0 n s _ a0 h.1 ⟨fun c => ?_, fun c => ⟨fun d => ?_, fun d => ?_⟩⟩
  · refine sb_X7_borrow_0 n t _ a0 h.2.1 ⟨fun c => post_ref h 1 (by decide), fun e => by omega⟩
  · refine sb_X7_borrow_0 n t _ a0 h.2.1 ⟨fun c => by omega, fun e => ⟨fun f => post_ref h 1 (by decide), fun f => by omega⟩⟩
  · obtain ⟨p, rfl, hp⟩ := h1 a0 c (by omega)
    obtain ⟨g1, g2, g3, g4, g5, g6⟩ := h.rg p hp
    have ht := h.t p hp
    have hs := h.s p hp
    rw [Int.toNat_natCast, wr_id (by omega) (by omega)]
    refine ⟨by omega, g1, g3, g5, by omega, ?_⟩
    refine sb_X7_borrow_0 n t _ _ h.2.1 ⟨fun c => by omega, fun e => ⟨fun f => by omega, fun f => ?_⟩⟩
    rw [Int.toNat_natCast, wr_id (by omega) (by omega)]
    rw [upS_back (s := upS t 120 10 0) (show t 123 p = upS t 120 10 0 123 p from rfl), lsV_c rfl, vw_120]
    refine ⟨by omega, g2, g4, g6, rgP_c (by rw [vw_120]; exact g2), ?_, ?_, ?_⟩
    · show 0 ≤ upS (upS t 120 10 0) 123 p (min 999 (t 123 p + 10)) 123 p ∧ upS (upS t 120 10 0) 123 p (min 999 (t 123 p + 10)) 123 p ≤ 2000
      simp [upS]
      omega
    · show 0 ≤ upS (upS t 120 10 0) 123 p (min 999 (t 123 p + 10)) 125 p ∧ upS (upS t 120 10 0) 123 p (min 999 (t 123 p + 10)) 125 p ≤ 99
      simp [upS]
      omega
    · refine post_same h ?_
      rw [h.ls p hp, hs.2.2.1]
      rfl


/-! ONE GIVES ANOTHER, IN MIND -/
theorem sb_X7_lastsBy_0 (n : Nat) (s : Nat → Nat → Int) (Q : List Vl → Sto → Prop) (a0 : Int) (a1 : Int) (a2 : Int) (a3 : Int) (hR : refs s)
    (h : (0 ≤ a0 ∧ a0 < 6) ∧ ((0 ≤ a1 ∧ a1 < 6) ∧ ((rgP (vw 121 (upS (upS s 123 a0.toNat (wr ((s 123 a0.toNat) - a2))) 123 a1.toNat (min 999 (wr ((s 123 a1.toNat) + a2))))) a0.toNat) ∧ ((0 ≤ vw 121 (upS (upS s 123 a0.toNat (wr ((s 123 a0.toNat) - a2))) 123 a1.toNat (min 999 (wr ((s 123 a1.toNat) + a2)))) 2 a0.toNat ∧ vw 121 (upS (upS s 123 a0.toNat (wr ((s 123 a0.toNat) - a2))) 123 a1.toNat (min 999 (wr ((s 123 a1.toNat) + a2)))) 2 a0.toNat ≤ 2000) ∧ ((0 ≤ vw 121 (upS (upS s 123 a0.toNat (wr ((s 123 a0.toNat) - a2))) 123 a1.toNat (min 999 (wr ((s 123 a1.toNat) + a2)))) 4 a0.toNat ∧ vw 121 (upS (upS s 123 a0.toNat (wr ((s 123 a0.toNat) - a2))) 123 a1.toNat (min 999 (wr ((s 123 a1.toNat) + a2)))) 4 a0.toNat ≤ 99) ∧ ((rgP (vw 121 (upS (upS s 123 a0.toNat (wr ((s 123 a0.toNat) - a2))) 123 a1.toNat (min 999 (wr ((s 123 a1.toNat) + a2))))) a1.toNat) ∧ ((0 ≤ vw 121 (upS (upS s 123 a0.toNat (wr ((s 123 a0.toNat) - a2))) 123 a1.toNat (min 999 (wr ((s 123 a1.toNat) + a2)))) 2 a1.toNat ∧ vw 121 (upS (upS s 123 a0.toNat (wr ((s 123 a0.toNat) - a2))) 123 a1.toNat (min 999 (wr ((s 123 a1.toNat) + a2)))) 2 a1.toNat ≤ 2000) ∧ ((0 ≤ vw 121 (upS (upS s 123 a0.toNat (wr ((s 123 a0.toNat) - a2))) 123 a1.toNat (min 999 (wr ((s 123 a1.toNat) + a2)))) 4 a1.toNat ∧ vw 121 (upS (upS s 123 a0.toNat (wr ((s 123 a0.toNat) - a2))) 123 a1.toNat (min 999 (wr ((s 123 a1.toNat) + a2)))) 4 a1.toNat ≤ 99) ∧ ((a3 = 0 → Q [(1, min (lsW (vw 121 (upS (upS s 123 a0.toNat (wr ((s 123 a0.toNat) - a2))) 123 a1.toNat (min 999 (wr ((s 123 a1.toNat) + a2))))) a0.toNat) (lsW (vw 121 (upS (upS s 123 a0.toNat (wr ((s 123 a0.toNat) - a2))) 123 a1.toNat (min 999 (wr ((s 123 a1.toNat) + a2))))) a1.toNat))] (n, upS (upS (upS (upS s 123 a0.toNat (wr ((s 123 a0.toNat) - a2))) 123 a1.toNat (min 999 (wr ((s 123 a1.toNat) + a2)))) 123 a0.toNat (s 123 a0.toNat)) 123 a1.toNat (s 123 a1.toNat))) ∧ (a3 ≠ 0 → Q [(1, wr ((lsW (vw 121 (upS (upS s 123 a0.toNat (wr ((s 123 a0.toNat) - a2))) 123 a1.toNat (min 999 (wr ((s 123 a1.toNat) + a2))))) a0.toNat) + (lsW (vw 121 (upS (upS s 123 a0.toNat (wr ((s 123 a0.toNat) - a2))) 123 a1.toNat (min 999 (wr ((s 123 a1.toNat) + a2))))) a1.toNat)))] (n, upS (upS (upS (upS s 123 a0.toNat (wr ((s 123 a0.toNat) - a2))) 123 a1.toNat (min 999 (wr ((s 123 a1.toNat) + a2)))) 123 a0.toNat (s 123 a0.toNat)) 123 a1.toNat (s 123 a1.toNat)))))))))))) :
    G 120 140 160 0 [(3, 120), (1, a0), (1, a1), (1, a2), (1, a3), (0, 0), (0, 0), (0, 0), (0, 0)] [] (n, s) Q := by
  refine G_go rfl rfl ?_
  refine G_rf rfl rfl (by decide) (hR 120 3 123 rfl) ?_
  refine G_go rfl rfl ?_
  obtain ⟨g1, h⟩ := h
  refine G_ir (n := 6) rfl rfl (by decide) (by decide) g1 ?_
  refine G_go rfl rfl ?_
  show G 120 140 160 8 [(3, 120), (1, a0), (1, a1), (1, a2), (1, a3), (1, s 123 a0.toNat), (0, 0), (0, 0), (0, 0)] [] (n, s) Q
  refine G_go rfl rfl ?_
  refine G_rf rfl rfl (by decide) (hR 120 3 123 rfl) ?_
  refine G_go rfl rfl ?_
  obtain ⟨g2, h⟩ := h
  refine G_ir (n := 6) rfl rfl (by decide) (by decide) g2 ?_
  refine G_go rfl rfl ?_
  show G 120 140 160 16 [(3, 120), (1, a0), (1, a1), (1, a2), (1, a3), (1, s 123 a0.toNat), (1, s 123 a1.toNat), (0, 0), (0, 0)] [] (n, s) Q
  refine G_go rfl rfl ?_
  refine G_rf rfl rfl (by decide) (hR 120 3 123 rfl) ?_
  refine G_go rfl rfl ?_
  refine G_go rfl rfl ?_
  refine G_go rfl rfl ?_
  refine G_go rfl rfl ?_
  refine G_iw (n := 6) rfl rfl (by decide) (by decide) g1 ?_
  have hR := refs_up (a := 123) (k := a0.toNat) (x := wr ((s 123 a0.toNat) - a2)) hR rfl
  refine G_go rfl rfl ?_
  refine G_rf rfl rfl (by decide) (hR 120 3 123 rfl) ?_
  refine G_go rfl rfl ?_
  refine G_go rfl rfl ?_
  refine G_go rfl rfl ?_
  refine G_go rfl rfl ?_
  refine G_go rfl rfl ?_
  refine G_call rfl rfl ?_
  refine c_X7_least n _ _ 999 (wr ((s 123 a1.toNat) + a2)) hR ?_
  refine G_iw (n := 6) rfl rfl (by decide) (by decide) g2 ?_
  have hR := refs_up (a := 123) (k := a1.toNat) (x := min 999 (wr ((s 123 a1.toNat) + a2))) hR rfl
  refine G_go rfl rfl ?_
  refine G_go rfl rfl ?_
  refine G_call rfl rfl ?_
  obtain ⟨g3, h⟩ := h
  obtain ⟨g4, h⟩ := h
  obtain ⟨g5, h⟩ := h
  refine c_X7_lastsOf n _ _ a0 hR g1 g3 g4 g5 ?_
  refine G_go rfl rfl ?_
  show G 120 140 160 49 [(3, 120), (1, a0), (1, a1), (1, a2), (1, a3), (1, s 123 a0.toNat), (1, s 123 a1.toNat), (1, lsW (vw 121 (upS (upS s 123 a0.toNat (wr ((s 123 a0.toNat) - a2))) 123 a1.toNat (min 999 (wr ((s 123 a1.toNat) + a2))))) a0.toNat), (0, 0)] [] (n, upS (upS s 123 a0.toNat (wr ((s 123 a0.toNat) - a2))) 123 a1.toNat (min 999 (wr ((s 123 a1.toNat) + a2)))) Q
  refine G_go rfl rfl ?_
  refine G_go rfl rfl ?_
  refine G_call rfl rfl ?_
  obtain ⟨g6, h⟩ := h
  obtain ⟨g7, h⟩ := h
  obtain ⟨g8, h⟩ := h
  refine c_X7_lastsOf n _ _ a1 hR g2 g6 g7 g8 ?_
  refine G_go rfl rfl ?_
  show G 120 140 160 56 [(3, 120), (1, a0), (1, a1), (1, a2), (1, a3), (1, s 123 a0.toNat), (1, s 123 a1.toNat), (1, lsW (vw 121 (upS (upS s 123 a0.toNat (wr ((s 123 a0.toNat) - a2))) 123 a1.toNat (min 999 (wr ((s 123 a1.toNat) + a2))))) a0.toNat), (1, lsW (vw 121 (upS (upS s 123 a0.toNat (wr ((s 123 a0.toNat) - a2))) 123 a1.toNat (min 999 (wr ((s 123 a1.toNat) + a2))))) a1.toNat)] [] (n, upS (upS s 123 a0.toNat (wr ((s 123 a0.toNat) - a2))) 123 a1.toNat (min 999 (wr ((s 123 a1.toNat) + a2)))) Q
  refine G_go rfl rfl ?_
  refine G_rf rfl rfl (by decide) (hR 120 3 123 rfl) ?_
  refine G_go rfl rfl ?_
  refine G_go rfl rfl ?_
  refine G_iw (n := 6) rfl rfl (by decide) (by decide) g1 ?_
  have hR := refs_up (a := 123) (k := a0.toNat) (x := s 123 a0.toNat) hR rfl
  refine G_go rfl rfl ?_
  refine G_rf rfl rfl (by decide) (hR 120 3 123 rfl) ?_
  refine G_go rfl rfl ?_
  refine G_go rfl rfl ?_
  refine G_iw (n := 6) rfl rfl (by decide) (by decide) g2 ?_
  have hR := refs_up (a := 123) (k := a1.toNat) (x := s 123 a1.toNat) hR rfl
  refine G_go rfl rfl ?_
  refine G_eq rfl rfl (fun c9 => ?_) (fun c9 => ?_)
  · have h := h.1 c9
    refine G_go rfl rfl ?_
    refine G_go rfl rfl ?_
    refine G_call rfl rfl ?_
    refine c_X7_least n _ _ (lsW (vw 121 (upS (upS s 123 a0.toNat (wr ((s 123 a0.toNat) - a2))) 123 a1.toNat (min 999 (wr ((s 123 a1.toNat) + a2))))) a0.toNat) (lsW (vw 121 (upS (upS s 123 a0.toNat (wr ((s 123 a0.toNat) - a2))) 123 a1.toNat (min 999 (wr ((s 123 a1.toNat) + a2))))) a1.toNat) hR ?_
    exact G_ret rfl rfl h
  · have h := h.2 c9
    refine G_go rfl rfl ?_
    refine G_go rfl rfl ?_
    refine G_go rfl rfl ?_
    refine G_go rfl rfl ?_
    exact G_ret rfl rfl h
theorem lb_p {s : Nat → Nat → Int} {p q : Nat} {x y : Int} (h : p ≠ q) : lsW (vw 121 (upS (upS s 123 p x) 123 q y)) p = lsV (vw 121 s) p x := by
  unfold lsW lsV bnV vw upS
  simp [h]
theorem lb_q {s : Nat → Nat → Int} {p q : Nat} {x y : Int} : lsW (vw 121 (upS (upS s 123 p x) 123 q y)) q = lsV (vw 121 s) q y := by
  unfold lsW lsV bnV vw upS
  simp
theorem lb_back {s : Nat → Nat → Int} {p q : Nat} {x y : Int} (h : p ≠ q) : upS (upS (upS (upS s 123 p x) 123 q y) 123 p (s 123 p)) 123 q (s 123 q) = s := by
  funext i j
  simp only [upS]
  by_cases c1 : i = 123 <;> by_cases c2 : j = p <;> by_cases c3 : j = q <;> simp_all
theorem lb_rg {s : Nat → Nat → Int} {p q r : Nat} {x y : Int} (g : rgP (vw 121 s) r) : rgP (vw 121 (upS (upS s 123 p x) 123 q y)) r := by
  unfold rgP vw upS at *
  simpa using g

theorem lb_4 {s : Nat → Nat → Int} {p q r : Nat} {x y : Int} : vw 121 (upS (upS s 123 p x) 123 q y) 4 r = s 125 r := by
  unfold vw upS
  simp
def lbV (s : Nat → Nat → Int) (p q : Nat) (c w : Int) : Int := if w = 0 then min (lsV (vw 121 s) p (s 123 p - c)) (lsV (vw 121 s) q (min 999 (s 123 q + c))) else wr (lsV (vw 121 s) p (s 123 p - c) + lsV (vw 121 s) q (min 999 (s 123 q + c)))
theorem c_X7_lastsBy (n : Nat) (s t : Nat → Nat → Int) (h : REL s t) (Q : List Vl → Sto → Prop) (p q : Nat) (c w : Int) (hp : (p : Int) < t 120 0) (hq : (q : Int) < t 120 0) (hpq : p ≠ q) (hc : 0 ≤ c ∧ c ≤ t 123 p) (hQ : Q [(1, lbV t p q c w)] (n, t)) : G 120 140 160 0 [(3, 120), (1, (p : Int)), (1, (q : Int)), (1, c), (1, w), (0, 0), (0, 0), (0, 0), (0, 0)] [] (n, t) Q := by
  obtain ⟨hn1, hn2, hn3, hn4⟩ := h.np
  obtain ⟨_, p2, _, p4, _, p6⟩ := h.rg p hp
  obtain ⟨_, q2, _, q4, _, q6⟩ := h.rg q hq
  have tp := h.t p hp
  have tq := h.t q hq
  refine sb_X7_lastsBy_0 n t Q _ _ c w h.2.1 ?_
  rw [Int.toNat_natCast, Int.toNat_natCast, wr_id (x := t 123 p - c) (by omega) (by omega), wr_id (x := t 123 q + c) (by omega) (by omega), lb_p hpq, lb_q, lb_back hpq, lb_4, lb_4]
  refine ⟨by omega, by omega, lb_rg p2, ?_, p6, lb_rg q2, ?_, q6, fun e => ?_, fun e => ?_⟩
  · have e : vw 121 (upS (upS t 123 p (t 123 p - c)) 123 q (min 999 (t 123 q + c))) 2 p = t 123 p - c := by
      unfold vw upS
      simp [hpq]
    rw [e]
    omega
  · have e : vw 121 (upS (upS t 123 p (t 123 p - c)) 123 q (min 999 (t 123 q + c))) 2 q = min 999 (t 123 q + c) := by
      unfold vw upS
      simp
    rw [e]
    omega
  · rw [show lbV t p q c w = _ from if_pos e] at hQ
    exact hQ
  · rw [show lbV t p q c w = _ from if_neg e] at hQ
    exact hQ

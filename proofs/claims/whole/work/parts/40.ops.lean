/-! WHAT CHANGES THE TOWN AND CAN BE TAKEN BACK. -/
theorem kpC_tw {s s1 : Nat → Nat → Int} {np h np' h' : Int} {V U : Nat → Nat → Int} (k : kpC s s1 np' h' U) (c : twC 3 s np h V) : twC 3 s1 np h V := by
  obtain ⟨i, hi, f, _⟩ := k
  obtain ⟨c1, c2, c3⟩ := c
  refine ⟨by rw [f 3 (by decide) (by omega)]; exact c1, by rw [f 3 (by decide) (by omega)]; exact c2, eqV_ext c3 (fun j hj p _ => ?_) (fun _ _ _ _ => rfl)⟩
  unfold vw
  rw [f (3 + 1 + j) (by omega) (by omega)]
theorem kpC_lo {s s1 : Nat → Nat → Int} {np' h' : Int} {U : Nat → Nat → Int} (k : kpC s s1 np' h' U) {c : Nat} (hc : c < 33 ∨ 115 ≤ c) : s1 c = s c := by
  obtain ⟨i, hi, f, _⟩ := k
  exact f c (by omega) (by omega)
theorem REL_chg {s t s1 t1 s2 t2 : Nat → Nat → Int} {np' h' : Int} {U : Nat → Nat → Int} (h : REL s t) (o : okT np' U) (hh : 0 ≤ h' ∧ h' ≤ 999) (r2 : refs s2) (q2 : refs t2) (k : kpC s s1 (t 120 0) (t 120 9) (vw 121 t)) (w : kpR t t1 (t 120 0) (t 120 9) (vw 121 t)) (fs : frT 3 s1 s2) (ft : frX 130 t1 t2) (c : twC 3 s2 np' h' U) (u : twR t2 np' h' U) : REL s2 t2 := by
  have hH := relH_keep h.o h.np.2.2.2 h.h k w
  have es : ∀ c, c < 3 ∨ 13 ≤ c ∧ c < 33 ∨ 115 ≤ c → s2 c = s c := fun c hc => by rw [fs c (by omega), kpC_lo k (by omega)]
  have et : ∀ c, 128 < c → c ≠ 130 → c ≠ 137 → c ≠ 138 → t2 c = t c := fun c h1 h2 h3 h4 => by rw [ft.1 c h1 h2 h2, w.1 c h1 h2 h3 h4]
  have ek : ∀ k, k ≠ 0 → k ≠ 9 → k ≠ 24 → k ≠ 25 → k ≠ 26 → k ≠ 29 → t2 120 k = t 120 k := fun k h1 h2 h3 h4 h5 h6 => by rw [ft.2 k h1 h2 h3 h4 h5, w.2.1 k h1 h2 h3 h4 h5 h6]
  refine ⟨r2, q2, relN_of o hh c u, ?_, ?_, ?_, ?_, ?_⟩
  · exact relI_fr h.i (by rw [es 2 (by omega)]) (by rw [es 23 (by omega)]) (by rw [es 23 (by omega)]) (fun a h1 h2 => es a (by omega)) (ek 23 (by decide) (by decide) (by decide) (by decide) (by decide) (by decide)) (et 136 (by decide) (by decide) (by decide) (by decide))
  · exact relH_fr hH (by rw [fs 33 (by omega)]) (by rw [fs 33 (by omega)]) (fun a h1 h2 => fs a (by omega)) (ft.2 29 (by decide) (by decide) (by decide) (by decide) (by decide)) (ft.1 137 (by decide) (by decide) (by decide))
  · exact relL_fr h.l (by rw [es 115 (by omega)]) (es 116 (by omega)) (ek 14 (by decide) (by decide) (by decide) (by decide) (by decide) (by decide)) (et 131 (by decide) (by decide) (by decide) (by decide))
  · exact relR_fr h.r (by rw [es 117 (by omega)]) (es 118 (by omega)) (ek 31 (by decide) (by decide) (by decide) (by decide) (by decide) (by decide)) (et 139 (by decide) (by decide) (by decide) (by decide))
  · exact relF_fr h.f (es 119 (by omega)) (et 129 (by decide) (by decide) (by decide) (by decide))
theorem post_chg {n : Nat} {s t s1 t1 s2 t2 : Nat → Nat → Int} {np' h' x y : Int} {U : Nat → Nat → Int} (h : REL s t) (o : okT np' U) (hh : 0 ≤ h' ∧ h' ≤ 999) (r2 : refs s2) (q2 : refs t2) (k : kpC s s1 (t 120 0) (t 120 9) (vw 121 t)) (w : kpR t t1 (t 120 0) (t 120 9) (vw 121 t)) (fs : frT 3 s1 s2) (ft : frX 130 t1 t2) (c : twC 3 s2 np' h' U) (u : twR t2 np' h' U) (e : x = y) : Post n [(1, x)] (n, s2) [(1, y)] (n, t2) := ⟨_, rfl, by rw [e], REL_chg h o hh r2 q2 k w fs ft c u, rfl, rfl⟩
theorem c_keep0 (n : Nat) (s t : Nat → Nat → Int) (h : REL s t) (Q : List Vl → Sto → Prop) (hq : ∀ s1, refs s1 → kpC s s1 (t 120 0) (t 120 9) (vw 121 t) → twC 3 s1 (t 120 0) (t 120 9) (vw 121 t) → Q [] (n, s1)) : G 2 120 8 0 [(3, 33), (3, 3)] [] (n, s) Q :=
  c_keep n s Q _ _ _ h.1 h.o h.h.2.2.1 h.h.2.1 h.c (fun s1 r1 k => hq s1 r1 k (kpC_tw k h.c))
theorem c_keepTurn0 (n : Nat) (s t : Nat → Nat → Int) (h : REL s t) (Q : List Vl → Sto → Prop) (hq : ∀ t1, refs t1 → kpR t t1 (t 120 0) (t 120 9) (vw 121 t) → twR t1 (t 120 0) (t 120 9) (vw 121 t) → Q [] (n, t1)) : G 120 140 181 0 [(3, 120), (0, 0)] [] (n, t) Q :=
  c_keepTurn n t Q _ _ _ h.2.1 h.o (by rw [← h.h.1]; exact h.h.2.1) h.w (fun t1 r1 k => hq t1 r1 k k.2.2.1)
theorem frT_up {a c k : Nat} {x : Int} {s : Nat → Nat → Int} (h1 : a ≤ c) (h2 : c < a + 10) : frT a s (upS s c k x) := fun b hb => upS_row (by omega)
theorem upS_id {f : Nat → Nat → Int} {a k : Nat} {x : Int} (h : f a k = x) : upS f a k x = f := by
  rw [← h]
  exact upS_self
theorem sb_X6_hours_0 (n : Nat) (s : Nat → Nat → Int) (Q : List Vl → Sto → Prop) (a0 : Int) (hR : refs s)
    (h : (1 ≤ a0 → (a0 ≤ 99 → (wr (999 - (s 3 10)) < a0 → Q [(1, (-6))] (n, upS s 119 6 (wr ((s 119 6) + 1)))) ∧ (a0 ≤ wr (999 - (s 3 10)) → G 2 120 8 0 [(3, 33), (3, 3)] [] (n, s) (fun r s1 => G 2 120 93 37 [(3, 2), (1, a0), (1, 0)] (r ++ []) s1 Q))) ∧ (99 < a0 → (wr (999 - (s 3 10)) < a0 → Q [(1, (-6))] (n, upS s 119 6 (wr ((s 119 6) + 1)))) ∧ (a0 ≤ wr (999 - (s 3 10)) → Q [(1, (-6))] (n, upS s 119 6 (wr ((s 119 6) + 1)))))) ∧ (a0 < 1 → (wr (999 - (s 3 10)) < a0 → Q [(1, (-4))] (n, upS s 119 4 (wr ((s 119 4) + 1)))) ∧ (a0 ≤ wr (999 - (s 3 10)) → Q [(1, (-4))] (n, upS s 119 4 (wr ((s 119 4) + 1)))))) :
    G 2 120 93 0 [(3, 2), (1, a0), (0, 0)] [] (n, s) Q := by
  refine G_go rfl rfl ?_
  refine G_go rfl rfl ?_
  refine G_go rfl rfl ?_
  refine G_call rfl rfl ?_
  refine G_go rfl rfl ?_
  refine G_go rfl rfl ?_
  refine G_ge rfl rfl (fun c1 => ?_) (fun c1 => ?_)
  · have h := h.1 c1
    refine G_go rfl rfl ?_
    refine G_go rfl rfl ?_
    refine G_le rfl rfl (fun c2 => ?_) (fun c2 => ?_)
    · have h := h.1 c2
      refine G_go rfl rfl ?_
      refine G_ret rfl rfl ?_
      refine G_go rfl rfl ?_
      refine G_go rfl rfl ?_
      refine G_call rfl rfl ?_
      refine G_go rfl rfl ?_
      refine G_rf rfl rfl (by decide) (hR 2 0 3 rfl) ?_
      refine G_go rfl rfl ?_
      refine G_call rfl rfl ?_
      refine G_go rfl rfl ?_
      refine G_go rfl rfl ?_
      refine G_go rfl rfl ?_
      refine G_rd rfl rfl (by decide) ?_
      refine G_go rfl rfl ?_
      refine G_gt rfl rfl (fun c3 => ?_) (fun c3 => ?_)
      · have h := h.1 c3
        refine G_go rfl rfl ?_
        refine G_ret rfl rfl ?_
        refine G_brT rfl rfl rfl ?_
        refine G_go rfl rfl ?_
        refine G_ret rfl rfl ?_
        refine G_call rfl rfl ?_
        refine G_go rfl rfl ?_
        refine G_brT rfl rfl rfl ?_
        refine G_go rfl rfl ?_
        refine G_ret rfl rfl ?_
        refine G_go rfl rfl ?_
        show G 2 120 93 16 [(3, 2), (1, a0), (1, (-6))] [] (n, s) Q
        refine G_go rfl rfl ?_
        refine G_brF rfl rfl rfl ?_
        refine G_go rfl rfl ?_
        refine G_go rfl rfl ?_
        refine G_call rfl rfl ?_
        refine G_go rfl rfl ?_
        refine G_go rfl rfl ?_
        refine G_go rfl rfl ?_
        refine G_go rfl rfl ?_
        refine G_brF rfl rfl rfl ?_
        refine G_go rfl rfl ?_
        refine G_go rfl rfl ?_
        refine G_rf rfl rfl (by decide) (hR 2 7 119 rfl) ?_
        refine G_go rfl rfl ?_
        refine G_brF rfl rfl rfl ?_
        refine G_go rfl rfl ?_
        refine G_rf rfl rfl (by decide) (hR 2 7 119 rfl) ?_
        refine G_go rfl rfl ?_
        refine G_go rfl rfl ?_
        refine G_ir (n := 7) rfl rfl (by decide) (by decide) (by decide) ?_
        refine G_go rfl rfl ?_
        refine G_go rfl rfl ?_
        refine G_iw (n := 7) rfl rfl (by decide) (by decide) (by decide) ?_
        have hR := refs_up (a := 119) (k := 6) (x := wr ((s 119 6) + 1)) hR rfl
        refine G_go rfl rfl ?_
        refine G_ret rfl rfl ?_
        exact G_ret rfl rfl h
      · have h := h.2 c3
        refine G_go rfl rfl ?_
        refine G_go rfl rfl ?_
        refine G_ret rfl rfl ?_
        refine G_brF rfl rfl rfl ?_
        refine G_go rfl rfl ?_
        refine G_go rfl rfl ?_
        refine G_ret rfl rfl ?_
        refine G_call rfl rfl ?_
        refine G_go rfl rfl ?_
        refine G_brT rfl rfl rfl ?_
        refine G_go rfl rfl ?_
        refine G_ret rfl rfl ?_
        refine G_go rfl rfl ?_
        show G 2 120 93 16 [(3, 2), (1, a0), (1, 0)] [] (n, s) Q
        refine G_go rfl rfl ?_
        refine G_brT rfl rfl rfl ?_
        refine G_go rfl rfl ?_
        refine G_rf rfl rfl (by decide) (hR 2 4 33 rfl) ?_
        refine G_go rfl rfl ?_
        refine G_rf rfl rfl (by decide) (hR 2 0 3 rfl) ?_
        exact G_call rfl rfl h
    · have h := h.2 c2
      refine G_go rfl rfl ?_
      refine G_go rfl rfl ?_
      refine G_ret rfl rfl ?_
      refine G_go rfl rfl ?_
      refine G_go rfl rfl ?_
      refine G_call rfl rfl ?_
      refine G_go rfl rfl ?_
      refine G_rf rfl rfl (by decide) (hR 2 0 3 rfl) ?_
      refine G_go rfl rfl ?_
      refine G_call rfl rfl ?_
      refine G_go rfl rfl ?_
      refine G_go rfl rfl ?_
      refine G_go rfl rfl ?_
      refine G_rd rfl rfl (by decide) ?_
      refine G_go rfl rfl ?_
      refine G_gt rfl rfl (fun c4 => ?_) (fun c4 => ?_)
      · have h := h.1 c4
        refine G_go rfl rfl ?_
        refine G_ret rfl rfl ?_
        refine G_brT rfl rfl rfl ?_
        refine G_go rfl rfl ?_
        refine G_ret rfl rfl ?_
        refine G_call rfl rfl ?_
        refine G_go rfl rfl ?_
        refine G_brF rfl rfl rfl ?_
        refine G_go rfl rfl ?_
        refine G_go rfl rfl ?_
        refine G_ret rfl rfl ?_
        refine G_go rfl rfl ?_
        show G 2 120 93 16 [(3, 2), (1, a0), (1, (-6))] [] (n, s) Q
        refine G_go rfl rfl ?_
        refine G_brF rfl rfl rfl ?_
        refine G_go rfl rfl ?_
        refine G_go rfl rfl ?_
        refine G_call rfl rfl ?_
        refine G_go rfl rfl ?_
        refine G_go rfl rfl ?_
        refine G_go rfl rfl ?_
        refine G_go rfl rfl ?_
        refine G_brF rfl rfl rfl ?_
        refine G_go rfl rfl ?_
        refine G_go rfl rfl ?_
        refine G_rf rfl rfl (by decide) (hR 2 7 119 rfl) ?_
        refine G_go rfl rfl ?_
        refine G_brF rfl rfl rfl ?_
        refine G_go rfl rfl ?_
        refine G_rf rfl rfl (by decide) (hR 2 7 119 rfl) ?_
        refine G_go rfl rfl ?_
        refine G_go rfl rfl ?_
        refine G_ir (n := 7) rfl rfl (by decide) (by decide) (by decide) ?_
        refine G_go rfl rfl ?_
        refine G_go rfl rfl ?_
        refine G_iw (n := 7) rfl rfl (by decide) (by decide) (by decide) ?_
        have hR := refs_up (a := 119) (k := 6) (x := wr ((s 119 6) + 1)) hR rfl
        refine G_go rfl rfl ?_
        refine G_ret rfl rfl ?_
        exact G_ret rfl rfl h
      · have h := h.2 c4
        refine G_go rfl rfl ?_
        refine G_go rfl rfl ?_
        refine G_ret rfl rfl ?_
        refine G_brF rfl rfl rfl ?_
        refine G_go rfl rfl ?_
        refine G_go rfl rfl ?_
        refine G_ret rfl rfl ?_
        refine G_call rfl rfl ?_
        refine G_go rfl rfl ?_
        refine G_brF rfl rfl rfl ?_
        refine G_go rfl rfl ?_
        refine G_go rfl rfl ?_
        refine G_ret rfl rfl ?_
        refine G_go rfl rfl ?_
        show G 2 120 93 16 [(3, 2), (1, a0), (1, (-6))] [] (n, s) Q
        refine G_go rfl rfl ?_
        refine G_brF rfl rfl rfl ?_
        refine G_go rfl rfl ?_
        refine G_go rfl rfl ?_
        refine G_call rfl rfl ?_
        refine G_go rfl rfl ?_
        refine G_go rfl rfl ?_
        refine G_go rfl rfl ?_
        refine G_go rfl rfl ?_
        refine G_brF rfl rfl rfl ?_
        refine G_go rfl rfl ?_
        refine G_go rfl rfl ?_
        refine G_rf rfl rfl (by decide) (hR 2 7 119 rfl) ?_
        refine G_go rfl rfl ?_
        refine G_brF rfl rfl rfl ?_
        refine G_go rfl rfl ?_
        refine G_rf rfl rfl (by decide) (hR 2 7 119 rfl) ?_
        refine G_go rfl rfl ?_
        refine G_go rfl rfl ?_
        refine G_ir (n := 7) rfl rfl (by decide) (by decide) (by decide) ?_
        refine G_go rfl rfl ?_
        refine G_go rfl rfl ?_
        refine G_iw (n := 7) rfl rfl (by decide) (by decide) (by decide) ?_
        have hR := refs_up (a := 119) (k := 6) (x := wr ((s 119 6) + 1)) hR rfl
        refine G_go rfl rfl ?_
        refine G_ret rfl rfl ?_
        exact G_ret rfl rfl h
  · have h := h.2 c1
    refine G_go rfl rfl ?_
    refine G_ret rfl rfl ?_
    refine G_go rfl rfl ?_
    refine G_go rfl rfl ?_
    refine G_call rfl rfl ?_
    refine G_go rfl rfl ?_
    refine G_rf rfl rfl (by decide) (hR 2 0 3 rfl) ?_
    refine G_go rfl rfl ?_
    refine G_call rfl rfl ?_
    refine G_go rfl rfl ?_
    refine G_go rfl rfl ?_
    refine G_go rfl rfl ?_
    refine G_rd rfl rfl (by decide) ?_
    refine G_go rfl rfl ?_
    refine G_gt rfl rfl (fun c5 => ?_) (fun c5 => ?_)
    · have h := h.1 c5
      refine G_go rfl rfl ?_
      refine G_ret rfl rfl ?_
      refine G_brT rfl rfl rfl ?_
      refine G_go rfl rfl ?_
      refine G_ret rfl rfl ?_
      refine G_call rfl rfl ?_
      refine G_go rfl rfl ?_
      refine G_brF rfl rfl rfl ?_
      refine G_go rfl rfl ?_
      refine G_go rfl rfl ?_
      refine G_ret rfl rfl ?_
      refine G_go rfl rfl ?_
      show G 2 120 93 16 [(3, 2), (1, a0), (1, (-4))] [] (n, s) Q
      refine G_go rfl rfl ?_
      refine G_brF rfl rfl rfl ?_
      refine G_go rfl rfl ?_
      refine G_go rfl rfl ?_
      refine G_call rfl rfl ?_
      refine G_go rfl rfl ?_
      refine G_go rfl rfl ?_
      refine G_go rfl rfl ?_
      refine G_go rfl rfl ?_
      refine G_brF rfl rfl rfl ?_
      refine G_go rfl rfl ?_
      refine G_go rfl rfl ?_
      refine G_rf rfl rfl (by decide) (hR 2 7 119 rfl) ?_
      refine G_go rfl rfl ?_
      refine G_brF rfl rfl rfl ?_
      refine G_go rfl rfl ?_
      refine G_rf rfl rfl (by decide) (hR 2 7 119 rfl) ?_
      refine G_go rfl rfl ?_
      refine G_go rfl rfl ?_
      refine G_ir (n := 7) rfl rfl (by decide) (by decide) (by decide) ?_
      refine G_go rfl rfl ?_
      refine G_go rfl rfl ?_
      refine G_iw (n := 7) rfl rfl (by decide) (by decide) (by decide) ?_
      have hR := refs_up (a := 119) (k := 4) (x := wr ((s 119 4) + 1)) hR rfl
      refine G_go rfl rfl ?_
      refine G_ret rfl rfl ?_
      exact G_ret rfl rfl h
    · have h := h.2 c5
      refine G_go rfl rfl ?_
      refine G_go rfl rfl ?_
      refine G_ret rfl rfl ?_
      refine G_brF rfl rfl rfl ?_
      refine G_go rfl rfl ?_
      refine G_go rfl rfl ?_
      refine G_ret rfl rfl ?_
      refine G_call rfl rfl ?_
      refine G_go rfl rfl ?_
      refine G_brF rfl rfl rfl ?_
      refine G_go rfl rfl ?_
      refine G_go rfl rfl ?_
      refine G_ret rfl rfl ?_
      refine G_go rfl rfl ?_
      show G 2 120 93 16 [(3, 2), (1, a0), (1, (-4))] [] (n, s) Q
      refine G_go rfl rfl ?_
      refine G_brF rfl rfl rfl ?_
      refine G_go rfl rfl ?_
      refine G_go rfl rfl ?_
      refine G_call rfl rfl ?_
      refine G_go rfl rfl ?_
      refine G_go rfl rfl ?_
      refine G_go rfl rfl ?_
      refine G_go rfl rfl ?_
      refine G_brF rfl rfl rfl ?_
      refine G_go rfl rfl ?_
      refine G_go rfl rfl ?_
      refine G_rf rfl rfl (by decide) (hR 2 7 119 rfl) ?_
      refine G_go rfl rfl ?_
      refine G_brF rfl rfl rfl ?_
      refine G_go rfl rfl ?_
      refine G_rf rfl rfl (by decide) (hR 2 7 119 rfl) ?_
      refine G_go rfl rfl ?_
      refine G_go rfl rfl ?_
      refine G_ir (n := 7) rfl rfl (by decide) (by decide) (by decide) ?_
      refine G_go rfl rfl ?_
      refine G_go rfl rfl ?_
      refine G_iw (n := 7) rfl rfl (by decide) (by decide) (by decide) ?_
      have hR := refs_up (a := 119) (k := 4) (x := wr ((s 119 4) + 1)) hR rfl
      refine G_go rfl rfl ?_
      refine G_ret rfl rfl ?_
      exact G_ret rfl rfl h
theorem sb_X6_hours_37 (n : Nat) (s : Nat → Nat → Int) (Q : List Vl → Sto → Prop) (x1 : Int) (x2 : Int) (hR : refs s)
    (h : G 2 120 56 0 [(3, 3), (1, x1), (0, 0)] [] (n, s) (fun r s1 => G 2 120 93 45 [(3, 2), (1, x1), (1, x2)] (r ++ []) s1 Q)) :
    G 2 120 93 37 [(3, 2), (1, x1), (1, x2)] [] (n, s) Q := by
  refine G_go rfl rfl ?_
  refine G_rf rfl rfl (by decide) (hR 2 0 3 rfl) ?_
  refine G_go rfl rfl ?_
  exact G_call rfl rfl h
theorem sb_X6_hours_45 (n : Nat) (s : Nat → Nat → Int) (Q : List Vl → Sto → Prop) (x1 : Int) (x2 : Int) (hR : refs s)
    (h : G 2 120 52 0 [(3, 3)] [] (n, s) (fun r s1 => G 2 120 93 52 [(3, 2), (1, x1), (1, x2)] (r ++ []) s1 Q)) :
    G 2 120 93 45 [(3, 2), (1, x1), (1, x2)] [] (n, s) Q := by
  refine G_go rfl rfl ?_
  refine G_rf rfl rfl (by decide) (hR 2 0 3 rfl) ?_
  exact G_call rfl rfl h
theorem sb_X6_hours_52 (n : Nat) (s : Nat → Nat → Int) (Q : List Vl → Sto → Prop) (x1 : Int) (x2 : Int) (y0 : Int) (hR : refs s)
    (h : Q [(1, y0)] (n, s)) :
    G 2 120 93 52 [(3, 2), (1, x1), (1, x2)] [(1, y0)] (n, s) Q := by
  exact G_ret rfl rfl h
theorem sb_X7_hours_0 (n : Nat) (s : Nat → Nat → Int) (Q : List Vl → Sto → Prop) (a0 : Int) (hR : refs s)
    (h : (1 ≤ a0 → (a0 ≤ 99 → (wr ((s 120 9) + a0) ≤ 999 → G 120 140 181 0 [(3, 120), (0, 0)] [] (n, upS s 120 10 0) (fun r s1 => G 120 140 187 50 [(3, 120), (1, a0), (1, 0)] (r ++ []) s1 Q)) ∧ (999 < wr ((s 120 9) + a0) → Q [(1, (-6))] (n, upS (upS s 120 10 0) 129 6 (wr ((s 129 6) + 1))))) ∧ (99 < a0 → Q [(1, (-6))] (n, upS (upS s 120 10 0) 129 6 (wr ((s 129 6) + 1))))) ∧ (a0 < 1 → Q [(1, (-4))] (n, upS (upS s 120 10 0) 129 4 (wr ((s 129 4) + 1))))) :
    G 120 140 187 0 [(3, 120), (1, a0), (0, 0)] [] (n, s) Q := by
  refine G_go rfl rfl ?_
  refine G_go rfl rfl ?_
  refine G_wr rfl rfl (by decide) ?_
  have hR := refs_up (a := 120) (k := 10) (x := 0) hR rfl
  refine G_go rfl rfl ?_
  refine G_go rfl rfl ?_
  refine G_go rfl rfl ?_
  refine G_call rfl rfl ?_
  refine G_go rfl rfl ?_
  refine G_go rfl rfl ?_
  refine G_ge rfl rfl (fun c1 => ?_) (fun c1 => ?_)
  · have h := h.1 c1
    refine G_go rfl rfl ?_
    refine G_go rfl rfl ?_
    refine G_le rfl rfl (fun c2 => ?_) (fun c2 => ?_)
    · have h := h.1 c2
      refine G_go rfl rfl ?_
      refine G_ret rfl rfl ?_
      refine G_go rfl rfl ?_
      show G 120 140 187 13 [(3, 120), (1, a0), (1, 0)] [] (n, upS s 120 10 0) Q
      refine G_go rfl rfl ?_
      refine G_brF rfl rfl rfl ?_
      refine G_go rfl rfl ?_
      refine G_rd rfl rfl (by decide) ?_
      refine G_go rfl rfl ?_
      refine G_go rfl rfl ?_
      refine G_go rfl rfl ?_
      refine G_le rfl rfl (fun c3 => ?_) (fun c3 => ?_)
      · have h := h.1 c3
        refine G_go rfl rfl ?_
        refine G_go rfl rfl ?_
        show G 120 140 187 36 [(3, 120), (1, a0), (1, 0)] [] (n, upS s 120 10 0) Q
        refine G_go rfl rfl ?_
        refine G_brT rfl rfl rfl ?_
        refine G_go rfl rfl ?_
        exact G_call rfl rfl h
      · have h := h.2 c3
        refine G_go rfl rfl ?_
        refine G_go rfl rfl ?_
        refine G_go rfl rfl ?_
        show G 120 140 187 36 [(3, 120), (1, a0), (1, (-6))] [] (n, upS s 120 10 0) Q
        refine G_go rfl rfl ?_
        refine G_brF rfl rfl rfl ?_
        refine G_go rfl rfl ?_
        refine G_go rfl rfl ?_
        refine G_call rfl rfl ?_
        refine G_go rfl rfl ?_
        refine G_rf rfl rfl (by decide) (hR 120 11 129 rfl) ?_
        refine G_go rfl rfl ?_
        refine G_go rfl rfl ?_
        refine G_go rfl rfl ?_
        refine G_ir (n := 7) rfl rfl (by decide) (by decide) (by decide) ?_
        refine G_go rfl rfl ?_
        refine G_go rfl rfl ?_
        refine G_iw (n := 7) rfl rfl (by decide) (by decide) (by decide) ?_
        have hR := refs_up (a := 129) (k := 6) (x := wr ((s 129 6) + 1)) hR rfl
        refine G_go rfl rfl ?_
        refine G_ret rfl rfl ?_
        exact G_ret rfl rfl h
    · have h := h.2 c2
      refine G_go rfl rfl ?_
      refine G_go rfl rfl ?_
      refine G_ret rfl rfl ?_
      refine G_go rfl rfl ?_
      show G 120 140 187 13 [(3, 120), (1, a0), (1, (-6))] [] (n, upS s 120 10 0) Q
      refine G_go rfl rfl ?_
      refine G_brT rfl rfl rfl ?_
      refine G_go rfl rfl ?_
      refine G_go rfl rfl ?_
      show G 120 140 187 36 [(3, 120), (1, a0), (1, (-6))] [] (n, upS s 120 10 0) Q
      refine G_go rfl rfl ?_
      refine G_brF rfl rfl rfl ?_
      refine G_go rfl rfl ?_
      refine G_go rfl rfl ?_
      refine G_call rfl rfl ?_
      refine G_go rfl rfl ?_
      refine G_rf rfl rfl (by decide) (hR 120 11 129 rfl) ?_
      refine G_go rfl rfl ?_
      refine G_go rfl rfl ?_
      refine G_go rfl rfl ?_
      refine G_ir (n := 7) rfl rfl (by decide) (by decide) (by decide) ?_
      refine G_go rfl rfl ?_
      refine G_go rfl rfl ?_
      refine G_iw (n := 7) rfl rfl (by decide) (by decide) (by decide) ?_
      have hR := refs_up (a := 129) (k := 6) (x := wr ((s 129 6) + 1)) hR rfl
      refine G_go rfl rfl ?_
      refine G_ret rfl rfl ?_
      exact G_ret rfl rfl h
  · have h := h.2 c1
    refine G_go rfl rfl ?_
    refine G_go rfl rfl ?_
    refine G_ret rfl rfl ?_
    refine G_go rfl rfl ?_
    show G 120 140 187 13 [(3, 120), (1, a0), (1, (-4))] [] (n, upS s 120 10 0) Q
    refine G_go rfl rfl ?_
    refine G_brT rfl rfl rfl ?_
    refine G_go rfl rfl ?_
    refine G_go rfl rfl ?_
    show G 120 140 187 36 [(3, 120), (1, a0), (1, (-4))] [] (n, upS s 120 10 0) Q
    refine G_go rfl rfl ?_
    refine G_brF rfl rfl rfl ?_
    refine G_go rfl rfl ?_
    refine G_go rfl rfl ?_
    refine G_call rfl rfl ?_
    refine G_go rfl rfl ?_
    refine G_rf rfl rfl (by decide) (hR 120 11 129 rfl) ?_
    refine G_go rfl rfl ?_
    refine G_go rfl rfl ?_
    refine G_go rfl rfl ?_
    refine G_ir (n := 7) rfl rfl (by decide) (by decide) (by decide) ?_
    refine G_go rfl rfl ?_
    refine G_go rfl rfl ?_
    refine G_iw (n := 7) rfl rfl (by decide) (by decide) (by decide) ?_
    have hR := refs_up (a := 129) (k := 4) (x := wr ((s 129 4) + 1)) hR rfl
    refine G_go rfl rfl ?_
    refine G_ret rfl rfl ?_
    exact G_ret rfl rfl h
theorem sb_X7_hours_50 (n : Nat) (s : Nat → Nat → Int) (Q : List Vl → Sto → Prop) (x1 : Int) (x2 : Int) (hR : refs s)
    (h : G 120 140 147 0 [(3, 120), (1, x1), (0, 0)] [] (n, s) (fun r s1 => G 120 140 187 55 [(3, 120), (1, x1), (1, x2)] (r ++ []) s1 Q)) :
    G 120 140 187 50 [(3, 120), (1, x1), (1, x2)] [] (n, s) Q := by
  refine G_go rfl rfl ?_
  refine G_go rfl rfl ?_
  exact G_call rfl rfl h
theorem sb_X7_hours_55 (n : Nat) (s : Nat → Nat → Int) (Q : List Vl → Sto → Prop) (x1 : Int) (x2 : Int) (hR : refs s)
    (h : G 120 140 148 0 [(3, 120), (0, 0), (0, 0)] [] (n, s) (fun r s1 => G 120 140 187 59 [(3, 120), (1, x1), (1, x2)] (r ++ []) s1 Q)) :
    G 120 140 187 55 [(3, 120), (1, x1), (1, x2)] [] (n, s) Q := by
  refine G_go rfl rfl ?_
  exact G_call rfl rfl h
theorem sb_X7_hours_59 (n : Nat) (s : Nat → Nat → Int) (Q : List Vl → Sto → Prop) (x1 : Int) (x2 : Int) (y0 : Int) (hR : refs s)
    (h : Q [(1, y0)] (n, s)) :
    G 120 140 187 59 [(3, 120), (1, x1), (1, x2)] [(1, y0)] (n, s) Q := by
  exact G_ret rfl rfl h
theorem sb_X6_nights_0 (n : Nat) (s : Nat → Nat → Int) (Q : List Vl → Sto → Prop) (a0 : Int) (hR : refs s)
    (h : (1 ≤ a0 → (a0 ≤ 12 → (wr (999 - (s 3 10)) < a0 → Q [(1, (-6))] (n, upS s 119 6 (wr ((s 119 6) + 1)))) ∧ (a0 ≤ wr (999 - (s 3 10)) → G 2 120 8 0 [(3, 33), (3, 3)] [] (n, s) (fun r s1 => G 2 120 113 37 [(3, 2), (1, a0), (1, 0), (0, 0)] (r ++ []) s1 Q))) ∧ (12 < a0 → (wr (999 - (s 3 10)) < a0 → Q [(1, (-6))] (n, upS s 119 6 (wr ((s 119 6) + 1)))) ∧ (a0 ≤ wr (999 - (s 3 10)) → Q [(1, (-6))] (n, upS s 119 6 (wr ((s 119 6) + 1)))))) ∧ (a0 < 1 → (wr (999 - (s 3 10)) < a0 → Q [(1, (-4))] (n, upS s 119 4 (wr ((s 119 4) + 1)))) ∧ (a0 ≤ wr (999 - (s 3 10)) → Q [(1, (-4))] (n, upS s 119 4 (wr ((s 119 4) + 1)))))) :
    G 2 120 113 0 [(3, 2), (1, a0), (0, 0), (0, 0)] [] (n, s) Q := by
  refine G_go rfl rfl ?_
  refine G_go rfl rfl ?_
  refine G_go rfl rfl ?_
  refine G_call rfl rfl ?_
  refine G_go rfl rfl ?_
  refine G_go rfl rfl ?_
  refine G_ge rfl rfl (fun c1 => ?_) (fun c1 => ?_)
  · have h := h.1 c1
    refine G_go rfl rfl ?_
    refine G_go rfl rfl ?_
    refine G_le rfl rfl (fun c2 => ?_) (fun c2 => ?_)
    · have h := h.1 c2
      refine G_go rfl rfl ?_
      refine G_ret rfl rfl ?_
      refine G_go rfl rfl ?_
      refine G_go rfl rfl ?_
      refine G_call rfl rfl ?_
      refine G_go rfl rfl ?_
      refine G_rf rfl rfl (by decide) (hR 2 0 3 rfl) ?_
      refine G_go rfl rfl ?_
      refine G_call rfl rfl ?_
      refine G_go rfl rfl ?_
      refine G_go rfl rfl ?_
      refine G_go rfl rfl ?_
      refine G_rd rfl rfl (by decide) ?_
      refine G_go rfl rfl ?_
      refine G_gt rfl rfl (fun c3 => ?_) (fun c3 => ?_)
      · have h := h.1 c3
        refine G_go rfl rfl ?_
        refine G_ret rfl rfl ?_
        refine G_brT rfl rfl rfl ?_
        refine G_go rfl rfl ?_
        refine G_ret rfl rfl ?_
        refine G_call rfl rfl ?_
        refine G_go rfl rfl ?_
        refine G_brT rfl rfl rfl ?_
        refine G_go rfl rfl ?_
        refine G_ret rfl rfl ?_
        refine G_go rfl rfl ?_
        show G 2 120 113 16 [(3, 2), (1, a0), (1, (-6)), (0, 0)] [] (n, s) Q
        refine G_go rfl rfl ?_
        refine G_brF rfl rfl rfl ?_
        refine G_go rfl rfl ?_
        refine G_go rfl rfl ?_
        refine G_call rfl rfl ?_
        refine G_go rfl rfl ?_
        refine G_go rfl rfl ?_
        refine G_go rfl rfl ?_
        refine G_go rfl rfl ?_
        refine G_brF rfl rfl rfl ?_
        refine G_go rfl rfl ?_
        refine G_go rfl rfl ?_
        refine G_rf rfl rfl (by decide) (hR 2 7 119 rfl) ?_
        refine G_go rfl rfl ?_
        refine G_brF rfl rfl rfl ?_
        refine G_go rfl rfl ?_
        refine G_rf rfl rfl (by decide) (hR 2 7 119 rfl) ?_
        refine G_go rfl rfl ?_
        refine G_go rfl rfl ?_
        refine G_ir (n := 7) rfl rfl (by decide) (by decide) (by decide) ?_
        refine G_go rfl rfl ?_
        refine G_go rfl rfl ?_
        refine G_iw (n := 7) rfl rfl (by decide) (by decide) (by decide) ?_
        have hR := refs_up (a := 119) (k := 6) (x := wr ((s 119 6) + 1)) hR rfl
        refine G_go rfl rfl ?_
        refine G_ret rfl rfl ?_
        exact G_ret rfl rfl h
      · have h := h.2 c3
        refine G_go rfl rfl ?_
        refine G_go rfl rfl ?_
        refine G_ret rfl rfl ?_
        refine G_brF rfl rfl rfl ?_
        refine G_go rfl rfl ?_
        refine G_go rfl rfl ?_
        refine G_ret rfl rfl ?_
        refine G_call rfl rfl ?_
        refine G_go rfl rfl ?_
        refine G_brT rfl rfl rfl ?_
        refine G_go rfl rfl ?_
        refine G_ret rfl rfl ?_
        refine G_go rfl rfl ?_
        show G 2 120 113 16 [(3, 2), (1, a0), (1, 0), (0, 0)] [] (n, s) Q
        refine G_go rfl rfl ?_
        refine G_brT rfl rfl rfl ?_
        refine G_go rfl rfl ?_
        refine G_rf rfl rfl (by decide) (hR 2 4 33 rfl) ?_
        refine G_go rfl rfl ?_
        refine G_rf rfl rfl (by decide) (hR 2 0 3 rfl) ?_
        exact G_call rfl rfl h
    · have h := h.2 c2
      refine G_go rfl rfl ?_
      refine G_go rfl rfl ?_
      refine G_ret rfl rfl ?_
      refine G_go rfl rfl ?_
      refine G_go rfl rfl ?_
      refine G_call rfl rfl ?_
      refine G_go rfl rfl ?_
      refine G_rf rfl rfl (by decide) (hR 2 0 3 rfl) ?_
      refine G_go rfl rfl ?_
      refine G_call rfl rfl ?_
      refine G_go rfl rfl ?_
      refine G_go rfl rfl ?_
      refine G_go rfl rfl ?_
      refine G_rd rfl rfl (by decide) ?_
      refine G_go rfl rfl ?_
      refine G_gt rfl rfl (fun c4 => ?_) (fun c4 => ?_)
      · have h := h.1 c4
        refine G_go rfl rfl ?_
        refine G_ret rfl rfl ?_
        refine G_brT rfl rfl rfl ?_
        refine G_go rfl rfl ?_
        refine G_ret rfl rfl ?_
        refine G_call rfl rfl ?_
        refine G_go rfl rfl ?_
        refine G_brF rfl rfl rfl ?_
        refine G_go rfl rfl ?_
        refine G_go rfl rfl ?_
        refine G_ret rfl rfl ?_
        refine G_go rfl rfl ?_
        show G 2 120 113 16 [(3, 2), (1, a0), (1, (-6)), (0, 0)] [] (n, s) Q
        refine G_go rfl rfl ?_
        refine G_brF rfl rfl rfl ?_
        refine G_go rfl rfl ?_
        refine G_go rfl rfl ?_
        refine G_call rfl rfl ?_
        refine G_go rfl rfl ?_
        refine G_go rfl rfl ?_
        refine G_go rfl rfl ?_
        refine G_go rfl rfl ?_
        refine G_brF rfl rfl rfl ?_
        refine G_go rfl rfl ?_
        refine G_go rfl rfl ?_
        refine G_rf rfl rfl (by decide) (hR 2 7 119 rfl) ?_
        refine G_go rfl rfl ?_
        refine G_brF rfl rfl rfl ?_
        refine G_go rfl rfl ?_
        refine G_rf rfl rfl (by decide) (hR 2 7 119 rfl) ?_
        refine G_go rfl rfl ?_
        refine G_go rfl rfl ?_
        refine G_ir (n := 7) rfl rfl (by decide) (by decide) (by decide) ?_
        refine G_go rfl rfl ?_
        refine G_go rfl rfl ?_
        refine G_iw (n := 7) rfl rfl (by decide) (by decide) (by decide) ?_
        have hR := refs_up (a := 119) (k := 6) (x := wr ((s 119 6) + 1)) hR rfl
        refine G_go rfl rfl ?_
        refine G_ret rfl rfl ?_
        exact G_ret rfl rfl h
      · have h := h.2 c4
        refine G_go rfl rfl ?_
        refine G_go rfl rfl ?_
        refine G_ret rfl rfl ?_
        refine G_brF rfl rfl rfl ?_
        refine G_go rfl rfl ?_
        refine G_go rfl rfl ?_
        refine G_ret rfl rfl ?_
        refine G_call rfl rfl ?_
        refine G_go rfl rfl ?_
        refine G_brF rfl rfl rfl ?_
        refine G_go rfl rfl ?_
        refine G_go rfl rfl ?_
        refine G_ret rfl rfl ?_
        refine G_go rfl rfl ?_
        show G 2 120 113 16 [(3, 2), (1, a0), (1, (-6)), (0, 0)] [] (n, s) Q
        refine G_go rfl rfl ?_
        refine G_brF rfl rfl rfl ?_
        refine G_go rfl rfl ?_
        refine G_go rfl rfl ?_
        refine G_call rfl rfl ?_
        refine G_go rfl rfl ?_
        refine G_go rfl rfl ?_
        refine G_go rfl rfl ?_
        refine G_go rfl rfl ?_
        refine G_brF rfl rfl rfl ?_
        refine G_go rfl rfl ?_
        refine G_go rfl rfl ?_
        refine G_rf rfl rfl (by decide) (hR 2 7 119 rfl) ?_
        refine G_go rfl rfl ?_
        refine G_brF rfl rfl rfl ?_
        refine G_go rfl rfl ?_
        refine G_rf rfl rfl (by decide) (hR 2 7 119 rfl) ?_
        refine G_go rfl rfl ?_
        refine G_go rfl rfl ?_
        refine G_ir (n := 7) rfl rfl (by decide) (by decide) (by decide) ?_
        refine G_go rfl rfl ?_
        refine G_go rfl rfl ?_
        refine G_iw (n := 7) rfl rfl (by decide) (by decide) (by decide) ?_
        have hR := refs_up (a := 119) (k := 6) (x := wr ((s 119 6) + 1)) hR rfl
        refine G_go rfl rfl ?_
        refine G_ret rfl rfl ?_
        exact G_ret rfl rfl h
  · have h := h.2 c1
    refine G_go rfl rfl ?_
    refine G_ret rfl rfl ?_
    refine G_go rfl rfl ?_
    refine G_go rfl rfl ?_
    refine G_call rfl rfl ?_
    refine G_go rfl rfl ?_
    refine G_rf rfl rfl (by decide) (hR 2 0 3 rfl) ?_
    refine G_go rfl rfl ?_
    refine G_call rfl rfl ?_
    refine G_go rfl rfl ?_
    refine G_go rfl rfl ?_
    refine G_go rfl rfl ?_
    refine G_rd rfl rfl (by decide) ?_
    refine G_go rfl rfl ?_
    refine G_gt rfl rfl (fun c5 => ?_) (fun c5 => ?_)
    · have h := h.1 c5
      refine G_go rfl rfl ?_
      refine G_ret rfl rfl ?_
      refine G_brT rfl rfl rfl ?_
      refine G_go rfl rfl ?_
      refine G_ret rfl rfl ?_
      refine G_call rfl rfl ?_
      refine G_go rfl rfl ?_
      refine G_brF rfl rfl rfl ?_
      refine G_go rfl rfl ?_
      refine G_go rfl rfl ?_
      refine G_ret rfl rfl ?_
      refine G_go rfl rfl ?_
      show G 2 120 113 16 [(3, 2), (1, a0), (1, (-4)), (0, 0)] [] (n, s) Q
      refine G_go rfl rfl ?_
      refine G_brF rfl rfl rfl ?_
      refine G_go rfl rfl ?_
      refine G_go rfl rfl ?_
      refine G_call rfl rfl ?_
      refine G_go rfl rfl ?_
      refine G_go rfl rfl ?_
      refine G_go rfl rfl ?_
      refine G_go rfl rfl ?_
      refine G_brF rfl rfl rfl ?_
      refine G_go rfl rfl ?_
      refine G_go rfl rfl ?_
      refine G_rf rfl rfl (by decide) (hR 2 7 119 rfl) ?_
      refine G_go rfl rfl ?_
      refine G_brF rfl rfl rfl ?_
      refine G_go rfl rfl ?_
      refine G_rf rfl rfl (by decide) (hR 2 7 119 rfl) ?_
      refine G_go rfl rfl ?_
      refine G_go rfl rfl ?_
      refine G_ir (n := 7) rfl rfl (by decide) (by decide) (by decide) ?_
      refine G_go rfl rfl ?_
      refine G_go rfl rfl ?_
      refine G_iw (n := 7) rfl rfl (by decide) (by decide) (by decide) ?_
      have hR := refs_up (a := 119) (k := 4) (x := wr ((s 119 4) + 1)) hR rfl
      refine G_go rfl rfl ?_
      refine G_ret rfl rfl ?_
      exact G_ret rfl rfl h
    · have h := h.2 c5
      refine G_go rfl rfl ?_
      refine G_go rfl rfl ?_
      refine G_ret rfl rfl ?_
      refine G_brF rfl rfl rfl ?_
      refine G_go rfl rfl ?_
      refine G_go rfl rfl ?_
      refine G_ret rfl rfl ?_
      refine G_call rfl rfl ?_
      refine G_go rfl rfl ?_
      refine G_brF rfl rfl rfl ?_
      refine G_go rfl rfl ?_
      refine G_go rfl rfl ?_
      refine G_ret rfl rfl ?_
      refine G_go rfl rfl ?_
      show G 2 120 113 16 [(3, 2), (1, a0), (1, (-4)), (0, 0)] [] (n, s) Q
      refine G_go rfl rfl ?_
      refine G_brF rfl rfl rfl ?_
      refine G_go rfl rfl ?_
      refine G_go rfl rfl ?_
      refine G_call rfl rfl ?_
      refine G_go rfl rfl ?_
      refine G_go rfl rfl ?_
      refine G_go rfl rfl ?_
      refine G_go rfl rfl ?_
      refine G_brF rfl rfl rfl ?_
      refine G_go rfl rfl ?_
      refine G_go rfl rfl ?_
      refine G_rf rfl rfl (by decide) (hR 2 7 119 rfl) ?_
      refine G_go rfl rfl ?_
      refine G_brF rfl rfl rfl ?_
      refine G_go rfl rfl ?_
      refine G_rf rfl rfl (by decide) (hR 2 7 119 rfl) ?_
      refine G_go rfl rfl ?_
      refine G_go rfl rfl ?_
      refine G_ir (n := 7) rfl rfl (by decide) (by decide) (by decide) ?_
      refine G_go rfl rfl ?_
      refine G_go rfl rfl ?_
      refine G_iw (n := 7) rfl rfl (by decide) (by decide) (by decide) ?_
      have hR := refs_up (a := 119) (k := 4) (x := wr ((s 119 4) + 1)) hR rfl
      refine G_go rfl rfl ?_
      refine G_ret rfl rfl ?_
      exact G_ret rfl rfl h
theorem sb_X6_nights_37 (n : Nat) (s : Nat → Nat → Int) (Q : List Vl → Sto → Prop) (x1 : Int) (x2 : Int) (hR : refs s)
    (h : (0 ≤ s 3 9 ∧ s 3 9 ≤ 6) ∧ (G 2 120 30 0 [(3, 3), (1, x1), (0, 0)] [] (n, s) (fun r s1 => G 2 120 113 53 [(3, 2), (1, x1), (1, x2), (1, itr (smF (s 10)) 0 (s 3 9).toNat)] (r ++ []) s1 Q))) :
    G 2 120 113 37 [(3, 2), (1, x1), (1, x2), (0, 0)] [] (n, s) Q := by
  refine G_go rfl rfl ?_
  refine G_rf rfl rfl (by decide) (hR 2 0 3 rfl) ?_
  refine G_call rfl rfl ?_
  refine G_go rfl rfl ?_
  refine G_go rfl rfl ?_
  refine G_rf rfl rfl (by decide) (hR 3 6 10 rfl) ?_
  refine G_call rfl rfl ?_
  obtain ⟨g1, h⟩ := h
  refine c_X5_sumOf_3_10 n _ _ hR g1 ?_
  refine G_ret rfl rfl ?_
  refine G_go rfl rfl ?_
  show G 2 120 113 45 [(3, 2), (1, x1), (1, x2), (1, itr (smF (s 10)) 0 (s 3 9).toNat)] [] (n, s) Q
  refine G_go rfl rfl ?_
  refine G_rf rfl rfl (by decide) (hR 2 0 3 rfl) ?_
  refine G_go rfl rfl ?_
  exact G_call rfl rfl h
theorem sb_X6_nights_53 (n : Nat) (s : Nat → Nat → Int) (Q : List Vl → Sto → Prop) (x1 : Int) (x2 : Int) (x3 : Int) (hR : refs s)
    (h : (0 ≤ s 3 9 ∧ s 3 9 ≤ 6) ∧ (Q [(1, wr ((itr (smF (s 10)) 0 (s 3 9).toNat) - x3))] (n, s))) :
    G 2 120 113 53 [(3, 2), (1, x1), (1, x2), (1, x3)] [] (n, s) Q := by
  refine G_go rfl rfl ?_
  refine G_rf rfl rfl (by decide) (hR 2 0 3 rfl) ?_
  refine G_call rfl rfl ?_
  refine G_go rfl rfl ?_
  refine G_go rfl rfl ?_
  refine G_rf rfl rfl (by decide) (hR 3 6 10 rfl) ?_
  refine G_call rfl rfl ?_
  obtain ⟨g1, h⟩ := h
  refine c_X5_sumOf_3_10 n _ _ hR g1 ?_
  refine G_ret rfl rfl ?_
  refine G_go rfl rfl ?_
  refine G_go rfl rfl ?_
  exact G_ret rfl rfl h
theorem sb_X7_nights_0 (n : Nat) (s : Nat → Nat → Int) (Q : List Vl → Sto → Prop) (a0 : Int) (hR : refs s)
    (h : (1 ≤ a0 → (a0 ≤ 12 → (wr ((s 120 9) + a0) ≤ 999 → G 120 140 181 0 [(3, 120), (0, 0)] [] (n, upS s 120 10 0) (fun r s1 => G 120 140 201 50 [(3, 120), (1, a0), (1, 0), (0, 0)] (r ++ []) s1 Q)) ∧ (999 < wr ((s 120 9) + a0) → Q [(1, (-6))] (n, upS (upS s 120 10 0) 129 6 (wr ((s 129 6) + 1))))) ∧ (12 < a0 → Q [(1, (-6))] (n, upS (upS s 120 10 0) 129 6 (wr ((s 129 6) + 1))))) ∧ (a0 < 1 → Q [(1, (-4))] (n, upS (upS s 120 10 0) 129 4 (wr ((s 129 4) + 1))))) :
    G 120 140 201 0 [(3, 120), (1, a0), (0, 0), (0, 0)] [] (n, s) Q := by
  refine G_go rfl rfl ?_
  refine G_go rfl rfl ?_
  refine G_wr rfl rfl (by decide) ?_
  have hR := refs_up (a := 120) (k := 10) (x := 0) hR rfl
  refine G_go rfl rfl ?_
  refine G_go rfl rfl ?_
  refine G_go rfl rfl ?_
  refine G_call rfl rfl ?_
  refine G_go rfl rfl ?_
  refine G_go rfl rfl ?_
  refine G_ge rfl rfl (fun c1 => ?_) (fun c1 => ?_)
  · have h := h.1 c1
    refine G_go rfl rfl ?_
    refine G_go rfl rfl ?_
    refine G_le rfl rfl (fun c2 => ?_) (fun c2 => ?_)
    · have h := h.1 c2
      refine G_go rfl rfl ?_
      refine G_ret rfl rfl ?_
      refine G_go rfl rfl ?_
      show G 120 140 201 13 [(3, 120), (1, a0), (1, 0), (0, 0)] [] (n, upS s 120 10 0) Q
      refine G_go rfl rfl ?_
      refine G_brF rfl rfl rfl ?_
      refine G_go rfl rfl ?_
      refine G_rd rfl rfl (by decide) ?_
      refine G_go rfl rfl ?_
      refine G_go rfl rfl ?_
      refine G_go rfl rfl ?_
      refine G_le rfl rfl (fun c3 => ?_) (fun c3 => ?_)
      · have h := h.1 c3
        refine G_go rfl rfl ?_
        refine G_go rfl rfl ?_
        show G 120 140 201 36 [(3, 120), (1, a0), (1, 0), (0, 0)] [] (n, upS s 120 10 0) Q
        refine G_go rfl rfl ?_
        refine G_brT rfl rfl rfl ?_
        refine G_go rfl rfl ?_
        exact G_call rfl rfl h
      · have h := h.2 c3
        refine G_go rfl rfl ?_
        refine G_go rfl rfl ?_
        refine G_go rfl rfl ?_
        show G 120 140 201 36 [(3, 120), (1, a0), (1, (-6)), (0, 0)] [] (n, upS s 120 10 0) Q
        refine G_go rfl rfl ?_
        refine G_brF rfl rfl rfl ?_
        refine G_go rfl rfl ?_
        refine G_go rfl rfl ?_
        refine G_call rfl rfl ?_
        refine G_go rfl rfl ?_
        refine G_rf rfl rfl (by decide) (hR 120 11 129 rfl) ?_
        refine G_go rfl rfl ?_
        refine G_go rfl rfl ?_
        refine G_go rfl rfl ?_
        refine G_ir (n := 7) rfl rfl (by decide) (by decide) (by decide) ?_
        refine G_go rfl rfl ?_
        refine G_go rfl rfl ?_
        refine G_iw (n := 7) rfl rfl (by decide) (by decide) (by decide) ?_
        have hR := refs_up (a := 129) (k := 6) (x := wr ((s 129 6) + 1)) hR rfl
        refine G_go rfl rfl ?_
        refine G_ret rfl rfl ?_
        exact G_ret rfl rfl h
    · have h := h.2 c2
      refine G_go rfl rfl ?_
      refine G_go rfl rfl ?_
      refine G_ret rfl rfl ?_
      refine G_go rfl rfl ?_
      show G 120 140 201 13 [(3, 120), (1, a0), (1, (-6)), (0, 0)] [] (n, upS s 120 10 0) Q
      refine G_go rfl rfl ?_
      refine G_brT rfl rfl rfl ?_
      refine G_go rfl rfl ?_
      refine G_go rfl rfl ?_
      show G 120 140 201 36 [(3, 120), (1, a0), (1, (-6)), (0, 0)] [] (n, upS s 120 10 0) Q
      refine G_go rfl rfl ?_
      refine G_brF rfl rfl rfl ?_
      refine G_go rfl rfl ?_
      refine G_go rfl rfl ?_
      refine G_call rfl rfl ?_
      refine G_go rfl rfl ?_
      refine G_rf rfl rfl (by decide) (hR 120 11 129 rfl) ?_
      refine G_go rfl rfl ?_
      refine G_go rfl rfl ?_
      refine G_go rfl rfl ?_
      refine G_ir (n := 7) rfl rfl (by decide) (by decide) (by decide) ?_
      refine G_go rfl rfl ?_
      refine G_go rfl rfl ?_
      refine G_iw (n := 7) rfl rfl (by decide) (by decide) (by decide) ?_
      have hR := refs_up (a := 129) (k := 6) (x := wr ((s 129 6) + 1)) hR rfl
      refine G_go rfl rfl ?_
      refine G_ret rfl rfl ?_
      exact G_ret rfl rfl h
  · have h := h.2 c1
    refine G_go rfl rfl ?_
    refine G_go rfl rfl ?_
    refine G_ret rfl rfl ?_
    refine G_go rfl rfl ?_
    show G 120 140 201 13 [(3, 120), (1, a0), (1, (-4)), (0, 0)] [] (n, upS s 120 10 0) Q
    refine G_go rfl rfl ?_
    refine G_brT rfl rfl rfl ?_
    refine G_go rfl rfl ?_
    refine G_go rfl rfl ?_
    show G 120 140 201 36 [(3, 120), (1, a0), (1, (-4)), (0, 0)] [] (n, upS s 120 10 0) Q
    refine G_go rfl rfl ?_
    refine G_brF rfl rfl rfl ?_
    refine G_go rfl rfl ?_
    refine G_go rfl rfl ?_
    refine G_call rfl rfl ?_
    refine G_go rfl rfl ?_
    refine G_rf rfl rfl (by decide) (hR 120 11 129 rfl) ?_
    refine G_go rfl rfl ?_
    refine G_go rfl rfl ?_
    refine G_go rfl rfl ?_
    refine G_ir (n := 7) rfl rfl (by decide) (by decide) (by decide) ?_
    refine G_go rfl rfl ?_
    refine G_go rfl rfl ?_
    refine G_iw (n := 7) rfl rfl (by decide) (by decide) (by decide) ?_
    have hR := refs_up (a := 129) (k := 4) (x := wr ((s 129 4) + 1)) hR rfl
    refine G_go rfl rfl ?_
    refine G_ret rfl rfl ?_
    exact G_ret rfl rfl h
theorem sb_X7_nights_50 (n : Nat) (s : Nat → Nat → Int) (Q : List Vl → Sto → Prop) (x1 : Int) (x2 : Int) (hR : refs s)
    (h : (0 ≤ s 120 0 ∧ s 120 0 ≤ 6) ∧ (G 120 140 168 0 [(3, 120), (1, x1), (0, 0), (0, 0), (0, 0)] [] (n, s) (fun r s1 => G 120 140 201 60 [(3, 120), (1, x1), (1, x2), (1, itr (smF (s 127)) 0 (s 120 0).toNat)] (r ++ []) s1 Q))) :
    G 120 140 201 50 [(3, 120), (1, x1), (1, x2), (0, 0)] [] (n, s) Q := by
  refine G_go rfl rfl ?_
  refine G_call rfl rfl ?_
  obtain ⟨g1, h⟩ := h
  refine c_X7_allPages n _ _ hR g1 ?_
  refine G_go rfl rfl ?_
  show G 120 140 201 55 [(3, 120), (1, x1), (1, x2), (1, itr (smF (s 127)) 0 (s 120 0).toNat)] [] (n, s) Q
  refine G_go rfl rfl ?_
  refine G_go rfl rfl ?_
  exact G_call rfl rfl h
theorem sb_X7_nights_60 (n : Nat) (s : Nat → Nat → Int) (Q : List Vl → Sto → Prop) (x1 : Int) (x2 : Int) (x3 : Int) (hR : refs s)
    (h : (0 ≤ s 120 0 ∧ s 120 0 ≤ 6) ∧ (Q [(1, wr ((itr (smF (s 127)) 0 (s 120 0).toNat) - x3))] (n, s))) :
    G 120 140 201 60 [(3, 120), (1, x1), (1, x2), (1, x3)] [] (n, s) Q := by
  refine G_go rfl rfl ?_
  refine G_call rfl rfl ?_
  obtain ⟨g1, h⟩ := h
  refine c_X7_allPages n _ _ hR g1 ?_
  refine G_go rfl rfl ?_
  refine G_go rfl rfl ?_
  exact G_ret rfl rfl h
theorem sb_X6_sets_0 (n : Nat) (s : Nat → Nat → Int) (Q : List Vl → Sto → Prop) (a0 : Int) (a1 : Int) (a2 : Int) (hR : refs s)
    (h : (a0 < 0 → (a1 < 0 → (0 ≤ a2 → (a2 ≤ 99 → Q [(1, (-1))] (n, upS s 119 1 (wr ((s 119 1) + 1)))) ∧ (99 < a2 → Q [(1, (-1))] (n, upS s 119 1 (wr ((s 119 1) + 1))))) ∧ (a2 < 0 → Q [(1, (-1))] (n, upS s 119 1 (wr ((s 119 1) + 1))))) ∧ (0 ≤ a1 → (a1 ≤ 2 → (0 ≤ a2 → (a2 ≤ 99 → Q [(1, (-1))] (n, upS s 119 1 (wr ((s 119 1) + 1)))) ∧ (99 < a2 → Q [(1, (-1))] (n, upS s 119 1 (wr ((s 119 1) + 1))))) ∧ (a2 < 0 → Q [(1, (-1))] (n, upS s 119 1 (wr ((s 119 1) + 1))))) ∧ (2 < a1 → (0 ≤ a2 → (a2 ≤ 99 → Q [(1, (-1))] (n, upS s 119 1 (wr ((s 119 1) + 1)))) ∧ (99 < a2 → Q [(1, (-1))] (n, upS s 119 1 (wr ((s 119 1) + 1))))) ∧ (a2 < 0 → Q [(1, (-1))] (n, upS s 119 1 (wr ((s 119 1) + 1))))))) ∧ (0 ≤ a0 → (s 3 9 ≤ a0 → (a1 < 0 → (0 ≤ a2 → (a2 ≤ 99 → Q [(1, (-1))] (n, upS s 119 1 (wr ((s 119 1) + 1)))) ∧ (99 < a2 → Q [(1, (-1))] (n, upS s 119 1 (wr ((s 119 1) + 1))))) ∧ (a2 < 0 → Q [(1, (-1))] (n, upS s 119 1 (wr ((s 119 1) + 1))))) ∧ (0 ≤ a1 → (a1 ≤ 2 → (0 ≤ a2 → (a2 ≤ 99 → Q [(1, (-1))] (n, upS s 119 1 (wr ((s 119 1) + 1)))) ∧ (99 < a2 → Q [(1, (-1))] (n, upS s 119 1 (wr ((s 119 1) + 1))))) ∧ (a2 < 0 → Q [(1, (-1))] (n, upS s 119 1 (wr ((s 119 1) + 1))))) ∧ (2 < a1 → (0 ≤ a2 → (a2 ≤ 99 → Q [(1, (-1))] (n, upS s 119 1 (wr ((s 119 1) + 1)))) ∧ (99 < a2 → Q [(1, (-1))] (n, upS s 119 1 (wr ((s 119 1) + 1))))) ∧ (a2 < 0 → Q [(1, (-1))] (n, upS s 119 1 (wr ((s 119 1) + 1))))))) ∧ (a0 < s 3 9 → (a1 < 0 → (0 ≤ a2 → (a2 ≤ 99 → Q [(1, (-2))] (n, upS s 119 2 (wr ((s 119 2) + 1)))) ∧ (99 < a2 → Q [(1, (-2))] (n, upS s 119 2 (wr ((s 119 2) + 1))))) ∧ (a2 < 0 → Q [(1, (-2))] (n, upS s 119 2 (wr ((s 119 2) + 1))))) ∧ (0 ≤ a1 → (a1 ≤ 2 → (0 ≤ a2 → (a2 ≤ 99 → G 2 120 8 0 [(3, 33), (3, 3)] [] (n, s) (fun r s1 => G 2 120 124 45 [(3, 2), (1, a0), (1, a1), (1, a2), (1, 0), (0, 0)] (r ++ []) s1 Q)) ∧ (99 < a2 → Q [(1, (-6))] (n, upS s 119 6 (wr ((s 119 6) + 1))))) ∧ (a2 < 0 → Q [(1, (-4))] (n, upS s 119 4 (wr ((s 119 4) + 1))))) ∧ (2 < a1 → (0 ≤ a2 → (a2 ≤ 99 → Q [(1, (-2))] (n, upS s 119 2 (wr ((s 119 2) + 1)))) ∧ (99 < a2 → Q [(1, (-2))] (n, upS s 119 2 (wr ((s 119 2) + 1))))) ∧ (a2 < 0 → Q [(1, (-2))] (n, upS s 119 2 (wr ((s 119 2) + 1))))))))) :
    G 2 120 124 0 [(3, 2), (1, a0), (1, a1), (1, a2), (0, 0), (0, 0)] [] (n, s) Q := by
  refine G_go rfl rfl ?_
  refine G_go rfl rfl ?_
  refine G_call rfl rfl ?_
  refine G_go rfl rfl ?_
  refine G_rf rfl rfl (by decide) (hR 2 0 3 rfl) ?_
  refine G_go rfl rfl ?_
  refine G_call rfl rfl ?_
  refine G_go rfl rfl ?_
  refine G_lt rfl rfl (fun c1 => ?_) (fun c1 => ?_)
  · have h := h.1 c1
    refine G_go rfl rfl ?_
    refine G_ret rfl rfl ?_
    refine G_brT rfl rfl rfl ?_
    refine G_go rfl rfl ?_
    refine G_ret rfl rfl ?_
    refine G_go rfl rfl ?_
    refine G_go rfl rfl ?_
    refine G_call rfl rfl ?_
    refine G_go rfl rfl ?_
    refine G_lt rfl rfl (fun c2 => ?_) (fun c2 => ?_)
    · have h := h.1 c2
      refine G_go rfl rfl ?_
      refine G_go rfl rfl ?_
      refine G_ret rfl rfl ?_
      refine G_go rfl rfl ?_
      refine G_go rfl rfl ?_
      refine G_go rfl rfl ?_
      refine G_call rfl rfl ?_
      refine G_go rfl rfl ?_
      refine G_go rfl rfl ?_
      refine G_ge rfl rfl (fun c3 => ?_) (fun c3 => ?_)
      · have h := h.1 c3
        refine G_go rfl rfl ?_
        refine G_go rfl rfl ?_
        refine G_le rfl rfl (fun c4 => ?_) (fun c4 => ?_)
        · have h := h.1 c4
          refine G_go rfl rfl ?_
          refine G_ret rfl rfl ?_
          refine G_call rfl rfl ?_
          refine G_go rfl rfl ?_
          refine G_go rfl rfl ?_
          refine G_go rfl rfl ?_
          refine G_call rfl rfl ?_
          refine G_go rfl rfl ?_
          refine G_brF rfl rfl rfl ?_
          refine G_go rfl rfl ?_
          refine G_go rfl rfl ?_
          refine G_ret rfl rfl ?_
          refine G_call rfl rfl ?_
          refine G_go rfl rfl ?_
          refine G_brF rfl rfl rfl ?_
          refine G_go rfl rfl ?_
          refine G_go rfl rfl ?_
          refine G_ret rfl rfl ?_
          refine G_ret rfl rfl ?_
          refine G_go rfl rfl ?_
          show G 2 120 124 22 [(3, 2), (1, a0), (1, a1), (1, a2), (1, (-1)), (0, 0)] [] (n, s) Q
          refine G_go rfl rfl ?_
          refine G_brF rfl rfl rfl ?_
          refine G_go rfl rfl ?_
          refine G_go rfl rfl ?_
          refine G_call rfl rfl ?_
          refine G_go rfl rfl ?_
          refine G_go rfl rfl ?_
          refine G_go rfl rfl ?_
          refine G_go rfl rfl ?_
          refine G_brF rfl rfl rfl ?_
          refine G_go rfl rfl ?_
          refine G_go rfl rfl ?_
          refine G_rf rfl rfl (by decide) (hR 2 7 119 rfl) ?_
          refine G_go rfl rfl ?_
          refine G_brF rfl rfl rfl ?_
          refine G_go rfl rfl ?_
          refine G_rf rfl rfl (by decide) (hR 2 7 119 rfl) ?_
          refine G_go rfl rfl ?_
          refine G_go rfl rfl ?_
          refine G_ir (n := 7) rfl rfl (by decide) (by decide) (by decide) ?_
          refine G_go rfl rfl ?_
          refine G_go rfl rfl ?_
          refine G_iw (n := 7) rfl rfl (by decide) (by decide) (by decide) ?_
          have hR := refs_up (a := 119) (k := 1) (x := wr ((s 119 1) + 1)) hR rfl
          refine G_go rfl rfl ?_
          refine G_ret rfl rfl ?_
          exact G_ret rfl rfl h
        · have h := h.2 c4
          refine G_go rfl rfl ?_
          refine G_go rfl rfl ?_
          refine G_ret rfl rfl ?_
          refine G_call rfl rfl ?_
          refine G_go rfl rfl ?_
          refine G_go rfl rfl ?_
          refine G_go rfl rfl ?_
          refine G_call rfl rfl ?_
          refine G_go rfl rfl ?_
          refine G_brF rfl rfl rfl ?_
          refine G_go rfl rfl ?_
          refine G_go rfl rfl ?_
          refine G_ret rfl rfl ?_
          refine G_call rfl rfl ?_
          refine G_go rfl rfl ?_
          refine G_brF rfl rfl rfl ?_
          refine G_go rfl rfl ?_
          refine G_go rfl rfl ?_
          refine G_ret rfl rfl ?_
          refine G_ret rfl rfl ?_
          refine G_go rfl rfl ?_
          show G 2 120 124 22 [(3, 2), (1, a0), (1, a1), (1, a2), (1, (-1)), (0, 0)] [] (n, s) Q
          refine G_go rfl rfl ?_
          refine G_brF rfl rfl rfl ?_
          refine G_go rfl rfl ?_
          refine G_go rfl rfl ?_
          refine G_call rfl rfl ?_
          refine G_go rfl rfl ?_
          refine G_go rfl rfl ?_
          refine G_go rfl rfl ?_
          refine G_go rfl rfl ?_
          refine G_brF rfl rfl rfl ?_
          refine G_go rfl rfl ?_
          refine G_go rfl rfl ?_
          refine G_rf rfl rfl (by decide) (hR 2 7 119 rfl) ?_
          refine G_go rfl rfl ?_
          refine G_brF rfl rfl rfl ?_
          refine G_go rfl rfl ?_
          refine G_rf rfl rfl (by decide) (hR 2 7 119 rfl) ?_
          refine G_go rfl rfl ?_
          refine G_go rfl rfl ?_
          refine G_ir (n := 7) rfl rfl (by decide) (by decide) (by decide) ?_
          refine G_go rfl rfl ?_
          refine G_go rfl rfl ?_
          refine G_iw (n := 7) rfl rfl (by decide) (by decide) (by decide) ?_
          have hR := refs_up (a := 119) (k := 1) (x := wr ((s 119 1) + 1)) hR rfl
          refine G_go rfl rfl ?_
          refine G_ret rfl rfl ?_
          exact G_ret rfl rfl h
      · have h := h.2 c3
        refine G_go rfl rfl ?_
        refine G_ret rfl rfl ?_
        refine G_call rfl rfl ?_
        refine G_go rfl rfl ?_
        refine G_go rfl rfl ?_
        refine G_go rfl rfl ?_
        refine G_call rfl rfl ?_
        refine G_go rfl rfl ?_
        refine G_brF rfl rfl rfl ?_
        refine G_go rfl rfl ?_
        refine G_go rfl rfl ?_
        refine G_ret rfl rfl ?_
        refine G_call rfl rfl ?_
        refine G_go rfl rfl ?_
        refine G_brF rfl rfl rfl ?_
        refine G_go rfl rfl ?_
        refine G_go rfl rfl ?_
        refine G_ret rfl rfl ?_
        refine G_ret rfl rfl ?_
        refine G_go rfl rfl ?_
        show G 2 120 124 22 [(3, 2), (1, a0), (1, a1), (1, a2), (1, (-1)), (0, 0)] [] (n, s) Q
        refine G_go rfl rfl ?_
        refine G_brF rfl rfl rfl ?_
        refine G_go rfl rfl ?_
        refine G_go rfl rfl ?_
        refine G_call rfl rfl ?_
        refine G_go rfl rfl ?_
        refine G_go rfl rfl ?_
        refine G_go rfl rfl ?_
        refine G_go rfl rfl ?_
        refine G_brF rfl rfl rfl ?_
        refine G_go rfl rfl ?_
        refine G_go rfl rfl ?_
        refine G_rf rfl rfl (by decide) (hR 2 7 119 rfl) ?_
        refine G_go rfl rfl ?_
        refine G_brF rfl rfl rfl ?_
        refine G_go rfl rfl ?_
        refine G_rf rfl rfl (by decide) (hR 2 7 119 rfl) ?_
        refine G_go rfl rfl ?_
        refine G_go rfl rfl ?_
        refine G_ir (n := 7) rfl rfl (by decide) (by decide) (by decide) ?_
        refine G_go rfl rfl ?_
        refine G_go rfl rfl ?_
        refine G_iw (n := 7) rfl rfl (by decide) (by decide) (by decide) ?_
        have hR := refs_up (a := 119) (k := 1) (x := wr ((s 119 1) + 1)) hR rfl
        refine G_go rfl rfl ?_
        refine G_ret rfl rfl ?_
        exact G_ret rfl rfl h
    · have h := h.2 c2
      refine G_go rfl rfl ?_
      refine G_go rfl rfl ?_
      refine G_le rfl rfl (fun c5 => ?_) (fun c5 => ?_)
      · have h := h.1 c5
        refine G_go rfl rfl ?_
        refine G_ret rfl rfl ?_
        refine G_go rfl rfl ?_
        refine G_go rfl rfl ?_
        refine G_go rfl rfl ?_
        refine G_call rfl rfl ?_
        refine G_go rfl rfl ?_
        refine G_go rfl rfl ?_
        refine G_ge rfl rfl (fun c6 => ?_) (fun c6 => ?_)
        · have h := h.1 c6
          refine G_go rfl rfl ?_
          refine G_go rfl rfl ?_
          refine G_le rfl rfl (fun c7 => ?_) (fun c7 => ?_)
          · have h := h.1 c7
            refine G_go rfl rfl ?_
            refine G_ret rfl rfl ?_
            refine G_call rfl rfl ?_
            refine G_go rfl rfl ?_
            refine G_go rfl rfl ?_
            refine G_go rfl rfl ?_
            refine G_call rfl rfl ?_
            refine G_go rfl rfl ?_
            refine G_brT rfl rfl rfl ?_
            refine G_go rfl rfl ?_
            refine G_ret rfl rfl ?_
            refine G_call rfl rfl ?_
            refine G_go rfl rfl ?_
            refine G_brF rfl rfl rfl ?_
            refine G_go rfl rfl ?_
            refine G_go rfl rfl ?_
            refine G_ret rfl rfl ?_
            refine G_ret rfl rfl ?_
            refine G_go rfl rfl ?_
            show G 2 120 124 22 [(3, 2), (1, a0), (1, a1), (1, a2), (1, (-1)), (0, 0)] [] (n, s) Q
            refine G_go rfl rfl ?_
            refine G_brF rfl rfl rfl ?_
            refine G_go rfl rfl ?_
            refine G_go rfl rfl ?_
            refine G_call rfl rfl ?_
            refine G_go rfl rfl ?_
            refine G_go rfl rfl ?_
            refine G_go rfl rfl ?_
            refine G_go rfl rfl ?_
            refine G_brF rfl rfl rfl ?_
            refine G_go rfl rfl ?_
            refine G_go rfl rfl ?_
            refine G_rf rfl rfl (by decide) (hR 2 7 119 rfl) ?_
            refine G_go rfl rfl ?_
            refine G_brF rfl rfl rfl ?_
            refine G_go rfl rfl ?_
            refine G_rf rfl rfl (by decide) (hR 2 7 119 rfl) ?_
            refine G_go rfl rfl ?_
            refine G_go rfl rfl ?_
            refine G_ir (n := 7) rfl rfl (by decide) (by decide) (by decide) ?_
            refine G_go rfl rfl ?_
            refine G_go rfl rfl ?_
            refine G_iw (n := 7) rfl rfl (by decide) (by decide) (by decide) ?_
            have hR := refs_up (a := 119) (k := 1) (x := wr ((s 119 1) + 1)) hR rfl
            refine G_go rfl rfl ?_
            refine G_ret rfl rfl ?_
            exact G_ret rfl rfl h
          · have h := h.2 c7
            refine G_go rfl rfl ?_
            refine G_go rfl rfl ?_
            refine G_ret rfl rfl ?_
            refine G_call rfl rfl ?_
            refine G_go rfl rfl ?_
            refine G_go rfl rfl ?_
            refine G_go rfl rfl ?_
            refine G_call rfl rfl ?_
            refine G_go rfl rfl ?_
            refine G_brT rfl rfl rfl ?_
            refine G_go rfl rfl ?_
            refine G_ret rfl rfl ?_
            refine G_call rfl rfl ?_
            refine G_go rfl rfl ?_
            refine G_brF rfl rfl rfl ?_
            refine G_go rfl rfl ?_
            refine G_go rfl rfl ?_
            refine G_ret rfl rfl ?_
            refine G_ret rfl rfl ?_
            refine G_go rfl rfl ?_
            show G 2 120 124 22 [(3, 2), (1, a0), (1, a1), (1, a2), (1, (-1)), (0, 0)] [] (n, s) Q
            refine G_go rfl rfl ?_
            refine G_brF rfl rfl rfl ?_
            refine G_go rfl rfl ?_
            refine G_go rfl rfl ?_
            refine G_call rfl rfl ?_
            refine G_go rfl rfl ?_
            refine G_go rfl rfl ?_
            refine G_go rfl rfl ?_
            refine G_go rfl rfl ?_
            refine G_brF rfl rfl rfl ?_
            refine G_go rfl rfl ?_
            refine G_go rfl rfl ?_
            refine G_rf rfl rfl (by decide) (hR 2 7 119 rfl) ?_
            refine G_go rfl rfl ?_
            refine G_brF rfl rfl rfl ?_
            refine G_go rfl rfl ?_
            refine G_rf rfl rfl (by decide) (hR 2 7 119 rfl) ?_
            refine G_go rfl rfl ?_
            refine G_go rfl rfl ?_
            refine G_ir (n := 7) rfl rfl (by decide) (by decide) (by decide) ?_
            refine G_go rfl rfl ?_
            refine G_go rfl rfl ?_
            refine G_iw (n := 7) rfl rfl (by decide) (by decide) (by decide) ?_
            have hR := refs_up (a := 119) (k := 1) (x := wr ((s 119 1) + 1)) hR rfl
            refine G_go rfl rfl ?_
            refine G_ret rfl rfl ?_
            exact G_ret rfl rfl h
        · have h := h.2 c6
          refine G_go rfl rfl ?_
          refine G_ret rfl rfl ?_
          refine G_call rfl rfl ?_
          refine G_go rfl rfl ?_
          refine G_go rfl rfl ?_
          refine G_go rfl rfl ?_
          refine G_call rfl rfl ?_
          refine G_go rfl rfl ?_
          refine G_brT rfl rfl rfl ?_
          refine G_go rfl rfl ?_
          refine G_ret rfl rfl ?_
          refine G_call rfl rfl ?_
          refine G_go rfl rfl ?_
          refine G_brF rfl rfl rfl ?_
          refine G_go rfl rfl ?_
          refine G_go rfl rfl ?_
          refine G_ret rfl rfl ?_
          refine G_ret rfl rfl ?_
          refine G_go rfl rfl ?_
          show G 2 120 124 22 [(3, 2), (1, a0), (1, a1), (1, a2), (1, (-1)), (0, 0)] [] (n, s) Q
          refine G_go rfl rfl ?_
          refine G_brF rfl rfl rfl ?_
          refine G_go rfl rfl ?_
          refine G_go rfl rfl ?_
          refine G_call rfl rfl ?_
          refine G_go rfl rfl ?_
          refine G_go rfl rfl ?_
          refine G_go rfl rfl ?_
          refine G_go rfl rfl ?_
          refine G_brF rfl rfl rfl ?_
          refine G_go rfl rfl ?_
          refine G_go rfl rfl ?_
          refine G_rf rfl rfl (by decide) (hR 2 7 119 rfl) ?_
          refine G_go rfl rfl ?_
          refine G_brF rfl rfl rfl ?_
          refine G_go rfl rfl ?_
          refine G_rf rfl rfl (by decide) (hR 2 7 119 rfl) ?_
          refine G_go rfl rfl ?_
          refine G_go rfl rfl ?_
          refine G_ir (n := 7) rfl rfl (by decide) (by decide) (by decide) ?_
          refine G_go rfl rfl ?_
          refine G_go rfl rfl ?_
          refine G_iw (n := 7) rfl rfl (by decide) (by decide) (by decide) ?_
          have hR := refs_up (a := 119) (k := 1) (x := wr ((s 119 1) + 1)) hR rfl
          refine G_go rfl rfl ?_
          refine G_ret rfl rfl ?_
          exact G_ret rfl rfl h
      · have h := h.2 c5
        refine G_go rfl rfl ?_
        refine G_go rfl rfl ?_
        refine G_ret rfl rfl ?_
        refine G_go rfl rfl ?_
        refine G_go rfl rfl ?_
        refine G_go rfl rfl ?_
        refine G_call rfl rfl ?_
        refine G_go rfl rfl ?_
        refine G_go rfl rfl ?_
        refine G_ge rfl rfl (fun c8 => ?_) (fun c8 => ?_)
        · have h := h.1 c8
          refine G_go rfl rfl ?_
          refine G_go rfl rfl ?_
          refine G_le rfl rfl (fun c9 => ?_) (fun c9 => ?_)
          · have h := h.1 c9
            refine G_go rfl rfl ?_
            refine G_ret rfl rfl ?_
            refine G_call rfl rfl ?_
            refine G_go rfl rfl ?_
            refine G_go rfl rfl ?_
            refine G_go rfl rfl ?_
            refine G_call rfl rfl ?_
            refine G_go rfl rfl ?_
            refine G_brF rfl rfl rfl ?_
            refine G_go rfl rfl ?_
            refine G_go rfl rfl ?_
            refine G_ret rfl rfl ?_
            refine G_call rfl rfl ?_
            refine G_go rfl rfl ?_
            refine G_brF rfl rfl rfl ?_
            refine G_go rfl rfl ?_
            refine G_go rfl rfl ?_
            refine G_ret rfl rfl ?_
            refine G_ret rfl rfl ?_
            refine G_go rfl rfl ?_
            show G 2 120 124 22 [(3, 2), (1, a0), (1, a1), (1, a2), (1, (-1)), (0, 0)] [] (n, s) Q
            refine G_go rfl rfl ?_
            refine G_brF rfl rfl rfl ?_
            refine G_go rfl rfl ?_
            refine G_go rfl rfl ?_
            refine G_call rfl rfl ?_
            refine G_go rfl rfl ?_
            refine G_go rfl rfl ?_
            refine G_go rfl rfl ?_
            refine G_go rfl rfl ?_
            refine G_brF rfl rfl rfl ?_
            refine G_go rfl rfl ?_
            refine G_go rfl rfl ?_
            refine G_rf rfl rfl (by decide) (hR 2 7 119 rfl) ?_
            refine G_go rfl rfl ?_
            refine G_brF rfl rfl rfl ?_
            refine G_go rfl rfl ?_
            refine G_rf rfl rfl (by decide) (hR 2 7 119 rfl) ?_
            refine G_go rfl rfl ?_
            refine G_go rfl rfl ?_
            refine G_ir (n := 7) rfl rfl (by decide) (by decide) (by decide) ?_
            refine G_go rfl rfl ?_
            refine G_go rfl rfl ?_
            refine G_iw (n := 7) rfl rfl (by decide) (by decide) (by decide) ?_
            have hR := refs_up (a := 119) (k := 1) (x := wr ((s 119 1) + 1)) hR rfl
            refine G_go rfl rfl ?_
            refine G_ret rfl rfl ?_
            exact G_ret rfl rfl h
          · have h := h.2 c9
            refine G_go rfl rfl ?_
            refine G_go rfl rfl ?_
            refine G_ret rfl rfl ?_
            refine G_call rfl rfl ?_
            refine G_go rfl rfl ?_
            refine G_go rfl rfl ?_
            refine G_go rfl rfl ?_
            refine G_call rfl rfl ?_
            refine G_go rfl rfl ?_
            refine G_brF rfl rfl rfl ?_
            refine G_go rfl rfl ?_
            refine G_go rfl rfl ?_
            refine G_ret rfl rfl ?_
            refine G_call rfl rfl ?_
            refine G_go rfl rfl ?_
            refine G_brF rfl rfl rfl ?_
            refine G_go rfl rfl ?_
            refine G_go rfl rfl ?_
            refine G_ret rfl rfl ?_
            refine G_ret rfl rfl ?_
            refine G_go rfl rfl ?_
            show G 2 120 124 22 [(3, 2), (1, a0), (1, a1), (1, a2), (1, (-1)), (0, 0)] [] (n, s) Q
            refine G_go rfl rfl ?_
            refine G_brF rfl rfl rfl ?_
            refine G_go rfl rfl ?_
            refine G_go rfl rfl ?_
            refine G_call rfl rfl ?_
            refine G_go rfl rfl ?_
            refine G_go rfl rfl ?_
            refine G_go rfl rfl ?_
            refine G_go rfl rfl ?_
            refine G_brF rfl rfl rfl ?_
            refine G_go rfl rfl ?_
            refine G_go rfl rfl ?_
            refine G_rf rfl rfl (by decide) (hR 2 7 119 rfl) ?_
            refine G_go rfl rfl ?_
            refine G_brF rfl rfl rfl ?_
            refine G_go rfl rfl ?_
            refine G_rf rfl rfl (by decide) (hR 2 7 119 rfl) ?_
            refine G_go rfl rfl ?_
            refine G_go rfl rfl ?_
            refine G_ir (n := 7) rfl rfl (by decide) (by decide) (by decide) ?_
            refine G_go rfl rfl ?_
            refine G_go rfl rfl ?_
            refine G_iw (n := 7) rfl rfl (by decide) (by decide) (by decide) ?_
            have hR := refs_up (a := 119) (k := 1) (x := wr ((s 119 1) + 1)) hR rfl
            refine G_go rfl rfl ?_
            refine G_ret rfl rfl ?_
            exact G_ret rfl rfl h
        · have h := h.2 c8
          refine G_go rfl rfl ?_
          refine G_ret rfl rfl ?_
          refine G_call rfl rfl ?_
          refine G_go rfl rfl ?_
          refine G_go rfl rfl ?_
          refine G_go rfl rfl ?_
          refine G_call rfl rfl ?_
          refine G_go rfl rfl ?_
          refine G_brF rfl rfl rfl ?_
          refine G_go rfl rfl ?_
          refine G_go rfl rfl ?_
          refine G_ret rfl rfl ?_
          refine G_call rfl rfl ?_
          refine G_go rfl rfl ?_
          refine G_brF rfl rfl rfl ?_
          refine G_go rfl rfl ?_
          refine G_go rfl rfl ?_
          refine G_ret rfl rfl ?_
          refine G_ret rfl rfl ?_
          refine G_go rfl rfl ?_
          show G 2 120 124 22 [(3, 2), (1, a0), (1, a1), (1, a2), (1, (-1)), (0, 0)] [] (n, s) Q
          refine G_go rfl rfl ?_
          refine G_brF rfl rfl rfl ?_
          refine G_go rfl rfl ?_
          refine G_go rfl rfl ?_
          refine G_call rfl rfl ?_
          refine G_go rfl rfl ?_
          refine G_go rfl rfl ?_
          refine G_go rfl rfl ?_
          refine G_go rfl rfl ?_
          refine G_brF rfl rfl rfl ?_
          refine G_go rfl rfl ?_
          refine G_go rfl rfl ?_
          refine G_rf rfl rfl (by decide) (hR 2 7 119 rfl) ?_
          refine G_go rfl rfl ?_
          refine G_brF rfl rfl rfl ?_
          refine G_go rfl rfl ?_
          refine G_rf rfl rfl (by decide) (hR 2 7 119 rfl) ?_
          refine G_go rfl rfl ?_
          refine G_go rfl rfl ?_
          refine G_ir (n := 7) rfl rfl (by decide) (by decide) (by decide) ?_
          refine G_go rfl rfl ?_
          refine G_go rfl rfl ?_
          refine G_iw (n := 7) rfl rfl (by decide) (by decide) (by decide) ?_
          have hR := refs_up (a := 119) (k := 1) (x := wr ((s 119 1) + 1)) hR rfl
          refine G_go rfl rfl ?_
          refine G_ret rfl rfl ?_
          exact G_ret rfl rfl h
  · have h := h.2 c1
    refine G_go rfl rfl ?_
    refine G_go rfl rfl ?_
    refine G_rd rfl rfl (by decide) ?_
    refine G_ge rfl rfl (fun c10 => ?_) (fun c10 => ?_)
    · have h := h.1 c10
      refine G_go rfl rfl ?_
      refine G_ret rfl rfl ?_
      refine G_brT rfl rfl rfl ?_
      refine G_go rfl rfl ?_
      refine G_ret rfl rfl ?_
      refine G_go rfl rfl ?_
      refine G_go rfl rfl ?_
      refine G_call rfl rfl ?_
      refine G_go rfl rfl ?_
      refine G_lt rfl rfl (fun c11 => ?_) (fun c11 => ?_)
      · have h := h.1 c11
        refine G_go rfl rfl ?_
        refine G_go rfl rfl ?_
        refine G_ret rfl rfl ?_
        refine G_go rfl rfl ?_
        refine G_go rfl rfl ?_
        refine G_go rfl rfl ?_
        refine G_call rfl rfl ?_
        refine G_go rfl rfl ?_
        refine G_go rfl rfl ?_
        refine G_ge rfl rfl (fun c12 => ?_) (fun c12 => ?_)
        · have h := h.1 c12
          refine G_go rfl rfl ?_
          refine G_go rfl rfl ?_
          refine G_le rfl rfl (fun c13 => ?_) (fun c13 => ?_)
          · have h := h.1 c13
            refine G_go rfl rfl ?_
            refine G_ret rfl rfl ?_
            refine G_call rfl rfl ?_
            refine G_go rfl rfl ?_
            refine G_go rfl rfl ?_
            refine G_go rfl rfl ?_
            refine G_call rfl rfl ?_
            refine G_go rfl rfl ?_
            refine G_brF rfl rfl rfl ?_
            refine G_go rfl rfl ?_
            refine G_go rfl rfl ?_
            refine G_ret rfl rfl ?_
            refine G_call rfl rfl ?_
            refine G_go rfl rfl ?_
            refine G_brF rfl rfl rfl ?_
            refine G_go rfl rfl ?_
            refine G_go rfl rfl ?_
            refine G_ret rfl rfl ?_
            refine G_ret rfl rfl ?_
            refine G_go rfl rfl ?_
            show G 2 120 124 22 [(3, 2), (1, a0), (1, a1), (1, a2), (1, (-1)), (0, 0)] [] (n, s) Q
            refine G_go rfl rfl ?_
            refine G_brF rfl rfl rfl ?_
            refine G_go rfl rfl ?_
            refine G_go rfl rfl ?_
            refine G_call rfl rfl ?_
            refine G_go rfl rfl ?_
            refine G_go rfl rfl ?_
            refine G_go rfl rfl ?_
            refine G_go rfl rfl ?_
            refine G_brF rfl rfl rfl ?_
            refine G_go rfl rfl ?_
            refine G_go rfl rfl ?_
            refine G_rf rfl rfl (by decide) (hR 2 7 119 rfl) ?_
            refine G_go rfl rfl ?_
            refine G_brF rfl rfl rfl ?_
            refine G_go rfl rfl ?_
            refine G_rf rfl rfl (by decide) (hR 2 7 119 rfl) ?_
            refine G_go rfl rfl ?_
            refine G_go rfl rfl ?_
            refine G_ir (n := 7) rfl rfl (by decide) (by decide) (by decide) ?_
            refine G_go rfl rfl ?_
            refine G_go rfl rfl ?_
            refine G_iw (n := 7) rfl rfl (by decide) (by decide) (by decide) ?_
            have hR := refs_up (a := 119) (k := 1) (x := wr ((s 119 1) + 1)) hR rfl
            refine G_go rfl rfl ?_
            refine G_ret rfl rfl ?_
            exact G_ret rfl rfl h
          · have h := h.2 c13
            refine G_go rfl rfl ?_
            refine G_go rfl rfl ?_
            refine G_ret rfl rfl ?_
            refine G_call rfl rfl ?_
            refine G_go rfl rfl ?_
            refine G_go rfl rfl ?_
            refine G_go rfl rfl ?_
            refine G_call rfl rfl ?_
            refine G_go rfl rfl ?_
            refine G_brF rfl rfl rfl ?_
            refine G_go rfl rfl ?_
            refine G_go rfl rfl ?_
            refine G_ret rfl rfl ?_
            refine G_call rfl rfl ?_
            refine G_go rfl rfl ?_
            refine G_brF rfl rfl rfl ?_
            refine G_go rfl rfl ?_
            refine G_go rfl rfl ?_
            refine G_ret rfl rfl ?_
            refine G_ret rfl rfl ?_
            refine G_go rfl rfl ?_
            show G 2 120 124 22 [(3, 2), (1, a0), (1, a1), (1, a2), (1, (-1)), (0, 0)] [] (n, s) Q
            refine G_go rfl rfl ?_
            refine G_brF rfl rfl rfl ?_
            refine G_go rfl rfl ?_
            refine G_go rfl rfl ?_
            refine G_call rfl rfl ?_
            refine G_go rfl rfl ?_
            refine G_go rfl rfl ?_
            refine G_go rfl rfl ?_
            refine G_go rfl rfl ?_
            refine G_brF rfl rfl rfl ?_
            refine G_go rfl rfl ?_
            refine G_go rfl rfl ?_
            refine G_rf rfl rfl (by decide) (hR 2 7 119 rfl) ?_
            refine G_go rfl rfl ?_
            refine G_brF rfl rfl rfl ?_
            refine G_go rfl rfl ?_
            refine G_rf rfl rfl (by decide) (hR 2 7 119 rfl) ?_
            refine G_go rfl rfl ?_
            refine G_go rfl rfl ?_
            refine G_ir (n := 7) rfl rfl (by decide) (by decide) (by decide) ?_
            refine G_go rfl rfl ?_
            refine G_go rfl rfl ?_
            refine G_iw (n := 7) rfl rfl (by decide) (by decide) (by decide) ?_
            have hR := refs_up (a := 119) (k := 1) (x := wr ((s 119 1) + 1)) hR rfl
            refine G_go rfl rfl ?_
            refine G_ret rfl rfl ?_
            exact G_ret rfl rfl h
        · have h := h.2 c12
          refine G_go rfl rfl ?_
          refine G_ret rfl rfl ?_
          refine G_call rfl rfl ?_
          refine G_go rfl rfl ?_
          refine G_go rfl rfl ?_
          refine G_go rfl rfl ?_
          refine G_call rfl rfl ?_
          refine G_go rfl rfl ?_
          refine G_brF rfl rfl rfl ?_
          refine G_go rfl rfl ?_
          refine G_go rfl rfl ?_
          refine G_ret rfl rfl ?_
          refine G_call rfl rfl ?_
          refine G_go rfl rfl ?_
          refine G_brF rfl rfl rfl ?_
          refine G_go rfl rfl ?_
          refine G_go rfl rfl ?_
          refine G_ret rfl rfl ?_
          refine G_ret rfl rfl ?_
          refine G_go rfl rfl ?_
          show G 2 120 124 22 [(3, 2), (1, a0), (1, a1), (1, a2), (1, (-1)), (0, 0)] [] (n, s) Q
          refine G_go rfl rfl ?_
          refine G_brF rfl rfl rfl ?_
          refine G_go rfl rfl ?_
          refine G_go rfl rfl ?_
          refine G_call rfl rfl ?_
          refine G_go rfl rfl ?_
          refine G_go rfl rfl ?_
          refine G_go rfl rfl ?_
          refine G_go rfl rfl ?_
          refine G_brF rfl rfl rfl ?_
          refine G_go rfl rfl ?_
          refine G_go rfl rfl ?_
          refine G_rf rfl rfl (by decide) (hR 2 7 119 rfl) ?_
          refine G_go rfl rfl ?_
          refine G_brF rfl rfl rfl ?_
          refine G_go rfl rfl ?_
          refine G_rf rfl rfl (by decide) (hR 2 7 119 rfl) ?_
          refine G_go rfl rfl ?_
          refine G_go rfl rfl ?_
          refine G_ir (n := 7) rfl rfl (by decide) (by decide) (by decide) ?_
          refine G_go rfl rfl ?_
          refine G_go rfl rfl ?_
          refine G_iw (n := 7) rfl rfl (by decide) (by decide) (by decide) ?_
          have hR := refs_up (a := 119) (k := 1) (x := wr ((s 119 1) + 1)) hR rfl
          refine G_go rfl rfl ?_
          refine G_ret rfl rfl ?_
          exact G_ret rfl rfl h
      · have h := h.2 c11
        refine G_go rfl rfl ?_
        refine G_go rfl rfl ?_
        refine G_le rfl rfl (fun c14 => ?_) (fun c14 => ?_)
        · have h := h.1 c14
          refine G_go rfl rfl ?_
          refine G_ret rfl rfl ?_
          refine G_go rfl rfl ?_
          refine G_go rfl rfl ?_
          refine G_go rfl rfl ?_
          refine G_call rfl rfl ?_
          refine G_go rfl rfl ?_
          refine G_go rfl rfl ?_
          refine G_ge rfl rfl (fun c15 => ?_) (fun c15 => ?_)
          · have h := h.1 c15
            refine G_go rfl rfl ?_
            refine G_go rfl rfl ?_
            refine G_le rfl rfl (fun c16 => ?_) (fun c16 => ?_)
            · have h := h.1 c16
              refine G_go rfl rfl ?_
              refine G_ret rfl rfl ?_
              refine G_call rfl rfl ?_
              refine G_go rfl rfl ?_
              refine G_go rfl rfl ?_
              refine G_go rfl rfl ?_
              refine G_call rfl rfl ?_
              refine G_go rfl rfl ?_
              refine G_brT rfl rfl rfl ?_
              refine G_go rfl rfl ?_
              refine G_ret rfl rfl ?_
              refine G_call rfl rfl ?_
              refine G_go rfl rfl ?_
              refine G_brF rfl rfl rfl ?_
              refine G_go rfl rfl ?_
              refine G_go rfl rfl ?_
              refine G_ret rfl rfl ?_
              refine G_ret rfl rfl ?_
              refine G_go rfl rfl ?_
              show G 2 120 124 22 [(3, 2), (1, a0), (1, a1), (1, a2), (1, (-1)), (0, 0)] [] (n, s) Q
              refine G_go rfl rfl ?_
              refine G_brF rfl rfl rfl ?_
              refine G_go rfl rfl ?_
              refine G_go rfl rfl ?_
              refine G_call rfl rfl ?_
              refine G_go rfl rfl ?_
              refine G_go rfl rfl ?_
              refine G_go rfl rfl ?_
              refine G_go rfl rfl ?_
              refine G_brF rfl rfl rfl ?_
              refine G_go rfl rfl ?_
              refine G_go rfl rfl ?_
              refine G_rf rfl rfl (by decide) (hR 2 7 119 rfl) ?_
              refine G_go rfl rfl ?_
              refine G_brF rfl rfl rfl ?_
              refine G_go rfl rfl ?_
              refine G_rf rfl rfl (by decide) (hR 2 7 119 rfl) ?_
              refine G_go rfl rfl ?_
              refine G_go rfl rfl ?_
              refine G_ir (n := 7) rfl rfl (by decide) (by decide) (by decide) ?_
              refine G_go rfl rfl ?_
              refine G_go rfl rfl ?_
              refine G_iw (n := 7) rfl rfl (by decide) (by decide) (by decide) ?_
              have hR := refs_up (a := 119) (k := 1) (x := wr ((s 119 1) + 1)) hR rfl
              refine G_go rfl rfl ?_
              refine G_ret rfl rfl ?_
              exact G_ret rfl rfl h
            · have h := h.2 c16
              refine G_go rfl rfl ?_
              refine G_go rfl rfl ?_
              refine G_ret rfl rfl ?_
              refine G_call rfl rfl ?_
              refine G_go rfl rfl ?_
              refine G_go rfl rfl ?_
              refine G_go rfl rfl ?_
              refine G_call rfl rfl ?_
              refine G_go rfl rfl ?_
              refine G_brT rfl rfl rfl ?_
              refine G_go rfl rfl ?_
              refine G_ret rfl rfl ?_
              refine G_call rfl rfl ?_
              refine G_go rfl rfl ?_
              refine G_brF rfl rfl rfl ?_
              refine G_go rfl rfl ?_
              refine G_go rfl rfl ?_
              refine G_ret rfl rfl ?_
              refine G_ret rfl rfl ?_
              refine G_go rfl rfl ?_
              show G 2 120 124 22 [(3, 2), (1, a0), (1, a1), (1, a2), (1, (-1)), (0, 0)] [] (n, s) Q
              refine G_go rfl rfl ?_
              refine G_brF rfl rfl rfl ?_
              refine G_go rfl rfl ?_
              refine G_go rfl rfl ?_
              refine G_call rfl rfl ?_
              refine G_go rfl rfl ?_
              refine G_go rfl rfl ?_
              refine G_go rfl rfl ?_
              refine G_go rfl rfl ?_
              refine G_brF rfl rfl rfl ?_
              refine G_go rfl rfl ?_
              refine G_go rfl rfl ?_
              refine G_rf rfl rfl (by decide) (hR 2 7 119 rfl) ?_
              refine G_go rfl rfl ?_
              refine G_brF rfl rfl rfl ?_
              refine G_go rfl rfl ?_
              refine G_rf rfl rfl (by decide) (hR 2 7 119 rfl) ?_
              refine G_go rfl rfl ?_
              refine G_go rfl rfl ?_
              refine G_ir (n := 7) rfl rfl (by decide) (by decide) (by decide) ?_
              refine G_go rfl rfl ?_
              refine G_go rfl rfl ?_
              refine G_iw (n := 7) rfl rfl (by decide) (by decide) (by decide) ?_
              have hR := refs_up (a := 119) (k := 1) (x := wr ((s 119 1) + 1)) hR rfl
              refine G_go rfl rfl ?_
              refine G_ret rfl rfl ?_
              exact G_ret rfl rfl h
          · have h := h.2 c15
            refine G_go rfl rfl ?_
            refine G_ret rfl rfl ?_
            refine G_call rfl rfl ?_
            refine G_go rfl rfl ?_
            refine G_go rfl rfl ?_
            refine G_go rfl rfl ?_
            refine G_call rfl rfl ?_
            refine G_go rfl rfl ?_
            refine G_brT rfl rfl rfl ?_
            refine G_go rfl rfl ?_
            refine G_ret rfl rfl ?_
            refine G_call rfl rfl ?_
            refine G_go rfl rfl ?_
            refine G_brF rfl rfl rfl ?_
            refine G_go rfl rfl ?_
            refine G_go rfl rfl ?_
            refine G_ret rfl rfl ?_
            refine G_ret rfl rfl ?_
            refine G_go rfl rfl ?_
            show G 2 120 124 22 [(3, 2), (1, a0), (1, a1), (1, a2), (1, (-1)), (0, 0)] [] (n, s) Q
            refine G_go rfl rfl ?_
            refine G_brF rfl rfl rfl ?_
            refine G_go rfl rfl ?_
            refine G_go rfl rfl ?_
            refine G_call rfl rfl ?_
            refine G_go rfl rfl ?_
            refine G_go rfl rfl ?_
            refine G_go rfl rfl ?_
            refine G_go rfl rfl ?_
            refine G_brF rfl rfl rfl ?_
            refine G_go rfl rfl ?_
            refine G_go rfl rfl ?_
            refine G_rf rfl rfl (by decide) (hR 2 7 119 rfl) ?_
            refine G_go rfl rfl ?_
            refine G_brF rfl rfl rfl ?_
            refine G_go rfl rfl ?_
            refine G_rf rfl rfl (by decide) (hR 2 7 119 rfl) ?_
            refine G_go rfl rfl ?_
            refine G_go rfl rfl ?_
            refine G_ir (n := 7) rfl rfl (by decide) (by decide) (by decide) ?_
            refine G_go rfl rfl ?_
            refine G_go rfl rfl ?_
            refine G_iw (n := 7) rfl rfl (by decide) (by decide) (by decide) ?_
            have hR := refs_up (a := 119) (k := 1) (x := wr ((s 119 1) + 1)) hR rfl
            refine G_go rfl rfl ?_
            refine G_ret rfl rfl ?_
            exact G_ret rfl rfl h
        · have h := h.2 c14
          refine G_go rfl rfl ?_
          refine G_go rfl rfl ?_
          refine G_ret rfl rfl ?_
          refine G_go rfl rfl ?_
          refine G_go rfl rfl ?_
          refine G_go rfl rfl ?_
          refine G_call rfl rfl ?_
          refine G_go rfl rfl ?_
          refine G_go rfl rfl ?_
          refine G_ge rfl rfl (fun c17 => ?_) (fun c17 => ?_)
          · have h := h.1 c17
            refine G_go rfl rfl ?_
            refine G_go rfl rfl ?_
            refine G_le rfl rfl (fun c18 => ?_) (fun c18 => ?_)
            · have h := h.1 c18
              refine G_go rfl rfl ?_
              refine G_ret rfl rfl ?_
              refine G_call rfl rfl ?_
              refine G_go rfl rfl ?_
              refine G_go rfl rfl ?_
              refine G_go rfl rfl ?_
              refine G_call rfl rfl ?_
              refine G_go rfl rfl ?_
              refine G_brF rfl rfl rfl ?_
              refine G_go rfl rfl ?_
              refine G_go rfl rfl ?_
              refine G_ret rfl rfl ?_
              refine G_call rfl rfl ?_
              refine G_go rfl rfl ?_
              refine G_brF rfl rfl rfl ?_
              refine G_go rfl rfl ?_
              refine G_go rfl rfl ?_
              refine G_ret rfl rfl ?_
              refine G_ret rfl rfl ?_
              refine G_go rfl rfl ?_
              show G 2 120 124 22 [(3, 2), (1, a0), (1, a1), (1, a2), (1, (-1)), (0, 0)] [] (n, s) Q
              refine G_go rfl rfl ?_
              refine G_brF rfl rfl rfl ?_
              refine G_go rfl rfl ?_
              refine G_go rfl rfl ?_
              refine G_call rfl rfl ?_
              refine G_go rfl rfl ?_
              refine G_go rfl rfl ?_
              refine G_go rfl rfl ?_
              refine G_go rfl rfl ?_
              refine G_brF rfl rfl rfl ?_
              refine G_go rfl rfl ?_
              refine G_go rfl rfl ?_
              refine G_rf rfl rfl (by decide) (hR 2 7 119 rfl) ?_
              refine G_go rfl rfl ?_
              refine G_brF rfl rfl rfl ?_
              refine G_go rfl rfl ?_
              refine G_rf rfl rfl (by decide) (hR 2 7 119 rfl) ?_
              refine G_go rfl rfl ?_
              refine G_go rfl rfl ?_
              refine G_ir (n := 7) rfl rfl (by decide) (by decide) (by decide) ?_
              refine G_go rfl rfl ?_
              refine G_go rfl rfl ?_
              refine G_iw (n := 7) rfl rfl (by decide) (by decide) (by decide) ?_
              have hR := refs_up (a := 119) (k := 1) (x := wr ((s 119 1) + 1)) hR rfl
              refine G_go rfl rfl ?_
              refine G_ret rfl rfl ?_
              exact G_ret rfl rfl h
            · have h := h.2 c18
              refine G_go rfl rfl ?_
              refine G_go rfl rfl ?_
              refine G_ret rfl rfl ?_
              refine G_call rfl rfl ?_
              refine G_go rfl rfl ?_
              refine G_go rfl rfl ?_
              refine G_go rfl rfl ?_
              refine G_call rfl rfl ?_
              refine G_go rfl rfl ?_
              refine G_brF rfl rfl rfl ?_
              refine G_go rfl rfl ?_
              refine G_go rfl rfl ?_
              refine G_ret rfl rfl ?_
              refine G_call rfl rfl ?_
              refine G_go rfl rfl ?_
              refine G_brF rfl rfl rfl ?_
              refine G_go rfl rfl ?_
              refine G_go rfl rfl ?_
              refine G_ret rfl rfl ?_
              refine G_ret rfl rfl ?_
              refine G_go rfl rfl ?_
              show G 2 120 124 22 [(3, 2), (1, a0), (1, a1), (1, a2), (1, (-1)), (0, 0)] [] (n, s) Q
              refine G_go rfl rfl ?_
              refine G_brF rfl rfl rfl ?_
              refine G_go rfl rfl ?_
              refine G_go rfl rfl ?_
              refine G_call rfl rfl ?_
              refine G_go rfl rfl ?_
              refine G_go rfl rfl ?_
              refine G_go rfl rfl ?_
              refine G_go rfl rfl ?_
              refine G_brF rfl rfl rfl ?_
              refine G_go rfl rfl ?_
              refine G_go rfl rfl ?_
              refine G_rf rfl rfl (by decide) (hR 2 7 119 rfl) ?_
              refine G_go rfl rfl ?_
              refine G_brF rfl rfl rfl ?_
              refine G_go rfl rfl ?_
              refine G_rf rfl rfl (by decide) (hR 2 7 119 rfl) ?_
              refine G_go rfl rfl ?_
              refine G_go rfl rfl ?_
              refine G_ir (n := 7) rfl rfl (by decide) (by decide) (by decide) ?_
              refine G_go rfl rfl ?_
              refine G_go rfl rfl ?_
              refine G_iw (n := 7) rfl rfl (by decide) (by decide) (by decide) ?_
              have hR := refs_up (a := 119) (k := 1) (x := wr ((s 119 1) + 1)) hR rfl
              refine G_go rfl rfl ?_
              refine G_ret rfl rfl ?_
              exact G_ret rfl rfl h
          · have h := h.2 c17
            refine G_go rfl rfl ?_
            refine G_ret rfl rfl ?_
            refine G_call rfl rfl ?_
            refine G_go rfl rfl ?_
            refine G_go rfl rfl ?_
            refine G_go rfl rfl ?_
            refine G_call rfl rfl ?_
            refine G_go rfl rfl ?_
            refine G_brF rfl rfl rfl ?_
            refine G_go rfl rfl ?_
            refine G_go rfl rfl ?_
            refine G_ret rfl rfl ?_
            refine G_call rfl rfl ?_
            refine G_go rfl rfl ?_
            refine G_brF rfl rfl rfl ?_
            refine G_go rfl rfl ?_
            refine G_go rfl rfl ?_
            refine G_ret rfl rfl ?_
            refine G_ret rfl rfl ?_
            refine G_go rfl rfl ?_
            show G 2 120 124 22 [(3, 2), (1, a0), (1, a1), (1, a2), (1, (-1)), (0, 0)] [] (n, s) Q
            refine G_go rfl rfl ?_
            refine G_brF rfl rfl rfl ?_
            refine G_go rfl rfl ?_
            refine G_go rfl rfl ?_
            refine G_call rfl rfl ?_
            refine G_go rfl rfl ?_
            refine G_go rfl rfl ?_
            refine G_go rfl rfl ?_
            refine G_go rfl rfl ?_
            refine G_brF rfl rfl rfl ?_
            refine G_go rfl rfl ?_
            refine G_go rfl rfl ?_
            refine G_rf rfl rfl (by decide) (hR 2 7 119 rfl) ?_
            refine G_go rfl rfl ?_
            refine G_brF rfl rfl rfl ?_
            refine G_go rfl rfl ?_
            refine G_rf rfl rfl (by decide) (hR 2 7 119 rfl) ?_
            refine G_go rfl rfl ?_
            refine G_go rfl rfl ?_
            refine G_ir (n := 7) rfl rfl (by decide) (by decide) (by decide) ?_
            refine G_go rfl rfl ?_
            refine G_go rfl rfl ?_
            refine G_iw (n := 7) rfl rfl (by decide) (by decide) (by decide) ?_
            have hR := refs_up (a := 119) (k := 1) (x := wr ((s 119 1) + 1)) hR rfl
            refine G_go rfl rfl ?_
            refine G_ret rfl rfl ?_
            exact G_ret rfl rfl h
    · have h := h.2 c10
      refine G_go rfl rfl ?_
      refine G_go rfl rfl ?_
      refine G_ret rfl rfl ?_
      refine G_brF rfl rfl rfl ?_
      refine G_go rfl rfl ?_
      refine G_go rfl rfl ?_
      refine G_ret rfl rfl ?_
      refine G_go rfl rfl ?_
      refine G_go rfl rfl ?_
      refine G_call rfl rfl ?_
      refine G_go rfl rfl ?_
      refine G_lt rfl rfl (fun c19 => ?_) (fun c19 => ?_)
      · have h := h.1 c19
        refine G_go rfl rfl ?_
        refine G_go rfl rfl ?_
        refine G_ret rfl rfl ?_
        refine G_go rfl rfl ?_
        refine G_go rfl rfl ?_
        refine G_go rfl rfl ?_
        refine G_call rfl rfl ?_
        refine G_go rfl rfl ?_
        refine G_go rfl rfl ?_
        refine G_ge rfl rfl (fun c20 => ?_) (fun c20 => ?_)
        · have h := h.1 c20
          refine G_go rfl rfl ?_
          refine G_go rfl rfl ?_
          refine G_le rfl rfl (fun c21 => ?_) (fun c21 => ?_)
          · have h := h.1 c21
            refine G_go rfl rfl ?_
            refine G_ret rfl rfl ?_
            refine G_call rfl rfl ?_
            refine G_go rfl rfl ?_
            refine G_go rfl rfl ?_
            refine G_go rfl rfl ?_
            refine G_call rfl rfl ?_
            refine G_go rfl rfl ?_
            refine G_brF rfl rfl rfl ?_
            refine G_go rfl rfl ?_
            refine G_go rfl rfl ?_
            refine G_ret rfl rfl ?_
            refine G_call rfl rfl ?_
            refine G_go rfl rfl ?_
            refine G_brT rfl rfl rfl ?_
            refine G_go rfl rfl ?_
            refine G_ret rfl rfl ?_
            refine G_ret rfl rfl ?_
            refine G_go rfl rfl ?_
            show G 2 120 124 22 [(3, 2), (1, a0), (1, a1), (1, a2), (1, (-2)), (0, 0)] [] (n, s) Q
            refine G_go rfl rfl ?_
            refine G_brF rfl rfl rfl ?_
            refine G_go rfl rfl ?_
            refine G_go rfl rfl ?_
            refine G_call rfl rfl ?_
            refine G_go rfl rfl ?_
            refine G_go rfl rfl ?_
            refine G_go rfl rfl ?_
            refine G_go rfl rfl ?_
            refine G_brF rfl rfl rfl ?_
            refine G_go rfl rfl ?_
            refine G_go rfl rfl ?_
            refine G_rf rfl rfl (by decide) (hR 2 7 119 rfl) ?_
            refine G_go rfl rfl ?_
            refine G_brF rfl rfl rfl ?_
            refine G_go rfl rfl ?_
            refine G_rf rfl rfl (by decide) (hR 2 7 119 rfl) ?_
            refine G_go rfl rfl ?_
            refine G_go rfl rfl ?_
            refine G_ir (n := 7) rfl rfl (by decide) (by decide) (by decide) ?_
            refine G_go rfl rfl ?_
            refine G_go rfl rfl ?_
            refine G_iw (n := 7) rfl rfl (by decide) (by decide) (by decide) ?_
            have hR := refs_up (a := 119) (k := 2) (x := wr ((s 119 2) + 1)) hR rfl
            refine G_go rfl rfl ?_
            refine G_ret rfl rfl ?_
            exact G_ret rfl rfl h
          · have h := h.2 c21
            refine G_go rfl rfl ?_
            refine G_go rfl rfl ?_
            refine G_ret rfl rfl ?_
            refine G_call rfl rfl ?_
            refine G_go rfl rfl ?_
            refine G_go rfl rfl ?_
            refine G_go rfl rfl ?_
            refine G_call rfl rfl ?_
            refine G_go rfl rfl ?_
            refine G_brF rfl rfl rfl ?_
            refine G_go rfl rfl ?_
            refine G_go rfl rfl ?_
            refine G_ret rfl rfl ?_
            refine G_call rfl rfl ?_
            refine G_go rfl rfl ?_
            refine G_brT rfl rfl rfl ?_
            refine G_go rfl rfl ?_
            refine G_ret rfl rfl ?_
            refine G_ret rfl rfl ?_
            refine G_go rfl rfl ?_
            show G 2 120 124 22 [(3, 2), (1, a0), (1, a1), (1, a2), (1, (-2)), (0, 0)] [] (n, s) Q
            refine G_go rfl rfl ?_
            refine G_brF rfl rfl rfl ?_
            refine G_go rfl rfl ?_
            refine G_go rfl rfl ?_
            refine G_call rfl rfl ?_
            refine G_go rfl rfl ?_
            refine G_go rfl rfl ?_
            refine G_go rfl rfl ?_
            refine G_go rfl rfl ?_
            refine G_brF rfl rfl rfl ?_
            refine G_go rfl rfl ?_
            refine G_go rfl rfl ?_
            refine G_rf rfl rfl (by decide) (hR 2 7 119 rfl) ?_
            refine G_go rfl rfl ?_
            refine G_brF rfl rfl rfl ?_
            refine G_go rfl rfl ?_
            refine G_rf rfl rfl (by decide) (hR 2 7 119 rfl) ?_
            refine G_go rfl rfl ?_
            refine G_go rfl rfl ?_
            refine G_ir (n := 7) rfl rfl (by decide) (by decide) (by decide) ?_
            refine G_go rfl rfl ?_
            refine G_go rfl rfl ?_
            refine G_iw (n := 7) rfl rfl (by decide) (by decide) (by decide) ?_
            have hR := refs_up (a := 119) (k := 2) (x := wr ((s 119 2) + 1)) hR rfl
            refine G_go rfl rfl ?_
            refine G_ret rfl rfl ?_
            exact G_ret rfl rfl h
        · have h := h.2 c20
          refine G_go rfl rfl ?_
          refine G_ret rfl rfl ?_
          refine G_call rfl rfl ?_
          refine G_go rfl rfl ?_
          refine G_go rfl rfl ?_
          refine G_go rfl rfl ?_
          refine G_call rfl rfl ?_
          refine G_go rfl rfl ?_
          refine G_brF rfl rfl rfl ?_
          refine G_go rfl rfl ?_
          refine G_go rfl rfl ?_
          refine G_ret rfl rfl ?_
          refine G_call rfl rfl ?_
          refine G_go rfl rfl ?_
          refine G_brT rfl rfl rfl ?_
          refine G_go rfl rfl ?_
          refine G_ret rfl rfl ?_
          refine G_ret rfl rfl ?_
          refine G_go rfl rfl ?_
          show G 2 120 124 22 [(3, 2), (1, a0), (1, a1), (1, a2), (1, (-2)), (0, 0)] [] (n, s) Q
          refine G_go rfl rfl ?_
          refine G_brF rfl rfl rfl ?_
          refine G_go rfl rfl ?_
          refine G_go rfl rfl ?_
          refine G_call rfl rfl ?_
          refine G_go rfl rfl ?_
          refine G_go rfl rfl ?_
          refine G_go rfl rfl ?_
          refine G_go rfl rfl ?_
          refine G_brF rfl rfl rfl ?_
          refine G_go rfl rfl ?_
          refine G_go rfl rfl ?_
          refine G_rf rfl rfl (by decide) (hR 2 7 119 rfl) ?_
          refine G_go rfl rfl ?_
          refine G_brF rfl rfl rfl ?_
          refine G_go rfl rfl ?_
          refine G_rf rfl rfl (by decide) (hR 2 7 119 rfl) ?_
          refine G_go rfl rfl ?_
          refine G_go rfl rfl ?_
          refine G_ir (n := 7) rfl rfl (by decide) (by decide) (by decide) ?_
          refine G_go rfl rfl ?_
          refine G_go rfl rfl ?_
          refine G_iw (n := 7) rfl rfl (by decide) (by decide) (by decide) ?_
          have hR := refs_up (a := 119) (k := 2) (x := wr ((s 119 2) + 1)) hR rfl
          refine G_go rfl rfl ?_
          refine G_ret rfl rfl ?_
          exact G_ret rfl rfl h
      · have h := h.2 c19
        refine G_go rfl rfl ?_
        refine G_go rfl rfl ?_
        refine G_le rfl rfl (fun c22 => ?_) (fun c22 => ?_)
        · have h := h.1 c22
          refine G_go rfl rfl ?_
          refine G_ret rfl rfl ?_
          refine G_go rfl rfl ?_
          refine G_go rfl rfl ?_
          refine G_go rfl rfl ?_
          refine G_call rfl rfl ?_
          refine G_go rfl rfl ?_
          refine G_go rfl rfl ?_
          refine G_ge rfl rfl (fun c23 => ?_) (fun c23 => ?_)
          · have h := h.1 c23
            refine G_go rfl rfl ?_
            refine G_go rfl rfl ?_
            refine G_le rfl rfl (fun c24 => ?_) (fun c24 => ?_)
            · have h := h.1 c24
              refine G_go rfl rfl ?_
              refine G_ret rfl rfl ?_
              refine G_call rfl rfl ?_
              refine G_go rfl rfl ?_
              refine G_go rfl rfl ?_
              refine G_go rfl rfl ?_
              refine G_call rfl rfl ?_
              refine G_go rfl rfl ?_
              refine G_brT rfl rfl rfl ?_
              refine G_go rfl rfl ?_
              refine G_ret rfl rfl ?_
              refine G_call rfl rfl ?_
              refine G_go rfl rfl ?_
              refine G_brT rfl rfl rfl ?_
              refine G_go rfl rfl ?_
              refine G_ret rfl rfl ?_
              refine G_ret rfl rfl ?_
              refine G_go rfl rfl ?_
              show G 2 120 124 22 [(3, 2), (1, a0), (1, a1), (1, a2), (1, 0), (0, 0)] [] (n, s) Q
              refine G_go rfl rfl ?_
              refine G_brT rfl rfl rfl ?_
              refine G_go rfl rfl ?_
              refine G_rf rfl rfl (by decide) (hR 2 4 33 rfl) ?_
              refine G_go rfl rfl ?_
              refine G_rf rfl rfl (by decide) (hR 2 0 3 rfl) ?_
              exact G_call rfl rfl h
            · have h := h.2 c24
              refine G_go rfl rfl ?_
              refine G_go rfl rfl ?_
              refine G_ret rfl rfl ?_
              refine G_call rfl rfl ?_
              refine G_go rfl rfl ?_
              refine G_go rfl rfl ?_
              refine G_go rfl rfl ?_
              refine G_call rfl rfl ?_
              refine G_go rfl rfl ?_
              refine G_brT rfl rfl rfl ?_
              refine G_go rfl rfl ?_
              refine G_ret rfl rfl ?_
              refine G_call rfl rfl ?_
              refine G_go rfl rfl ?_
              refine G_brT rfl rfl rfl ?_
              refine G_go rfl rfl ?_
              refine G_ret rfl rfl ?_
              refine G_ret rfl rfl ?_
              refine G_go rfl rfl ?_
              show G 2 120 124 22 [(3, 2), (1, a0), (1, a1), (1, a2), (1, (-6)), (0, 0)] [] (n, s) Q
              refine G_go rfl rfl ?_
              refine G_brF rfl rfl rfl ?_
              refine G_go rfl rfl ?_
              refine G_go rfl rfl ?_
              refine G_call rfl rfl ?_
              refine G_go rfl rfl ?_
              refine G_go rfl rfl ?_
              refine G_go rfl rfl ?_
              refine G_go rfl rfl ?_
              refine G_brF rfl rfl rfl ?_
              refine G_go rfl rfl ?_
              refine G_go rfl rfl ?_
              refine G_rf rfl rfl (by decide) (hR 2 7 119 rfl) ?_
              refine G_go rfl rfl ?_
              refine G_brF rfl rfl rfl ?_
              refine G_go rfl rfl ?_
              refine G_rf rfl rfl (by decide) (hR 2 7 119 rfl) ?_
              refine G_go rfl rfl ?_
              refine G_go rfl rfl ?_
              refine G_ir (n := 7) rfl rfl (by decide) (by decide) (by decide) ?_
              refine G_go rfl rfl ?_
              refine G_go rfl rfl ?_
              refine G_iw (n := 7) rfl rfl (by decide) (by decide) (by decide) ?_
              have hR := refs_up (a := 119) (k := 6) (x := wr ((s 119 6) + 1)) hR rfl
              refine G_go rfl rfl ?_
              refine G_ret rfl rfl ?_
              exact G_ret rfl rfl h
          · have h := h.2 c23
            refine G_go rfl rfl ?_
            refine G_ret rfl rfl ?_
            refine G_call rfl rfl ?_
            refine G_go rfl rfl ?_
            refine G_go rfl rfl ?_
            refine G_go rfl rfl ?_
            refine G_call rfl rfl ?_
            refine G_go rfl rfl ?_
            refine G_brT rfl rfl rfl ?_
            refine G_go rfl rfl ?_
            refine G_ret rfl rfl ?_
            refine G_call rfl rfl ?_
            refine G_go rfl rfl ?_
            refine G_brT rfl rfl rfl ?_
            refine G_go rfl rfl ?_
            refine G_ret rfl rfl ?_
            refine G_ret rfl rfl ?_
            refine G_go rfl rfl ?_
            show G 2 120 124 22 [(3, 2), (1, a0), (1, a1), (1, a2), (1, (-4)), (0, 0)] [] (n, s) Q
            refine G_go rfl rfl ?_
            refine G_brF rfl rfl rfl ?_
            refine G_go rfl rfl ?_
            refine G_go rfl rfl ?_
            refine G_call rfl rfl ?_
            refine G_go rfl rfl ?_
            refine G_go rfl rfl ?_
            refine G_go rfl rfl ?_
            refine G_go rfl rfl ?_
            refine G_brF rfl rfl rfl ?_
            refine G_go rfl rfl ?_
            refine G_go rfl rfl ?_
            refine G_rf rfl rfl (by decide) (hR 2 7 119 rfl) ?_
            refine G_go rfl rfl ?_
            refine G_brF rfl rfl rfl ?_
            refine G_go rfl rfl ?_
            refine G_rf rfl rfl (by decide) (hR 2 7 119 rfl) ?_
            refine G_go rfl rfl ?_
            refine G_go rfl rfl ?_
            refine G_ir (n := 7) rfl rfl (by decide) (by decide) (by decide) ?_
            refine G_go rfl rfl ?_
            refine G_go rfl rfl ?_
            refine G_iw (n := 7) rfl rfl (by decide) (by decide) (by decide) ?_
            have hR := refs_up (a := 119) (k := 4) (x := wr ((s 119 4) + 1)) hR rfl
            refine G_go rfl rfl ?_
            refine G_ret rfl rfl ?_
            exact G_ret rfl rfl h
        · have h := h.2 c22
          refine G_go rfl rfl ?_
          refine G_go rfl rfl ?_
          refine G_ret rfl rfl ?_
          refine G_go rfl rfl ?_
          refine G_go rfl rfl ?_
          refine G_go rfl rfl ?_
          refine G_call rfl rfl ?_
          refine G_go rfl rfl ?_
          refine G_go rfl rfl ?_
          refine G_ge rfl rfl (fun c25 => ?_) (fun c25 => ?_)
          · have h := h.1 c25
            refine G_go rfl rfl ?_
            refine G_go rfl rfl ?_
            refine G_le rfl rfl (fun c26 => ?_) (fun c26 => ?_)
            · have h := h.1 c26
              refine G_go rfl rfl ?_
              refine G_ret rfl rfl ?_
              refine G_call rfl rfl ?_
              refine G_go rfl rfl ?_
              refine G_go rfl rfl ?_
              refine G_go rfl rfl ?_
              refine G_call rfl rfl ?_
              refine G_go rfl rfl ?_
              refine G_brF rfl rfl rfl ?_
              refine G_go rfl rfl ?_
              refine G_go rfl rfl ?_
              refine G_ret rfl rfl ?_
              refine G_call rfl rfl ?_
              refine G_go rfl rfl ?_
              refine G_brT rfl rfl rfl ?_
              refine G_go rfl rfl ?_
              refine G_ret rfl rfl ?_
              refine G_ret rfl rfl ?_
              refine G_go rfl rfl ?_
              show G 2 120 124 22 [(3, 2), (1, a0), (1, a1), (1, a2), (1, (-2)), (0, 0)] [] (n, s) Q
              refine G_go rfl rfl ?_
              refine G_brF rfl rfl rfl ?_
              refine G_go rfl rfl ?_
              refine G_go rfl rfl ?_
              refine G_call rfl rfl ?_
              refine G_go rfl rfl ?_
              refine G_go rfl rfl ?_
              refine G_go rfl rfl ?_
              refine G_go rfl rfl ?_
              refine G_brF rfl rfl rfl ?_
              refine G_go rfl rfl ?_
              refine G_go rfl rfl ?_
              refine G_rf rfl rfl (by decide) (hR 2 7 119 rfl) ?_
              refine G_go rfl rfl ?_
              refine G_brF rfl rfl rfl ?_
              refine G_go rfl rfl ?_
              refine G_rf rfl rfl (by decide) (hR 2 7 119 rfl) ?_
              refine G_go rfl rfl ?_
              refine G_go rfl rfl ?_
              refine G_ir (n := 7) rfl rfl (by decide) (by decide) (by decide) ?_
              refine G_go rfl rfl ?_
              refine G_go rfl rfl ?_
              refine G_iw (n := 7) rfl rfl (by decide) (by decide) (by decide) ?_
              have hR := refs_up (a := 119) (k := 2) (x := wr ((s 119 2) + 1)) hR rfl
              refine G_go rfl rfl ?_
              refine G_ret rfl rfl ?_
              exact G_ret rfl rfl h
            · have h := h.2 c26
              refine G_go rfl rfl ?_
              refine G_go rfl rfl ?_
              refine G_ret rfl rfl ?_
              refine G_call rfl rfl ?_
              refine G_go rfl rfl ?_
              refine G_go rfl rfl ?_
              refine G_go rfl rfl ?_
              refine G_call rfl rfl ?_
              refine G_go rfl rfl ?_
              refine G_brF rfl rfl rfl ?_
              refine G_go rfl rfl ?_
              refine G_go rfl rfl ?_
              refine G_ret rfl rfl ?_
              refine G_call rfl rfl ?_
              refine G_go rfl rfl ?_
              refine G_brT rfl rfl rfl ?_
              refine G_go rfl rfl ?_
              refine G_ret rfl rfl ?_
              refine G_ret rfl rfl ?_
              refine G_go rfl rfl ?_
              show G 2 120 124 22 [(3, 2), (1, a0), (1, a1), (1, a2), (1, (-2)), (0, 0)] [] (n, s) Q
              refine G_go rfl rfl ?_
              refine G_brF rfl rfl rfl ?_
              refine G_go rfl rfl ?_
              refine G_go rfl rfl ?_
              refine G_call rfl rfl ?_
              refine G_go rfl rfl ?_
              refine G_go rfl rfl ?_
              refine G_go rfl rfl ?_
              refine G_go rfl rfl ?_
              refine G_brF rfl rfl rfl ?_
              refine G_go rfl rfl ?_
              refine G_go rfl rfl ?_
              refine G_rf rfl rfl (by decide) (hR 2 7 119 rfl) ?_
              refine G_go rfl rfl ?_
              refine G_brF rfl rfl rfl ?_
              refine G_go rfl rfl ?_
              refine G_rf rfl rfl (by decide) (hR 2 7 119 rfl) ?_
              refine G_go rfl rfl ?_
              refine G_go rfl rfl ?_
              refine G_ir (n := 7) rfl rfl (by decide) (by decide) (by decide) ?_
              refine G_go rfl rfl ?_
              refine G_go rfl rfl ?_
              refine G_iw (n := 7) rfl rfl (by decide) (by decide) (by decide) ?_
              have hR := refs_up (a := 119) (k := 2) (x := wr ((s 119 2) + 1)) hR rfl
              refine G_go rfl rfl ?_
              refine G_ret rfl rfl ?_
              exact G_ret rfl rfl h
          · have h := h.2 c25
            refine G_go rfl rfl ?_
            refine G_ret rfl rfl ?_
            refine G_call rfl rfl ?_
            refine G_go rfl rfl ?_
            refine G_go rfl rfl ?_
            refine G_go rfl rfl ?_
            refine G_call rfl rfl ?_
            refine G_go rfl rfl ?_
            refine G_brF rfl rfl rfl ?_
            refine G_go rfl rfl ?_
            refine G_go rfl rfl ?_
            refine G_ret rfl rfl ?_
            refine G_call rfl rfl ?_
            refine G_go rfl rfl ?_
            refine G_brT rfl rfl rfl ?_
            refine G_go rfl rfl ?_
            refine G_ret rfl rfl ?_
            refine G_ret rfl rfl ?_
            refine G_go rfl rfl ?_
            show G 2 120 124 22 [(3, 2), (1, a0), (1, a1), (1, a2), (1, (-2)), (0, 0)] [] (n, s) Q
            refine G_go rfl rfl ?_
            refine G_brF rfl rfl rfl ?_
            refine G_go rfl rfl ?_
            refine G_go rfl rfl ?_
            refine G_call rfl rfl ?_
            refine G_go rfl rfl ?_
            refine G_go rfl rfl ?_
            refine G_go rfl rfl ?_
            refine G_go rfl rfl ?_
            refine G_brF rfl rfl rfl ?_
            refine G_go rfl rfl ?_
            refine G_go rfl rfl ?_
            refine G_rf rfl rfl (by decide) (hR 2 7 119 rfl) ?_
            refine G_go rfl rfl ?_
            refine G_brF rfl rfl rfl ?_
            refine G_go rfl rfl ?_
            refine G_rf rfl rfl (by decide) (hR 2 7 119 rfl) ?_
            refine G_go rfl rfl ?_
            refine G_go rfl rfl ?_
            refine G_ir (n := 7) rfl rfl (by decide) (by decide) (by decide) ?_
            refine G_go rfl rfl ?_
            refine G_go rfl rfl ?_
            refine G_iw (n := 7) rfl rfl (by decide) (by decide) (by decide) ?_
            have hR := refs_up (a := 119) (k := 2) (x := wr ((s 119 2) + 1)) hR rfl
            refine G_go rfl rfl ?_
            refine G_ret rfl rfl ?_
            exact G_ret rfl rfl h
theorem sb_X6_sets_45 (n : Nat) (s : Nat → Nat → Int) (Q : List Vl → Sto → Prop) (x1 : Int) (x2 : Int) (x3 : Int) (x4 : Int) (hR : refs s)
    (h : (x2 = 0 → (0 ≤ x1 ∧ x1 < 6) ∧ (Q [(1, s 6 x1.toNat)] (n, upS s 6 x1.toNat x3))) ∧ (x2 = 1 → (0 ≤ x1 ∧ x1 < 6) ∧ (Q [(1, s 7 x1.toNat)] (n, upS s 7 x1.toNat x3))) ∧ (x2 ≠ 0 ∧ x2 ≠ 1 → (0 ≤ x1 ∧ x1 < 6) ∧ ((x3 ≠ 0 → Q [(1, s 8 x1.toNat)] (n, upS s 8 x1.toNat x3)) ∧ (x3 = 0 → Q [(1, s 8 x1.toNat)] (n, upS (upS s 8 x1.toNat x3) 9 x1.toNat 0))))) :
    G 2 120 124 45 [(3, 2), (1, x1), (1, x2), (1, x3), (1, x4), (0, 0)] [] (n, s) Q := by
  refine G_go rfl rfl ?_
  by_cases hs46_0 : x2 = 0
  · refine G_k hs46_0 rfl rfl ?_
    have h := h.1 hs46_0
    refine G_go rfl rfl ?_
    refine G_rf rfl rfl (by decide) (hR 2 0 3 rfl) ?_
    refine G_rf rfl rfl (by decide) (hR 3 2 6 rfl) ?_
    refine G_go rfl rfl ?_
    obtain ⟨g1, h⟩ := h
    refine G_ir (n := 6) rfl rfl (by decide) (by decide) g1 ?_
    refine G_go rfl rfl ?_
    show G 2 120 124 83 [(3, 2), (1, x1), (1, x2), (1, x3), (1, x4), (1, s 6 x1.toNat)] [] (n, s) Q
    refine G_go rfl rfl ?_
    refine G_rf rfl rfl (by decide) (hR 2 0 3 rfl) ?_
    refine G_rf rfl rfl (by decide) (hR 3 2 6 rfl) ?_
    refine G_go rfl rfl ?_
    refine G_go rfl rfl ?_
    refine G_iw (n := 6) rfl rfl (by decide) (by decide) g1 ?_
    have hR := refs_up (a := 6) (k := x1.toNat) (x := x3) hR rfl
    refine G_go rfl rfl ?_
    refine G_go rfl rfl ?_
    exact G_ret rfl rfl h
  replace h := h.2
  by_cases hs46_1 : x2 = 1
  · refine G_k hs46_1 rfl rfl ?_
    have h := h.1 hs46_1
    refine G_go rfl rfl ?_
    refine G_rf rfl rfl (by decide) (hR 2 0 3 rfl) ?_
    refine G_rf rfl rfl (by decide) (hR 3 3 7 rfl) ?_
    refine G_go rfl rfl ?_
    obtain ⟨g2, h⟩ := h
    refine G_ir (n := 6) rfl rfl (by decide) (by decide) g2 ?_
    refine G_go rfl rfl ?_
    show G 2 120 124 107 [(3, 2), (1, x1), (1, x2), (1, x3), (1, x4), (1, s 7 x1.toNat)] [] (n, s) Q
    refine G_go rfl rfl ?_
    refine G_rf rfl rfl (by decide) (hR 2 0 3 rfl) ?_
    refine G_rf rfl rfl (by decide) (hR 3 3 7 rfl) ?_
    refine G_go rfl rfl ?_
    refine G_go rfl rfl ?_
    refine G_iw (n := 6) rfl rfl (by decide) (by decide) g2 ?_
    have hR := refs_up (a := 7) (k := x1.toNat) (x := x3) hR rfl
    refine G_go rfl rfl ?_
    refine G_go rfl rfl ?_
    exact G_ret rfl rfl h
  replace h := h.2
  have hd46 : x2 ≠ 0 ∧ x2 ≠ 1 := ⟨hs46_0, hs46_1⟩
  refine G_lkd rfl (by simp [Op.lookupswitch.offset, Ne.symm hs46_0, Ne.symm hs46_1]) rfl ?_
  replace h := h hd46
  refine G_go rfl rfl ?_
  refine G_rf rfl rfl (by decide) (hR 2 0 3 rfl) ?_
  refine G_rf rfl rfl (by decide) (hR 3 4 8 rfl) ?_
  refine G_go rfl rfl ?_
  obtain ⟨g3, h⟩ := h
  refine G_ir (n := 6) rfl rfl (by decide) (by decide) g3 ?_
  refine G_go rfl rfl ?_
  show G 2 120 124 131 [(3, 2), (1, x1), (1, x2), (1, x3), (1, x4), (1, s 8 x1.toNat)] [] (n, s) Q
  refine G_go rfl rfl ?_
  refine G_rf rfl rfl (by decide) (hR 2 0 3 rfl) ?_
  refine G_go rfl rfl ?_
  refine G_go rfl rfl ?_
  refine G_call rfl rfl ?_
  refine G_go rfl rfl ?_
  refine G_rf rfl rfl (by decide) (hR 3 4 8 rfl) ?_
  refine G_go rfl rfl ?_
  refine G_go rfl rfl ?_
  refine G_iw (n := 6) rfl rfl (by decide) (by decide) g3 ?_
  have hR := refs_up (a := 8) (k := x1.toNat) (x := x3) hR rfl
  refine G_go rfl rfl ?_
  refine G_ne rfl rfl (fun c4 => ?_) (fun c4 => ?_)
  · have h := h.1 c4
    refine G_ret rfl rfl ?_
    refine G_go rfl rfl ?_
    exact G_ret rfl rfl h
  · have h := h.2 c4
    refine G_go rfl rfl ?_
    refine G_rf rfl rfl (by decide) (hR 3 5 9 rfl) ?_
    refine G_go rfl rfl ?_
    refine G_go rfl rfl ?_
    refine G_zw (n := 6) rfl rfl (by decide) (by decide) g3 (by decide) ?_
    have hR := refs_up (a := 9) (k := x1.toNat) (x := 0) hR rfl
    refine G_ret rfl rfl ?_
    refine G_go rfl rfl ?_
    exact G_ret rfl rfl h
theorem sb_X7_sets_0 (n : Nat) (s : Nat → Nat → Int) (Q : List Vl → Sto → Prop) (a0 : Int) (a1 : Int) (a2 : Int) (hR : refs s)
    (h : (a0 < 0 → Q [(1, (-1))] (n, upS (upS s 120 10 0) 129 1 (wr ((s 129 1) + 1)))) ∧ (a0 ≥ 0 → (a0 > wr ((s 120 0) - 1) → Q [(1, (-1))] (n, upS (upS s 120 10 0) 129 1 (wr ((s 129 1) + 1)))) ∧ (a0 ≤ wr ((s 120 0) - 1) → (a1 < 0 → Q [(1, (-2))] (n, upS (upS s 120 10 0) 129 2 (wr ((s 129 2) + 1)))) ∧ (a1 ≥ 0 → (a1 > 2 → Q [(1, (-2))] (n, upS (upS s 120 10 0) 129 2 (wr ((s 129 2) + 1)))) ∧ (a1 ≤ 2 → (0 ≤ a2 → (a2 ≤ 99 → G 120 140 181 0 [(3, 120), (0, 0)] [] (n, upS s 120 10 0) (fun r s1 => G 120 140 215 60 [(3, 120), (1, a0), (1, a1), (1, a2), (1, 0), (0, 0)] (r ++ []) s1 Q)) ∧ (99 < a2 → Q [(1, (-6))] (n, upS (upS s 120 10 0) 129 6 (wr ((s 129 6) + 1))))) ∧ (a2 < 0 → Q [(1, (-4))] (n, upS (upS s 120 10 0) 129 4 (wr ((s 129 4) + 1))))))))) :
    G 120 140 215 0 [(3, 120), (1, a0), (1, a1), (1, a2), (0, 0), (0, 0)] [] (n, s) Q := by
  refine G_go rfl rfl ?_
  refine G_go rfl rfl ?_
  refine G_wr rfl rfl (by decide) ?_
  have hR := refs_up (a := 120) (k := 10) (x := 0) hR rfl
  refine G_go rfl rfl ?_
  refine G_go rfl rfl ?_
  refine G_call rfl rfl ?_
  refine G_go rfl rfl ?_
  refine G_go rfl rfl ?_
  refine G_go rfl rfl ?_
  refine G_go rfl rfl ?_
  refine G_rd rfl rfl (by decide) ?_
  refine G_go rfl rfl ?_
  refine G_go rfl rfl ?_
  refine G_go rfl rfl ?_
  refine G_call rfl rfl ?_
  refine G_go rfl rfl ?_
  refine G_go rfl rfl ?_
  refine G_go rfl rfl ?_
  refine G_lt rfl rfl (fun c1 => ?_) (fun c1 => ?_)
  · have c1 := xl_lt c1
    have h := h.1 c1
    refine G_go rfl rfl ?_
    refine G_ret rfl rfl ?_
    refine G_ret rfl rfl ?_
    refine G_brT rfl rfl rfl ?_
    refine G_go rfl rfl ?_
    refine G_go rfl rfl ?_
    refine G_go rfl rfl ?_
    refine G_call rfl rfl ?_
    refine G_go rfl rfl ?_
    refine G_brT rfl rfl rfl ?_
    refine G_go rfl rfl ?_
    refine G_ret rfl rfl ?_
    refine G_go rfl rfl ?_
    show G 120 140 215 25 [(3, 120), (1, a0), (1, a1), (1, a2), (1, (-1)), (0, 0)] [] (n, upS s 120 10 0) Q
    refine G_go rfl rfl ?_
    refine G_brT rfl rfl rfl ?_
    refine G_go rfl rfl ?_
    refine G_go rfl rfl ?_
    show G 120 140 215 44 [(3, 120), (1, a0), (1, a1), (1, a2), (1, (-1)), (0, 0)] [] (n, upS s 120 10 0) Q
    refine G_go rfl rfl ?_
    refine G_brF rfl rfl rfl ?_
    refine G_go rfl rfl ?_
    refine G_go rfl rfl ?_
    refine G_call rfl rfl ?_
    refine G_go rfl rfl ?_
    refine G_rf rfl rfl (by decide) (hR 120 11 129 rfl) ?_
    refine G_go rfl rfl ?_
    refine G_go rfl rfl ?_
    refine G_go rfl rfl ?_
    refine G_ir (n := 7) rfl rfl (by decide) (by decide) (by decide) ?_
    refine G_go rfl rfl ?_
    refine G_go rfl rfl ?_
    refine G_iw (n := 7) rfl rfl (by decide) (by decide) (by decide) ?_
    have hR := refs_up (a := 129) (k := 1) (x := wr ((s 129 1) + 1)) hR rfl
    refine G_go rfl rfl ?_
    refine G_ret rfl rfl ?_
    exact G_ret rfl rfl h
  · have c1 := xl_ge c1
    have h := h.2 c1
    refine G_go rfl rfl ?_
    refine G_go rfl rfl ?_
    refine G_go rfl rfl ?_
    refine G_gt rfl rfl (fun c2 => ?_) (fun c2 => ?_)
    · have c2 := xl_gt c2
      have h := h.1 c2
      refine G_go rfl rfl ?_
      refine G_ret rfl rfl ?_
      refine G_ret rfl rfl ?_
      refine G_brT rfl rfl rfl ?_
      refine G_go rfl rfl ?_
      refine G_go rfl rfl ?_
      refine G_go rfl rfl ?_
      refine G_call rfl rfl ?_
      refine G_go rfl rfl ?_
      refine G_brT rfl rfl rfl ?_
      refine G_go rfl rfl ?_
      refine G_ret rfl rfl ?_
      refine G_go rfl rfl ?_
      show G 120 140 215 25 [(3, 120), (1, a0), (1, a1), (1, a2), (1, (-1)), (0, 0)] [] (n, upS s 120 10 0) Q
      refine G_go rfl rfl ?_
      refine G_brT rfl rfl rfl ?_
      refine G_go rfl rfl ?_
      refine G_go rfl rfl ?_
      show G 120 140 215 44 [(3, 120), (1, a0), (1, a1), (1, a2), (1, (-1)), (0, 0)] [] (n, upS s 120 10 0) Q
      refine G_go rfl rfl ?_
      refine G_brF rfl rfl rfl ?_
      refine G_go rfl rfl ?_
      refine G_go rfl rfl ?_
      refine G_call rfl rfl ?_
      refine G_go rfl rfl ?_
      refine G_rf rfl rfl (by decide) (hR 120 11 129 rfl) ?_
      refine G_go rfl rfl ?_
      refine G_go rfl rfl ?_
      refine G_go rfl rfl ?_
      refine G_ir (n := 7) rfl rfl (by decide) (by decide) (by decide) ?_
      refine G_go rfl rfl ?_
      refine G_go rfl rfl ?_
      refine G_iw (n := 7) rfl rfl (by decide) (by decide) (by decide) ?_
      have hR := refs_up (a := 129) (k := 1) (x := wr ((s 129 1) + 1)) hR rfl
      refine G_go rfl rfl ?_
      refine G_ret rfl rfl ?_
      exact G_ret rfl rfl h
    · have c2 := xl_le c2
      have h := h.2 c2
      refine G_go rfl rfl ?_
      refine G_go rfl rfl ?_
      refine G_ret rfl rfl ?_
      refine G_ret rfl rfl ?_
      refine G_brF rfl rfl rfl ?_
      refine G_go rfl rfl ?_
      refine G_go rfl rfl ?_
      refine G_go rfl rfl ?_
      refine G_go rfl rfl ?_
      refine G_call rfl rfl ?_
      refine G_go rfl rfl ?_
      refine G_brF rfl rfl rfl ?_
      refine G_go rfl rfl ?_
      refine G_go rfl rfl ?_
      refine G_go rfl rfl ?_
      refine G_go rfl rfl ?_
      refine G_go rfl rfl ?_
      refine G_call rfl rfl ?_
      refine G_go rfl rfl ?_
      refine G_go rfl rfl ?_
      refine G_go rfl rfl ?_
      refine G_lt rfl rfl (fun c3 => ?_) (fun c3 => ?_)
      · have c3 := xl_lt c3
        have h := h.1 c3
        refine G_go rfl rfl ?_
        refine G_ret rfl rfl ?_
        refine G_brF rfl rfl rfl ?_
        refine G_go rfl rfl ?_
        refine G_go rfl rfl ?_
        refine G_ret rfl rfl ?_
        refine G_go rfl rfl ?_
        show G 120 140 215 25 [(3, 120), (1, a0), (1, a1), (1, a2), (1, (-2)), (0, 0)] [] (n, upS s 120 10 0) Q
        refine G_go rfl rfl ?_
        refine G_brT rfl rfl rfl ?_
        refine G_go rfl rfl ?_
        refine G_go rfl rfl ?_
        show G 120 140 215 44 [(3, 120), (1, a0), (1, a1), (1, a2), (1, (-2)), (0, 0)] [] (n, upS s 120 10 0) Q
        refine G_go rfl rfl ?_
        refine G_brF rfl rfl rfl ?_
        refine G_go rfl rfl ?_
        refine G_go rfl rfl ?_
        refine G_call rfl rfl ?_
        refine G_go rfl rfl ?_
        refine G_rf rfl rfl (by decide) (hR 120 11 129 rfl) ?_
        refine G_go rfl rfl ?_
        refine G_go rfl rfl ?_
        refine G_go rfl rfl ?_
        refine G_ir (n := 7) rfl rfl (by decide) (by decide) (by decide) ?_
        refine G_go rfl rfl ?_
        refine G_go rfl rfl ?_
        refine G_iw (n := 7) rfl rfl (by decide) (by decide) (by decide) ?_
        have hR := refs_up (a := 129) (k := 2) (x := wr ((s 129 2) + 1)) hR rfl
        refine G_go rfl rfl ?_
        refine G_ret rfl rfl ?_
        exact G_ret rfl rfl h
      · have c3 := xl_ge c3
        have h := h.2 c3
        refine G_go rfl rfl ?_
        refine G_go rfl rfl ?_
        refine G_go rfl rfl ?_
        refine G_gt rfl rfl (fun c4 => ?_) (fun c4 => ?_)
        · have c4 := xl_gt c4
          have h := h.1 c4
          refine G_go rfl rfl ?_
          refine G_ret rfl rfl ?_
          refine G_brF rfl rfl rfl ?_
          refine G_go rfl rfl ?_
          refine G_go rfl rfl ?_
          refine G_ret rfl rfl ?_
          refine G_go rfl rfl ?_
          show G 120 140 215 25 [(3, 120), (1, a0), (1, a1), (1, a2), (1, (-2)), (0, 0)] [] (n, upS s 120 10 0) Q
          refine G_go rfl rfl ?_
          refine G_brT rfl rfl rfl ?_
          refine G_go rfl rfl ?_
          refine G_go rfl rfl ?_
          show G 120 140 215 44 [(3, 120), (1, a0), (1, a1), (1, a2), (1, (-2)), (0, 0)] [] (n, upS s 120 10 0) Q
          refine G_go rfl rfl ?_
          refine G_brF rfl rfl rfl ?_
          refine G_go rfl rfl ?_
          refine G_go rfl rfl ?_
          refine G_call rfl rfl ?_
          refine G_go rfl rfl ?_
          refine G_rf rfl rfl (by decide) (hR 120 11 129 rfl) ?_
          refine G_go rfl rfl ?_
          refine G_go rfl rfl ?_
          refine G_go rfl rfl ?_
          refine G_ir (n := 7) rfl rfl (by decide) (by decide) (by decide) ?_
          refine G_go rfl rfl ?_
          refine G_go rfl rfl ?_
          refine G_iw (n := 7) rfl rfl (by decide) (by decide) (by decide) ?_
          have hR := refs_up (a := 129) (k := 2) (x := wr ((s 129 2) + 1)) hR rfl
          refine G_go rfl rfl ?_
          refine G_ret rfl rfl ?_
          exact G_ret rfl rfl h
        · have c4 := xl_le c4
          have h := h.2 c4
          refine G_go rfl rfl ?_
          refine G_go rfl rfl ?_
          refine G_ret rfl rfl ?_
          refine G_brT rfl rfl rfl ?_
          refine G_go rfl rfl ?_
          refine G_ret rfl rfl ?_
          refine G_go rfl rfl ?_
          show G 120 140 215 25 [(3, 120), (1, a0), (1, a1), (1, a2), (1, 0), (0, 0)] [] (n, upS s 120 10 0) Q
          refine G_go rfl rfl ?_
          refine G_brF rfl rfl rfl ?_
          refine G_go rfl rfl ?_
          refine G_go rfl rfl ?_
          refine G_go rfl rfl ?_
          refine G_call rfl rfl ?_
          refine G_go rfl rfl ?_
          refine G_go rfl rfl ?_
          refine G_ge rfl rfl (fun c5 => ?_) (fun c5 => ?_)
          · have h := h.1 c5
            refine G_go rfl rfl ?_
            refine G_go rfl rfl ?_
            refine G_le rfl rfl (fun c6 => ?_) (fun c6 => ?_)
            · have h := h.1 c6
              refine G_go rfl rfl ?_
              refine G_ret rfl rfl ?_
              refine G_go rfl rfl ?_
              refine G_go rfl rfl ?_
              show G 120 140 215 44 [(3, 120), (1, a0), (1, a1), (1, a2), (1, 0), (0, 0)] [] (n, upS s 120 10 0) Q
              refine G_go rfl rfl ?_
              refine G_brT rfl rfl rfl ?_
              refine G_go rfl rfl ?_
              exact G_call rfl rfl h
            · have h := h.2 c6
              refine G_go rfl rfl ?_
              refine G_go rfl rfl ?_
              refine G_ret rfl rfl ?_
              refine G_go rfl rfl ?_
              refine G_go rfl rfl ?_
              show G 120 140 215 44 [(3, 120), (1, a0), (1, a1), (1, a2), (1, (-6)), (0, 0)] [] (n, upS s 120 10 0) Q
              refine G_go rfl rfl ?_
              refine G_brF rfl rfl rfl ?_
              refine G_go rfl rfl ?_
              refine G_go rfl rfl ?_
              refine G_call rfl rfl ?_
              refine G_go rfl rfl ?_
              refine G_rf rfl rfl (by decide) (hR 120 11 129 rfl) ?_
              refine G_go rfl rfl ?_
              refine G_go rfl rfl ?_
              refine G_go rfl rfl ?_
              refine G_ir (n := 7) rfl rfl (by decide) (by decide) (by decide) ?_
              refine G_go rfl rfl ?_
              refine G_go rfl rfl ?_
              refine G_iw (n := 7) rfl rfl (by decide) (by decide) (by decide) ?_
              have hR := refs_up (a := 129) (k := 6) (x := wr ((s 129 6) + 1)) hR rfl
              refine G_go rfl rfl ?_
              refine G_ret rfl rfl ?_
              exact G_ret rfl rfl h
          · have h := h.2 c5
            refine G_go rfl rfl ?_
            refine G_go rfl rfl ?_
            refine G_ret rfl rfl ?_
            refine G_go rfl rfl ?_
            refine G_go rfl rfl ?_
            show G 120 140 215 44 [(3, 120), (1, a0), (1, a1), (1, a2), (1, (-4)), (0, 0)] [] (n, upS s 120 10 0) Q
            refine G_go rfl rfl ?_
            refine G_brF rfl rfl rfl ?_
            refine G_go rfl rfl ?_
            refine G_go rfl rfl ?_
            refine G_call rfl rfl ?_
            refine G_go rfl rfl ?_
            refine G_rf rfl rfl (by decide) (hR 120 11 129 rfl) ?_
            refine G_go rfl rfl ?_
            refine G_go rfl rfl ?_
            refine G_go rfl rfl ?_
            refine G_ir (n := 7) rfl rfl (by decide) (by decide) (by decide) ?_
            refine G_go rfl rfl ?_
            refine G_go rfl rfl ?_
            refine G_iw (n := 7) rfl rfl (by decide) (by decide) (by decide) ?_
            have hR := refs_up (a := 129) (k := 4) (x := wr ((s 129 4) + 1)) hR rfl
            refine G_go rfl rfl ?_
            refine G_ret rfl rfl ?_
            exact G_ret rfl rfl h
theorem sb_X7_sets_60 (n : Nat) (s : Nat → Nat → Int) (Q : List Vl → Sto → Prop) (x1 : Int) (x2 : Int) (x3 : Int) (x4 : Int) (hR : refs s)
    (h : (x2 ≠ 0 → (x2 ≠ 1 → (0 ≤ x1 ∧ x1 < 6) ∧ ((x2 ≠ 2 → Q [(1, s 125 x1.toNat)] (n, upS (upS s 123 x1.toNat (s 123 x1.toNat)) 124 x1.toNat (s 124 x1.toNat))) ∧ (x2 = 2 → (x3 ≠ 0 → Q [(1, s 125 x1.toNat)] (n, upS (upS (upS (upS s 123 x1.toNat (s 123 x1.toNat)) 124 x1.toNat (s 124 x1.toNat)) 125 x1.toNat x3) 126 x1.toNat (s 126 x1.toNat))) ∧ (x3 = 0 → Q [(1, s 125 x1.toNat)] (n, upS (upS (upS (upS s 123 x1.toNat (s 123 x1.toNat)) 124 x1.toNat (s 124 x1.toNat)) 125 x1.toNat x3) 126 x1.toNat 0))))) ∧ (x2 = 1 → (0 ≤ x1 ∧ x1 < 6) ∧ ((x2 ≠ 2 → Q [(1, s 124 x1.toNat)] (n, upS (upS s 123 x1.toNat (s 123 x1.toNat)) 124 x1.toNat x3)) ∧ (x2 = 2 → (x3 ≠ 0 → Q [(1, s 124 x1.toNat)] (n, upS (upS (upS (upS s 123 x1.toNat (s 123 x1.toNat)) 124 x1.toNat x3) 125 x1.toNat x3) 126 x1.toNat (s 126 x1.toNat))) ∧ (x3 = 0 → Q [(1, s 124 x1.toNat)] (n, upS (upS (upS (upS s 123 x1.toNat (s 123 x1.toNat)) 124 x1.toNat x3) 125 x1.toNat x3) 126 x1.toNat 0)))))) ∧ (x2 = 0 → (0 ≤ x1 ∧ x1 < 6) ∧ ((x2 ≠ 1 → (x2 ≠ 2 → Q [(1, s 123 x1.toNat)] (n, upS (upS s 123 x1.toNat x3) 124 x1.toNat (s 124 x1.toNat))) ∧ (x2 = 2 → (x3 ≠ 0 → Q [(1, s 123 x1.toNat)] (n, upS (upS (upS (upS s 123 x1.toNat x3) 124 x1.toNat (s 124 x1.toNat)) 125 x1.toNat x3) 126 x1.toNat (s 126 x1.toNat))) ∧ (x3 = 0 → Q [(1, s 123 x1.toNat)] (n, upS (upS (upS (upS s 123 x1.toNat x3) 124 x1.toNat (s 124 x1.toNat)) 125 x1.toNat x3) 126 x1.toNat 0)))) ∧ (x2 = 1 → (x2 ≠ 2 → Q [(1, s 123 x1.toNat)] (n, upS (upS s 123 x1.toNat x3) 124 x1.toNat x3)) ∧ (x2 = 2 → (x3 ≠ 0 → Q [(1, s 123 x1.toNat)] (n, upS (upS (upS (upS s 123 x1.toNat x3) 124 x1.toNat x3) 125 x1.toNat x3) 126 x1.toNat (s 126 x1.toNat))) ∧ (x3 = 0 → Q [(1, s 123 x1.toNat)] (n, upS (upS (upS (upS s 123 x1.toNat x3) 124 x1.toNat x3) 125 x1.toNat x3) 126 x1.toNat 0))))))) :
    G 120 140 215 60 [(3, 120), (1, x1), (1, x2), (1, x3), (1, x4), (0, 0)] [] (n, s) Q := by
  refine G_go rfl rfl ?_
  refine G_ne rfl rfl (fun c1 => ?_) (fun c1 => ?_)
  · have h := h.1 c1
    refine G_go rfl rfl ?_
    refine G_go rfl rfl ?_
    refine G_ne rfl rfl (fun c2 => ?_) (fun c2 => ?_)
    · have h := h.1 c2
      refine G_go rfl rfl ?_
      refine G_rf rfl rfl (by decide) (hR 120 5 125 rfl) ?_
      refine G_go rfl rfl ?_
      obtain ⟨g3, h⟩ := h
      refine G_ir (n := 6) rfl rfl (by decide) (by decide) g3 ?_
      refine G_go rfl rfl ?_
      show G 120 140 215 95 [(3, 120), (1, x1), (1, x2), (1, x3), (1, x4), (1, s 125 x1.toNat)] [] (n, s) Q
      refine G_go rfl rfl ?_
      refine G_rf rfl rfl (by decide) (hR 120 3 123 rfl) ?_
      refine G_go rfl rfl ?_
      refine G_go rfl rfl ?_
      refine G_ne rfl rfl (fun _ => ?_) (fun hc => absurd (show x2 = 0 from hc) (by omega))
      refine G_go rfl rfl ?_
      refine G_rf rfl rfl (by decide) (hR 120 3 123 rfl) ?_
      refine G_go rfl rfl ?_
      refine G_ir (n := 6) rfl rfl (by decide) (by decide) g3 ?_
      refine G_iw (n := 6) rfl rfl (by decide) (by decide) g3 ?_
      have hR := refs_up (a := 123) (k := x1.toNat) (x := s 123 x1.toNat) hR rfl
      refine G_go rfl rfl ?_
      refine G_rf rfl rfl (by decide) (hR 120 4 124 rfl) ?_
      refine G_go rfl rfl ?_
      refine G_go rfl rfl ?_
      refine G_go rfl rfl ?_
      refine G_ne rfl rfl (fun _ => ?_) (fun hc => absurd (show x2 = 1 from hc) (by omega))
      refine G_go rfl rfl ?_
      refine G_rf rfl rfl (by decide) (hR 120 4 124 rfl) ?_
      refine G_go rfl rfl ?_
      refine G_ir (n := 6) rfl rfl (by decide) (by decide) g3 ?_
      refine G_iw (n := 6) rfl rfl (by decide) (by decide) g3 ?_
      have hR := refs_up (a := 124) (k := x1.toNat) (x := s 124 x1.toNat) hR rfl
      refine G_go rfl rfl ?_
      refine G_go rfl rfl ?_
      refine G_ne rfl rfl (fun c4 => ?_) (fun c4 => ?_)
      · have h := h.1 c4
        refine G_go rfl rfl ?_
        exact G_ret rfl rfl h
      · have h := h.2 c4
        refine G_go rfl rfl ?_
        refine G_go rfl rfl ?_
        refine G_go rfl rfl ?_
        refine G_call rfl rfl ?_
        refine G_go rfl rfl ?_
        refine G_rf rfl rfl (by decide) (hR 120 5 125 rfl) ?_
        refine G_go rfl rfl ?_
        refine G_go rfl rfl ?_
        refine G_iw (n := 6) rfl rfl (by decide) (by decide) g3 ?_
        have hR := refs_up (a := 125) (k := x1.toNat) (x := x3) hR rfl
        refine G_go rfl rfl ?_
        refine G_rf rfl rfl (by decide) (hR 120 6 126 rfl) ?_
        refine G_go rfl rfl ?_
        refine G_go rfl rfl ?_
        refine G_ne rfl rfl (fun c5 => ?_) (fun c5 => ?_)
        · have h := h.1 c5
          refine G_go rfl rfl ?_
          refine G_rf rfl rfl (by decide) (hR 120 6 126 rfl) ?_
          refine G_go rfl rfl ?_
          refine G_ir (n := 6) rfl rfl (by decide) (by decide) g3 ?_
          refine G_iw (n := 6) rfl rfl (by decide) (by decide) g3 ?_
          have hR := refs_up (a := 126) (k := x1.toNat) (x := s 126 x1.toNat) hR rfl
          refine G_ret rfl rfl ?_
          refine G_go rfl rfl ?_
          exact G_ret rfl rfl h
        · have h := h.2 c5
          refine G_go rfl rfl ?_
          refine G_go rfl rfl ?_
          refine G_iw (n := 6) rfl rfl (by decide) (by decide) g3 ?_
          have hR := refs_up (a := 126) (k := x1.toNat) (x := 0) hR rfl
          refine G_ret rfl rfl ?_
          refine G_go rfl rfl ?_
          exact G_ret rfl rfl h
    · have h := h.2 c2
      refine G_go rfl rfl ?_
      refine G_rf rfl rfl (by decide) (hR 120 4 124 rfl) ?_
      refine G_go rfl rfl ?_
      obtain ⟨g6, h⟩ := h
      refine G_ir (n := 6) rfl rfl (by decide) (by decide) g6 ?_
      refine G_go rfl rfl ?_
      refine G_go rfl rfl ?_
      show G 120 140 215 95 [(3, 120), (1, x1), (1, x2), (1, x3), (1, x4), (1, s 124 x1.toNat)] [] (n, s) Q
      refine G_go rfl rfl ?_
      refine G_rf rfl rfl (by decide) (hR 120 3 123 rfl) ?_
      refine G_go rfl rfl ?_
      refine G_go rfl rfl ?_
      refine G_ne rfl rfl (fun _ => ?_) (fun hc => absurd (show x2 = 0 from hc) (by omega))
      refine G_go rfl rfl ?_
      refine G_rf rfl rfl (by decide) (hR 120 3 123 rfl) ?_
      refine G_go rfl rfl ?_
      refine G_ir (n := 6) rfl rfl (by decide) (by decide) g6 ?_
      refine G_iw (n := 6) rfl rfl (by decide) (by decide) g6 ?_
      have hR := refs_up (a := 123) (k := x1.toNat) (x := s 123 x1.toNat) hR rfl
      refine G_go rfl rfl ?_
      refine G_rf rfl rfl (by decide) (hR 120 4 124 rfl) ?_
      refine G_go rfl rfl ?_
      refine G_go rfl rfl ?_
      refine G_go rfl rfl ?_
      refine G_ne rfl rfl (fun hc => absurd (show x2 ≠ 1 from hc) (by omega)) (fun _ => ?_)
      refine G_go rfl rfl ?_
      refine G_go rfl rfl ?_
      refine G_iw (n := 6) rfl rfl (by decide) (by decide) g6 ?_
      have hR := refs_up (a := 124) (k := x1.toNat) (x := x3) hR rfl
      refine G_go rfl rfl ?_
      refine G_go rfl rfl ?_
      refine G_ne rfl rfl (fun c7 => ?_) (fun c7 => ?_)
      · have h := h.1 c7
        refine G_go rfl rfl ?_
        exact G_ret rfl rfl h
      · have h := h.2 c7
        refine G_go rfl rfl ?_
        refine G_go rfl rfl ?_
        refine G_go rfl rfl ?_
        refine G_call rfl rfl ?_
        refine G_go rfl rfl ?_
        refine G_rf rfl rfl (by decide) (hR 120 5 125 rfl) ?_
        refine G_go rfl rfl ?_
        refine G_go rfl rfl ?_
        refine G_iw (n := 6) rfl rfl (by decide) (by decide) g6 ?_
        have hR := refs_up (a := 125) (k := x1.toNat) (x := x3) hR rfl
        refine G_go rfl rfl ?_
        refine G_rf rfl rfl (by decide) (hR 120 6 126 rfl) ?_
        refine G_go rfl rfl ?_
        refine G_go rfl rfl ?_
        refine G_ne rfl rfl (fun c8 => ?_) (fun c8 => ?_)
        · have h := h.1 c8
          refine G_go rfl rfl ?_
          refine G_rf rfl rfl (by decide) (hR 120 6 126 rfl) ?_
          refine G_go rfl rfl ?_
          refine G_ir (n := 6) rfl rfl (by decide) (by decide) g6 ?_
          refine G_iw (n := 6) rfl rfl (by decide) (by decide) g6 ?_
          have hR := refs_up (a := 126) (k := x1.toNat) (x := s 126 x1.toNat) hR rfl
          refine G_ret rfl rfl ?_
          refine G_go rfl rfl ?_
          exact G_ret rfl rfl h
        · have h := h.2 c8
          refine G_go rfl rfl ?_
          refine G_go rfl rfl ?_
          refine G_iw (n := 6) rfl rfl (by decide) (by decide) g6 ?_
          have hR := refs_up (a := 126) (k := x1.toNat) (x := 0) hR rfl
          refine G_ret rfl rfl ?_
          refine G_go rfl rfl ?_
          exact G_ret rfl rfl h
  · have h := h.2 c1
    refine G_go rfl rfl ?_
    refine G_rf rfl rfl (by decide) (hR 120 3 123 rfl) ?_
    refine G_go rfl rfl ?_
    obtain ⟨g9, h⟩ := h
    refine G_ir (n := 6) rfl rfl (by decide) (by decide) g9 ?_
    refine G_go rfl rfl ?_
    refine G_go rfl rfl ?_
    show G 120 140 215 95 [(3, 120), (1, x1), (1, x2), (1, x3), (1, x4), (1, s 123 x1.toNat)] [] (n, s) Q
    refine G_go rfl rfl ?_
    refine G_rf rfl rfl (by decide) (hR 120 3 123 rfl) ?_
    refine G_go rfl rfl ?_
    refine G_go rfl rfl ?_
    refine G_ne rfl rfl (fun hc => absurd (show x2 ≠ 0 from hc) (by omega)) (fun _ => ?_)
    refine G_go rfl rfl ?_
    refine G_go rfl rfl ?_
    refine G_iw (n := 6) rfl rfl (by decide) (by decide) g9 ?_
    have hR := refs_up (a := 123) (k := x1.toNat) (x := x3) hR rfl
    refine G_go rfl rfl ?_
    refine G_rf rfl rfl (by decide) (hR 120 4 124 rfl) ?_
    refine G_go rfl rfl ?_
    refine G_go rfl rfl ?_
    refine G_go rfl rfl ?_
    refine G_ne rfl rfl (fun c10 => ?_) (fun c10 => ?_)
    · have h := h.1 c10
      refine G_go rfl rfl ?_
      refine G_rf rfl rfl (by decide) (hR 120 4 124 rfl) ?_
      refine G_go rfl rfl ?_
      refine G_ir (n := 6) rfl rfl (by decide) (by decide) g9 ?_
      refine G_iw (n := 6) rfl rfl (by decide) (by decide) g9 ?_
      have hR := refs_up (a := 124) (k := x1.toNat) (x := s 124 x1.toNat) hR rfl
      refine G_go rfl rfl ?_
      refine G_go rfl rfl ?_
      refine G_ne rfl rfl (fun c11 => ?_) (fun c11 => ?_)
      · have h := h.1 c11
        refine G_go rfl rfl ?_
        exact G_ret rfl rfl h
      · have h := h.2 c11
        refine G_go rfl rfl ?_
        refine G_go rfl rfl ?_
        refine G_go rfl rfl ?_
        refine G_call rfl rfl ?_
        refine G_go rfl rfl ?_
        refine G_rf rfl rfl (by decide) (hR 120 5 125 rfl) ?_
        refine G_go rfl rfl ?_
        refine G_go rfl rfl ?_
        refine G_iw (n := 6) rfl rfl (by decide) (by decide) g9 ?_
        have hR := refs_up (a := 125) (k := x1.toNat) (x := x3) hR rfl
        refine G_go rfl rfl ?_
        refine G_rf rfl rfl (by decide) (hR 120 6 126 rfl) ?_
        refine G_go rfl rfl ?_
        refine G_go rfl rfl ?_
        refine G_ne rfl rfl (fun c12 => ?_) (fun c12 => ?_)
        · have h := h.1 c12
          refine G_go rfl rfl ?_
          refine G_rf rfl rfl (by decide) (hR 120 6 126 rfl) ?_
          refine G_go rfl rfl ?_
          refine G_ir (n := 6) rfl rfl (by decide) (by decide) g9 ?_
          refine G_iw (n := 6) rfl rfl (by decide) (by decide) g9 ?_
          have hR := refs_up (a := 126) (k := x1.toNat) (x := s 126 x1.toNat) hR rfl
          refine G_ret rfl rfl ?_
          refine G_go rfl rfl ?_
          exact G_ret rfl rfl h
        · have h := h.2 c12
          refine G_go rfl rfl ?_
          refine G_go rfl rfl ?_
          refine G_iw (n := 6) rfl rfl (by decide) (by decide) g9 ?_
          have hR := refs_up (a := 126) (k := x1.toNat) (x := 0) hR rfl
          refine G_ret rfl rfl ?_
          refine G_go rfl rfl ?_
          exact G_ret rfl rfl h
    · have h := h.2 c10
      refine G_go rfl rfl ?_
      refine G_go rfl rfl ?_
      refine G_iw (n := 6) rfl rfl (by decide) (by decide) g9 ?_
      have hR := refs_up (a := 124) (k := x1.toNat) (x := x3) hR rfl
      refine G_go rfl rfl ?_
      refine G_go rfl rfl ?_
      refine G_ne rfl rfl (fun c13 => ?_) (fun c13 => ?_)
      · have h := h.1 c13
        refine G_go rfl rfl ?_
        exact G_ret rfl rfl h
      · have h := h.2 c13
        refine G_go rfl rfl ?_
        refine G_go rfl rfl ?_
        refine G_go rfl rfl ?_
        refine G_call rfl rfl ?_
        refine G_go rfl rfl ?_
        refine G_rf rfl rfl (by decide) (hR 120 5 125 rfl) ?_
        refine G_go rfl rfl ?_
        refine G_go rfl rfl ?_
        refine G_iw (n := 6) rfl rfl (by decide) (by decide) g9 ?_
        have hR := refs_up (a := 125) (k := x1.toNat) (x := x3) hR rfl
        refine G_go rfl rfl ?_
        refine G_rf rfl rfl (by decide) (hR 120 6 126 rfl) ?_
        refine G_go rfl rfl ?_
        refine G_go rfl rfl ?_
        refine G_ne rfl rfl (fun c14 => ?_) (fun c14 => ?_)
        · have h := h.1 c14
          refine G_go rfl rfl ?_
          refine G_rf rfl rfl (by decide) (hR 120 6 126 rfl) ?_
          refine G_go rfl rfl ?_
          refine G_ir (n := 6) rfl rfl (by decide) (by decide) g9 ?_
          refine G_iw (n := 6) rfl rfl (by decide) (by decide) g9 ?_
          have hR := refs_up (a := 126) (k := x1.toNat) (x := s 126 x1.toNat) hR rfl
          refine G_ret rfl rfl ?_
          refine G_go rfl rfl ?_
          exact G_ret rfl rfl h
        · have h := h.2 c14
          refine G_go rfl rfl ?_
          refine G_go rfl rfl ?_
          refine G_iw (n := 6) rfl rfl (by decide) (by decide) g9 ?_
          have hR := refs_up (a := 126) (k := x1.toNat) (x := 0) hR rfl
          refine G_ret rfl rfl ?_
          refine G_go rfl rfl ?_
          exact G_ret rfl rfl h
theorem sb_X6_trusts_0 (n : Nat) (s : Nat → Nat → Int) (Q : List Vl → Sto → Prop) (a0 : Int) (a1 : Int) (hR : refs s)
    (h : (a0 < 0 → Q [(1, (-1))] (n, upS s 119 1 (wr ((s 119 1) + 1)))) ∧ (0 ≤ a0 → (s 3 9 ≤ a0 → Q [(1, (-1))] (n, upS s 119 1 (wr ((s 119 1) + 1)))) ∧ (a0 < s 3 9 → (a1 < 0 → Q [(1, (-1))] (n, upS s 119 1 (wr ((s 119 1) + 1)))) ∧ (0 ≤ a1 → (s 3 9 ≤ a1 → Q [(1, (-1))] (n, upS s 119 1 (wr ((s 119 1) + 1)))) ∧ (a1 < s 3 9 → (a0 = a1 → Q [(1, (-1))] (n, upS s 119 1 (wr ((s 119 1) + 1)))) ∧ (a0 ≠ a1 → G 2 120 8 0 [(3, 33), (3, 3)] [] (n, s) (fun r s1 => G 2 120 130 28 [(3, 2), (1, a0), (1, a1), (1, 0)] (r ++ []) s1 Q))))))) :
    G 2 120 130 0 [(3, 2), (1, a0), (1, a1), (0, 0)] [] (n, s) Q := by
  refine G_go rfl rfl ?_
  refine G_go rfl rfl ?_
  refine G_go rfl rfl ?_
  refine G_call rfl rfl ?_
  refine G_go rfl rfl ?_
  refine G_rf rfl rfl (by decide) (hR 2 0 3 rfl) ?_
  refine G_go rfl rfl ?_
  refine G_call rfl rfl ?_
  refine G_go rfl rfl ?_
  refine G_lt rfl rfl (fun c1 => ?_) (fun c1 => ?_)
  · have h := h.1 c1
    refine G_go rfl rfl ?_
    refine G_ret rfl rfl ?_
    refine G_brT rfl rfl rfl ?_
    refine G_go rfl rfl ?_
    refine G_ret rfl rfl ?_
    refine G_go rfl rfl ?_
    show G 2 120 130 7 [(3, 2), (1, a0), (1, a1), (1, (-1))] [] (n, s) Q
    refine G_go rfl rfl ?_
    refine G_brF rfl rfl rfl ?_
    refine G_go rfl rfl ?_
    refine G_go rfl rfl ?_
    refine G_call rfl rfl ?_
    refine G_go rfl rfl ?_
    refine G_go rfl rfl ?_
    refine G_go rfl rfl ?_
    refine G_go rfl rfl ?_
    refine G_brF rfl rfl rfl ?_
    refine G_go rfl rfl ?_
    refine G_go rfl rfl ?_
    refine G_rf rfl rfl (by decide) (hR 2 7 119 rfl) ?_
    refine G_go rfl rfl ?_
    refine G_brF rfl rfl rfl ?_
    refine G_go rfl rfl ?_
    refine G_rf rfl rfl (by decide) (hR 2 7 119 rfl) ?_
    refine G_go rfl rfl ?_
    refine G_go rfl rfl ?_
    refine G_ir (n := 7) rfl rfl (by decide) (by decide) (by decide) ?_
    refine G_go rfl rfl ?_
    refine G_go rfl rfl ?_
    refine G_iw (n := 7) rfl rfl (by decide) (by decide) (by decide) ?_
    have hR := refs_up (a := 119) (k := 1) (x := wr ((s 119 1) + 1)) hR rfl
    refine G_go rfl rfl ?_
    refine G_ret rfl rfl ?_
    exact G_ret rfl rfl h
  · have h := h.2 c1
    refine G_go rfl rfl ?_
    refine G_go rfl rfl ?_
    refine G_rd rfl rfl (by decide) ?_
    refine G_ge rfl rfl (fun c2 => ?_) (fun c2 => ?_)
    · have h := h.1 c2
      refine G_go rfl rfl ?_
      refine G_ret rfl rfl ?_
      refine G_brT rfl rfl rfl ?_
      refine G_go rfl rfl ?_
      refine G_ret rfl rfl ?_
      refine G_go rfl rfl ?_
      show G 2 120 130 7 [(3, 2), (1, a0), (1, a1), (1, (-1))] [] (n, s) Q
      refine G_go rfl rfl ?_
      refine G_brF rfl rfl rfl ?_
      refine G_go rfl rfl ?_
      refine G_go rfl rfl ?_
      refine G_call rfl rfl ?_
      refine G_go rfl rfl ?_
      refine G_go rfl rfl ?_
      refine G_go rfl rfl ?_
      refine G_go rfl rfl ?_
      refine G_brF rfl rfl rfl ?_
      refine G_go rfl rfl ?_
      refine G_go rfl rfl ?_
      refine G_rf rfl rfl (by decide) (hR 2 7 119 rfl) ?_
      refine G_go rfl rfl ?_
      refine G_brF rfl rfl rfl ?_
      refine G_go rfl rfl ?_
      refine G_rf rfl rfl (by decide) (hR 2 7 119 rfl) ?_
      refine G_go rfl rfl ?_
      refine G_go rfl rfl ?_
      refine G_ir (n := 7) rfl rfl (by decide) (by decide) (by decide) ?_
      refine G_go rfl rfl ?_
      refine G_go rfl rfl ?_
      refine G_iw (n := 7) rfl rfl (by decide) (by decide) (by decide) ?_
      have hR := refs_up (a := 119) (k := 1) (x := wr ((s 119 1) + 1)) hR rfl
      refine G_go rfl rfl ?_
      refine G_ret rfl rfl ?_
      exact G_ret rfl rfl h
    · have h := h.2 c2
      refine G_go rfl rfl ?_
      refine G_go rfl rfl ?_
      refine G_ret rfl rfl ?_
      refine G_brF rfl rfl rfl ?_
      refine G_go rfl rfl ?_
      refine G_rf rfl rfl (by decide) (hR 2 0 3 rfl) ?_
      refine G_go rfl rfl ?_
      refine G_call rfl rfl ?_
      refine G_go rfl rfl ?_
      refine G_lt rfl rfl (fun c3 => ?_) (fun c3 => ?_)
      · have h := h.1 c3
        refine G_go rfl rfl ?_
        refine G_ret rfl rfl ?_
        refine G_brT rfl rfl rfl ?_
        refine G_go rfl rfl ?_
        refine G_ret rfl rfl ?_
        refine G_go rfl rfl ?_
        show G 2 120 130 7 [(3, 2), (1, a0), (1, a1), (1, (-1))] [] (n, s) Q
        refine G_go rfl rfl ?_
        refine G_brF rfl rfl rfl ?_
        refine G_go rfl rfl ?_
        refine G_go rfl rfl ?_
        refine G_call rfl rfl ?_
        refine G_go rfl rfl ?_
        refine G_go rfl rfl ?_
        refine G_go rfl rfl ?_
        refine G_go rfl rfl ?_
        refine G_brF rfl rfl rfl ?_
        refine G_go rfl rfl ?_
        refine G_go rfl rfl ?_
        refine G_rf rfl rfl (by decide) (hR 2 7 119 rfl) ?_
        refine G_go rfl rfl ?_
        refine G_brF rfl rfl rfl ?_
        refine G_go rfl rfl ?_
        refine G_rf rfl rfl (by decide) (hR 2 7 119 rfl) ?_
        refine G_go rfl rfl ?_
        refine G_go rfl rfl ?_
        refine G_ir (n := 7) rfl rfl (by decide) (by decide) (by decide) ?_
        refine G_go rfl rfl ?_
        refine G_go rfl rfl ?_
        refine G_iw (n := 7) rfl rfl (by decide) (by decide) (by decide) ?_
        have hR := refs_up (a := 119) (k := 1) (x := wr ((s 119 1) + 1)) hR rfl
        refine G_go rfl rfl ?_
        refine G_ret rfl rfl ?_
        exact G_ret rfl rfl h
      · have h := h.2 c3
        refine G_go rfl rfl ?_
        refine G_go rfl rfl ?_
        refine G_rd rfl rfl (by decide) ?_
        refine G_ge rfl rfl (fun c4 => ?_) (fun c4 => ?_)
        · have h := h.1 c4
          refine G_go rfl rfl ?_
          refine G_ret rfl rfl ?_
          refine G_brT rfl rfl rfl ?_
          refine G_go rfl rfl ?_
          refine G_ret rfl rfl ?_
          refine G_go rfl rfl ?_
          show G 2 120 130 7 [(3, 2), (1, a0), (1, a1), (1, (-1))] [] (n, s) Q
          refine G_go rfl rfl ?_
          refine G_brF rfl rfl rfl ?_
          refine G_go rfl rfl ?_
          refine G_go rfl rfl ?_
          refine G_call rfl rfl ?_
          refine G_go rfl rfl ?_
          refine G_go rfl rfl ?_
          refine G_go rfl rfl ?_
          refine G_go rfl rfl ?_
          refine G_brF rfl rfl rfl ?_
          refine G_go rfl rfl ?_
          refine G_go rfl rfl ?_
          refine G_rf rfl rfl (by decide) (hR 2 7 119 rfl) ?_
          refine G_go rfl rfl ?_
          refine G_brF rfl rfl rfl ?_
          refine G_go rfl rfl ?_
          refine G_rf rfl rfl (by decide) (hR 2 7 119 rfl) ?_
          refine G_go rfl rfl ?_
          refine G_go rfl rfl ?_
          refine G_ir (n := 7) rfl rfl (by decide) (by decide) (by decide) ?_
          refine G_go rfl rfl ?_
          refine G_go rfl rfl ?_
          refine G_iw (n := 7) rfl rfl (by decide) (by decide) (by decide) ?_
          have hR := refs_up (a := 119) (k := 1) (x := wr ((s 119 1) + 1)) hR rfl
          refine G_go rfl rfl ?_
          refine G_ret rfl rfl ?_
          exact G_ret rfl rfl h
        · have h := h.2 c4
          refine G_go rfl rfl ?_
          refine G_go rfl rfl ?_
          refine G_ret rfl rfl ?_
          refine G_brF rfl rfl rfl ?_
          refine G_go rfl rfl ?_
          refine G_go rfl rfl ?_
          refine G_eq rfl rfl (fun c5 => ?_) (fun c5 => ?_)
          · have h := h.1 c5
            refine G_go rfl rfl ?_
            refine G_ret rfl rfl ?_
            refine G_go rfl rfl ?_
            show G 2 120 130 7 [(3, 2), (1, a0), (1, a1), (1, (-1))] [] (n, s) Q
            refine G_go rfl rfl ?_
            refine G_brF rfl rfl rfl ?_
            refine G_go rfl rfl ?_
            refine G_go rfl rfl ?_
            refine G_call rfl rfl ?_
            refine G_go rfl rfl ?_
            refine G_go rfl rfl ?_
            refine G_go rfl rfl ?_
            refine G_go rfl rfl ?_
            refine G_brF rfl rfl rfl ?_
            refine G_go rfl rfl ?_
            refine G_go rfl rfl ?_
            refine G_rf rfl rfl (by decide) (hR 2 7 119 rfl) ?_
            refine G_go rfl rfl ?_
            refine G_brF rfl rfl rfl ?_
            refine G_go rfl rfl ?_
            refine G_rf rfl rfl (by decide) (hR 2 7 119 rfl) ?_
            refine G_go rfl rfl ?_
            refine G_go rfl rfl ?_
            refine G_ir (n := 7) rfl rfl (by decide) (by decide) (by decide) ?_
            refine G_go rfl rfl ?_
            refine G_go rfl rfl ?_
            refine G_iw (n := 7) rfl rfl (by decide) (by decide) (by decide) ?_
            have hR := refs_up (a := 119) (k := 1) (x := wr ((s 119 1) + 1)) hR rfl
            refine G_go rfl rfl ?_
            refine G_ret rfl rfl ?_
            exact G_ret rfl rfl h
          · have h := h.2 c5
            refine G_go rfl rfl ?_
            refine G_go rfl rfl ?_
            refine G_ret rfl rfl ?_
            refine G_go rfl rfl ?_
            show G 2 120 130 7 [(3, 2), (1, a0), (1, a1), (1, 0)] [] (n, s) Q
            refine G_go rfl rfl ?_
            refine G_brT rfl rfl rfl ?_
            refine G_go rfl rfl ?_
            refine G_rf rfl rfl (by decide) (hR 2 4 33 rfl) ?_
            refine G_go rfl rfl ?_
            refine G_rf rfl rfl (by decide) (hR 2 0 3 rfl) ?_
            exact G_call rfl rfl h
theorem sb_X6_trusts_28 (n : Nat) (s : Nat → Nat → Int) (Q : List Vl → Sto → Prop) (x1 : Int) (x2 : Int) (x3 : Int) (hR : refs s)
    (h : (0 ≤ x1 ∧ x1 < 6) ∧ ((s 11 x1.toNat ≠ x2 → (x2 ≠ x2 → Q [(1, 0)] (n, upS s 11 x1.toNat x2)) ∧ (x2 = x2 → Q [(1, 1)] (n, upS s 11 x1.toNat x2))) ∧ (s 11 x1.toNat = x2 → ((-1) ≠ x2 → Q [(1, 0)] (n, upS s 11 x1.toNat (-1))) ∧ ((-1) = x2 → Q [(1, 1)] (n, upS s 11 x1.toNat (-1)))))) :
    G 2 120 130 28 [(3, 2), (1, x1), (1, x2), (1, x3)] [] (n, s) Q := by
  refine G_go rfl rfl ?_
  refine G_rf rfl rfl (by decide) (hR 2 0 3 rfl) ?_
  refine G_go rfl rfl ?_
  refine G_go rfl rfl ?_
  refine G_call rfl rfl ?_
  refine G_go rfl rfl ?_
  refine G_rf rfl rfl (by decide) (hR 3 7 11 rfl) ?_
  refine G_go rfl rfl ?_
  refine G_go rfl rfl ?_
  refine G_rf rfl rfl (by decide) (hR 3 7 11 rfl) ?_
  refine G_go rfl rfl ?_
  obtain ⟨g1, h⟩ := h
  refine G_ir (n := 6) rfl rfl (by decide) (by decide) g1 ?_
  refine G_go rfl rfl ?_
  refine G_ne rfl rfl (fun c2 => ?_) (fun c2 => ?_)
  · have h := h.1 c2
    refine G_go rfl rfl ?_
    refine G_iw (n := 6) rfl rfl (by decide) (by decide) g1 ?_
    have hR := refs_up (a := 11) (k := x1.toNat) (x := x2) hR rfl
    refine G_ret rfl rfl ?_
    refine G_go rfl rfl ?_
    refine G_rf rfl rfl (by decide) (hR 2 0 3 rfl) ?_
    refine G_rf rfl rfl (by decide) (hR 3 7 11 rfl) ?_
    refine G_go rfl rfl ?_
    refine G_irv (n := 6) (v := x2) rfl rfl (by decide) (by decide) g1 (by simp [upS]) ?_
    refine G_go rfl rfl ?_
    refine G_ne rfl rfl (fun c3 => ?_) (fun c3 => ?_)
    · have h := h.1 c3
      refine G_go rfl rfl ?_
      refine G_call rfl rfl ?_
      refine G_go rfl rfl ?_
      refine G_brT rfl rfl rfl ?_
      refine G_go rfl rfl ?_
      refine G_ret rfl rfl ?_
      exact G_ret rfl rfl h
    · have h := h.2 c3
      refine G_go rfl rfl ?_
      refine G_go rfl rfl ?_
      refine G_call rfl rfl ?_
      refine G_go rfl rfl ?_
      refine G_brF rfl rfl rfl ?_
      refine G_go rfl rfl ?_
      refine G_go rfl rfl ?_
      refine G_ret rfl rfl ?_
      exact G_ret rfl rfl h
  · have h := h.2 c2
    refine G_go rfl rfl ?_
    refine G_go rfl rfl ?_
    refine G_iw (n := 6) rfl rfl (by decide) (by decide) g1 ?_
    have hR := refs_up (a := 11) (k := x1.toNat) (x := (-1)) hR rfl
    refine G_ret rfl rfl ?_
    refine G_go rfl rfl ?_
    refine G_rf rfl rfl (by decide) (hR 2 0 3 rfl) ?_
    refine G_rf rfl rfl (by decide) (hR 3 7 11 rfl) ?_
    refine G_go rfl rfl ?_
    refine G_irv (n := 6) (v := (-1)) rfl rfl (by decide) (by decide) g1 (by simp [upS]) ?_
    refine G_go rfl rfl ?_
    refine G_ne rfl rfl (fun c4 => ?_) (fun c4 => ?_)
    · have h := h.1 c4
      refine G_go rfl rfl ?_
      refine G_call rfl rfl ?_
      refine G_go rfl rfl ?_
      refine G_brT rfl rfl rfl ?_
      refine G_go rfl rfl ?_
      refine G_ret rfl rfl ?_
      exact G_ret rfl rfl h
    · have h := h.2 c4
      refine G_go rfl rfl ?_
      refine G_go rfl rfl ?_
      refine G_call rfl rfl ?_
      refine G_go rfl rfl ?_
      refine G_brF rfl rfl rfl ?_
      refine G_go rfl rfl ?_
      refine G_go rfl rfl ?_
      refine G_ret rfl rfl ?_
      exact G_ret rfl rfl h
theorem sb_X7_trusts_0 (n : Nat) (s : Nat → Nat → Int) (Q : List Vl → Sto → Prop) (a0 : Int) (a1 : Int) (hR : refs s)
    (h : (a0 < 0 → Q [(1, (-1))] (n, upS (upS s 120 10 0) 129 1 (wr ((s 129 1) + 1)))) ∧ (a0 ≥ 0 → (a0 > wr ((s 120 0) - 1) → Q [(1, (-1))] (n, upS (upS s 120 10 0) 129 1 (wr ((s 129 1) + 1)))) ∧ (a0 ≤ wr ((s 120 0) - 1) → (a1 < 0 → Q [(1, (-1))] (n, upS (upS s 120 10 0) 129 1 (wr ((s 129 1) + 1)))) ∧ (a1 ≥ 0 → (a1 > wr ((s 120 0) - 1) → Q [(1, (-1))] (n, upS (upS s 120 10 0) 129 1 (wr ((s 129 1) + 1)))) ∧ (a1 ≤ wr ((s 120 0) - 1) → (a0 = a1 → Q [(1, (-1))] (n, upS (upS s 120 10 0) 129 1 (wr ((s 129 1) + 1)))) ∧ (a0 ≠ a1 → G 120 140 181 0 [(3, 120), (0, 0)] [] (n, upS s 120 10 0) (fun r s1 => G 120 140 221 24 [(3, 120), (1, a0), (1, a1)] (r ++ []) s1 Q))))))) :
    G 120 140 221 0 [(3, 120), (1, a0), (1, a1)] [] (n, s) Q := by
  refine G_go rfl rfl ?_
  refine G_go rfl rfl ?_
  refine G_wr rfl rfl (by decide) ?_
  have hR := refs_up (a := 120) (k := 10) (x := 0) hR rfl
  refine G_go rfl rfl ?_
  refine G_go rfl rfl ?_
  refine G_go rfl rfl ?_
  refine G_call rfl rfl ?_
  refine G_go rfl rfl ?_
  refine G_go rfl rfl ?_
  refine G_call rfl rfl ?_
  refine G_go rfl rfl ?_
  refine G_go rfl rfl ?_
  refine G_go rfl rfl ?_
  refine G_go rfl rfl ?_
  refine G_rd rfl rfl (by decide) ?_
  refine G_go rfl rfl ?_
  refine G_go rfl rfl ?_
  refine G_go rfl rfl ?_
  refine G_call rfl rfl ?_
  refine G_go rfl rfl ?_
  refine G_go rfl rfl ?_
  refine G_go rfl rfl ?_
  refine G_lt rfl rfl (fun c1 => ?_) (fun c1 => ?_)
  · have c1 := xl_lt c1
    have h := h.1 c1
    refine G_go rfl rfl ?_
    refine G_ret rfl rfl ?_
    refine G_ret rfl rfl ?_
    refine G_brT rfl rfl rfl ?_
    refine G_go rfl rfl ?_
    refine G_ret rfl rfl ?_
    refine G_brF rfl rfl rfl ?_
    refine G_go rfl rfl ?_
    refine G_go rfl rfl ?_
    refine G_call rfl rfl ?_
    refine G_go rfl rfl ?_
    refine G_rf rfl rfl (by decide) (hR 120 11 129 rfl) ?_
    refine G_go rfl rfl ?_
    refine G_go rfl rfl ?_
    refine G_go rfl rfl ?_
    refine G_ir (n := 7) rfl rfl (by decide) (by decide) (by decide) ?_
    refine G_go rfl rfl ?_
    refine G_go rfl rfl ?_
    refine G_iw (n := 7) rfl rfl (by decide) (by decide) (by decide) ?_
    have hR := refs_up (a := 129) (k := 1) (x := wr ((s 129 1) + 1)) hR rfl
    refine G_go rfl rfl ?_
    refine G_ret rfl rfl ?_
    exact G_ret rfl rfl h
  · have c1 := xl_ge c1
    have h := h.2 c1
    refine G_go rfl rfl ?_
    refine G_go rfl rfl ?_
    refine G_go rfl rfl ?_
    refine G_gt rfl rfl (fun c2 => ?_) (fun c2 => ?_)
    · have c2 := xl_gt c2
      have h := h.1 c2
      refine G_go rfl rfl ?_
      refine G_ret rfl rfl ?_
      refine G_ret rfl rfl ?_
      refine G_brT rfl rfl rfl ?_
      refine G_go rfl rfl ?_
      refine G_ret rfl rfl ?_
      refine G_brF rfl rfl rfl ?_
      refine G_go rfl rfl ?_
      refine G_go rfl rfl ?_
      refine G_call rfl rfl ?_
      refine G_go rfl rfl ?_
      refine G_rf rfl rfl (by decide) (hR 120 11 129 rfl) ?_
      refine G_go rfl rfl ?_
      refine G_go rfl rfl ?_
      refine G_go rfl rfl ?_
      refine G_ir (n := 7) rfl rfl (by decide) (by decide) (by decide) ?_
      refine G_go rfl rfl ?_
      refine G_go rfl rfl ?_
      refine G_iw (n := 7) rfl rfl (by decide) (by decide) (by decide) ?_
      have hR := refs_up (a := 129) (k := 1) (x := wr ((s 129 1) + 1)) hR rfl
      refine G_go rfl rfl ?_
      refine G_ret rfl rfl ?_
      exact G_ret rfl rfl h
    · have c2 := xl_le c2
      have h := h.2 c2
      refine G_go rfl rfl ?_
      refine G_go rfl rfl ?_
      refine G_ret rfl rfl ?_
      refine G_ret rfl rfl ?_
      refine G_brF rfl rfl rfl ?_
      refine G_go rfl rfl ?_
      refine G_go rfl rfl ?_
      refine G_call rfl rfl ?_
      refine G_go rfl rfl ?_
      refine G_go rfl rfl ?_
      refine G_go rfl rfl ?_
      refine G_go rfl rfl ?_
      refine G_rd rfl rfl (by decide) ?_
      refine G_go rfl rfl ?_
      refine G_go rfl rfl ?_
      refine G_go rfl rfl ?_
      refine G_call rfl rfl ?_
      refine G_go rfl rfl ?_
      refine G_go rfl rfl ?_
      refine G_go rfl rfl ?_
      refine G_lt rfl rfl (fun c3 => ?_) (fun c3 => ?_)
      · have c3 := xl_lt c3
        have h := h.1 c3
        refine G_go rfl rfl ?_
        refine G_ret rfl rfl ?_
        refine G_ret rfl rfl ?_
        refine G_brT rfl rfl rfl ?_
        refine G_go rfl rfl ?_
        refine G_ret rfl rfl ?_
        refine G_brF rfl rfl rfl ?_
        refine G_go rfl rfl ?_
        refine G_go rfl rfl ?_
        refine G_call rfl rfl ?_
        refine G_go rfl rfl ?_
        refine G_rf rfl rfl (by decide) (hR 120 11 129 rfl) ?_
        refine G_go rfl rfl ?_
        refine G_go rfl rfl ?_
        refine G_go rfl rfl ?_
        refine G_ir (n := 7) rfl rfl (by decide) (by decide) (by decide) ?_
        refine G_go rfl rfl ?_
        refine G_go rfl rfl ?_
        refine G_iw (n := 7) rfl rfl (by decide) (by decide) (by decide) ?_
        have hR := refs_up (a := 129) (k := 1) (x := wr ((s 129 1) + 1)) hR rfl
        refine G_go rfl rfl ?_
        refine G_ret rfl rfl ?_
        exact G_ret rfl rfl h
      · have c3 := xl_ge c3
        have h := h.2 c3
        refine G_go rfl rfl ?_
        refine G_go rfl rfl ?_
        refine G_go rfl rfl ?_
        refine G_gt rfl rfl (fun c4 => ?_) (fun c4 => ?_)
        · have c4 := xl_gt c4
          have h := h.1 c4
          refine G_go rfl rfl ?_
          refine G_ret rfl rfl ?_
          refine G_ret rfl rfl ?_
          refine G_brT rfl rfl rfl ?_
          refine G_go rfl rfl ?_
          refine G_ret rfl rfl ?_
          refine G_brF rfl rfl rfl ?_
          refine G_go rfl rfl ?_
          refine G_go rfl rfl ?_
          refine G_call rfl rfl ?_
          refine G_go rfl rfl ?_
          refine G_rf rfl rfl (by decide) (hR 120 11 129 rfl) ?_
          refine G_go rfl rfl ?_
          refine G_go rfl rfl ?_
          refine G_go rfl rfl ?_
          refine G_ir (n := 7) rfl rfl (by decide) (by decide) (by decide) ?_
          refine G_go rfl rfl ?_
          refine G_go rfl rfl ?_
          refine G_iw (n := 7) rfl rfl (by decide) (by decide) (by decide) ?_
          have hR := refs_up (a := 129) (k := 1) (x := wr ((s 129 1) + 1)) hR rfl
          refine G_go rfl rfl ?_
          refine G_ret rfl rfl ?_
          exact G_ret rfl rfl h
        · have c4 := xl_le c4
          have h := h.2 c4
          refine G_go rfl rfl ?_
          refine G_go rfl rfl ?_
          refine G_ret rfl rfl ?_
          refine G_ret rfl rfl ?_
          refine G_brF rfl rfl rfl ?_
          refine G_go rfl rfl ?_
          refine G_go rfl rfl ?_
          refine G_eq rfl rfl (fun c5 => ?_) (fun c5 => ?_)
          · have h := h.1 c5
            refine G_go rfl rfl ?_
            refine G_ret rfl rfl ?_
            refine G_brF rfl rfl rfl ?_
            refine G_go rfl rfl ?_
            refine G_go rfl rfl ?_
            refine G_call rfl rfl ?_
            refine G_go rfl rfl ?_
            refine G_rf rfl rfl (by decide) (hR 120 11 129 rfl) ?_
            refine G_go rfl rfl ?_
            refine G_go rfl rfl ?_
            refine G_go rfl rfl ?_
            refine G_ir (n := 7) rfl rfl (by decide) (by decide) (by decide) ?_
            refine G_go rfl rfl ?_
            refine G_go rfl rfl ?_
            refine G_iw (n := 7) rfl rfl (by decide) (by decide) (by decide) ?_
            have hR := refs_up (a := 129) (k := 1) (x := wr ((s 129 1) + 1)) hR rfl
            refine G_go rfl rfl ?_
            refine G_ret rfl rfl ?_
            exact G_ret rfl rfl h
          · have h := h.2 c5
            refine G_go rfl rfl ?_
            refine G_go rfl rfl ?_
            refine G_ret rfl rfl ?_
            refine G_brT rfl rfl rfl ?_
            refine G_go rfl rfl ?_
            exact G_call rfl rfl h
theorem sb_X7_trusts_24 (n : Nat) (s : Nat → Nat → Int) (Q : List Vl → Sto → Prop) (x1 : Int) (x2 : Int) (hR : refs s)
    (h : (0 ≤ x1 ∧ x1 < 6) ∧ ((s 128 x1.toNat ≠ x2 → (x2 ≠ x2 → Q [(1, 0)] (n, upS s 128 x1.toNat x2)) ∧ (x2 = x2 → Q [(1, 1)] (n, upS s 128 x1.toNat x2))) ∧ (s 128 x1.toNat = x2 → ((-9) ≠ x2 → Q [(1, 0)] (n, upS s 128 x1.toNat (-9))) ∧ ((-9) = x2 → Q [(1, 1)] (n, upS s 128 x1.toNat (-9)))))) :
    G 120 140 221 24 [(3, 120), (1, x1), (1, x2)] [] (n, s) Q := by
  refine G_go rfl rfl ?_
  refine G_rf rfl rfl (by decide) (hR 120 8 128 rfl) ?_
  refine G_go rfl rfl ?_
  refine G_go rfl rfl ?_
  refine G_rf rfl rfl (by decide) (hR 120 8 128 rfl) ?_
  refine G_go rfl rfl ?_
  obtain ⟨g1, h⟩ := h
  refine G_ir (n := 6) rfl rfl (by decide) (by decide) g1 ?_
  refine G_go rfl rfl ?_
  refine G_ne rfl rfl (fun c2 => ?_) (fun c2 => ?_)
  · have h := h.1 c2
    refine G_go rfl rfl ?_
    refine G_iw (n := 6) rfl rfl (by decide) (by decide) g1 ?_
    have hR := refs_up (a := 128) (k := x1.toNat) (x := x2) hR rfl
    refine G_go rfl rfl ?_
    refine G_rf rfl rfl (by decide) (hR 120 8 128 rfl) ?_
    refine G_go rfl rfl ?_
    refine G_irv (n := 6) (v := x2) rfl rfl (by decide) (by decide) g1 (by simp [upS]) ?_
    refine G_go rfl rfl ?_
    refine G_ne rfl rfl (fun c3 => ?_) (fun c3 => ?_)
    · have h := h.1 c3
      refine G_go rfl rfl ?_
      exact G_ret rfl rfl h
    · have h := h.2 c3
      refine G_go rfl rfl ?_
      refine G_go rfl rfl ?_
      exact G_ret rfl rfl h
  · have h := h.2 c2
    refine G_go rfl rfl ?_
    refine G_go rfl rfl ?_
    refine G_iw (n := 6) rfl rfl (by decide) (by decide) g1 ?_
    have hR := refs_up (a := 128) (k := x1.toNat) (x := (-9)) hR rfl
    refine G_go rfl rfl ?_
    refine G_rf rfl rfl (by decide) (hR 120 8 128 rfl) ?_
    refine G_go rfl rfl ?_
    refine G_irv (n := 6) (v := (-9)) rfl rfl (by decide) (by decide) g1 (by simp [upS]) ?_
    refine G_go rfl rfl ?_
    refine G_ne rfl rfl (fun c4 => ?_) (fun c4 => ?_)
    · have h := h.1 c4
      refine G_go rfl rfl ?_
      exact G_ret rfl rfl h
    · have h := h.2 c4
      refine G_go rfl rfl ?_
      refine G_go rfl rfl ?_
      exact G_ret rfl rfl h
theorem sb_X6_lights_0 (n : Nat) (s : Nat → Nat → Int) (Q : List Vl → Sto → Prop) (a0 : Int) (hR : refs s)
    (h : (a0 < 0 → Q [(1, (-1))] (n, upS s 119 1 (wr ((s 119 1) + 1)))) ∧ (0 ≤ a0 → (s 3 9 ≤ a0 → Q [(1, (-1))] (n, upS s 119 1 (wr ((s 119 1) + 1)))) ∧ (a0 < s 3 9 → (0 ≤ a0 ∧ a0 < 6) ∧ ((s 8 a0.toNat ≠ 0 → G 2 120 8 0 [(3, 33), (3, 3)] [] (n, s) (fun r s1 => G 2 120 103 46 [(3, 2), (1, a0), (1, 0)] (r ++ []) s1 Q)) ∧ (s 8 a0.toNat = 0 → Q [(1, (-3))] (n, upS s 119 3 (wr ((s 119 3) + 1)))))))) :
    G 2 120 103 0 [(3, 2), (1, a0), (0, 0)] [] (n, s) Q := by
  refine G_go rfl rfl ?_
  refine G_go rfl rfl ?_
  refine G_call rfl rfl ?_
  refine G_go rfl rfl ?_
  refine G_rf rfl rfl (by decide) (hR 2 0 3 rfl) ?_
  refine G_go rfl rfl ?_
  refine G_call rfl rfl ?_
  refine G_go rfl rfl ?_
  refine G_lt rfl rfl (fun c1 => ?_) (fun c1 => ?_)
  · have h := h.1 c1
    refine G_go rfl rfl ?_
    refine G_ret rfl rfl ?_
    refine G_brT rfl rfl rfl ?_
    refine G_go rfl rfl ?_
    refine G_ret rfl rfl ?_
    refine G_go rfl rfl ?_
    show G 2 120 103 6 [(3, 2), (1, a0), (1, (-1))] [] (n, s) Q
    refine G_go rfl rfl ?_
    refine G_brT rfl rfl rfl ?_
    refine G_go rfl rfl ?_
    refine G_brF rfl rfl rfl ?_
    refine G_go rfl rfl ?_
    refine G_go rfl rfl ?_
    refine G_call rfl rfl ?_
    refine G_go rfl rfl ?_
    refine G_go rfl rfl ?_
    refine G_go rfl rfl ?_
    refine G_go rfl rfl ?_
    refine G_brF rfl rfl rfl ?_
    refine G_go rfl rfl ?_
    refine G_go rfl rfl ?_
    refine G_rf rfl rfl (by decide) (hR 2 7 119 rfl) ?_
    refine G_go rfl rfl ?_
    refine G_brF rfl rfl rfl ?_
    refine G_go rfl rfl ?_
    refine G_rf rfl rfl (by decide) (hR 2 7 119 rfl) ?_
    refine G_go rfl rfl ?_
    refine G_go rfl rfl ?_
    refine G_ir (n := 7) rfl rfl (by decide) (by decide) (by decide) ?_
    refine G_go rfl rfl ?_
    refine G_go rfl rfl ?_
    refine G_iw (n := 7) rfl rfl (by decide) (by decide) (by decide) ?_
    have hR := refs_up (a := 119) (k := 1) (x := wr ((s 119 1) + 1)) hR rfl
    refine G_go rfl rfl ?_
    refine G_ret rfl rfl ?_
    exact G_ret rfl rfl h
  · have h := h.2 c1
    refine G_go rfl rfl ?_
    refine G_go rfl rfl ?_
    refine G_rd rfl rfl (by decide) ?_
    refine G_ge rfl rfl (fun c2 => ?_) (fun c2 => ?_)
    · have h := h.1 c2
      refine G_go rfl rfl ?_
      refine G_ret rfl rfl ?_
      refine G_brT rfl rfl rfl ?_
      refine G_go rfl rfl ?_
      refine G_ret rfl rfl ?_
      refine G_go rfl rfl ?_
      show G 2 120 103 6 [(3, 2), (1, a0), (1, (-1))] [] (n, s) Q
      refine G_go rfl rfl ?_
      refine G_brT rfl rfl rfl ?_
      refine G_go rfl rfl ?_
      refine G_brF rfl rfl rfl ?_
      refine G_go rfl rfl ?_
      refine G_go rfl rfl ?_
      refine G_call rfl rfl ?_
      refine G_go rfl rfl ?_
      refine G_go rfl rfl ?_
      refine G_go rfl rfl ?_
      refine G_go rfl rfl ?_
      refine G_brF rfl rfl rfl ?_
      refine G_go rfl rfl ?_
      refine G_go rfl rfl ?_
      refine G_rf rfl rfl (by decide) (hR 2 7 119 rfl) ?_
      refine G_go rfl rfl ?_
      refine G_brF rfl rfl rfl ?_
      refine G_go rfl rfl ?_
      refine G_rf rfl rfl (by decide) (hR 2 7 119 rfl) ?_
      refine G_go rfl rfl ?_
      refine G_go rfl rfl ?_
      refine G_ir (n := 7) rfl rfl (by decide) (by decide) (by decide) ?_
      refine G_go rfl rfl ?_
      refine G_go rfl rfl ?_
      refine G_iw (n := 7) rfl rfl (by decide) (by decide) (by decide) ?_
      have hR := refs_up (a := 119) (k := 1) (x := wr ((s 119 1) + 1)) hR rfl
      refine G_go rfl rfl ?_
      refine G_ret rfl rfl ?_
      exact G_ret rfl rfl h
    · have h := h.2 c2
      refine G_go rfl rfl ?_
      refine G_go rfl rfl ?_
      refine G_ret rfl rfl ?_
      refine G_brF rfl rfl rfl ?_
      refine G_go rfl rfl ?_
      refine G_go rfl rfl ?_
      refine G_ret rfl rfl ?_
      refine G_go rfl rfl ?_
      show G 2 120 103 6 [(3, 2), (1, a0), (1, 0)] [] (n, s) Q
      refine G_go rfl rfl ?_
      refine G_brF rfl rfl rfl ?_
      refine G_go rfl rfl ?_
      refine G_rf rfl rfl (by decide) (hR 2 0 3 rfl) ?_
      refine G_rf rfl rfl (by decide) (hR 3 4 8 rfl) ?_
      refine G_go rfl rfl ?_
      obtain ⟨g3, h⟩ := h
      refine G_ir (n := 6) rfl rfl (by decide) (by decide) g3 ?_
      refine G_ne rfl rfl (fun c4 => ?_) (fun c4 => ?_)
      · have h := h.1 c4
        refine G_go rfl rfl ?_
        refine G_brT rfl rfl rfl ?_
        refine G_go rfl rfl ?_
        refine G_rf rfl rfl (by decide) (hR 2 4 33 rfl) ?_
        refine G_go rfl rfl ?_
        refine G_rf rfl rfl (by decide) (hR 2 0 3 rfl) ?_
        exact G_call rfl rfl h
      · have h := h.2 c4
        refine G_go rfl rfl ?_
        refine G_go rfl rfl ?_
        show G 2 120 103 25 [(3, 2), (1, a0), (1, (-3))] [] (n, s) Q
        refine G_go rfl rfl ?_
        refine G_brF rfl rfl rfl ?_
        refine G_go rfl rfl ?_
        refine G_go rfl rfl ?_
        refine G_call rfl rfl ?_
        refine G_go rfl rfl ?_
        refine G_go rfl rfl ?_
        refine G_go rfl rfl ?_
        refine G_go rfl rfl ?_
        refine G_brF rfl rfl rfl ?_
        refine G_go rfl rfl ?_
        refine G_go rfl rfl ?_
        refine G_rf rfl rfl (by decide) (hR 2 7 119 rfl) ?_
        refine G_go rfl rfl ?_
        refine G_brF rfl rfl rfl ?_
        refine G_go rfl rfl ?_
        refine G_rf rfl rfl (by decide) (hR 2 7 119 rfl) ?_
        refine G_go rfl rfl ?_
        refine G_go rfl rfl ?_
        refine G_ir (n := 7) rfl rfl (by decide) (by decide) (by decide) ?_
        refine G_go rfl rfl ?_
        refine G_go rfl rfl ?_
        refine G_iw (n := 7) rfl rfl (by decide) (by decide) (by decide) ?_
        have hR := refs_up (a := 119) (k := 3) (x := wr ((s 119 3) + 1)) hR rfl
        refine G_go rfl rfl ?_
        refine G_ret rfl rfl ?_
        exact G_ret rfl rfl h
theorem sb_X6_lights_46 (n : Nat) (s : Nat → Nat → Int) (Q : List Vl → Sto → Prop) (x1 : Int) (x2 : Int) (hR : refs s)
    (h : (0 ≤ x1 ∧ x1 < 6) ∧ ((s 9 x1.toNat ≠ 0 → Q [(1, 0)] (n, upS s 9 x1.toNat 0)) ∧ (s 9 x1.toNat = 0 → Q [(1, 1)] (n, upS s 9 x1.toNat 1)))) :
    G 2 120 103 46 [(3, 2), (1, x1), (1, x2)] [] (n, s) Q := by
  refine G_go rfl rfl ?_
  refine G_rf rfl rfl (by decide) (hR 2 0 3 rfl) ?_
  refine G_rf rfl rfl (by decide) (hR 3 5 9 rfl) ?_
  refine G_go rfl rfl ?_
  refine G_go rfl rfl ?_
  refine G_rf rfl rfl (by decide) (hR 2 0 3 rfl) ?_
  refine G_rf rfl rfl (by decide) (hR 3 5 9 rfl) ?_
  refine G_go rfl rfl ?_
  obtain ⟨g1, h⟩ := h
  refine G_zr (n := 6) rfl rfl (by decide) (by decide) g1 ?_
  refine G_ne rfl rfl (fun c2 => ?_) (fun c2 => ?_)
  · have h := h.1 c2
    refine G_go rfl rfl ?_
    refine G_zw (n := 6) rfl rfl (by decide) (by decide) g1 (by decide) ?_
    have hR := refs_up (a := 9) (k := x1.toNat) (x := 0) hR rfl
    refine G_go rfl rfl ?_
    refine G_rf rfl rfl (by decide) (hR 2 0 3 rfl) ?_
    refine G_rf rfl rfl (by decide) (hR 3 5 9 rfl) ?_
    refine G_go rfl rfl ?_
    refine G_zrv (n := 6) (v := 0) rfl rfl (by decide) (by decide) g1 (by simp [upS]) ?_
    refine G_call rfl rfl ?_
    refine G_go rfl rfl ?_
    refine G_brT rfl rfl rfl ?_
    refine G_go rfl rfl ?_
    refine G_ret rfl rfl ?_
    exact G_ret rfl rfl h
  · have h := h.2 c2
    refine G_go rfl rfl ?_
    refine G_go rfl rfl ?_
    refine G_zw (n := 6) rfl rfl (by decide) (by decide) g1 (by decide) ?_
    have hR := refs_up (a := 9) (k := x1.toNat) (x := 1) hR rfl
    refine G_go rfl rfl ?_
    refine G_rf rfl rfl (by decide) (hR 2 0 3 rfl) ?_
    refine G_rf rfl rfl (by decide) (hR 3 5 9 rfl) ?_
    refine G_go rfl rfl ?_
    refine G_zrv (n := 6) (v := 1) rfl rfl (by decide) (by decide) g1 (by simp [upS]) ?_
    refine G_call rfl rfl ?_
    refine G_go rfl rfl ?_
    refine G_brF rfl rfl rfl ?_
    refine G_go rfl rfl ?_
    refine G_go rfl rfl ?_
    refine G_ret rfl rfl ?_
    exact G_ret rfl rfl h
theorem sb_X7_lights_0 (n : Nat) (s : Nat → Nat → Int) (Q : List Vl → Sto → Prop) (a0 : Int) (hR : refs s)
    (h : (a0 < 0 → Q [(1, (-1))] (n, upS (upS s 120 10 0) 129 1 (wr ((s 129 1) + 1)))) ∧ (a0 ≥ 0 → (a0 > wr ((s 120 0) - 1) → Q [(1, (-1))] (n, upS (upS s 120 10 0) 129 1 (wr ((s 129 1) + 1)))) ∧ (a0 ≤ wr ((s 120 0) - 1) → (0 ≤ a0 ∧ a0 < 6) ∧ ((s 125 a0.toNat ≠ 0 → G 120 140 181 0 [(3, 120), (0, 0)] [] (n, upS s 120 10 0) (fun r s1 => G 120 140 194 47 [(3, 120), (1, a0), (1, 0)] (r ++ []) s1 Q)) ∧ (s 125 a0.toNat = 0 → Q [(1, (-3))] (n, upS (upS s 120 10 0) 129 3 (wr ((s 129 3) + 1)))))))) :
    G 120 140 194 0 [(3, 120), (1, a0), (0, 0)] [] (n, s) Q := by
  refine G_go rfl rfl ?_
  refine G_go rfl rfl ?_
  refine G_wr rfl rfl (by decide) ?_
  have hR := refs_up (a := 120) (k := 10) (x := 0) hR rfl
  refine G_go rfl rfl ?_
  refine G_go rfl rfl ?_
  refine G_call rfl rfl ?_
  refine G_go rfl rfl ?_
  refine G_go rfl rfl ?_
  refine G_go rfl rfl ?_
  refine G_go rfl rfl ?_
  refine G_rd rfl rfl (by decide) ?_
  refine G_go rfl rfl ?_
  refine G_go rfl rfl ?_
  refine G_go rfl rfl ?_
  refine G_call rfl rfl ?_
  refine G_go rfl rfl ?_
  refine G_go rfl rfl ?_
  refine G_go rfl rfl ?_
  refine G_lt rfl rfl (fun c1 => ?_) (fun c1 => ?_)
  · have c1 := xl_lt c1
    have h := h.1 c1
    refine G_go rfl rfl ?_
    refine G_ret rfl rfl ?_
    refine G_ret rfl rfl ?_
    refine G_brF rfl rfl rfl ?_
    refine G_go rfl rfl ?_
    refine G_go rfl rfl ?_
    refine G_go rfl rfl ?_
    show G 120 140 194 33 [(3, 120), (1, a0), (1, (-1))] [] (n, upS s 120 10 0) Q
    refine G_go rfl rfl ?_
    refine G_brF rfl rfl rfl ?_
    refine G_go rfl rfl ?_
    refine G_go rfl rfl ?_
    refine G_call rfl rfl ?_
    refine G_go rfl rfl ?_
    refine G_rf rfl rfl (by decide) (hR 120 11 129 rfl) ?_
    refine G_go rfl rfl ?_
    refine G_go rfl rfl ?_
    refine G_go rfl rfl ?_
    refine G_ir (n := 7) rfl rfl (by decide) (by decide) (by decide) ?_
    refine G_go rfl rfl ?_
    refine G_go rfl rfl ?_
    refine G_iw (n := 7) rfl rfl (by decide) (by decide) (by decide) ?_
    have hR := refs_up (a := 129) (k := 1) (x := wr ((s 129 1) + 1)) hR rfl
    refine G_go rfl rfl ?_
    refine G_ret rfl rfl ?_
    exact G_ret rfl rfl h
  · have c1 := xl_ge c1
    have h := h.2 c1
    refine G_go rfl rfl ?_
    refine G_go rfl rfl ?_
    refine G_go rfl rfl ?_
    refine G_gt rfl rfl (fun c2 => ?_) (fun c2 => ?_)
    · have c2 := xl_gt c2
      have h := h.1 c2
      refine G_go rfl rfl ?_
      refine G_ret rfl rfl ?_
      refine G_ret rfl rfl ?_
      refine G_brF rfl rfl rfl ?_
      refine G_go rfl rfl ?_
      refine G_go rfl rfl ?_
      refine G_go rfl rfl ?_
      show G 120 140 194 33 [(3, 120), (1, a0), (1, (-1))] [] (n, upS s 120 10 0) Q
      refine G_go rfl rfl ?_
      refine G_brF rfl rfl rfl ?_
      refine G_go rfl rfl ?_
      refine G_go rfl rfl ?_
      refine G_call rfl rfl ?_
      refine G_go rfl rfl ?_
      refine G_rf rfl rfl (by decide) (hR 120 11 129 rfl) ?_
      refine G_go rfl rfl ?_
      refine G_go rfl rfl ?_
      refine G_go rfl rfl ?_
      refine G_ir (n := 7) rfl rfl (by decide) (by decide) (by decide) ?_
      refine G_go rfl rfl ?_
      refine G_go rfl rfl ?_
      refine G_iw (n := 7) rfl rfl (by decide) (by decide) (by decide) ?_
      have hR := refs_up (a := 129) (k := 1) (x := wr ((s 129 1) + 1)) hR rfl
      refine G_go rfl rfl ?_
      refine G_ret rfl rfl ?_
      exact G_ret rfl rfl h
    · have c2 := xl_le c2
      have h := h.2 c2
      refine G_go rfl rfl ?_
      refine G_go rfl rfl ?_
      refine G_ret rfl rfl ?_
      refine G_ret rfl rfl ?_
      refine G_brT rfl rfl rfl ?_
      refine G_go rfl rfl ?_
      refine G_rf rfl rfl (by decide) (hR 120 5 125 rfl) ?_
      refine G_go rfl rfl ?_
      obtain ⟨g3, h⟩ := h
      refine G_ir (n := 6) rfl rfl (by decide) (by decide) g3 ?_
      refine G_ne rfl rfl (fun c4 => ?_) (fun c4 => ?_)
      · have h := h.1 c4
        refine G_go rfl rfl ?_
        refine G_go rfl rfl ?_
        show G 120 140 194 33 [(3, 120), (1, a0), (1, 0)] [] (n, upS s 120 10 0) Q
        refine G_go rfl rfl ?_
        refine G_brT rfl rfl rfl ?_
        refine G_go rfl rfl ?_
        exact G_call rfl rfl h
      · have h := h.2 c4
        refine G_go rfl rfl ?_
        refine G_go rfl rfl ?_
        refine G_go rfl rfl ?_
        show G 120 140 194 33 [(3, 120), (1, a0), (1, (-3))] [] (n, upS s 120 10 0) Q
        refine G_go rfl rfl ?_
        refine G_brF rfl rfl rfl ?_
        refine G_go rfl rfl ?_
        refine G_go rfl rfl ?_
        refine G_call rfl rfl ?_
        refine G_go rfl rfl ?_
        refine G_rf rfl rfl (by decide) (hR 120 11 129 rfl) ?_
        refine G_go rfl rfl ?_
        refine G_go rfl rfl ?_
        refine G_go rfl rfl ?_
        refine G_ir (n := 7) rfl rfl (by decide) (by decide) (by decide) ?_
        refine G_go rfl rfl ?_
        refine G_go rfl rfl ?_
        refine G_iw (n := 7) rfl rfl (by decide) (by decide) (by decide) ?_
        have hR := refs_up (a := 129) (k := 3) (x := wr ((s 129 3) + 1)) hR rfl
        refine G_go rfl rfl ?_
        refine G_ret rfl rfl ?_
        exact G_ret rfl rfl h
theorem sb_X7_lights_47 (n : Nat) (s : Nat → Nat → Int) (Q : List Vl → Sto → Prop) (x1 : Int) (x2 : Int) (hR : refs s)
    (h : (0 ≤ x1 ∧ x1 < 6) ∧ (Q [(1, wr (1 - (s 126 x1.toNat)))] (n, upS s 126 x1.toNat (wr (1 - (s 126 x1.toNat)))))) :
    G 120 140 194 47 [(3, 120), (1, x1), (1, x2)] [] (n, s) Q := by
  refine G_go rfl rfl ?_
  refine G_rf rfl rfl (by decide) (hR 120 6 126 rfl) ?_
  refine G_go rfl rfl ?_
  refine G_go rfl rfl ?_
  refine G_go rfl rfl ?_
  refine G_rf rfl rfl (by decide) (hR 120 6 126 rfl) ?_
  refine G_go rfl rfl ?_
  obtain ⟨g1, h⟩ := h
  refine G_ir (n := 6) rfl rfl (by decide) (by decide) g1 ?_
  refine G_go rfl rfl ?_
  refine G_iw (n := 6) rfl rfl (by decide) (by decide) g1 ?_
  have hR := refs_up (a := 126) (k := x1.toNat) (x := wr (1 - (s 126 x1.toNat))) hR rfl
  refine G_go rfl rfl ?_
  refine G_rf rfl rfl (by decide) (hR 120 6 126 rfl) ?_
  refine G_go rfl rfl ?_
  refine G_irv (n := 6) (v := wr (1 - (s 126 x1.toNat))) rfl rfl (by decide) (by decide) g1 (by simp [upS]) ?_
  exact G_ret rfl rfl h
theorem sb_X6_gives_0 (n : Nat) (s : Nat → Nat → Int) (Q : List Vl → Sto → Prop) (a0 : Int) (a1 : Int) (a2 : Int) (hR : refs s)
    (h : (a0 < 0 → Q [(1, (-1))] (n, upS s 119 1 (wr ((s 119 1) + 1)))) ∧ (0 ≤ a0 → (s 3 9 ≤ a0 → Q [(1, (-1))] (n, upS s 119 1 (wr ((s 119 1) + 1)))) ∧ (a0 < s 3 9 → (a1 < 0 → Q [(1, (-1))] (n, upS s 119 1 (wr ((s 119 1) + 1)))) ∧ (0 ≤ a1 → (s 3 9 ≤ a1 → Q [(1, (-1))] (n, upS s 119 1 (wr ((s 119 1) + 1)))) ∧ (a1 < s 3 9 → (a0 = a1 → Q [(1, (-1))] (n, upS s 119 1 (wr ((s 119 1) + 1)))) ∧ (a0 ≠ a1 → (0 ≤ a0 ∧ a0 < 6) ∧ ((0 ≤ a2 → (a2 ≤ s 6 a0.toNat → (0 ≤ a1 ∧ a1 < 6) ∧ ((wr ((s 6 a1.toNat) + a2) ≤ 999 → G 2 120 8 0 [(3, 33), (3, 3)] [] (n, s) (fun r s1 => G 2 120 86 78 [(3, 2), (1, a0), (1, a1), (1, a2), (1, 0)] (r ++ []) s1 Q)) ∧ (999 < wr ((s 6 a1.toNat) + a2) → Q [(1, (-6))] (n, upS s 119 6 (wr ((s 119 6) + 1)))))) ∧ (s 6 a0.toNat < a2 → Q [(1, (-6))] (n, upS s 119 6 (wr ((s 119 6) + 1))))) ∧ (a2 < 0 → Q [(1, (-4))] (n, upS s 119 4 (wr ((s 119 4) + 1))))))))))) :
    G 2 120 86 0 [(3, 2), (1, a0), (1, a1), (1, a2), (0, 0)] [] (n, s) Q := by
  refine G_go rfl rfl ?_
  refine G_go rfl rfl ?_
  refine G_go rfl rfl ?_
  refine G_call rfl rfl ?_
  refine G_go rfl rfl ?_
  refine G_rf rfl rfl (by decide) (hR 2 0 3 rfl) ?_
  refine G_go rfl rfl ?_
  refine G_call rfl rfl ?_
  refine G_go rfl rfl ?_
  refine G_lt rfl rfl (fun c1 => ?_) (fun c1 => ?_)
  · have h := h.1 c1
    refine G_go rfl rfl ?_
    refine G_ret rfl rfl ?_
    refine G_brT rfl rfl rfl ?_
    refine G_go rfl rfl ?_
    refine G_ret rfl rfl ?_
    refine G_go rfl rfl ?_
    show G 2 120 86 8 [(3, 2), (1, a0), (1, a1), (1, a2), (1, (-1))] [] (n, s) Q
    refine G_go rfl rfl ?_
    refine G_brT rfl rfl rfl ?_
    refine G_go rfl rfl ?_
    refine G_brT rfl rfl rfl ?_
    refine G_go rfl rfl ?_
    refine G_brF rfl rfl rfl ?_
    refine G_go rfl rfl ?_
    refine G_go rfl rfl ?_
    refine G_call rfl rfl ?_
    refine G_go rfl rfl ?_
    refine G_go rfl rfl ?_
    refine G_go rfl rfl ?_
    refine G_go rfl rfl ?_
    refine G_brF rfl rfl rfl ?_
    refine G_go rfl rfl ?_
    refine G_go rfl rfl ?_
    refine G_rf rfl rfl (by decide) (hR 2 7 119 rfl) ?_
    refine G_go rfl rfl ?_
    refine G_brF rfl rfl rfl ?_
    refine G_go rfl rfl ?_
    refine G_rf rfl rfl (by decide) (hR 2 7 119 rfl) ?_
    refine G_go rfl rfl ?_
    refine G_go rfl rfl ?_
    refine G_ir (n := 7) rfl rfl (by decide) (by decide) (by decide) ?_
    refine G_go rfl rfl ?_
    refine G_go rfl rfl ?_
    refine G_iw (n := 7) rfl rfl (by decide) (by decide) (by decide) ?_
    have hR := refs_up (a := 119) (k := 1) (x := wr ((s 119 1) + 1)) hR rfl
    refine G_go rfl rfl ?_
    refine G_ret rfl rfl ?_
    exact G_ret rfl rfl h
  · have h := h.2 c1
    refine G_go rfl rfl ?_
    refine G_go rfl rfl ?_
    refine G_rd rfl rfl (by decide) ?_
    refine G_ge rfl rfl (fun c2 => ?_) (fun c2 => ?_)
    · have h := h.1 c2
      refine G_go rfl rfl ?_
      refine G_ret rfl rfl ?_
      refine G_brT rfl rfl rfl ?_
      refine G_go rfl rfl ?_
      refine G_ret rfl rfl ?_
      refine G_go rfl rfl ?_
      show G 2 120 86 8 [(3, 2), (1, a0), (1, a1), (1, a2), (1, (-1))] [] (n, s) Q
      refine G_go rfl rfl ?_
      refine G_brT rfl rfl rfl ?_
      refine G_go rfl rfl ?_
      refine G_brT rfl rfl rfl ?_
      refine G_go rfl rfl ?_
      refine G_brF rfl rfl rfl ?_
      refine G_go rfl rfl ?_
      refine G_go rfl rfl ?_
      refine G_call rfl rfl ?_
      refine G_go rfl rfl ?_
      refine G_go rfl rfl ?_
      refine G_go rfl rfl ?_
      refine G_go rfl rfl ?_
      refine G_brF rfl rfl rfl ?_
      refine G_go rfl rfl ?_
      refine G_go rfl rfl ?_
      refine G_rf rfl rfl (by decide) (hR 2 7 119 rfl) ?_
      refine G_go rfl rfl ?_
      refine G_brF rfl rfl rfl ?_
      refine G_go rfl rfl ?_
      refine G_rf rfl rfl (by decide) (hR 2 7 119 rfl) ?_
      refine G_go rfl rfl ?_
      refine G_go rfl rfl ?_
      refine G_ir (n := 7) rfl rfl (by decide) (by decide) (by decide) ?_
      refine G_go rfl rfl ?_
      refine G_go rfl rfl ?_
      refine G_iw (n := 7) rfl rfl (by decide) (by decide) (by decide) ?_
      have hR := refs_up (a := 119) (k := 1) (x := wr ((s 119 1) + 1)) hR rfl
      refine G_go rfl rfl ?_
      refine G_ret rfl rfl ?_
      exact G_ret rfl rfl h
    · have h := h.2 c2
      refine G_go rfl rfl ?_
      refine G_go rfl rfl ?_
      refine G_ret rfl rfl ?_
      refine G_brF rfl rfl rfl ?_
      refine G_go rfl rfl ?_
      refine G_rf rfl rfl (by decide) (hR 2 0 3 rfl) ?_
      refine G_go rfl rfl ?_
      refine G_call rfl rfl ?_
      refine G_go rfl rfl ?_
      refine G_lt rfl rfl (fun c3 => ?_) (fun c3 => ?_)
      · have h := h.1 c3
        refine G_go rfl rfl ?_
        refine G_ret rfl rfl ?_
        refine G_brT rfl rfl rfl ?_
        refine G_go rfl rfl ?_
        refine G_ret rfl rfl ?_
        refine G_go rfl rfl ?_
        show G 2 120 86 8 [(3, 2), (1, a0), (1, a1), (1, a2), (1, (-1))] [] (n, s) Q
        refine G_go rfl rfl ?_
        refine G_brT rfl rfl rfl ?_
        refine G_go rfl rfl ?_
        refine G_brT rfl rfl rfl ?_
        refine G_go rfl rfl ?_
        refine G_brF rfl rfl rfl ?_
        refine G_go rfl rfl ?_
        refine G_go rfl rfl ?_
        refine G_call rfl rfl ?_
        refine G_go rfl rfl ?_
        refine G_go rfl rfl ?_
        refine G_go rfl rfl ?_
        refine G_go rfl rfl ?_
        refine G_brF rfl rfl rfl ?_
        refine G_go rfl rfl ?_
        refine G_go rfl rfl ?_
        refine G_rf rfl rfl (by decide) (hR 2 7 119 rfl) ?_
        refine G_go rfl rfl ?_
        refine G_brF rfl rfl rfl ?_
        refine G_go rfl rfl ?_
        refine G_rf rfl rfl (by decide) (hR 2 7 119 rfl) ?_
        refine G_go rfl rfl ?_
        refine G_go rfl rfl ?_
        refine G_ir (n := 7) rfl rfl (by decide) (by decide) (by decide) ?_
        refine G_go rfl rfl ?_
        refine G_go rfl rfl ?_
        refine G_iw (n := 7) rfl rfl (by decide) (by decide) (by decide) ?_
        have hR := refs_up (a := 119) (k := 1) (x := wr ((s 119 1) + 1)) hR rfl
        refine G_go rfl rfl ?_
        refine G_ret rfl rfl ?_
        exact G_ret rfl rfl h
      · have h := h.2 c3
        refine G_go rfl rfl ?_
        refine G_go rfl rfl ?_
        refine G_rd rfl rfl (by decide) ?_
        refine G_ge rfl rfl (fun c4 => ?_) (fun c4 => ?_)
        · have h := h.1 c4
          refine G_go rfl rfl ?_
          refine G_ret rfl rfl ?_
          refine G_brT rfl rfl rfl ?_
          refine G_go rfl rfl ?_
          refine G_ret rfl rfl ?_
          refine G_go rfl rfl ?_
          show G 2 120 86 8 [(3, 2), (1, a0), (1, a1), (1, a2), (1, (-1))] [] (n, s) Q
          refine G_go rfl rfl ?_
          refine G_brT rfl rfl rfl ?_
          refine G_go rfl rfl ?_
          refine G_brT rfl rfl rfl ?_
          refine G_go rfl rfl ?_
          refine G_brF rfl rfl rfl ?_
          refine G_go rfl rfl ?_
          refine G_go rfl rfl ?_
          refine G_call rfl rfl ?_
          refine G_go rfl rfl ?_
          refine G_go rfl rfl ?_
          refine G_go rfl rfl ?_
          refine G_go rfl rfl ?_
          refine G_brF rfl rfl rfl ?_
          refine G_go rfl rfl ?_
          refine G_go rfl rfl ?_
          refine G_rf rfl rfl (by decide) (hR 2 7 119 rfl) ?_
          refine G_go rfl rfl ?_
          refine G_brF rfl rfl rfl ?_
          refine G_go rfl rfl ?_
          refine G_rf rfl rfl (by decide) (hR 2 7 119 rfl) ?_
          refine G_go rfl rfl ?_
          refine G_go rfl rfl ?_
          refine G_ir (n := 7) rfl rfl (by decide) (by decide) (by decide) ?_
          refine G_go rfl rfl ?_
          refine G_go rfl rfl ?_
          refine G_iw (n := 7) rfl rfl (by decide) (by decide) (by decide) ?_
          have hR := refs_up (a := 119) (k := 1) (x := wr ((s 119 1) + 1)) hR rfl
          refine G_go rfl rfl ?_
          refine G_ret rfl rfl ?_
          exact G_ret rfl rfl h
        · have h := h.2 c4
          refine G_go rfl rfl ?_
          refine G_go rfl rfl ?_
          refine G_ret rfl rfl ?_
          refine G_brF rfl rfl rfl ?_
          refine G_go rfl rfl ?_
          refine G_go rfl rfl ?_
          refine G_eq rfl rfl (fun c5 => ?_) (fun c5 => ?_)
          · have h := h.1 c5
            refine G_go rfl rfl ?_
            refine G_ret rfl rfl ?_
            refine G_go rfl rfl ?_
            show G 2 120 86 8 [(3, 2), (1, a0), (1, a1), (1, a2), (1, (-1))] [] (n, s) Q
            refine G_go rfl rfl ?_
            refine G_brT rfl rfl rfl ?_
            refine G_go rfl rfl ?_
            refine G_brT rfl rfl rfl ?_
            refine G_go rfl rfl ?_
            refine G_brF rfl rfl rfl ?_
            refine G_go rfl rfl ?_
            refine G_go rfl rfl ?_
            refine G_call rfl rfl ?_
            refine G_go rfl rfl ?_
            refine G_go rfl rfl ?_
            refine G_go rfl rfl ?_
            refine G_go rfl rfl ?_
            refine G_brF rfl rfl rfl ?_
            refine G_go rfl rfl ?_
            refine G_go rfl rfl ?_
            refine G_rf rfl rfl (by decide) (hR 2 7 119 rfl) ?_
            refine G_go rfl rfl ?_
            refine G_brF rfl rfl rfl ?_
            refine G_go rfl rfl ?_
            refine G_rf rfl rfl (by decide) (hR 2 7 119 rfl) ?_
            refine G_go rfl rfl ?_
            refine G_go rfl rfl ?_
            refine G_ir (n := 7) rfl rfl (by decide) (by decide) (by decide) ?_
            refine G_go rfl rfl ?_
            refine G_go rfl rfl ?_
            refine G_iw (n := 7) rfl rfl (by decide) (by decide) (by decide) ?_
            have hR := refs_up (a := 119) (k := 1) (x := wr ((s 119 1) + 1)) hR rfl
            refine G_go rfl rfl ?_
            refine G_ret rfl rfl ?_
            exact G_ret rfl rfl h
          · have h := h.2 c5
            refine G_go rfl rfl ?_
            refine G_go rfl rfl ?_
            refine G_ret rfl rfl ?_
            refine G_go rfl rfl ?_
            show G 2 120 86 8 [(3, 2), (1, a0), (1, a1), (1, a2), (1, 0)] [] (n, s) Q
            refine G_go rfl rfl ?_
            refine G_brF rfl rfl rfl ?_
            refine G_go rfl rfl ?_
            refine G_go rfl rfl ?_
            refine G_go rfl rfl ?_
            refine G_rf rfl rfl (by decide) (hR 2 0 3 rfl) ?_
            refine G_rf rfl rfl (by decide) (hR 3 2 6 rfl) ?_
            refine G_go rfl rfl ?_
            obtain ⟨g6, h⟩ := h
            refine G_ir (n := 6) rfl rfl (by decide) (by decide) g6 ?_
            refine G_call rfl rfl ?_
            refine G_go rfl rfl ?_
            refine G_go rfl rfl ?_
            refine G_ge rfl rfl (fun c7 => ?_) (fun c7 => ?_)
            · have h := h.1 c7
              refine G_go rfl rfl ?_
              refine G_go rfl rfl ?_
              refine G_le rfl rfl (fun c8 => ?_) (fun c8 => ?_)
              · have h := h.1 c8
                refine G_go rfl rfl ?_
                refine G_ret rfl rfl ?_
                refine G_go rfl rfl ?_
                show G 2 120 86 29 [(3, 2), (1, a0), (1, a1), (1, a2), (1, 0)] [] (n, s) Q
                refine G_go rfl rfl ?_
                refine G_brF rfl rfl rfl ?_
                refine G_go rfl rfl ?_
                refine G_rf rfl rfl (by decide) (hR 2 0 3 rfl) ?_
                refine G_rf rfl rfl (by decide) (hR 3 2 6 rfl) ?_
                refine G_go rfl rfl ?_
                obtain ⟨g9, h⟩ := h
                refine G_ir (n := 6) rfl rfl (by decide) (by decide) g9 ?_
                refine G_go rfl rfl ?_
                refine G_go rfl rfl ?_
                refine G_go rfl rfl ?_
                refine G_le rfl rfl (fun c10 => ?_) (fun c10 => ?_)
                · have h := h.1 c10
                  refine G_go rfl rfl ?_
                  refine G_brT rfl rfl rfl ?_
                  refine G_go rfl rfl ?_
                  refine G_rf rfl rfl (by decide) (hR 2 4 33 rfl) ?_
                  refine G_go rfl rfl ?_
                  refine G_rf rfl rfl (by decide) (hR 2 0 3 rfl) ?_
                  exact G_call rfl rfl h
                · have h := h.2 c10
                  refine G_go rfl rfl ?_
                  refine G_go rfl rfl ?_
                  show G 2 120 86 55 [(3, 2), (1, a0), (1, a1), (1, a2), (1, (-6))] [] (n, s) Q
                  refine G_go rfl rfl ?_
                  refine G_brF rfl rfl rfl ?_
                  refine G_go rfl rfl ?_
                  refine G_go rfl rfl ?_
                  refine G_call rfl rfl ?_
                  refine G_go rfl rfl ?_
                  refine G_go rfl rfl ?_
                  refine G_go rfl rfl ?_
                  refine G_go rfl rfl ?_
                  refine G_brF rfl rfl rfl ?_
                  refine G_go rfl rfl ?_
                  refine G_go rfl rfl ?_
                  refine G_rf rfl rfl (by decide) (hR 2 7 119 rfl) ?_
                  refine G_go rfl rfl ?_
                  refine G_brF rfl rfl rfl ?_
                  refine G_go rfl rfl ?_
                  refine G_rf rfl rfl (by decide) (hR 2 7 119 rfl) ?_
                  refine G_go rfl rfl ?_
                  refine G_go rfl rfl ?_
                  refine G_ir (n := 7) rfl rfl (by decide) (by decide) (by decide) ?_
                  refine G_go rfl rfl ?_
                  refine G_go rfl rfl ?_
                  refine G_iw (n := 7) rfl rfl (by decide) (by decide) (by decide) ?_
                  have hR := refs_up (a := 119) (k := 6) (x := wr ((s 119 6) + 1)) hR rfl
                  refine G_go rfl rfl ?_
                  refine G_ret rfl rfl ?_
                  exact G_ret rfl rfl h
              · have h := h.2 c8
                refine G_go rfl rfl ?_
                refine G_go rfl rfl ?_
                refine G_ret rfl rfl ?_
                refine G_go rfl rfl ?_
                show G 2 120 86 29 [(3, 2), (1, a0), (1, a1), (1, a2), (1, (-6))] [] (n, s) Q
                refine G_go rfl rfl ?_
                refine G_brT rfl rfl rfl ?_
                refine G_go rfl rfl ?_
                refine G_brF rfl rfl rfl ?_
                refine G_go rfl rfl ?_
                refine G_go rfl rfl ?_
                refine G_call rfl rfl ?_
                refine G_go rfl rfl ?_
                refine G_go rfl rfl ?_
                refine G_go rfl rfl ?_
                refine G_go rfl rfl ?_
                refine G_brF rfl rfl rfl ?_
                refine G_go rfl rfl ?_
                refine G_go rfl rfl ?_
                refine G_rf rfl rfl (by decide) (hR 2 7 119 rfl) ?_
                refine G_go rfl rfl ?_
                refine G_brF rfl rfl rfl ?_
                refine G_go rfl rfl ?_
                refine G_rf rfl rfl (by decide) (hR 2 7 119 rfl) ?_
                refine G_go rfl rfl ?_
                refine G_go rfl rfl ?_
                refine G_ir (n := 7) rfl rfl (by decide) (by decide) (by decide) ?_
                refine G_go rfl rfl ?_
                refine G_go rfl rfl ?_
                refine G_iw (n := 7) rfl rfl (by decide) (by decide) (by decide) ?_
                have hR := refs_up (a := 119) (k := 6) (x := wr ((s 119 6) + 1)) hR rfl
                refine G_go rfl rfl ?_
                refine G_ret rfl rfl ?_
                exact G_ret rfl rfl h
            · have h := h.2 c7
              refine G_go rfl rfl ?_
              refine G_ret rfl rfl ?_
              refine G_go rfl rfl ?_
              show G 2 120 86 29 [(3, 2), (1, a0), (1, a1), (1, a2), (1, (-4))] [] (n, s) Q
              refine G_go rfl rfl ?_
              refine G_brT rfl rfl rfl ?_
              refine G_go rfl rfl ?_
              refine G_brF rfl rfl rfl ?_
              refine G_go rfl rfl ?_
              refine G_go rfl rfl ?_
              refine G_call rfl rfl ?_
              refine G_go rfl rfl ?_
              refine G_go rfl rfl ?_
              refine G_go rfl rfl ?_
              refine G_go rfl rfl ?_
              refine G_brF rfl rfl rfl ?_
              refine G_go rfl rfl ?_
              refine G_go rfl rfl ?_
              refine G_rf rfl rfl (by decide) (hR 2 7 119 rfl) ?_
              refine G_go rfl rfl ?_
              refine G_brF rfl rfl rfl ?_
              refine G_go rfl rfl ?_
              refine G_rf rfl rfl (by decide) (hR 2 7 119 rfl) ?_
              refine G_go rfl rfl ?_
              refine G_go rfl rfl ?_
              refine G_ir (n := 7) rfl rfl (by decide) (by decide) (by decide) ?_
              refine G_go rfl rfl ?_
              refine G_go rfl rfl ?_
              refine G_iw (n := 7) rfl rfl (by decide) (by decide) (by decide) ?_
              have hR := refs_up (a := 119) (k := 4) (x := wr ((s 119 4) + 1)) hR rfl
              refine G_go rfl rfl ?_
              refine G_ret rfl rfl ?_
              exact G_ret rfl rfl h
theorem sb_X6_gives_78 (n : Nat) (s : Nat → Nat → Int) (Q : List Vl → Sto → Prop) (x1 : Int) (x2 : Int) (x3 : Int) (x4 : Int) (hR : refs s)
    (h : (0 ≤ x1 ∧ x1 < 6) ∧ ((0 ≤ x2 ∧ x2 < 6) ∧ (Q [(1, wr (((upS s 6 x1.toNat (wr ((s 6 x1.toNat) - x3))) 6 x2.toNat) + x3))] (n, upS (upS s 6 x1.toNat (wr ((s 6 x1.toNat) - x3))) 6 x2.toNat (wr (((upS s 6 x1.toNat (wr ((s 6 x1.toNat) - x3))) 6 x2.toNat) + x3)))))) :
    G 2 120 86 78 [(3, 2), (1, x1), (1, x2), (1, x3), (1, x4)] [] (n, s) Q := by
  refine G_go rfl rfl ?_
  refine G_rf rfl rfl (by decide) (hR 2 0 3 rfl) ?_
  refine G_rf rfl rfl (by decide) (hR 3 2 6 rfl) ?_
  refine G_go rfl rfl ?_
  refine G_go rfl rfl ?_
  obtain ⟨g1, h⟩ := h
  refine G_ir (n := 6) rfl rfl (by decide) (by decide) g1 ?_
  refine G_go rfl rfl ?_
  refine G_go rfl rfl ?_
  refine G_iw (n := 6) rfl rfl (by decide) (by decide) g1 ?_
  have hR := refs_up (a := 6) (k := x1.toNat) (x := wr ((s 6 x1.toNat) - x3)) hR rfl
  refine G_go rfl rfl ?_
  refine G_rf rfl rfl (by decide) (hR 2 0 3 rfl) ?_
  refine G_rf rfl rfl (by decide) (hR 3 2 6 rfl) ?_
  refine G_go rfl rfl ?_
  refine G_go rfl rfl ?_
  obtain ⟨g2, h⟩ := h
  refine G_ir (n := 6) rfl rfl (by decide) (by decide) g2 ?_
  refine G_go rfl rfl ?_
  refine G_go rfl rfl ?_
  refine G_iw (n := 6) rfl rfl (by decide) (by decide) g2 ?_
  have hR := refs_up (a := 6) (k := x2.toNat) (x := wr (((upS s 6 x1.toNat (wr ((s 6 x1.toNat) - x3))) 6 x2.toNat) + x3)) hR rfl
  refine G_go rfl rfl ?_
  refine G_rf rfl rfl (by decide) (hR 2 0 3 rfl) ?_
  refine G_rf rfl rfl (by decide) (hR 3 2 6 rfl) ?_
  refine G_go rfl rfl ?_
  refine G_irv (n := 6) (v := wr (((upS s 6 x1.toNat (wr ((s 6 x1.toNat) - x3))) 6 x2.toNat) + x3)) rfl rfl (by decide) (by decide) g2 (by simp [upS]) ?_
  exact G_ret rfl rfl h
theorem sb_X7_gives_0 (n : Nat) (s : Nat → Nat → Int) (Q : List Vl → Sto → Prop) (a0 : Int) (a1 : Int) (a2 : Int) (hR : refs s)
    (h : (a0 < 0 → Q [(1, (-1))] (n, upS (upS s 120 10 0) 129 1 (wr ((s 129 1) + 1)))) ∧ (a0 ≥ 0 → (a0 > wr ((s 120 0) - 1) → Q [(1, (-1))] (n, upS (upS s 120 10 0) 129 1 (wr ((s 129 1) + 1)))) ∧ (a0 ≤ wr ((s 120 0) - 1) → (a1 < 0 → Q [(1, (-1))] (n, upS (upS s 120 10 0) 129 1 (wr ((s 129 1) + 1)))) ∧ (a1 ≥ 0 → (a1 > wr ((s 120 0) - 1) → Q [(1, (-1))] (n, upS (upS s 120 10 0) 129 1 (wr ((s 129 1) + 1)))) ∧ (a1 ≤ wr ((s 120 0) - 1) → (a0 = a1 → Q [(1, (-1))] (n, upS (upS s 120 10 0) 129 1 (wr ((s 129 1) + 1)))) ∧ (a0 ≠ a1 → (0 ≤ a2 → (0 ≤ a0 ∧ a0 < 6) ∧ ((s 123 a0.toNat < a2 → Q [(1, (-6))] (n, upS (upS s 120 10 0) 129 6 (wr ((s 129 6) + 1)))) ∧ (a2 ≤ s 123 a0.toNat → (0 ≤ a1 ∧ a1 < 6) ∧ ((wr ((s 123 a1.toNat) + a2) ≤ 999 → G 120 140 181 0 [(3, 120), (0, 0)] [] (n, upS s 120 10 0) (fun r s1 => G 120 140 182 78 [(3, 120), (1, a0), (1, a1), (1, a2), (1, 0)] (r ++ []) s1 Q)) ∧ (999 < wr ((s 123 a1.toNat) + a2) → Q [(1, (-6))] (n, upS (upS s 120 10 0) 129 6 (wr ((s 129 6) + 1)))))))) ∧ (a2 < 0 → Q [(1, (-4))] (n, upS (upS s 120 10 0) 129 4 (wr ((s 129 4) + 1)))))))))) :
    G 120 140 182 0 [(3, 120), (1, a0), (1, a1), (1, a2), (0, 0)] [] (n, s) Q := by
  refine G_go rfl rfl ?_
  refine G_go rfl rfl ?_
  refine G_wr rfl rfl (by decide) ?_
  have hR := refs_up (a := 120) (k := 10) (x := 0) hR rfl
  refine G_go rfl rfl ?_
  refine G_go rfl rfl ?_
  show G 120 140 182 8 [(3, 120), (1, a0), (1, a1), (1, a2), (1, 0)] [] (n, upS s 120 10 0) Q
  refine G_go rfl rfl ?_
  refine G_go rfl rfl ?_
  refine G_go rfl rfl ?_
  refine G_call rfl rfl ?_
  refine G_go rfl rfl ?_
  refine G_go rfl rfl ?_
  refine G_call rfl rfl ?_
  refine G_go rfl rfl ?_
  refine G_go rfl rfl ?_
  refine G_go rfl rfl ?_
  refine G_go rfl rfl ?_
  refine G_rd rfl rfl (by decide) ?_
  refine G_go rfl rfl ?_
  refine G_go rfl rfl ?_
  refine G_go rfl rfl ?_
  refine G_call rfl rfl ?_
  refine G_go rfl rfl ?_
  refine G_go rfl rfl ?_
  refine G_go rfl rfl ?_
  refine G_lt rfl rfl (fun c1 => ?_) (fun c1 => ?_)
  · have c1 := xl_lt c1
    have h := h.1 c1
    refine G_go rfl rfl ?_
    refine G_ret rfl rfl ?_
    refine G_ret rfl rfl ?_
    refine G_brT rfl rfl rfl ?_
    refine G_go rfl rfl ?_
    refine G_ret rfl rfl ?_
    refine G_brF rfl rfl rfl ?_
    refine G_go rfl rfl ?_
    refine G_go rfl rfl ?_
    show G 120 140 182 20 [(3, 120), (1, a0), (1, a1), (1, a2), (1, (-1))] [] (n, upS s 120 10 0) Q
    refine G_go rfl rfl ?_
    refine G_go rfl rfl ?_
    refine G_brF rfl rfl rfl ?_
    refine G_go rfl rfl ?_
    refine G_go rfl rfl ?_
    refine G_call rfl rfl ?_
    refine G_go rfl rfl ?_
    refine G_rf rfl rfl (by decide) (hR 120 11 129 rfl) ?_
    refine G_go rfl rfl ?_
    refine G_go rfl rfl ?_
    refine G_go rfl rfl ?_
    refine G_ir (n := 7) rfl rfl (by decide) (by decide) (by decide) ?_
    refine G_go rfl rfl ?_
    refine G_go rfl rfl ?_
    refine G_iw (n := 7) rfl rfl (by decide) (by decide) (by decide) ?_
    have hR := refs_up (a := 129) (k := 1) (x := wr ((s 129 1) + 1)) hR rfl
    refine G_go rfl rfl ?_
    refine G_ret rfl rfl ?_
    exact G_ret rfl rfl h
  · have c1 := xl_ge c1
    have h := h.2 c1
    refine G_go rfl rfl ?_
    refine G_go rfl rfl ?_
    refine G_go rfl rfl ?_
    refine G_gt rfl rfl (fun c2 => ?_) (fun c2 => ?_)
    · have c2 := xl_gt c2
      have h := h.1 c2
      refine G_go rfl rfl ?_
      refine G_ret rfl rfl ?_
      refine G_ret rfl rfl ?_
      refine G_brT rfl rfl rfl ?_
      refine G_go rfl rfl ?_
      refine G_ret rfl rfl ?_
      refine G_brF rfl rfl rfl ?_
      refine G_go rfl rfl ?_
      refine G_go rfl rfl ?_
      show G 120 140 182 20 [(3, 120), (1, a0), (1, a1), (1, a2), (1, (-1))] [] (n, upS s 120 10 0) Q
      refine G_go rfl rfl ?_
      refine G_go rfl rfl ?_
      refine G_brF rfl rfl rfl ?_
      refine G_go rfl rfl ?_
      refine G_go rfl rfl ?_
      refine G_call rfl rfl ?_
      refine G_go rfl rfl ?_
      refine G_rf rfl rfl (by decide) (hR 120 11 129 rfl) ?_
      refine G_go rfl rfl ?_
      refine G_go rfl rfl ?_
      refine G_go rfl rfl ?_
      refine G_ir (n := 7) rfl rfl (by decide) (by decide) (by decide) ?_
      refine G_go rfl rfl ?_
      refine G_go rfl rfl ?_
      refine G_iw (n := 7) rfl rfl (by decide) (by decide) (by decide) ?_
      have hR := refs_up (a := 129) (k := 1) (x := wr ((s 129 1) + 1)) hR rfl
      refine G_go rfl rfl ?_
      refine G_ret rfl rfl ?_
      exact G_ret rfl rfl h
    · have c2 := xl_le c2
      have h := h.2 c2
      refine G_go rfl rfl ?_
      refine G_go rfl rfl ?_
      refine G_ret rfl rfl ?_
      refine G_ret rfl rfl ?_
      refine G_brF rfl rfl rfl ?_
      refine G_go rfl rfl ?_
      refine G_go rfl rfl ?_
      refine G_call rfl rfl ?_
      refine G_go rfl rfl ?_
      refine G_go rfl rfl ?_
      refine G_go rfl rfl ?_
      refine G_go rfl rfl ?_
      refine G_rd rfl rfl (by decide) ?_
      refine G_go rfl rfl ?_
      refine G_go rfl rfl ?_
      refine G_go rfl rfl ?_
      refine G_call rfl rfl ?_
      refine G_go rfl rfl ?_
      refine G_go rfl rfl ?_
      refine G_go rfl rfl ?_
      refine G_lt rfl rfl (fun c3 => ?_) (fun c3 => ?_)
      · have c3 := xl_lt c3
        have h := h.1 c3
        refine G_go rfl rfl ?_
        refine G_ret rfl rfl ?_
        refine G_ret rfl rfl ?_
        refine G_brT rfl rfl rfl ?_
        refine G_go rfl rfl ?_
        refine G_ret rfl rfl ?_
        refine G_brF rfl rfl rfl ?_
        refine G_go rfl rfl ?_
        refine G_go rfl rfl ?_
        show G 120 140 182 20 [(3, 120), (1, a0), (1, a1), (1, a2), (1, (-1))] [] (n, upS s 120 10 0) Q
        refine G_go rfl rfl ?_
        refine G_go rfl rfl ?_
        refine G_brF rfl rfl rfl ?_
        refine G_go rfl rfl ?_
        refine G_go rfl rfl ?_
        refine G_call rfl rfl ?_
        refine G_go rfl rfl ?_
        refine G_rf rfl rfl (by decide) (hR 120 11 129 rfl) ?_
        refine G_go rfl rfl ?_
        refine G_go rfl rfl ?_
        refine G_go rfl rfl ?_
        refine G_ir (n := 7) rfl rfl (by decide) (by decide) (by decide) ?_
        refine G_go rfl rfl ?_
        refine G_go rfl rfl ?_
        refine G_iw (n := 7) rfl rfl (by decide) (by decide) (by decide) ?_
        have hR := refs_up (a := 129) (k := 1) (x := wr ((s 129 1) + 1)) hR rfl
        refine G_go rfl rfl ?_
        refine G_ret rfl rfl ?_
        exact G_ret rfl rfl h
      · have c3 := xl_ge c3
        have h := h.2 c3
        refine G_go rfl rfl ?_
        refine G_go rfl rfl ?_
        refine G_go rfl rfl ?_
        refine G_gt rfl rfl (fun c4 => ?_) (fun c4 => ?_)
        · have c4 := xl_gt c4
          have h := h.1 c4
          refine G_go rfl rfl ?_
          refine G_ret rfl rfl ?_
          refine G_ret rfl rfl ?_
          refine G_brT rfl rfl rfl ?_
          refine G_go rfl rfl ?_
          refine G_ret rfl rfl ?_
          refine G_brF rfl rfl rfl ?_
          refine G_go rfl rfl ?_
          refine G_go rfl rfl ?_
          show G 120 140 182 20 [(3, 120), (1, a0), (1, a1), (1, a2), (1, (-1))] [] (n, upS s 120 10 0) Q
          refine G_go rfl rfl ?_
          refine G_go rfl rfl ?_
          refine G_brF rfl rfl rfl ?_
          refine G_go rfl rfl ?_
          refine G_go rfl rfl ?_
          refine G_call rfl rfl ?_
          refine G_go rfl rfl ?_
          refine G_rf rfl rfl (by decide) (hR 120 11 129 rfl) ?_
          refine G_go rfl rfl ?_
          refine G_go rfl rfl ?_
          refine G_go rfl rfl ?_
          refine G_ir (n := 7) rfl rfl (by decide) (by decide) (by decide) ?_
          refine G_go rfl rfl ?_
          refine G_go rfl rfl ?_
          refine G_iw (n := 7) rfl rfl (by decide) (by decide) (by decide) ?_
          have hR := refs_up (a := 129) (k := 1) (x := wr ((s 129 1) + 1)) hR rfl
          refine G_go rfl rfl ?_
          refine G_ret rfl rfl ?_
          exact G_ret rfl rfl h
        · have c4 := xl_le c4
          have h := h.2 c4
          refine G_go rfl rfl ?_
          refine G_go rfl rfl ?_
          refine G_ret rfl rfl ?_
          refine G_ret rfl rfl ?_
          refine G_brF rfl rfl rfl ?_
          refine G_go rfl rfl ?_
          refine G_go rfl rfl ?_
          refine G_eq rfl rfl (fun c5 => ?_) (fun c5 => ?_)
          · have h := h.1 c5
            refine G_go rfl rfl ?_
            refine G_ret rfl rfl ?_
            refine G_brF rfl rfl rfl ?_
            refine G_go rfl rfl ?_
            refine G_go rfl rfl ?_
            show G 120 140 182 20 [(3, 120), (1, a0), (1, a1), (1, a2), (1, (-1))] [] (n, upS s 120 10 0) Q
            refine G_go rfl rfl ?_
            refine G_go rfl rfl ?_
            refine G_brF rfl rfl rfl ?_
            refine G_go rfl rfl ?_
            refine G_go rfl rfl ?_
            refine G_call rfl rfl ?_
            refine G_go rfl rfl ?_
            refine G_rf rfl rfl (by decide) (hR 120 11 129 rfl) ?_
            refine G_go rfl rfl ?_
            refine G_go rfl rfl ?_
            refine G_go rfl rfl ?_
            refine G_ir (n := 7) rfl rfl (by decide) (by decide) (by decide) ?_
            refine G_go rfl rfl ?_
            refine G_go rfl rfl ?_
            refine G_iw (n := 7) rfl rfl (by decide) (by decide) (by decide) ?_
            have hR := refs_up (a := 129) (k := 1) (x := wr ((s 129 1) + 1)) hR rfl
            refine G_go rfl rfl ?_
            refine G_ret rfl rfl ?_
            exact G_ret rfl rfl h
          · have h := h.2 c5
            refine G_go rfl rfl ?_
            refine G_go rfl rfl ?_
            refine G_ret rfl rfl ?_
            refine G_brT rfl rfl rfl ?_
            refine G_go rfl rfl ?_
            refine G_ge rfl rfl (fun c6 => ?_) (fun c6 => ?_)
            · have h := h.1 c6
              refine G_go rfl rfl ?_
              refine G_go rfl rfl ?_
              refine G_rf rfl rfl (by decide) (hR 120 3 123 rfl) ?_
              refine G_go rfl rfl ?_
              obtain ⟨g7, h⟩ := h
              refine G_ir (n := 6) rfl rfl (by decide) (by decide) g7 ?_
              refine G_gt rfl rfl (fun c8 => ?_) (fun c8 => ?_)
              · have h := h.1 c8
                refine G_go rfl rfl ?_
                refine G_go rfl rfl ?_
                show G 120 140 182 62 [(3, 120), (1, a0), (1, a1), (1, a2), (1, (-6))] [] (n, upS s 120 10 0) Q
                refine G_go rfl rfl ?_
                refine G_brF rfl rfl rfl ?_
                refine G_go rfl rfl ?_
                refine G_go rfl rfl ?_
                refine G_call rfl rfl ?_
                refine G_go rfl rfl ?_
                refine G_rf rfl rfl (by decide) (hR 120 11 129 rfl) ?_
                refine G_go rfl rfl ?_
                refine G_go rfl rfl ?_
                refine G_go rfl rfl ?_
                refine G_ir (n := 7) rfl rfl (by decide) (by decide) (by decide) ?_
                refine G_go rfl rfl ?_
                refine G_go rfl rfl ?_
                refine G_iw (n := 7) rfl rfl (by decide) (by decide) (by decide) ?_
                have hR := refs_up (a := 129) (k := 6) (x := wr ((s 129 6) + 1)) hR rfl
                refine G_go rfl rfl ?_
                refine G_ret rfl rfl ?_
                exact G_ret rfl rfl h
              · have h := h.2 c8
                refine G_go rfl rfl ?_
                refine G_rf rfl rfl (by decide) (hR 120 3 123 rfl) ?_
                refine G_go rfl rfl ?_
                obtain ⟨g9, h⟩ := h
                refine G_ir (n := 6) rfl rfl (by decide) (by decide) g9 ?_
                refine G_go rfl rfl ?_
                refine G_go rfl rfl ?_
                refine G_go rfl rfl ?_
                refine G_le rfl rfl (fun c10 => ?_) (fun c10 => ?_)
                · have h := h.1 c10
                  refine G_go rfl rfl ?_
                  refine G_brT rfl rfl rfl ?_
                  refine G_go rfl rfl ?_
                  exact G_call rfl rfl h
                · have h := h.2 c10
                  refine G_go rfl rfl ?_
                  refine G_go rfl rfl ?_
                  show G 120 140 182 62 [(3, 120), (1, a0), (1, a1), (1, a2), (1, (-6))] [] (n, upS s 120 10 0) Q
                  refine G_go rfl rfl ?_
                  refine G_brF rfl rfl rfl ?_
                  refine G_go rfl rfl ?_
                  refine G_go rfl rfl ?_
                  refine G_call rfl rfl ?_
                  refine G_go rfl rfl ?_
                  refine G_rf rfl rfl (by decide) (hR 120 11 129 rfl) ?_
                  refine G_go rfl rfl ?_
                  refine G_go rfl rfl ?_
                  refine G_go rfl rfl ?_
                  refine G_ir (n := 7) rfl rfl (by decide) (by decide) (by decide) ?_
                  refine G_go rfl rfl ?_
                  refine G_go rfl rfl ?_
                  refine G_iw (n := 7) rfl rfl (by decide) (by decide) (by decide) ?_
                  have hR := refs_up (a := 129) (k := 6) (x := wr ((s 129 6) + 1)) hR rfl
                  refine G_go rfl rfl ?_
                  refine G_ret rfl rfl ?_
                  exact G_ret rfl rfl h
            · have h := h.2 c6
              refine G_go rfl rfl ?_
              refine G_go rfl rfl ?_
              show G 120 140 182 31 [(3, 120), (1, a0), (1, a1), (1, a2), (1, (-4))] [] (n, upS s 120 10 0) Q
              refine G_go rfl rfl ?_
              refine G_go rfl rfl ?_
              refine G_brF rfl rfl rfl ?_
              refine G_go rfl rfl ?_
              refine G_go rfl rfl ?_
              refine G_call rfl rfl ?_
              refine G_go rfl rfl ?_
              refine G_rf rfl rfl (by decide) (hR 120 11 129 rfl) ?_
              refine G_go rfl rfl ?_
              refine G_go rfl rfl ?_
              refine G_go rfl rfl ?_
              refine G_ir (n := 7) rfl rfl (by decide) (by decide) (by decide) ?_
              refine G_go rfl rfl ?_
              refine G_go rfl rfl ?_
              refine G_iw (n := 7) rfl rfl (by decide) (by decide) (by decide) ?_
              have hR := refs_up (a := 129) (k := 4) (x := wr ((s 129 4) + 1)) hR rfl
              refine G_go rfl rfl ?_
              refine G_ret rfl rfl ?_
              exact G_ret rfl rfl h
theorem sb_X7_gives_78 (n : Nat) (s : Nat → Nat → Int) (Q : List Vl → Sto → Prop) (x1 : Int) (x2 : Int) (x3 : Int) (x4 : Int) (hR : refs s)
    (h : (0 ≤ x1 ∧ x1 < 6) ∧ ((0 ≤ x2 ∧ x2 < 6) ∧ (Q [(1, wr (((upS s 123 x1.toNat (wr ((s 123 x1.toNat) - x3))) 123 x2.toNat) + x3))] (n, upS (upS s 123 x1.toNat (wr ((s 123 x1.toNat) - x3))) 123 x2.toNat (wr (((upS s 123 x1.toNat (wr ((s 123 x1.toNat) - x3))) 123 x2.toNat) + x3)))))) :
    G 120 140 182 78 [(3, 120), (1, x1), (1, x2), (1, x3), (1, x4)] [] (n, s) Q := by
  refine G_go rfl rfl ?_
  refine G_rf rfl rfl (by decide) (hR 120 3 123 rfl) ?_
  refine G_go rfl rfl ?_
  refine G_go rfl rfl ?_
  obtain ⟨g1, h⟩ := h
  refine G_ir (n := 6) rfl rfl (by decide) (by decide) g1 ?_
  refine G_go rfl rfl ?_
  refine G_go rfl rfl ?_
  refine G_iw (n := 6) rfl rfl (by decide) (by decide) g1 ?_
  have hR := refs_up (a := 123) (k := x1.toNat) (x := wr ((s 123 x1.toNat) - x3)) hR rfl
  refine G_go rfl rfl ?_
  refine G_rf rfl rfl (by decide) (hR 120 3 123 rfl) ?_
  refine G_go rfl rfl ?_
  refine G_go rfl rfl ?_
  obtain ⟨g2, h⟩ := h
  refine G_ir (n := 6) rfl rfl (by decide) (by decide) g2 ?_
  refine G_go rfl rfl ?_
  refine G_go rfl rfl ?_
  refine G_iw (n := 6) rfl rfl (by decide) (by decide) g2 ?_
  have hR := refs_up (a := 123) (k := x2.toNat) (x := wr (((upS s 123 x1.toNat (wr ((s 123 x1.toNat) - x3))) 123 x2.toNat) + x3)) hR rfl
  refine G_go rfl rfl ?_
  refine G_rf rfl rfl (by decide) (hR 120 3 123 rfl) ?_
  refine G_go rfl rfl ?_
  refine G_irv (n := 6) (v := wr (((upS s 123 x1.toNat (wr ((s 123 x1.toNat) - x3))) 123 x2.toNat) + x3)) rfl rfl (by decide) (by decide) g2 (by simp [upS]) ?_
  exact G_ret rfl rfl h
theorem cl_hours (n : Nat) (s t : Nat → Nat → Int) (h : REL s t) (N : Nat) (hN : N ≤ 99) (x2 : Int) (Q : List Vl → Sto → Prop) (hQ : ∀ s1 s2, refs s2 → kpC s s1 (t 120 0) (t 120 9) (vw 121 t) → frT 3 s1 s2 → twC 3 s2 (t 120 0) (hrN N (t 120 9) (vw 121 t)).1 (hrN N (t 120 9) (vw 121 t)).2 → Q [(1, itr (smF ((hrN N (t 120 9) (vw 121 t)).2 5)) 0 (t 120 0).toNat)] (n, s2)) : G 2 120 8 0 [(3, 33), (3, 3)] [] (n, s) (fun r s1 => G 2 120 93 37 [(3, 2), (1, (N : Int)), (1, x2)] (r ++ []) s1 Q) := by
  obtain ⟨hn1, hn2, hn3, hn4⟩ := h.np
  refine c_keep0 n s t h _ (fun s1 r1 k1 c1 => ?_)
  refine sb_X6_hours_37 n s1 Q N x2 r1 ?_
  refine c_passHours_3 n s1 _ _ _ _ N hN r1 h.o c1 (fun s2 r2 f2 u2 => ?_)
  have e9 : s2 3 9 = t 120 0 := u2.1
  have e5 : ∀ p : Nat, (p : Int) < t 120 0 → s2 9 p = (hrN N (t 120 9) (vw 121 t)).2 5 p := fun p hp => (u2.2.2 p hp).2.2.2.2.2.1
  refine sb_X6_hours_45 n s2 Q N x2 r2 ?_
  refine c_howManyLit_3 n s2 _ r2 (by rw [e9]; exact hn3) (fun p hp => ?_) ?_
  · rw [e9] at hp
    rw [e5 p hp]
    exact ((okT_hrN h.o N).2 p hp).2.2.2.2.2.1
  · refine sb_X6_hours_52 n s2 Q N x2 _ r2 ?_
    rw [e9, itr_row e5]
    exact hQ s1 s2 r2 k1 (frH_t f2) u2
theorem rl_hours (n : Nat) (s t : Nat → Nat → Int) (h : REL s t) (N : Nat) (hN : N ≤ 99) (x2 : Int) (Q : List Vl → Sto → Prop) (hQ : ∀ t1 t2, refs t2 → kpR t t1 (t 120 0) (t 120 9) (vw 121 t) → frX 130 t1 t2 → twR t2 (t 120 0) (hrN N (t 120 9) (vw 121 t)).1 (hrN N (t 120 9) (vw 121 t)).2 → Q [(1, itr (smF ((hrN N (t 120 9) (vw 121 t)).2 5)) 0 (t 120 0).toNat)] (n, t2)) : G 120 140 181 0 [(3, 120), (0, 0)] [] (n, t) (fun r s1 => G 120 140 187 50 [(3, 120), (1, (N : Int)), (1, x2)] (r ++ []) s1 Q) := by
  obtain ⟨hn1, hn2, hn3, hn4⟩ := h.np
  refine c_keepTurn0 n s t h _ (fun t1 r1 k1 c1 => ?_)
  refine sb_X7_hours_50 n t1 Q N x2 r1 ?_
  refine c_goHours n t1 _ _ _ _ N hN r1 h.o c1 (fun t2 r2 f2 u2 => ?_)
  have e9 : t2 120 0 = t 120 0 := u2.1
  have e5 : ∀ p : Nat, (p : Int) < t 120 0 → t2 126 p = (hrN N (t 120 9) (vw 121 t)).2 5 p := fun p hp => u2.2.2 5 (by decide) p hp
  refine sb_X7_hours_55 n t2 Q N x2 r2 ?_
  refine c_litMany n t2 _ r2 (by rw [e9]; exact hn3) ?_
  refine sb_X7_hours_59 n t2 Q N x2 _ r2 ?_
  rw [e9, itr_row e5]
  exact hQ t1 t2 r2 k1 (frY_x f2) u2
theorem cl_nights (n : Nat) (s t : Nat → Nat → Int) (h : REL s t) (m N : Nat) (hm : t 120 0 = (m : Int)) (hN : N ≤ 99) (x2 : Int) (Q : List Vl → Sto → Prop) (hQ : ∀ s1 s2, refs s2 → kpC s s1 (t 120 0) (t 120 9) (vw 121 t) → frT 3 s1 s2 → twC 3 s2 m (hrN N (t 120 9) (ltV m (dkV m (vw 121 t)))).1 (ntV m N (t 120 9) (vw 121 t)) → Q [(1, naV m (vw 121 t) (ntV m N (t 120 9) (vw 121 t)) 0)] (n, s2)) : G 2 120 8 0 [(3, 33), (3, 3)] [] (n, s) (fun r s1 => G 2 120 113 37 [(3, 2), (1, (N : Int)), (1, x2), (0, 0)] (r ++ []) s1 Q) := by
  obtain ⟨hn1, hn2, hn3, hn4⟩ := h.np
  refine c_keep0 n s t h _ (fun s1 r1 k1 c1 => ?_)
  have o := h.o
  rw [hm] at c1 o
  have e9 : s1 3 9 = (m : Int) := c1.1
  have g6 : ∀ p : Nat, (p : Int) < m → s1 10 p = vw 121 t 6 p := fun p hp => (c1.2.2 p hp).2.2.2.2.2.2.1
  refine sb_X6_nights_37 n s1 Q N x2 r1 ⟨by omega, ?_⟩
  rw [e9, itr_row g6]
  refine c_passNight_3 n s1 _ m _ _ N hN r1 o c1 (fun s2 r2 f2 u2 => ?_)
  have e92 : s2 3 9 = (m : Int) := u2.1
  have q := hQ s1 s2 r2 k1 f2 u2
  generalize ntV m N (t 120 9) (vw 121 t) = W at *
  have e6 : ∀ p : Nat, (p : Int) < m → s2 10 p = W 6 p := fun p hp => (u2.2.2 p hp).2.2.2.2.2.2.1
  refine sb_X6_nights_53 n s2 Q N x2 _ r2 ⟨by omega, ?_⟩
  rw [e92, itr_row e6]
  exact q
theorem rl_nights (n : Nat) (s t : Nat → Nat → Int) (h : REL s t) (m N : Nat) (hm : t 120 0 = (m : Int)) (hN : N ≤ 99) (x2 : Int) (Q : List Vl → Sto → Prop) (hQ : ∀ t1 t2, refs t2 → kpR t t1 (t 120 0) (t 120 9) (vw 121 t) → frX 130 t1 t2 → twR t2 m (hrN N (t 120 9) (ltV m (dkV m (vw 121 t)))).1 (ntV m N (t 120 9) (vw 121 t)) → Q [(1, naV m (vw 121 t) (ntV m N (t 120 9) (vw 121 t)) 0)] (n, t2)) : G 120 140 181 0 [(3, 120), (0, 0)] [] (n, t) (fun r s1 => G 120 140 201 50 [(3, 120), (1, (N : Int)), (1, x2), (0, 0)] (r ++ []) s1 Q) := by
  obtain ⟨hn1, hn2, hn3, hn4⟩ := h.np
  refine c_keepTurn0 n s t h _ (fun t1 r1 k1 c1 => ?_)
  have o := h.o
  rw [hm] at c1 o
  have e9 : t1 120 0 = (m : Int) := c1.1
  have g6 : ∀ p : Nat, (p : Int) < m → t1 127 p = vw 121 t 6 p := fun p hp => c1.2.2 6 (by decide) p hp
  refine sb_X7_nights_50 n t1 Q N x2 r1 ⟨by omega, ?_⟩
  rw [e9, itr_row g6]
  refine c_goNight n t1 _ m _ _ N hN r1 o c1 (fun t2 r2 f2 u2 => ?_)
  have e92 : t2 120 0 = (m : Int) := u2.1
  have q := hQ t1 t2 r2 k1 f2 u2
  generalize ntV m N (t 120 9) (vw 121 t) = W at *
  have e6 : ∀ p : Nat, (p : Int) < m → t2 127 p = W 6 p := fun p hp => u2.2.2 6 (by decide) p hp
  refine sb_X7_nights_60 n t2 Q N x2 _ r2 ⟨by omega, ?_⟩
  rw [e92, itr_row e6]
  exact q

theorem op_hours (n : Nat) (s t : Nat → Nat → Int) (h : REL s t) (a0 : Int) : G 2 120 93 0 [(3, 2), (1, a0), (0, 0)] [] (n, s) (fun r s1 => G 120 140 187 0 [(3, 120), (1, a0), (0, 0)] [] (n, t) (Post n r s1)) := by
  obtain ⟨hn1, hn2, hn3, hn4⟩ := h.np
  have hw : wr (t 120 0 - 1) = t 120 0 - 1 := wr_id (by omega) (by omega)
  have hw9 : wr (999 - s 3 10) = 999 - t 120 9 := by rw [hn2]; exact wr_id (by omega) (by omega)
  have hw8 : a0 ≤ 99 → 0 ≤ a0 → wr (t 120 9 + a0) = t 120 9 + a0 := fun _ _ => wr_id (by omega) (by omega)
  have h1 : ∀ z : Int, 0 ≤ z → z < t 120 0 → ∃ p : Nat, z = p ∧ (p : Int) < t 120 0 := fun z h1 h2 => ⟨z.toNat, by omega, by omega⟩
  have h2 : ∀ z : Int, 0 ≤ z → z ≤ 99 → ∃ p : Nat, z = p ∧ p ≤ 99 := fun z h1 h2 => ⟨z.toNat, by omega, by omega⟩
  obtain ⟨m, hm⟩ : ∃ m : Nat, t 120 0 = (m : Int) := ⟨(t 120 0).toNat, by omega⟩
  refine sb_X6_hours_0 n s _ a0 h.1 ?_
  repeat' first | with_reducible refine And.intro ?_ ?_ | intro _
  all_goals first | omega | skip
  all_goals try (obtain ⟨N, rfl, hN⟩ := h2 a0 (by omega) (by omega); refine cl_hours n s _ h.up N hN _ _ (fun s1 s2 r2 k1 f2 u2 => ?_))
  all_goals refine sb_X7_hours_0 n t _ _ h.2.1 ?_
  all_goals repeat' first | with_reducible refine And.intro ?_ ?_ | intro _
  all_goals first | omega | exact post_ref h _ (by decide) | exact hn3.1 | exact hn3.2 | skip
  · refine rl_hours n s _ h.up N hN _ _ (fun t1 t2 q2 w1 f3 u3 => ?_)
    have e := hrN_h (h := t 120 9) (V := vw 121 (upS t 120 10 0)) hn4.1 N (by omega)
    exact post_chg h.up (okT_hrN h.up.o N) ⟨by show 0 ≤ (hrN N (t 120 9) _).1; omega, by show (hrN N (t 120 9) _).1 ≤ 999; omega⟩ r2 q2 k1 w1 f2 f3 u2 u3 rfl
theorem op_nights (n : Nat) (s t : Nat → Nat → Int) (h : REL s t) (a0 : Int) : G 2 120 113 0 [(3, 2), (1, a0), (0, 0), (0, 0)] [] (n, s) (fun r s1 => G 120 140 201 0 [(3, 120), (1, a0), (0, 0), (0, 0)] [] (n, t) (Post n r s1)) := by
  obtain ⟨hn1, hn2, hn3, hn4⟩ := h.np
  have hw : wr (t 120 0 - 1) = t 120 0 - 1 := wr_id (by omega) (by omega)
  have hw9 : wr (999 - s 3 10) = 999 - t 120 9 := by rw [hn2]; exact wr_id (by omega) (by omega)
  have hw8 : a0 ≤ 99 → 0 ≤ a0 → wr (t 120 9 + a0) = t 120 9 + a0 := fun _ _ => wr_id (by omega) (by omega)
  have h1 : ∀ z : Int, 0 ≤ z → z < t 120 0 → ∃ p : Nat, z = p ∧ (p : Int) < t 120 0 := fun z h1 h2 => ⟨z.toNat, by omega, by omega⟩
  have h2 : ∀ z : Int, 0 ≤ z → z ≤ 99 → ∃ p : Nat, z = p ∧ p ≤ 99 := fun z h1 h2 => ⟨z.toNat, by omega, by omega⟩
  obtain ⟨m, hm⟩ : ∃ m : Nat, t 120 0 = (m : Int) := ⟨(t 120 0).toNat, by omega⟩
  refine sb_X6_nights_0 n s _ a0 h.1 ?_
  repeat' first | with_reducible refine And.intro ?_ ?_ | intro _
  all_goals first | omega | skip
  all_goals try (obtain ⟨N, rfl, hN⟩ := h2 a0 (by omega) (by omega); refine cl_nights n s _ h.up m N hm hN _ _ (fun s1 s2 r2 k1 f2 u2 => ?_))
  all_goals refine sb_X7_nights_0 n t _ _ h.2.1 ?_
  all_goals repeat' first | with_reducible refine And.intro ?_ ?_ | intro _
  all_goals first | omega | exact post_ref h _ (by decide) | exact hn3.1 | exact hn3.2 | skip
  · refine rl_nights n s _ h.up m N hm hN _ _ (fun t1 t2 q2 w1 f3 u3 => ?_)
    have e := hrN_h (h := t 120 9) (V := ltV m (dkV m (vw 121 (upS t 120 10 0)))) hn4.1 N (by omega)
    have o := h.up.o
    rw [show upS t 120 10 0 120 0 = (m : Int) from hm] at o
    exact post_chg h.up (okT_nt o) ⟨by show 0 ≤ (hrN N (t 120 9) _).1; omega, by show (hrN N (t 120 9) _).1 ≤ 999; omega⟩ r2 q2 k1 w1 f2 f3 u2 u3 rfl
def stV (V : Nat → Nat → Int) (p : Nat) (a v : Int) : Nat → Nat → Int := if a = 0 then upS V 2 p v else if a = 1 then upS V 3 p v else if v = 0 then upS (upS V 4 p v) 5 p 0 else upS V 4 p v
def stW (V : Nat → Nat → Int) (p : Nat) (a : Int) : Int := if a = 0 then V 2 p else if a = 1 then V 3 p else V 4 p
theorem okT_st {np : Int} {V : Nat → Nat → Int} {p : Nat} {a v : Int} (o : okT np V) (hv : 0 ≤ v ∧ v ≤ 99) : okT np (stV V p a v) := by
  refine ⟨o.1, ?_⟩
  unfold stV
  repeat' split
  · exact okV_set o.2 (by omega)
  · exact okV_set o.2 (by omega)
  · exact okV_set (okV_set o.2 (by omega)) (by omega)
  · exact okV_set o.2 (by omega)
theorem cl_sets (n : Nat) (s t : Nat → Nat → Int) (h : REL s t) (p : Nat) (hp : (p : Int) < t 120 0) (a v x4 : Int) (hv : 0 ≤ v ∧ v ≤ 99) (Q : List Vl → Sto → Prop) (hQ : ∀ s1 s2, refs s2 → kpC s s1 (t 120 0) (t 120 9) (vw 121 t) → frT 3 s1 s2 → twC 3 s2 (t 120 0) (t 120 9) (stV (vw 121 t) p a v) → Q [(1, stW (vw 121 t) p a)] (n, s2)) : G 2 120 8 0 [(3, 33), (3, 3)] [] (n, s) (fun r s1 => G 2 120 124 45 [(3, 2), (1, (p : Int)), (1, a), (1, v), (1, x4), (0, 0)] (r ++ []) s1 Q) := by
  obtain ⟨hn1, hn2, hn3, hn4⟩ := h.np
  refine c_keep0 n s t h _ (fun s1 r1 k1 c1 => ?_)
  obtain ⟨e0, e1, e2, e3, e4, e5, e6, e7⟩ := c1.2.2 p hp
  have e2 : s1 6 p = vw 121 t 2 p := e2
  have e3 : s1 7 p = vw 121 t 3 p := e3
  have e4 : s1 8 p = vw 121 t 4 p := e4
  refine sb_X6_sets_45 n s1 Q p a v x4 r1 ?_
  rw [Int.toNat_natCast, e2, e3, e4]
  unfold stV stW at hQ
  refine ⟨fun c => ⟨by omega, ?_⟩, fun c => ⟨by omega, ?_⟩, fun c => ⟨by omega, fun d => ?_, fun d => ?_⟩⟩
  · rw [if_pos c, if_pos c] at hQ
    exact hQ s1 _ (refs_up r1 rfl) k1 (frT_up (by decide) (by decide)) (twC_set (j := 2) c1 (by decide))
  · rw [if_neg (show ¬ a = 0 by omega), if_neg (show ¬ a = 0 by omega), if_pos c, if_pos c] at hQ
    exact hQ s1 _ (refs_up r1 rfl) k1 (frT_up (by decide) (by decide)) (twC_set (j := 3) c1 (by decide))
  · rw [if_neg c.1, if_neg c.1, if_neg c.2, if_neg c.2, if_neg d] at hQ
    exact hQ s1 _ (refs_up r1 rfl) k1 (frT_up (by decide) (by decide)) (twC_set (j := 4) c1 (by decide))
  · rw [if_neg c.1, if_neg c.1, if_neg c.2, if_neg c.2, if_pos d] at hQ
    exact hQ s1 _ (refs_up (refs_up r1 rfl) rfl) k1 (frT_trans (frT_up (c := 8) (k := p) (x := v) (by decide) (by decide)) (frT_up (by decide) (by decide))) (twC_set (j := 5) (twC_set (j := 4) c1 (by decide)) (by decide))
theorem rl_sets (n : Nat) (s t : Nat → Nat → Int) (h : REL s t) (p : Nat) (hp : (p : Int) < t 120 0) (a v x4 : Int) (ha : 0 ≤ a ∧ a ≤ 2) (Q : List Vl → Sto → Prop) (hQ : ∀ t1 t2, refs t2 → kpR t t1 (t 120 0) (t 120 9) (vw 121 t) → frX 130 t1 t2 → twR t2 (t 120 0) (t 120 9) (stV (vw 121 t) p a v) → Q [(1, stW (vw 121 t) p a)] (n, t2)) : G 120 140 181 0 [(3, 120), (0, 0)] [] (n, t) (fun r s1 => G 120 140 215 60 [(3, 120), (1, (p : Int)), (1, a), (1, v), (1, x4), (0, 0)] (r ++ []) s1 Q) := by
  obtain ⟨hn1, hn2, hn3, hn4⟩ := h.np
  refine c_keepTurn0 n s t h _ (fun t1 r1 k1 c1 => ?_)
  have e2 : t1 123 p = vw 121 t 2 p := c1.2.2 2 (by decide) p hp
  have e3 : t1 124 p = vw 121 t 3 p := c1.2.2 3 (by decide) p hp
  have e4 : t1 125 p = vw 121 t 4 p := c1.2.2 4 (by decide) p hp
  refine sb_X7_sets_60 n t1 Q p a v x4 r1 ?_
  rw [Int.toNat_natCast]
  unfold stV stW at hQ
  refine ⟨fun c => ⟨fun d => ⟨by omega, fun e => by omega, fun e => ⟨fun f => ?_, fun f => ?_⟩⟩, fun d => ⟨by omega, fun e => ?_, fun e => by omega⟩⟩, fun c => ⟨by omega, fun d => ⟨fun e => ?_, fun e => by omega⟩, fun d => by omega⟩⟩
  · rw [if_neg c, if_neg c, if_neg d, if_neg d, if_neg f] at hQ
    rw [e4, upS_id (f := t1) rfl, upS_id (f := t1) rfl, upS_id (f := upS t1 125 p v) (a := 126) (k := p) (x := t1 126 p) rfl]
    exact hQ t1 _ (refs_up r1 rfl) k1 (frX_up (by decide) (by decide)) (twR_set (j := 4) c1)
  · rw [if_neg c, if_neg c, if_neg d, if_neg d, if_pos f] at hQ
    rw [e4, upS_id (f := t1) rfl, upS_id (f := t1) rfl]
    exact hQ t1 _ (refs_up (refs_up r1 rfl) rfl) k1 (frX_trans (frX_up (a := 125) (p := p) (x := v) (by decide) (by decide)) (frX_up (by decide) (by decide))) (twR_set (j := 5) (twR_set (j := 4) c1))
  · rw [if_neg c, if_neg c, if_pos d, if_pos d] at hQ
    rw [e3, upS_id (f := t1) rfl]
    exact hQ t1 _ (refs_up r1 rfl) k1 (frX_up (by decide) (by decide)) (twR_set (j := 3) c1)
  · rw [if_pos c, if_pos c] at hQ
    rw [e2, upS_id (f := upS t1 123 p v) (a := 124) (k := p) (x := t1 124 p) rfl]
    exact hQ t1 _ (refs_up r1 rfl) k1 (frX_up (by decide) (by decide)) (twR_set (j := 2) c1)

theorem op_sets (n : Nat) (s t : Nat → Nat → Int) (h : REL s t) (a0 : Int) (a1 : Int) (a2 : Int) : G 2 120 124 0 [(3, 2), (1, a0), (1, a1), (1, a2), (0, 0), (0, 0)] [] (n, s) (fun r s1 => G 120 140 215 0 [(3, 120), (1, a0), (1, a1), (1, a2), (0, 0), (0, 0)] [] (n, t) (Post n r s1)) := by
  obtain ⟨hn1, hn2, hn3, hn4⟩ := h.np
  have hw : wr (t 120 0 - 1) = t 120 0 - 1 := wr_id (by omega) (by omega)
  have h1 : ∀ z : Int, 0 ≤ z → z < t 120 0 → ∃ p : Nat, z = p ∧ (p : Int) < t 120 0 := fun z h1 h2 => ⟨z.toNat, by omega, by omega⟩
  have h2 : ∀ z : Int, 0 ≤ z → z ≤ 99 → ∃ p : Nat, z = p ∧ p ≤ 99 := fun z h1 h2 => ⟨z.toNat, by omega, by omega⟩
  obtain ⟨m, hm⟩ : ∃ m : Nat, t 120 0 = (m : Int) := ⟨(t 120 0).toNat, by omega⟩
  refine sb_X6_sets_0 n s _ a0 a1 a2 h.1 ?_
  repeat' first | with_reducible refine And.intro ?_ ?_ | intro _
  all_goals first | omega | skip
  all_goals try (obtain ⟨p, rfl, hp⟩ := h1 a0 (by omega) (by omega); refine cl_sets n s _ h.up p hp a1 a2 _ (by omega) _ (fun s1 s2 r2 k1 f2 u2 => ?_))
  all_goals refine sb_X7_sets_0 n t _ _ _ _ h.2.1 ?_
  all_goals repeat' first | with_reducible refine And.intro ?_ ?_ | intro _
  all_goals first | omega | exact post_ref h _ (by decide) | exact hn3.1 | exact hn3.2 | skip
  exact rl_sets n s _ h.up p hp a1 a2 _ (by omega) _ (fun t1 t2 q2 w1 f3 u3 => post_chg h.up (okT_st h.up.o (by omega)) hn4 r2 q2 k1 w1 f2 f3 u2 u3 rfl)
def tuC (V : Nat → Nat → Int) (p : Nat) (q : Int) : Int := if V 7 p = q then -9 else q
def tuW (V : Nat → Nat → Int) (p : Nat) (q : Int) : Int := if V 7 p = q then 0 else 1
theorem cl_trusts (n : Nat) (s t : Nat → Nat → Int) (h : REL s t) (p : Nat) (hp : (p : Int) < t 120 0) (q x3 : Int) (hq : 0 ≤ q) (Q : List Vl → Sto → Prop) (hQ : ∀ s1 s2, refs s2 → kpC s s1 (t 120 0) (t 120 9) (vw 121 t) → frT 3 s1 s2 → twC 3 s2 (t 120 0) (t 120 9) (upS (vw 121 t) 7 p (tuC (vw 121 t) p q)) → Q [(1, tuW (vw 121 t) p q)] (n, s2)) : G 2 120 8 0 [(3, 33), (3, 3)] [] (n, s) (fun r s1 => G 2 120 130 28 [(3, 2), (1, (p : Int)), (1, q), (1, x3)] (r ++ []) s1 Q) := by
  obtain ⟨hn1, hn2, hn3, hn4⟩ := h.np
  refine c_keep0 n s t h _ (fun s1 r1 k1 c1 => ?_)
  obtain ⟨e0, e1, e2, e3, e4, e5, e6, e7⟩ := c1.2.2 p hp
  have e7 : (vw 121 t 7 p = -9 ∧ s1 11 p = -1) ∨ (0 ≤ vw 121 t 7 p ∧ s1 11 p = vw 121 t 7 p) := e7
  refine sb_X6_trusts_28 n s1 Q p q x3 r1 ?_
  rw [Int.toNat_natCast]
  unfold tuC tuW at hQ
  refine ⟨by omega, fun c => ⟨fun d => absurd rfl d, fun _ => ?_⟩, fun c => ⟨fun d => ?_, fun d => by omega⟩⟩
  · rw [if_neg (by omega), if_neg (by omega)] at hQ
    exact hQ s1 _ (refs_up r1 rfl) k1 (frT_up (by decide) (by decide)) (twC_set7 c1 (Or.inr ⟨hq, rfl⟩))
  · rw [if_pos (by omega), if_pos (by omega)] at hQ
    exact hQ s1 _ (refs_up r1 rfl) k1 (frT_up (by decide) (by decide)) (twC_set7 c1 (Or.inl ⟨rfl, rfl⟩))
theorem rl_trusts (n : Nat) (s t : Nat → Nat → Int) (h : REL s t) (p : Nat) (hp : (p : Int) < t 120 0) (q : Int) (hq : 0 ≤ q) (Q : List Vl → Sto → Prop) (hQ : ∀ t1 t2, refs t2 → kpR t t1 (t 120 0) (t 120 9) (vw 121 t) → frX 130 t1 t2 → twR t2 (t 120 0) (t 120 9) (upS (vw 121 t) 7 p (tuC (vw 121 t) p q)) → Q [(1, tuW (vw 121 t) p q)] (n, t2)) : G 120 140 181 0 [(3, 120), (0, 0)] [] (n, t) (fun r s1 => G 120 140 221 24 [(3, 120), (1, (p : Int)), (1, q)] (r ++ []) s1 Q) := by
  obtain ⟨hn1, hn2, hn3, hn4⟩ := h.np
  refine c_keepTurn0 n s t h _ (fun t1 r1 k1 c1 => ?_)
  have e7 : t1 128 p = vw 121 t 7 p := c1.2.2 7 (by decide) p hp
  refine sb_X7_trusts_24 n t1 Q p q r1 ?_
  rw [Int.toNat_natCast, e7]
  unfold tuC tuW at hQ
  refine ⟨by omega, fun c => ⟨fun d => absurd rfl d, fun _ => ?_⟩, fun c => ⟨fun d => ?_, fun d => by omega⟩⟩
  · rw [if_neg c, if_neg c] at hQ
    exact hQ t1 _ (refs_up r1 rfl) k1 (frX_up (by decide) (by decide)) (twR_set (j := 7) c1)
  · rw [if_pos c, if_pos c] at hQ
    exact hQ t1 _ (refs_up r1 rfl) k1 (frX_up (by decide) (by decide)) (twR_set (j := 7) c1)
theorem cl_lights (n : Nat) (s t : Nat → Nat → Int) (h : REL s t) (p : Nat) (hp : (p : Int) < t 120 0) (x2 : Int) (Q : List Vl → Sto → Prop) (hQ : ∀ s1 s2, refs s2 → kpC s s1 (t 120 0) (t 120 9) (vw 121 t) → frT 3 s1 s2 → twC 3 s2 (t 120 0) (t 120 9) (upS (vw 121 t) 5 p (1 - vw 121 t 5 p)) → Q [(1, 1 - vw 121 t 5 p)] (n, s2)) : G 2 120 8 0 [(3, 33), (3, 3)] [] (n, s) (fun r s1 => G 2 120 103 46 [(3, 2), (1, (p : Int)), (1, x2)] (r ++ []) s1 Q) := by
  obtain ⟨hn1, hn2, hn3, hn4⟩ := h.np
  refine c_keep0 n s t h _ (fun s1 r1 k1 c1 => ?_)
  have e5 : s1 9 p = vw 121 t 5 p := (c1.2.2 p hp).2.2.2.2.2.1
  have o5 : vw 121 t 5 p = 0 ∨ vw 121 t 5 p = 1 := (h.o.2 p hp).2.2.2.2.2.1
  refine sb_X6_lights_46 n s1 Q p x2 r1 ?_
  rw [Int.toNat_natCast, e5]
  refine ⟨by omega, fun d => ?_, fun d => ?_⟩
  · rw [show vw 121 t 5 p = 1 by omega] at hQ
    exact hQ s1 _ (refs_up r1 rfl) k1 (frT_up (by decide) (by decide)) (twC_set (j := 5) c1 (by decide))
  · rw [d] at hQ
    exact hQ s1 _ (refs_up r1 rfl) k1 (frT_up (by decide) (by decide)) (twC_set (j := 5) c1 (by decide))
theorem rl_lights (n : Nat) (s t : Nat → Nat → Int) (h : REL s t) (p : Nat) (hp : (p : Int) < t 120 0) (x2 : Int) (Q : List Vl → Sto → Prop) (hQ : ∀ t1 t2, refs t2 → kpR t t1 (t 120 0) (t 120 9) (vw 121 t) → frX 130 t1 t2 → twR t2 (t 120 0) (t 120 9) (upS (vw 121 t) 5 p (1 - vw 121 t 5 p)) → Q [(1, 1 - vw 121 t 5 p)] (n, t2)) : G 120 140 181 0 [(3, 120), (0, 0)] [] (n, t) (fun r s1 => G 120 140 194 47 [(3, 120), (1, (p : Int)), (1, x2)] (r ++ []) s1 Q) := by
  obtain ⟨hn1, hn2, hn3, hn4⟩ := h.np
  refine c_keepTurn0 n s t h _ (fun t1 r1 k1 c1 => ?_)
  have e5 : t1 126 p = vw 121 t 5 p := c1.2.2 5 (by decide) p hp
  have o5 : vw 121 t 5 p = 0 ∨ vw 121 t 5 p = 1 := (h.o.2 p hp).2.2.2.2.2.1
  refine sb_X7_lights_47 n t1 Q p x2 r1 ?_
  rw [Int.toNat_natCast, e5, wr_id (x := 1 - vw 121 t 5 p) (by omega) (by omega)]
  exact ⟨by omega, hQ t1 _ (refs_up r1 rfl) k1 (frX_up (by decide) (by decide)) (twR_set (j := 5) c1)⟩
def gsV (V : Nat → Nat → Int) (p q : Nat) (v : Int) : Nat → Nat → Int := upS (upS V 2 p (V 2 p - v)) 2 q (V 2 q + v)
theorem cl_gives (n : Nat) (s t : Nat → Nat → Int) (h : REL s t) (p q : Nat) (hp : (p : Int) < t 120 0) (hq : (q : Int) < t 120 0) (hpq : p ≠ q) (v x4 : Int) (hv : 0 ≤ v ∧ v ≤ 999) (Q : List Vl → Sto → Prop) (hQ : ∀ s1 s2, refs s2 → kpC s s1 (t 120 0) (t 120 9) (vw 121 t) → frT 3 s1 s2 → twC 3 s2 (t 120 0) (t 120 9) (gsV (vw 121 t) p q v) → Q [(1, vw 121 t 2 q + v)] (n, s2)) : G 2 120 8 0 [(3, 33), (3, 3)] [] (n, s) (fun r s1 => G 2 120 86 78 [(3, 2), (1, (p : Int)), (1, (q : Int)), (1, v), (1, x4)] (r ++ []) s1 Q) := by
  obtain ⟨hn1, hn2, hn3, hn4⟩ := h.np
  refine c_keep0 n s t h _ (fun s1 r1 k1 c1 => ?_)
  have ep : s1 6 p = vw 121 t 2 p := (c1.2.2 p hp).2.2.1
  have eq : s1 6 q = vw 121 t 2 q := (c1.2.2 q hq).2.2.1
  have op := (h.o.2 p hp).2.2.1
  have oq := (h.o.2 q hq).2.2.1
  refine sb_X6_gives_78 n s1 Q p q v x4 r1 ?_
  rw [Int.toNat_natCast, Int.toNat_natCast, ep, wr_id (x := vw 121 t 2 p - v) (by omega) (by omega), upS_2 (f := s1) (a := 6) (a' := 6) (Ne.symm hpq), eq, wr_id (x := vw 121 t 2 q + v) (by omega) (by omega)]
  exact ⟨by omega, by omega, hQ s1 _ (refs_up (refs_up r1 rfl) rfl) k1 (frT_trans (frT_up (c := 6) (k := p) (x := vw 121 t 2 p - v) (by decide) (by decide)) (frT_up (by decide) (by decide))) (twC_set (j := 2) (twC_set (j := 2) c1 (by decide)) (by decide))⟩
theorem rl_gives (n : Nat) (s t : Nat → Nat → Int) (h : REL s t) (p q : Nat) (hp : (p : Int) < t 120 0) (hq : (q : Int) < t 120 0) (hpq : p ≠ q) (v x4 : Int) (hv : 0 ≤ v ∧ v ≤ 999) (Q : List Vl → Sto → Prop) (hQ : ∀ t1 t2, refs t2 → kpR t t1 (t 120 0) (t 120 9) (vw 121 t) → frX 130 t1 t2 → twR t2 (t 120 0) (t 120 9) (gsV (vw 121 t) p q v) → Q [(1, vw 121 t 2 q + v)] (n, t2)) : G 120 140 181 0 [(3, 120), (0, 0)] [] (n, t) (fun r s1 => G 120 140 182 78 [(3, 120), (1, (p : Int)), (1, (q : Int)), (1, v), (1, x4)] (r ++ []) s1 Q) := by
  obtain ⟨hn1, hn2, hn3, hn4⟩ := h.np
  refine c_keepTurn0 n s t h _ (fun t1 r1 k1 c1 => ?_)
  have ep : t1 123 p = vw 121 t 2 p := c1.2.2 2 (by decide) p hp
  have eq : t1 123 q = vw 121 t 2 q := c1.2.2 2 (by decide) q hq
  have op := (h.o.2 p hp).2.2.1
  have oq := (h.o.2 q hq).2.2.1
  refine sb_X7_gives_78 n t1 Q p q v x4 r1 ?_
  rw [Int.toNat_natCast, Int.toNat_natCast, ep, wr_id (x := vw 121 t 2 p - v) (by omega) (by omega), upS_2 (f := t1) (a := 123) (a' := 123) (Ne.symm hpq), eq, wr_id (x := vw 121 t 2 q + v) (by omega) (by omega)]
  exact ⟨by omega, by omega, hQ t1 _ (refs_up (refs_up r1 rfl) rfl) k1 (frX_trans (frX_up (a := 123) (p := p) (x := vw 121 t 2 p - v) (by decide) (by decide)) (frX_up (by decide) (by decide))) (twR_set (j := 2) (twR_set (j := 2) c1))⟩

theorem op_trusts (n : Nat) (s t : Nat → Nat → Int) (h : REL s t) (a0 : Int) (a1 : Int) : G 2 120 130 0 [(3, 2), (1, a0), (1, a1), (0, 0)] [] (n, s) (fun r s1 => G 120 140 221 0 [(3, 120), (1, a0), (1, a1)] [] (n, t) (Post n r s1)) := by
  obtain ⟨hn1, hn2, hn3, hn4⟩ := h.np
  have hw : wr (t 120 0 - 1) = t 120 0 - 1 := wr_id (by omega) (by omega)
  have h1 : ∀ z : Int, 0 ≤ z → z < t 120 0 → ∃ p : Nat, z = p ∧ (p : Int) < t 120 0 := fun z h1 h2 => ⟨z.toNat, by omega, by omega⟩
  have h2 : ∀ z : Int, 0 ≤ z → z ≤ 99 → ∃ p : Nat, z = p ∧ p ≤ 99 := fun z h1 h2 => ⟨z.toNat, by omega, by omega⟩
  obtain ⟨m, hm⟩ : ∃ m : Nat, t 120 0 = (m : Int) := ⟨(t 120 0).toNat, by omega⟩
  refine sb_X6_trusts_0 n s _ a0 a1 h.1 ?_
  repeat' first | with_reducible refine And.intro ?_ ?_ | intro _
  all_goals first | omega | skip
  all_goals try (obtain ⟨p, rfl, hp⟩ := h1 a0 (by omega) (by omega); refine cl_trusts n s _ h.up p hp a1 _ (by omega) _ (fun s1 s2 r2 k1 f2 u2 => ?_))
  all_goals refine sb_X7_trusts_0 n t _ _ _ h.2.1 ?_
  all_goals repeat' first | with_reducible refine And.intro ?_ ?_ | intro _
  all_goals first | omega | exact post_ref h _ (by decide) | exact hn3.1 | exact hn3.2 | skip
  refine rl_trusts n s _ h.up p hp a1 (by omega) _ (fun t1 t2 q2 w1 f3 u3 => post_chg h.up ⟨h.up.o.1, okV_set h.up.o.2 ?_⟩ hn4 r2 q2 k1 w1 f2 f3 u2 u3 rfl)
  have e0 : upS t 120 10 0 120 0 = t 120 0 := rfl
  unfold tuC
  split <;> omega
theorem op_lights (n : Nat) (s t : Nat → Nat → Int) (h : REL s t) (a0 : Int) : G 2 120 103 0 [(3, 2), (1, a0), (0, 0)] [] (n, s) (fun r s1 => G 120 140 194 0 [(3, 120), (1, a0), (0, 0)] [] (n, t) (Post n r s1)) := by
  obtain ⟨hn1, hn2, hn3, hn4⟩ := h.np
  have hw : wr (t 120 0 - 1) = t 120 0 - 1 := wr_id (by omega) (by omega)
  have hc : ∀ p : Nat, (p : Int) < t 120 0 → s 8 p = t 125 p := fun p hp => (h.s p hp).2.2.2.2.1
  refine sb_X6_lights_0 n s _ a0 h.1 ⟨fun c => ?_, fun c => ⟨fun d => ?_, fun d => ?_⟩⟩
  · exact sb_X7_lights_0 n t _ a0 h.2.1 ⟨fun _ => post_ref h 1 (by decide), fun e => by omega⟩
  · exact sb_X7_lights_0 n t _ a0 h.2.1 ⟨fun e => by omega, fun _ => ⟨fun _ => post_ref h 1 (by decide), fun e => by omega⟩⟩
  · obtain ⟨p, rfl⟩ : ∃ p : Nat, a0 = (p : Int) := ⟨a0.toNat, by omega⟩
    have hp : (p : Int) < t 120 0 := by omega
    rw [Int.toNat_natCast, hc p hp]
    refine ⟨by omega, fun e => ?_, fun e => ?_⟩
    · refine cl_lights n s _ h.up p hp _ _ (fun s1 s2 r2 k1 f2 u2 => ?_)
      refine sb_X7_lights_0 n t _ p h.2.1 ⟨fun e => by omega, fun _ => ⟨fun e => by omega, fun _ => ⟨by omega, ?_⟩⟩⟩
      rw [Int.toNat_natCast]
      have o5 : vw 121 (upS t 120 10 0) 5 p = 0 ∨ vw 121 (upS t 120 10 0) 5 p = 1 := (h.up.o.2 p hp).2.2.2.2.2.1
      exact ⟨fun _ => rl_lights n s _ h.up p hp _ _ (fun t1 t2 q2 w1 f3 u3 => post_chg h.up ⟨h.up.o.1, okV_set h.up.o.2 (by omega)⟩ hn4 r2 q2 k1 w1 f2 f3 u2 u3 rfl), fun f => absurd f e⟩
    · refine sb_X7_lights_0 n t _ p h.2.1 ⟨fun e => by omega, fun _ => ⟨fun e => by omega, fun _ => ⟨by omega, ?_⟩⟩⟩
      rw [Int.toNat_natCast]
      exact ⟨fun f => absurd e f, fun _ => post_ref h 3 (by decide)⟩
theorem op_gives (n : Nat) (s t : Nat → Nat → Int) (h : REL s t) (a0 a1 a2 : Int) : G 2 120 86 0 [(3, 2), (1, a0), (1, a1), (1, a2), (0, 0)] [] (n, s) (fun r s1 => G 120 140 182 0 [(3, 120), (1, a0), (1, a1), (1, a2), (0, 0)] [] (n, t) (Post n r s1)) := by
  obtain ⟨hn1, hn2, hn3, hn4⟩ := h.np
  have hw : wr (t 120 0 - 1) = t 120 0 - 1 := wr_id (by omega) (by omega)
  have hc : ∀ p : Nat, (p : Int) < t 120 0 → s 6 p = t 123 p := fun p hp => (h.s p hp).2.2.1
  have two : (0 ≤ a0 ∧ a0 < t 120 0 ∧ 0 ≤ a1 ∧ a1 < t 120 0 ∧ a0 ≠ a1) ∨ ¬ (0 ≤ a0 ∧ a0 < t 120 0 ∧ 0 ≤ a1 ∧ a1 < t 120 0 ∧ a0 ≠ a1) := Classical.em _
  rcases two with ⟨g0, g1, g2, g3, g4⟩ | g
  · obtain ⟨p, rfl⟩ : ∃ p : Nat, a0 = (p : Int) := ⟨a0.toNat, by omega⟩
    obtain ⟨q, rfl⟩ : ∃ q : Nat, a1 = (q : Int) := ⟨a1.toNat, by omega⟩
    have op := (h.t p g1).2.2.1
    have oq := (h.t q g3).2.2.1
    refine sb_X6_gives_0 n s _ p q a2 h.1 ⟨fun e => by omega, fun _ => ⟨fun e => by omega, fun _ => ⟨fun e => by omega, fun _ => ⟨fun e => by omega, fun _ => ⟨fun e => by omega, fun _ => ⟨by omega, ?_⟩⟩⟩⟩⟩⟩
    rw [Int.toNat_natCast, Int.toNat_natCast, hc p g1, hc q g3]
    have rf : ∀ {Q : List Vl → Sto → Prop}, _ → G 120 140 182 0 [(3, 120), (1, (p : Int)), (1, (q : Int)), (1, a2), (0, 0)] [] (n, t) Q := fun {Q} hh => sb_X7_gives_0 n t Q p q a2 h.2.1 ⟨fun e => by omega, fun _ => ⟨fun e => by omega, fun _ => ⟨fun e => by omega, fun _ => ⟨fun e => by omega, fun _ => ⟨fun e => by omega, fun _ => hh⟩⟩⟩⟩⟩
    refine ⟨fun c => ⟨fun d => ⟨by omega, ?_⟩, fun d => ?_⟩, fun c => ?_⟩
    · rw [wr_id (x := t 123 q + a2) (by omega) (by omega)]
      refine ⟨fun e => ?_, fun e => ?_⟩
      · refine cl_gives n s _ h.up p q g1 g3 (by omega) a2 _ (by omega) _ (fun s1 s2 r2 k1 f2 u2 => ?_)
        refine rf ⟨fun _ => ⟨by omega, ?_⟩, fun c => by omega⟩
        rw [Int.toNat_natCast, Int.toNat_natCast, wr_id (x := t 123 q + a2) (by omega) (by omega)]
        refine ⟨fun c => by omega, fun _ => ⟨by omega, fun _ => ?_, fun c => by omega⟩⟩
        refine rl_gives n s _ h.up p q g1 g3 (by omega) a2 _ (by omega) _ (fun t1 t2 q2 w1 f3 u3 => post_chg h.up ⟨h.up.o.1, okV_set (okV_set h.up.o.2 ?_) ?_⟩ hn4 r2 q2 k1 w1 f2 f3 u2 u3 rfl)
        · exact Or.inr (Or.inr (Or.inl ⟨rfl, by show 0 ≤ t 123 p - a2 ∧ t 123 p - a2 ≤ 999; omega⟩))
        · exact Or.inr (Or.inr (Or.inl ⟨rfl, by show 0 ≤ t 123 q + a2 ∧ t 123 q + a2 ≤ 999; omega⟩))
      · refine rf ⟨fun _ => ⟨by omega, ?_⟩, fun c => by omega⟩
        rw [Int.toNat_natCast, Int.toNat_natCast, wr_id (x := t 123 q + a2) (by omega) (by omega)]
        exact ⟨fun c => by omega, fun _ => ⟨by omega, fun c => by omega, fun _ => post_ref h 6 (by decide)⟩⟩
    · refine rf ⟨fun _ => ⟨by omega, ?_⟩, fun c => by omega⟩
      rw [Int.toNat_natCast, Int.toNat_natCast]
      exact ⟨fun _ => post_ref h 6 (by decide), fun c => by omega⟩
    · exact rf ⟨fun c => by omega, fun _ => post_ref h 4 (by decide)⟩
  · have rf : ∀ {Q : List Vl → Sto → Prop}, Q [(1, (-1))] (n, upS (upS t 120 10 0) 129 1 (wr (t 129 1 + 1))) → G 120 140 182 0 [(3, 120), (1, a0), (1, a1), (1, a2), (0, 0)] [] (n, t) Q := fun {Q} hh => sb_X7_gives_0 n t Q a0 a1 a2 h.2.1 ⟨fun e => hh, fun _ => ⟨fun e => hh, fun _ => ⟨fun e => hh, fun _ => ⟨fun e => hh, fun _ => ⟨fun e => hh, fun _ => by omega⟩⟩⟩⟩⟩
    exact sb_X6_gives_0 n s _ a0 a1 a2 h.1 ⟨fun _ => rf (post_ref h 1 (by decide)), fun _ => ⟨fun e => rf (post_ref h 1 (by decide)), fun _ => ⟨fun e => rf (post_ref h 1 (by decide)), fun _ => ⟨fun e => rf (post_ref h 1 (by decide)), fun _ => ⟨fun e => rf (post_ref h 1 (by decide)), fun _ => by omega⟩⟩⟩⟩⟩
